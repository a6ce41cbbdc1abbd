section
theorem pm_blt_f {a b : Nat} (h : b ≤ a) : Nat.blt a b = false := by
  rw [Bool.eq_false_iff]
  intro q
  have := Nat.le_of_ble_eq_true q
  omega
theorem pm_mA : (pm_run none 20000 299 148 0 [(0, .ref 0)] [] (pm_new pm_w0 (.inr (11, (pm_Ts 11).map defaultValue)) 13)) = some (none, pm_wA) := by
  obtain ⟨w, hw, hz, _⟩ := pm_cmp_ok pm_cA0
  have hi : ∀ i : Nat, i < 1131 → w.1 i = pm_wA.1 i := by
    intro i hi
    rcases Nat.lt_or_ge i 566 with g0 | g0
    · obtain ⟨w2, hw2, -, h2⟩ := pm_cmp_ok pm_cA0
      rw [hw] at hw2
      cases hw2
      exact h2 i (by omega) (by omega)
    rcases Nat.lt_or_ge i 1131 with g566 | g566
    · obtain ⟨w2, hw2, -, h2⟩ := pm_cmp_ok pm_cA566
      rw [hw] at hw2
      cases hw2
      exact h2 i (by omega) (by omega)
    omega
  rw [hw]
  have e : w.1 = pm_wA.1 := by
    funext i
    rcases Nat.lt_or_ge i 1131 with g | g
    · exact hi i g
    · refine (pm_run_out _ _ _ _ _ _ _ _ _ _ hw i (by rw [hz]; exact g)).trans ?_
      show pm_up _ 0 _ i = cond (Nat.blt i 1131) _ _
      rw [pm_up_eq, if_neg (by omega), pm_blt_f g]
      rfl
  exact congrArg (fun z => some ((none : Option Value), z)) (Prod.ext e hz)
theorem pm_mB : (pm_run none 20000 299 187 0 [(0, .ref 1131)] [] (pm_new pm_wA (.inr (12, (pm_Ts 12).map defaultValue)) 77)) = some (none, pm_w1) := by
  obtain ⟨w, hw, hz, hi⟩ := pm_cmp_ok pm_cB
  rw [hw]
  have e : w.1 = pm_w1.1 := by
    funext i
    rcases Nat.lt_or_ge i 1179 with g | g
    · exact hi i (Nat.zero_le _) (by omega)
    · refine (pm_run_out _ _ _ _ _ _ _ _ _ _ hw i (by rw [hz]; exact g)).trans ?_
      show pm_up (fun i => cond (Nat.blt i 1131) _ _) 1131 _ i = cond (Nat.blt i 1179) _ _
      rw [pm_up_eq, if_neg (by omega), pm_blt_f (show 1131 ≤ i by omega), pm_blt_f g]
      rfl
  exact congrArg (fun z => some ((none : Option Value), z)) (Prod.ext e hz)
end
section
/-! the state at the law's entry -/
def pm_fl : List Jvm.Cond := flatC (Jvm.Cond.and given_1 narrow_1)
def pm_tk (i : Nat) : Nat := cond (Nat.beq i 0) 19 (cond (Nat.beq i 1) 25 27)
def pm_tm (i : Nat) : Term := .string "ProofBench$Tokens" (pm_tk i)
def pm_el (w : Jvm.Cond) (k j : Nat) (v : Int32) : Bool := match w with
  | .eq (.elem (.field (.string c k') o n d) (.int j')) (.int v') => Nat.beq k k' && (decide (j' = Int32.ofNat j) && (decide (v' = v) && (decide (c = "ProofBench$Tokens") && (decide (o = "java/lang/String") && (decide (n = "value") && decide (d = "[B"))))))
  | _ => false
theorem pm_el_ok {w : Jvm.Cond} {k j : Nat} {v : Int32} (h : pm_el w k j v = true) : w = .eq (.elem (.field (.string "ProofBench$Tokens" k) "java/lang/String" "value" "[B") (.int (Int32.ofNat j))) (.int v) := by
  unfold pm_el at h
  split at h
  · simp only [Bool.and_eq_true, decide_eq_true_eq] at h
    obtain ⟨h1, rfl, rfl, rfl, rfl, rfl, rfl⟩ := h
    rw [Nat.eq_of_beq_eq_true h1]
  · cases h
def pm_elA (p n i : Nat) : Bool := (List.range n).all (fun j => match pm_fl[p + j]? with
  | some w => pm_el w (pm_tk i) j ((pm_byt.getD i []).getD j 0)
  | none => false)
set_option maxRecDepth 100000
theorem pm_el0 : pm_elA 13 49 0 = true := by decide +kernel
theorem pm_el1 : pm_elA 66 64 1 = true := by decide +kernel
theorem pm_el2 : pm_elA 135 50 2 = true := by decide +kernel
theorem pm_elA_ok {p n i : Nat} (h : pm_elA p n i = true) {j : Nat} (hj : j < n) : Jvm.Cond.eq (.elem (.field (pm_tm i) "java/lang/String" "value" "[B") (.int (Int32.ofNat j))) (.int ((pm_byt.getD i []).getD j 0)) ∈ pm_fl := by
  have q := List.all_eq_true.mp h j (List.mem_range.mpr hj)
  split at q
  · next w hw =>
    have e := pm_el_ok q
    rw [e] at hw
    exact List.mem_of_getElem? hw
  · cases q
theorem pm_fx0 : Jvm.Cond.exactly (pm_tm 0) "java/lang/String" ∈ pm_fl := List.mem_of_getElem? (i := 9) (by decide +kernel)
theorem pm_fc0 : Jvm.Cond.eq (.field (pm_tm 0) "java/lang/String" "coder" "B") (.int 0) ∈ pm_fl := List.mem_of_getElem? (i := 10) (by decide +kernel)
theorem pm_fa0 : Jvm.Cond.arrayOf (.field (pm_tm 0) "java/lang/String" "value" "[B") .byte ∈ pm_fl := List.mem_of_getElem? (i := 11) (by decide +kernel)
theorem pm_fn0 : Jvm.Cond.eq (.length (.field (pm_tm 0) "java/lang/String" "value" "[B")) (.int (Int32.ofNat 49)) ∈ pm_fl := List.mem_of_getElem? (i := 12) (by decide +kernel)
theorem pm_fx1 : Jvm.Cond.exactly (pm_tm 1) "java/lang/String" ∈ pm_fl := List.mem_of_getElem? (i := 62) (by decide +kernel)
theorem pm_fc1 : Jvm.Cond.eq (.field (pm_tm 1) "java/lang/String" "coder" "B") (.int 0) ∈ pm_fl := List.mem_of_getElem? (i := 63) (by decide +kernel)
theorem pm_fa1 : Jvm.Cond.arrayOf (.field (pm_tm 1) "java/lang/String" "value" "[B") .byte ∈ pm_fl := List.mem_of_getElem? (i := 64) (by decide +kernel)
theorem pm_fn1 : Jvm.Cond.eq (.length (.field (pm_tm 1) "java/lang/String" "value" "[B")) (.int (Int32.ofNat 64)) ∈ pm_fl := List.mem_of_getElem? (i := 65) (by decide +kernel)
theorem pm_fx2 : Jvm.Cond.exactly (pm_tm 2) "java/lang/String" ∈ pm_fl := List.mem_of_getElem? (i := 131) (by decide +kernel)
theorem pm_fc2 : Jvm.Cond.eq (.field (pm_tm 2) "java/lang/String" "coder" "B") (.int 0) ∈ pm_fl := List.mem_of_getElem? (i := 132) (by decide +kernel)
theorem pm_fa2 : Jvm.Cond.arrayOf (.field (pm_tm 2) "java/lang/String" "value" "[B") .byte ∈ pm_fl := List.mem_of_getElem? (i := 133) (by decide +kernel)
theorem pm_fn2 : Jvm.Cond.eq (.length (.field (pm_tm 2) "java/lang/String" "value" "[B")) (.int (Int32.ofNat 50)) ∈ pm_fl := List.mem_of_getElem? (i := 134) (by decide +kernel)
theorem pm_fe01 : Jvm.Cond.not (Jvm.Cond.eq (pm_tm 0) (pm_tm 1)) ∈ pm_fl := List.mem_of_getElem? (i := 130) (by decide +kernel)
theorem pm_fe02 : Jvm.Cond.not (Jvm.Cond.eq (pm_tm 0) (pm_tm 2)) ∈ pm_fl := List.mem_of_getElem? (i := 185) (by decide +kernel)
theorem pm_fe12 : Jvm.Cond.not (Jvm.Cond.eq (pm_tm 1) (pm_tm 2)) ∈ pm_fl := List.mem_of_getElem? (i := 186) (by decide +kernel)
theorem pm_fs1 : Jvm.Cond.eq (.static "java/lang/String" "COMPACT_STRINGS" "Z") (.int 1) ∈ pm_fl := List.mem_of_getElem? (i := 4) (by decide +kernel)
theorem pm_fs2 : Jvm.Cond.isRef (.static "jdk/internal/util/Preconditions" "SIOOBE_FORMATTER" "Ljava/util/function/BiFunction;") ∈ pm_fl := List.mem_of_getElem? (i := 5) (by decide +kernel)
theorem pm_ls1 : Jvm.Cond.laysStatic "java/lang/String" "COMPACT_STRINGS" "Z" ∈ lw_tbl := pm_blk_in (b := 2) (List.mem_of_getElem? (i := 58) (by decide +kernel))
theorem pm_ls2 : Jvm.Cond.laysStatic "jdk/internal/util/Preconditions" "SIOOBE_FORMATTER" "Ljava/util/function/BiFunction;" ∈ lw_tbl := pm_blk_in (b := 2) (List.mem_of_getElem? (i := 74) (by decide +kernel))
theorem pm_li1 : Jvm.Cond.initialized "java/lang/String" ∈ lw_tbl := pm_blk_in (b := 1) (List.mem_of_getElem? (i := 10) (by decide +kernel))
theorem pm_li2 : Jvm.Cond.initialized "jdk/internal/util/Preconditions" ∈ lw_tbl := pm_blk_in (b := 1) (List.mem_of_getElem? (i := 12) (by decide +kernel))
theorem pm_sr0 : Jvm.Cond.stringRef "ProofBench$Tokens" 19 "false and or imp all some same not rel fun axiom " ∈ lw_tbl := pm_blk_in (b := 2) (List.mem_of_getElem? (i := 44) (by decide +kernel))
theorem pm_sr1 : Jvm.Cond.stringRef "ProofBench$Tokens" 25 "assume theorem both left right orleft orright case apply deduce " ∈ lw_tbl := pm_blk_in (b := 2) (List.mem_of_getElem? (i := 102) (by decide +kernel))
theorem pm_sr2 : Jvm.Cond.stringRef "ProofBench$Tokens" 27 "general special exist open replace absurd classic " ∈ lw_tbl := pm_blk_in (b := 2) (List.mem_of_getElem? (i := 103) (by decide +kernel))
theorem pm_arr {s : State} {args : Array Value} (hts : ∀ w ∈ lw_tbl, w.before args s = true) (t : Nat) (ht : t < 8) : ∃ cA : ClassId, ArrOfT s cA (pm_ty t) ∧ va_RA s cA (pm_ty t) := by
  rcases Nat.lt_or_ge t 4 with h4 | h4
  · have key : ∀ ty : ArrayType, pm_at ty = some t → ∃ cA : ClassId, ArrOfT s cA (pm_ty t) ∧ va_RA s cA (pm_ty t) := by
      intro ty hty
      obtain ⟨-, e, w⟩ := pm_at_ok hty
      obtain ⟨c, k, comp, h1, h2, h3⟩ := Cond.arrayClass_spec (hts _ w)
      rw [e] at h1 h3
      refine ⟨c, fun n z => ⟨fun k h => (by cases h), k, h2, comp, h3⟩, ?_⟩
      rcases (show t = 0 ∨ t = 1 ∨ t = 2 ∨ t = 3 by omega) with rfl | rfl | rfl | rfl <;> exact h1
    rcases (show t = 0 ∨ t = 1 ∨ t = 2 ∨ t = 3 by omega) with rfl | rfl | rfl | rfl
    · exact key .int rfl
    · exact key .byte rfl
    · exact key .boolean rfl
    · exact key .long rfl
  · rw [pm_ty_q (by omega)]
    obtain ⟨comp, c, k, h1, h2, h3, h4, h5⟩ := Cond.arrayOver_spec (hts _ (pm_AO_in (c := t + 1) (by omega) (by omega)))
    exact ⟨c, fun n z => ⟨fun k h => (by cases h), k, h3, comp, h4⟩, k, comp, h3, h4, h1, h5⟩
theorem pm_gw_of {s : State} {args : Array Value} (hts : ∀ w ∈ lw_tbl, w.before args s = true) : ∀ w ∈ pm_gw, w.before args s = true := fun w hw => hts w (List.mem_filter.mp hw).1
theorem pm_start {s : State} {b L : Nat} {xs : Nat → Int32} (hts : ∀ w ∈ lw_tbl, w.before #[Value.ref b] s = true) (hX : va_X b L xs s s.heap) (hbl : b < s.heap.size) (hgv : (Jvm.Cond.and given_1 narrow_1).before #[Value.ref b] s = true) :
    ∃ G : pm_G, G.1 = s.heap.size ∧ G.2.1 100 = b ∧ G.2.2.2.2 = (L, xs) ∧ pm_At G s pm_w0 s.heap [] := by
  have hs : ∀ c ∈ pm_fl, c.before #[Value.ref b] s = true := flat_of_before _ hgv
  have hgw := pm_gw_of hts
  have hA : ∀ a : Nat, a < s.heap.size → ¬ (fun q : Nat => s.heap.size ≤ q) a := fun a h q => absurd h (Nat.not_lt.mpr q)
  obtain ⟨adK, adV, hS, hE⟩ := vk_Sof (args := #[Value.ref b]) (s := s) (N := 3) (tm := pm_tm) (len := [pm_len 0, pm_len 1, pm_len 2]) (byt := pm_byt) (A := fun q : Nat => s.heap.size ≤ q)
    (fun i hi => by rcases (show i = 0 ∨ i = 1 ∨ i = 2 by omega) with rfl | rfl | rfl <;> decide +kernel)
    (fun i hi => by rcases (show i = 0 ∨ i = 1 ∨ i = 2 by omega) with rfl | rfl | rfl; exact hs _ pm_fx0; exact hs _ pm_fx1; exact hs _ pm_fx2)
    (fun i hi => by rcases (show i = 0 ∨ i = 1 ∨ i = 2 by omega) with rfl | rfl | rfl; exact hs _ pm_fc0; exact hs _ pm_fc1; exact hs _ pm_fc2)
    (fun i hi => by rcases (show i = 0 ∨ i = 1 ∨ i = 2 by omega) with rfl | rfl | rfl; exact hs _ pm_fa0; exact hs _ pm_fa1; exact hs _ pm_fa2)
    (fun i hi => by rcases (show i = 0 ∨ i = 1 ∨ i = 2 by omega) with rfl | rfl | rfl; exact hs _ pm_fn0; exact hs _ pm_fn1; exact hs _ pm_fn2)
    (fun i hi j hj => by rcases (show i = 0 ∨ i = 1 ∨ i = 2 by omega) with rfl | rfl | rfl; exact hs _ (pm_elA_ok pm_el0 hj); exact hs _ (pm_elA_ok pm_el1 hj); exact hs _ (pm_elA_ok pm_el2 hj))
    (fun i j hi hj hij => by
      rcases (show i = 0 ∨ i = 1 ∨ i = 2 by omega) with rfl | rfl | rfl <;> rcases (show j = 0 ∨ j = 1 ∨ j = 2 by omega) with rfl | rfl | rfl
      · exact absurd rfl hij
      · exact Or.inl (hs _ pm_fe01)
      · exact Or.inl (hs _ pm_fe02)
      · exact Or.inr (hs _ pm_fe01)
      · exact absurd rfl hij
      · exact Or.inl (hs _ pm_fe12)
      · exact Or.inr (hs _ pm_fe02)
      · exact Or.inr (hs _ pm_fe12)
      · exact absurd rfl hij) hA
  have hk : ∀ c : Nat, ∃ q : ClassId × (Nat → Nat), c < 13 → u_Kn s (pm_nm c) (pm_clT c) (pm_Fs c).length q.1 q.2 := by
    intro c
    by_cases hc : c < 13
    · obtain ⟨cC, iS, h⟩ := u_known hgw (pm_uws hc) (hts _ (pm_O_words hc).2.2.2.2.1)
      exact ⟨(cC, iS), fun _ => h⟩
    · exact ⟨(0, fun _ => 0), fun h => absurd h hc⟩
  have hr : ∀ t : Nat, ∃ cA : ClassId, t < 8 → ArrOfT s cA (pm_ty t) ∧ va_RA s cA (pm_ty t) := by
    intro t
    by_cases ht : t < 8
    · obtain ⟨cA, h⟩ := pm_arr hts t ht
      exact ⟨cA, fun _ => h⟩
    · exact ⟨0, fun h => absurd h ht⟩
  refine ⟨(s.heap.size, (fun i => if i = 100 then b else adK i), (fun t => Classical.choose (hr t)), ((fun c => (Classical.choose (hk c)).1), (fun c => (Classical.choose (hk c)).2)), (L, xs)), rfl, (show (if (100 : Nat) = 100 then b else adK 100) = b from if_pos rfl), rfl, ⟨?_, ?_⟩, ⟨rfl, Nat.zero_le _, fun i hi => absurd hi (Nat.not_lt_zero i)⟩, va_S.rf, ?_⟩
  · intro c q hq
    have hc : c < 13 := (List.getElem?_eq_some_iff.mp hq).1
    rw [(pm_O_words hc).2.1] at hq
    cases hq
    exact Classical.choose_spec (hk c) hc
  · intro t q hq
    have ht : t < 8 := by
      have h1 := (List.getElem?_eq_some_iff.mp hq).1
      unfold pm_tys at h1
      rw [List.length_map, List.length_range] at h1
      exact h1
    rw [pm_tys_at ht] at hq
    cases hq
    exact Classical.choose_spec (hr t) ht
  · refine ⟨⟨adV, ?_⟩, va_Zof (hts _ pm_ls1) (hts _ pm_li1) (va_eqt (hs _ pm_fs1)) hA, va_Zqof (hts _ pm_ls2) (hts _ pm_li2) (hs _ pm_fs2) hA, vk_R.of (hts _ pm_sr0) (hE 0 (by omega)), vk_R.of (hts _ pm_sr1) (hE 1 (by omega)), vk_R.of (hts _ pm_sr2) (hE 2 (by omega)), ?_, ?_, hA b hbl⟩
    · have e : ∀ i : Nat, i < 3 → (if i = 100 then b else adK i) = adK i := fun i hi => if_neg (by omega)
      obtain ⟨h1, h2⟩ := hS
      refine ⟨fun i hi => ?_, fun i j hi hj hij => ?_⟩
      · have q := h1 i hi
        show va_O "java/lang/String" (if i = 100 then b else adK i) _ _ _ ∧ va_OF _ _ _ _ (if i = 100 then b else adK i) _ _ _ ∧ va_OF _ _ _ _ (if i = 100 then b else adK i) _ _ _ ∧ _
        rw [e i hi]
        exact q
      · dsimp only at hij
        rw [e i hi, e j hj] at hij
        exact h2 i j hi hj hij
    · intro w hw hn
      have q := hts w hw
      unfold pm_isN at hn
      split at hn
      · exact va_Nw.of rfl q
      · exact va_AO.of q
      · cases hn
    · exact hX
end
section
/-! one call on a fresh object -/
section PMB
variable {X : Option (Nat × (Nat → Int32))} {d y pc pc' k : Nat} {L : pm_L} {st rest : List Value} {w : pm_W} {r : Option Value × pm_W}
theorem pm_T.go {i : Instr} {L' : pm_L} {st' : List Value} {w' : pm_W} (hc : pm_code y pc = some (i, k)) (hR : pm_isR i = false) (hcal : pm_cal i = (0, 0)) (ho : pm_op X (pm_own y) (pm_ml y) (pm_ini y) i pc L st w = some (pc', L', st', w')) (h : pm_T X d y pc' L' st' w' r) : pm_T X d y pc L st w r := by
  obtain ⟨c, n2, k2⟩ := w'
  exact pm_T.op hc hR hcal ho h
theorem pm_T.brif {cd : ClassFile.Cond} {off : Int} {x : Int32} {b : Bool} (hc : pm_code y pc = some (.ifCond cd off, k)) (hst : st = .int x :: rest) (hb : pm_cnd cd x 0 = b) (ht : decide ((pc : Int) + off = (pm_tgt pc off : Int)) = true) (hp : cond b (pm_tgt pc off) (pc + 3) = pc') (h : pm_T X d y pc' L rest w r) : pm_T X d y pc L st w r := by
  refine pm_T.go hc rfl rfl (w' := w) ?_ h
  subst hst
  show cond (decide ((pc : Int) + off = (pm_tgt pc off : Int))) (some (cond (pm_cnd cd x 0) (pm_tgt pc off) (pc + 3), L, rest, w)) none = _
  rw [ht, hb, hp]
  rfl
theorem pm_T.bricmp {cd : ClassFile.Cond} {off : Int} {x x2 : Int32} {b : Bool} (hc : pm_code y pc = some (.if_icmp cd off, k)) (hst : st = .int x2 :: .int x :: rest) (hb : pm_cnd cd x x2 = b) (ht : decide ((pc : Int) + off = (pm_tgt pc off : Int)) = true) (hp : cond b (pm_tgt pc off) (pc + 3) = pc') (h : pm_T X d y pc' L rest w r) : pm_T X d y pc L st w r := by
  refine pm_T.go hc rfl rfl (w' := w) ?_ h
  subst hst
  show cond (decide ((pc : Int) + off = (pm_tgt pc off : Int))) (some (cond (pm_cnd cd x x2) (pm_tgt pc off) (pc + 3), L, rest, w)) none = _
  rw [ht, hb, hp]
  rfl
theorem pm_T.tsw {dflt lo hi : Int} {offs : Array Int} {x : Int32} (hc : pm_code y pc = some (.tableswitch dflt lo hi offs, k)) (hst : st = .int x :: rest) (hb : x.toInt < lo ∨ hi < x.toInt) (ht : decide ((pc : Int) + dflt = (pm_tgt pc dflt : Int)) = true) (hp : pm_tgt pc dflt = pc') (h : pm_T X d y pc' L rest w r) : pm_T X d y pc L st w r := by
  refine pm_T.go hc rfl rfl (w' := w) ?_ h
  subst hst
  unfold pm_op
  dsimp only
  rw [decide_eq_true hb, ht, hp]
  rfl
theorem pm_T.lsw {dflt : Int} {ps : Array (Int × Int)} {x : Int32} (hc : pm_code y pc = some (.lookupswitch dflt ps, k)) (hst : st = .int x :: rest) (hps : (ps.toList.zip (ps.toList.drop 1)).all (fun q => decide (q.1.1 < q.2.1)) = true) (hb : Op.lookupswitch.offset ps.toList dflt x.toInt = dflt) (ht : decide ((pc : Int) + dflt = (pm_tgt pc dflt : Int)) = true) (hp : pm_tgt pc dflt = pc') (h : pm_T X d y pc' L rest w r) : pm_T X d y pc L st w r := by
  refine pm_T.go hc rfl rfl (w' := w) ?_ h
  subst hst
  unfold pm_op
  dsimp only
  rw [hps, hb, ht, hp]
  rfl
end PMB
set_option maxRecDepth 100000
/-! runs, with what holds behind them -/
def pm_H (X : Option (Nat × (Nat → Int32))) (d y pc : Nat) (L : pm_L) (st : List Value) (w : pm_W) (Q : Option Value → pm_W → Prop) : Prop := ∃ (o : Option Value) (w' : pm_W), pm_T X d y pc L st w (o, w') ∧ Q o w'
theorem pm_get_s {w : pm_W} {r : Nat} {e e0 : pm_E} (h : pm_get w r = some e0) : pm_get (pm_set w r e) r = some e := by
  have h1 := (pm_get_ok h).1
  show cond (Nat.blt r w.2.1) (some (pm_up w.1 r e r)) none = some e
  rw [show Nat.blt r w.2.1 = true from Nat.ble_eq_true_of_le h1, pm_up_eq, if_pos rfl]
  rfl
theorem pm_get_n {w : pm_W} {r q : Nat} {e : pm_E} (h : q ≠ r) : pm_get (pm_set w r e) q = pm_get w q := by
  show cond (Nat.blt q w.2.1) (some (pm_up w.1 r e q)) none = cond (Nat.blt q w.2.1) (some (w.1 q)) none
  rw [pm_up_eq, if_neg h]
def pm_na (kd mm : Nat) : Nat := cond (Nat.beq kd 3) (pm_np (mm - 6)) (pm_np (mm - 6) + 1)
/-- a call's own tests -/
def pm_ckd (kd mm nest : Nat) (st : List Value) (w : pm_W) : Bool := cond (Nat.ble (pm_na kd mm) st.length && Nat.ble (pm_cats (st.drop (pm_na kd mm))) 8 && Nat.ble (lg_sl (st.take (pm_na kd mm)).reverse).length (pm_ml (mm - 6)) && (cond (Nat.beq kd 3) (pm_st (mm - 6)) (!pm_st (mm - 6) && (match pm_cls w (st.take (pm_na kd mm)).reverse.head? with
            | some c => Nat.beq c (pm_own (mm - 6))
            | none => false) && (cond (Nat.beq kd 2) (pm_ini (mm - 6)) (Nat.beq nest 0 && !pm_ini (mm - 6)))))) true false
section PME
variable {X : Option (Nat × (Nat → Int32))} {d y pc pc' k : Nat} {L : pm_L} {st rest : List Value} {w : pm_W} {Q : Option Value → pm_W → Prop}
theorem pm_H.go {i : Instr} {L' : pm_L} {st' : List Value} {w' : pm_W} (hc : pm_code y pc = some (i, k)) (hR : pm_isR i = false) (hcal : pm_cal i = (0, 0)) (ho : pm_op X (pm_own y) (pm_ml y) (pm_ini y) i pc L st w = some (pc', L', st', w')) (h : pm_H X d y pc' L' st' w' Q) : pm_H X d y pc L st w Q := by
  obtain ⟨o, w1, h1, h2⟩ := h
  exact ⟨o, w1, pm_T.go hc hR hcal ho h1, h2⟩
theorem pm_H.ret {i : Instr} {o : Option Value} (hc : pm_code y pc = some (i, k)) (hR : pm_isR i = true) (ho : pm_rtn (pm_ret y) i st = some o) (h : Q o w) : pm_H X d y pc L st w Q := ⟨o, w, pm_T.ret hc hR ho, h⟩
theorem pm_H.brif {cd : ClassFile.Cond} {off : Int} {x : Int32} {b : Bool} (hc : pm_code y pc = some (.ifCond cd off, k)) (hst : st = .int x :: rest) (hb : pm_cnd cd x 0 = b) (ht : decide ((pc : Int) + off = (pm_tgt pc off : Int)) = true) (hp : cond b (pm_tgt pc off) (pc + 3) = pc') (h : pm_H X d y pc' L rest w Q) : pm_H X d y pc L st w Q := by
  obtain ⟨o, w1, h1, h2⟩ := h
  exact ⟨o, w1, pm_T.brif hc hst hb ht hp h1, h2⟩
theorem pm_H.bricmp {cd : ClassFile.Cond} {off : Int} {x x2 : Int32} {b : Bool} (hc : pm_code y pc = some (.if_icmp cd off, k)) (hst : st = .int x2 :: .int x :: rest) (hb : pm_cnd cd x x2 = b) (ht : decide ((pc : Int) + off = (pm_tgt pc off : Int)) = true) (hp : cond b (pm_tgt pc off) (pc + 3) = pc') (h : pm_H X d y pc' L rest w Q) : pm_H X d y pc L st w Q := by
  obtain ⟨o, w1, h1, h2⟩ := h
  exact ⟨o, w1, pm_T.bricmp hc hst hb ht hp h1, h2⟩
theorem pm_H.getf {j r a c q pl : Nat} {fs : List Value} {v : Value} (hc : pm_code y pc = some (.getfield j, k)) (hst : st = .ref r :: rest) (hl : pm_l4 (pm_FL (pm_own y)) j = some (a, c, q, pl)) (hg : pm_get w r = some (.inr (c, fs))) (hf : fs[q]? = some v) (h : pm_H X d y (pc + 3) L (v :: rest) w Q) : pm_H X d y pc L st w Q := by
  refine pm_H.go hc rfl rfl (L' := L) (st' := v :: rest) (w' := w) ?_ h
  subst hst
  unfold pm_op
  dsimp only
  rw [hl]
  dsimp only
  rw [hg]
  dsimp only
  rw [Nat.beq_refl, hf]
  rfl
theorem pm_H.putf {j r a c q pl : Nat} {fs : List Value} {v : Value} (hc : pm_code y pc = some (.putfield j, k)) (hst : st = v :: .ref r :: rest) (hl : pm_l4 (pm_FL (pm_own y)) j = some (a, c, q, pl)) (hg : pm_get w r = some (.inr (c, fs))) (hq : q < fs.length) (hok : pm_okv ((pm_Ts c).getD q .int) v = true) (hfin : (!((pm_Fs c).getD q ("", "", "", false)).2.2.2 || (pm_ini y && Nat.beq c (pm_own y))) = true)
    (h : pm_H X d y (pc + 3) L rest (pm_set w r (.inr (c, fs.set q v))) Q) : pm_H X d y pc L st w Q := by
  refine pm_H.go hc rfl rfl (L' := L) (st' := rest) (w' := pm_set w r (.inr (c, fs.set q v))) ?_ h
  subst hst
  unfold pm_op
  dsimp only
  rw [hl]
  dsimp only
  rw [hg]
  dsimp only
  rw [Nat.beq_refl, show Nat.blt q fs.length = true from Nat.ble_eq_true_of_le hq, hok, hfin]
  rfl
theorem pm_H.alen {r t n : Nat} {f : pm_C} (hc : pm_code y pc = some (.arraylength, k)) (hst : st = .ref r :: rest) (hr : Nat.beq r pm_SC = false) (hg : pm_get w r = some (.inl (t, n, f))) (ht : t < 8) (h : pm_H X d y (pc + 1) L (.int (nI n) :: rest) w Q) : pm_H X d y pc L st w Q := by
  refine pm_H.go hc rfl rfl (L' := L) (st' := .int (nI n) :: rest) (w' := w) ?_ h
  subst hst
  unfold pm_op
  dsimp only
  rw [hr, hg]
  dsimp only
  rw [show Nat.blt t 8 = true from Nat.ble_eq_true_of_le ht]
  rfl
theorem pm_H.bast {r t n : Nat} {i x : Int32} {f : List (Nat × Int32)} (hc : pm_code y pc = some (.bastore, k)) (hst : st = .int x :: .int i :: .ref r :: rest) (hg : pm_get w r = some (.inl (t, n, .inl f))) (ht : (Nat.beq t 1 || Nat.beq t 2) = true) (hi : pm_in i n = true)
    (h : pm_H X d y (pc + 1) L rest (pm_set w r (.inl (t, n, .inl ((i.toNatClampNeg, vp_nar (pm_ty t) x) :: f)))) Q) : pm_H X d y pc L st w Q := by
  refine pm_H.go hc rfl rfl (L' := L) (st' := rest) (w' := pm_set w r (.inl (t, n, .inl ((i.toNatClampNeg, vp_nar (pm_ty t) x) :: f)))) ?_ h
  subst hst
  unfold pm_op
  dsimp only
  rw [hg]
  dsimp only
  rw [ht, hi]
  rfl
theorem pm_H.call {d' kd j a mm pl nest : Nat} {i : Instr} {Q1 : Option Value → pm_W → Prop} (hc : pm_code y pc = some (i, k)) (hR : pm_isR i = false) (hcal : pm_cal i = (kd, j)) (hkd : kd ≠ 0) (hl : pm_l4 (pm_ML (pm_own y)) j = some (a, mm, pl, nest)) (h6 : 5 < mm) (hd : d = d' + 1)
    (hck : pm_ckd kd mm nest st w = true)
    (hcall : pm_H X d' (mm - 6) 0 (lv_args 0 (st.take (pm_na kd mm)).reverse) [] w Q1) (h : ∀ (o1 : Option Value) (w1 : pm_W), Q1 o1 w1 → pm_H X d y (pc + 3) L (o1.toList ++ st.drop (pm_na kd mm)) w1 Q) : pm_H X d y pc L st w Q := by
  obtain ⟨o1, w1, c1, c2⟩ := hcall
  obtain ⟨o, w2, h1, h2⟩ := h o1 w1 c2
  exact ⟨o, w2, pm_T.call hc hR hcal hkd hl h6 hd hck c1 h1, h2⟩
end PME
end
section
/-! PURE STATES: what the cells behind the two constructors hold, by cell and place; kinds, lengths and final references stand fixed -/
abbrev ps_S : Type := ((Nat → Nat → Int32) × (Nat → Nat → Int64) × (Nat → Nat → Nat)) × ((Nat → Nat → Int32) × (Nat → Nat → Int64))
/-- fields: ints, longs, references that aren't final; elements: ints, longs -/
def ps_i (s : ps_S) (r q : Nat) : Int32 := s.1.1 r q
def ps_j (s : ps_S) (r q : Nat) : Int64 := s.1.2.1 r q
def ps_r (s : ps_S) (r q : Nat) : Nat := s.1.2.2 r q
def ps_a (s : ps_S) (r i : Nat) : Int32 := s.2.1 r i
def ps_b (s : ps_S) (r i : Nat) : Int64 := s.2.2 r i
def ps_u {α : Type} (f : Nat → Nat → α) (r q : Nat) (v : α) (r' q' : Nat) : α := if r' = r ∧ q' = q then v else f r' q'
def ps_ui (s : ps_S) (r q : Nat) (v : Int32) : ps_S := ((ps_u s.1.1 r q v, s.1.2), s.2)
def ps_uj (s : ps_S) (r q : Nat) (v : Int64) : ps_S := ((s.1.1, (ps_u s.1.2.1 r q v, s.1.2.2)), s.2)
def ps_ur (s : ps_S) (r q : Nat) (v : Nat) : ps_S := ((s.1.1, (s.1.2.1, ps_u s.1.2.2 r q v)), s.2)
def ps_ua (s : ps_S) (r i : Nat) (v : Int32) : ps_S := (s.1, (ps_u s.2.1 r i v, s.2.2))
def ps_ub (s : ps_S) (r i : Nat) (v : Int64) : ps_S := (s.1, (s.2.1, ps_u s.2.2 r i v))
theorem ps_i_ui (s : ps_S) (r q : Nat) (v : Int32) (r' q' : Nat) : ps_i (ps_ui s r q v) r' q' = if r' = r ∧ q' = q then v else ps_i s r' q' := rfl
theorem ps_i_uj (s : ps_S) (r q : Nat) (v : Int64) : ps_i (ps_uj s r q v) = ps_i s := rfl
theorem ps_i_ur (s : ps_S) (r q v : Nat) : ps_i (ps_ur s r q v) = ps_i s := rfl
theorem ps_i_ua (s : ps_S) (r q : Nat) (v : Int32) : ps_i (ps_ua s r q v) = ps_i s := rfl
theorem ps_i_ub (s : ps_S) (r q : Nat) (v : Int64) : ps_i (ps_ub s r q v) = ps_i s := rfl
theorem ps_j_ui (s : ps_S) (r q : Nat) (v : Int32) : ps_j (ps_ui s r q v) = ps_j s := rfl
theorem ps_j_uj (s : ps_S) (r q : Nat) (v : Int64) (r' q' : Nat) : ps_j (ps_uj s r q v) r' q' = if r' = r ∧ q' = q then v else ps_j s r' q' := rfl
theorem ps_j_ur (s : ps_S) (r q v : Nat) : ps_j (ps_ur s r q v) = ps_j s := rfl
theorem ps_j_ua (s : ps_S) (r q : Nat) (v : Int32) : ps_j (ps_ua s r q v) = ps_j s := rfl
theorem ps_j_ub (s : ps_S) (r q : Nat) (v : Int64) : ps_j (ps_ub s r q v) = ps_j s := rfl
theorem ps_r_ui (s : ps_S) (r q : Nat) (v : Int32) : ps_r (ps_ui s r q v) = ps_r s := rfl
theorem ps_r_uj (s : ps_S) (r q : Nat) (v : Int64) : ps_r (ps_uj s r q v) = ps_r s := rfl
theorem ps_r_ur (s : ps_S) (r q v : Nat) (r' q' : Nat) : ps_r (ps_ur s r q v) r' q' = if r' = r ∧ q' = q then v else ps_r s r' q' := rfl
theorem ps_r_ua (s : ps_S) (r q : Nat) (v : Int32) : ps_r (ps_ua s r q v) = ps_r s := rfl
theorem ps_r_ub (s : ps_S) (r q : Nat) (v : Int64) : ps_r (ps_ub s r q v) = ps_r s := rfl
theorem ps_a_ui (s : ps_S) (r q : Nat) (v : Int32) : ps_a (ps_ui s r q v) = ps_a s := rfl
theorem ps_a_uj (s : ps_S) (r q : Nat) (v : Int64) : ps_a (ps_uj s r q v) = ps_a s := rfl
theorem ps_a_ur (s : ps_S) (r q v : Nat) : ps_a (ps_ur s r q v) = ps_a s := rfl
theorem ps_a_ua (s : ps_S) (r q : Nat) (v : Int32) (r' q' : Nat) : ps_a (ps_ua s r q v) r' q' = if r' = r ∧ q' = q then v else ps_a s r' q' := rfl
theorem ps_a_ub (s : ps_S) (r q : Nat) (v : Int64) : ps_a (ps_ub s r q v) = ps_a s := rfl
theorem ps_b_ui (s : ps_S) (r q : Nat) (v : Int32) : ps_b (ps_ui s r q v) = ps_b s := rfl
theorem ps_b_uj (s : ps_S) (r q : Nat) (v : Int64) : ps_b (ps_uj s r q v) = ps_b s := rfl
theorem ps_b_ur (s : ps_S) (r q v : Nat) : ps_b (ps_ur s r q v) = ps_b s := rfl
theorem ps_b_ua (s : ps_S) (r q : Nat) (v : Int32) : ps_b (ps_ua s r q v) = ps_b s := rfl
theorem ps_b_ub (s : ps_S) (r q : Nat) (v : Int64) (r' q' : Nat) : ps_b (ps_ub s r q v) r' q' = if r' = r ∧ q' = q then v else ps_b s r' q' := rfl
/-- what stands fixed: kinds, final references, elements that are references -/
def ps_K (r : Nat) : Nat × Nat × Nat := pm_kind (pm_wx r)
def ps_is (r c : Nat) : Bool := match ps_K r with
  | (1, c', _) => Nat.beq c c'
  | _ => false
def ps_ar (r t : Nat) : Bool := match ps_K r with
  | (0, t', _) => Nat.beq t t'
  | _ => false
def ps_ln (r : Nat) : Nat := (ps_K r).2.2
def ps_c0 (r q : Nat) : Nat := match pm_wx r with
  | .inr (_, fs) => (match fs[q]? with
    | some (.ref x) => x
    | _ => 0)
  | _ => 0
def ps_e0 (r i : Nat) : Nat := match pm_wx r with
  | .inl (_, _, .inr (.inr l)) => (pm_rd none l i).getD 0
  | _ => 0
def ps_fin (c q : Nat) : Bool := ((pm_Fs c).getD q ("", "", "", false)).2.2.2
def ps_fv (s : ps_S) (c r q : Nat) : Value := match (pm_Ts c).getD q .int with
  | .long => .long (ps_j s r q)
  | .object _ => .ref (cond (ps_fin c q) (ps_c0 r q) (ps_r s r q))
  | .array _ => .ref (cond (ps_fin c q) (ps_c0 r q) (ps_r s r q))
  | _ => .int (ps_i s r q)
def ps_Ok (r : Nat) (e : pm_E) (s : ps_S) : Prop := match e with
  | .inl (t, n, .inl f) => t < 3 ∧ ∀ i, i < n → pm_rd 0 f i = ps_a s r i
  | .inl (t, n, .inr (.inl f)) => t = 3 ∧ ∀ i, i < n → pm_rd 0 f i = ps_b s r i
  | .inl (t, n, .inr (.inr f)) => (3 < t ∧ t < 8) ∧ ∀ i, i < n → pm_rd none f i = some (ps_e0 r i)
  | .inr (c, fs) => fs.length = (pm_Ts c).length ∧ ∀ q, q < (pm_Ts c).length → fs[q]? = some (ps_fv s c r q)
/-- the world w holds the state s -/
def ps_R (w : pm_W) (s : ps_S) : Prop := w.2 = (1179, 65954) ∧ ∀ r, r < 1179 → pm_kind (w.1 r) = ps_K r ∧ ps_Ok r (w.1 r) s
theorem ps_K_out {r : Nat} (h : 1179 ≤ r) : ps_K r = (1, 99, 0) := by
  unfold ps_K pm_wx
  rw [pm_blt_f h]
  rfl
theorem ps_is_lt {r c : Nat} (hc : c < 13) (h : ps_is r c = true) : r < 1179 ∧ ps_K r = (1, c, 0) := by
  have hr : r < 1179 := by
    refine Nat.lt_of_not_le (fun q => ?_)
    unfold ps_is at h
    rw [ps_K_out q] at h
    have := Nat.eq_of_beq_eq_true h
    omega
  refine ⟨hr, ?_⟩
  unfold ps_is at h
  unfold ps_K at *
  cases e : pm_wx r with
  | inl a =>
    obtain ⟨t, n, f⟩ := a
    rw [e] at h
    cases h
  | inr a =>
    obtain ⟨c', fs⟩ := a
    rw [e] at h
    have := Nat.eq_of_beq_eq_true h
    subst this
    rfl
theorem ps_ar_lt {r t : Nat} (h : ps_ar r t = true) : r < 1179 ∧ ps_K r = (0, t, ps_ln r) := by
  have hr : r < 1179 := by
    refine Nat.lt_of_not_le (fun q => ?_)
    unfold ps_ar at h
    rw [ps_K_out q] at h
    cases h
  refine ⟨hr, ?_⟩
  unfold ps_ar at h
  unfold ps_ln
  unfold ps_K at *
  cases e : pm_wx r with
  | inl a =>
    obtain ⟨t', n, f⟩ := a
    rw [e] at h
    have := Nat.eq_of_beq_eq_true h
    subst this
    rfl
  | inr a =>
    obtain ⟨c', fs⟩ := a
    rw [e] at h
    cases h
theorem ps_get_lt {w : pm_W} {s : ps_S} (h : ps_R w s) {r : Nat} (hr : r < 1179) : pm_get w r = some (w.1 r) := by
  unfold pm_get
  rw [h.1, show Nat.blt r 1179 = true from Nat.ble_eq_true_of_le hr]
  rfl
theorem ps_get_ob {w : pm_W} {s : ps_S} (h : ps_R w s) {r c : Nat} (hc : c < 13) (hi : ps_is r c = true) : ∃ fs, pm_get w r = some (.inr (c, fs)) ∧ fs.length = (pm_Ts c).length ∧ ∀ q, q < (pm_Ts c).length → fs[q]? = some (ps_fv s c r q) := by
  obtain ⟨hr, hk⟩ := ps_is_lt hc hi
  have k := h.2 r hr
  rw [ps_get_lt h hr]
  rw [hk] at k
  cases e : w.1 r with
  | inl a =>
    obtain ⟨t, n, f⟩ := a
    rw [e] at k
    cases k.1
  | inr a =>
    obtain ⟨c', fs⟩ := a
    rw [e] at k
    cases k.1
    exact ⟨fs, rfl, k.2⟩
theorem ps_get_ai {w : pm_W} {s : ps_S} (h : ps_R w s) {r t : Nat} (ht : t < 3) (hi : ps_ar r t = true) : ∃ f, pm_get w r = some (.inl (t, ps_ln r, .inl f)) ∧ ∀ i, i < ps_ln r → pm_rd 0 f i = ps_a s r i := by
  obtain ⟨hr, hk⟩ := ps_ar_lt hi
  have k := h.2 r hr
  rw [ps_get_lt h hr]
  rw [hk] at k
  cases e : w.1 r with
  | inr a =>
    obtain ⟨c', fs⟩ := a
    rw [e] at k
    cases k.1
  | inl a =>
    obtain ⟨t', n, f⟩ := a
    rw [e] at k
    have k1 := k.1
    simp only [pm_kind, Prod.mk.injEq, true_and] at k1
    obtain ⟨rfl, rfl⟩ := k1
    rcases f with f | f | f
    · exact ⟨f, rfl, k.2.2⟩
    · have := k.2.1; omega
    · have := k.2.1; omega
theorem ps_get_aj {w : pm_W} {s : ps_S} (h : ps_R w s) {r : Nat} (hi : ps_ar r 3 = true) : ∃ f, pm_get w r = some (.inl (3, ps_ln r, .inr (.inl f))) ∧ ∀ i, i < ps_ln r → pm_rd 0 f i = ps_b s r i := by
  obtain ⟨hr, hk⟩ := ps_ar_lt hi
  have k := h.2 r hr
  rw [ps_get_lt h hr]
  rw [hk] at k
  cases e : w.1 r with
  | inr a =>
    obtain ⟨c', fs⟩ := a
    rw [e] at k
    cases k.1
  | inl a =>
    obtain ⟨t', n, f⟩ := a
    rw [e] at k
    have k1 := k.1
    simp only [pm_kind, Prod.mk.injEq, true_and] at k1
    obtain ⟨rfl, rfl⟩ := k1
    rcases f with f | f | f
    · have := k.2.1; omega
    · exact ⟨f, rfl, k.2.2⟩
    · have := k.2.1; omega
theorem ps_get_ar {w : pm_W} {s : ps_S} (h : ps_R w s) {r t : Nat} (ht : 3 < t) (hi : ps_ar r t = true) : ∃ f, pm_get w r = some (.inl (t, ps_ln r, .inr (.inr f))) ∧ t < 8 ∧ ∀ i, i < ps_ln r → pm_rd none f i = some (ps_e0 r i) := by
  obtain ⟨hr, hk⟩ := ps_ar_lt hi
  have k := h.2 r hr
  rw [ps_get_lt h hr]
  rw [hk] at k
  cases e : w.1 r with
  | inr a =>
    obtain ⟨c', fs⟩ := a
    rw [e] at k
    cases k.1
  | inl a =>
    obtain ⟨t', n, f⟩ := a
    rw [e] at k
    have k1 := k.1
    simp only [pm_kind, Prod.mk.injEq, true_and] at k1
    obtain ⟨rfl, rfl⟩ := k1
    rcases f with f | f | f
    · have := k.2.1; omega
    · have := k.2.1; omega
    · exact ⟨f, rfl, k.2.1.2, k.2.2⟩
/-- another cell written: what else holds -/
theorem ps_R_set {w : pm_W} {s s' : ps_S} (h : ps_R w s) {r : Nat} {e : pm_E} (hr : r < 1179) (hk : pm_kind e = ps_K r) (ho : ps_Ok r e s') (hs : ∀ q, q ≠ r → (∀ k, ps_i s' q k = ps_i s q k) ∧ (∀ k, ps_j s' q k = ps_j s q k) ∧ (∀ k, ps_r s' q k = ps_r s q k) ∧ (∀ k, ps_a s' q k = ps_a s q k) ∧ (∀ k, ps_b s' q k = ps_b s q k)) : ps_R (pm_set w r e) s' := by
  refine ⟨h.1, fun q hq => ?_⟩
  show pm_kind (pm_up w.1 r e q) = _ ∧ ps_Ok q (pm_up w.1 r e q) s'
  rw [pm_up_eq]
  by_cases hqr : q = r
  · rw [if_pos hqr]
    subst hqr
    exact ⟨hk, ho⟩
  · rw [if_neg hqr]
    obtain ⟨k1, k2⟩ := h.2 q hq
    obtain ⟨e1, e2, e3, e4, e5⟩ := hs q hqr
    refine ⟨k1, ?_⟩
    unfold ps_Ok at *
    split at k2
    · next t n f => exact ⟨k2.1, fun i hi => (k2.2 i hi).trans (e4 i).symm⟩
    · next t n f => exact ⟨k2.1, fun i hi => (k2.2 i hi).trans (e5 i).symm⟩
    · next t n f => exact k2
    · next c fs =>
      refine ⟨k2.1, fun j hj => ?_⟩
      rw [k2.2 j hj]
      unfold ps_fv
      split
      · rw [e2]
      · rw [e3]
      · rw [e3]
      · rw [e1]
theorem ps_u_n {α : Type} {f : Nat → Nat → α} {r q : Nat} {v : α} {r' q' : Nat} (h : r' ≠ r) : ps_u f r q v r' q' = f r' q' := if_neg (fun z => h z.1)
theorem ps_u_n2 {α : Type} {f : Nat → Nat → α} {r q : Nat} {v : α} {r' q' : Nat} (h : q' ≠ q) : ps_u f r q v r' q' = f r' q' := if_neg (fun z => h z.2)
theorem ps_u_s {α : Type} {f : Nat → Nat → α} {r q : Nat} {v : α} : ps_u f r q v r q = v := if_pos ⟨rfl, rfl⟩
theorem ps_R_ua {w : pm_W} {s : ps_S} (h : ps_R w s) {r t i : Nat} {v : Int32} {f : List (Nat × Int32)} (ht : t < 3) (hi : ps_ar r t = true) (hf : ∀ i, i < ps_ln r → pm_rd 0 f i = ps_a s r i) : ps_R (pm_set w r (.inl (t, ps_ln r, .inl ((i, v) :: f)))) (ps_ua s r i v) := by
  obtain ⟨hr, hk⟩ := ps_ar_lt hi
  refine ps_R_set h hr hk.symm ⟨ht, fun j hj => ?_⟩ (fun q hq => ⟨fun _ => rfl, fun _ => rfl, fun _ => rfl, fun k => ps_u_n hq, fun _ => rfl⟩)
  show cond (Nat.beq j i) v (pm_rd 0 f j) = ps_u s.2.1 r i v r j
  by_cases e : j = i
  · subst e
    rw [Nat.beq_refl, ps_u_s]
    rfl
  · rw [pm_beq_f e, ps_u_n2 e]
    exact hf j hj
theorem ps_R_ub {w : pm_W} {s : ps_S} (h : ps_R w s) {r i : Nat} {v : Int64} {f : List (Nat × Int64)} (hi : ps_ar r 3 = true) (hf : ∀ i, i < ps_ln r → pm_rd 0 f i = ps_b s r i) : ps_R (pm_set w r (.inl (3, ps_ln r, .inr (.inl ((i, v) :: f))))) (ps_ub s r i v) := by
  obtain ⟨hr, hk⟩ := ps_ar_lt hi
  refine ps_R_set h hr hk.symm ⟨rfl, fun j hj => ?_⟩ (fun q hq => ⟨fun _ => rfl, fun _ => rfl, fun _ => rfl, fun _ => rfl, fun k => ps_u_n hq⟩)
  show cond (Nat.beq j i) v (pm_rd 0 f j) = ps_u s.2.2 r i v r j
  by_cases e : j = i
  · subst e
    rw [Nat.beq_refl, ps_u_s]
    rfl
  · rw [pm_beq_f e, ps_u_n2 e]
    exact hf j hj
/-- a field's value, written -/
def ps_w (s : ps_S) (c r q : Nat) (v : Value) : Option ps_S := match (pm_Ts c).getD q .int, v with
  | .int, .int x => some (ps_ui s r q x)
  | .boolean, .int x => cond (decide (x &&& 1 = x)) (some (ps_ui s r q x)) none
  | .long, .long x => some (ps_uj s r q x)
  | .object _, .ref x => some (ps_ur s r q x)
  | .array _, .ref x => some (ps_ur s r q x)
  | _, _ => none
theorem ps_fv_o {s s' : ps_S} {c r q : Nat} (e1 : ps_i s' r q = ps_i s r q) (e2 : ps_j s' r q = ps_j s r q) (e3 : ps_r s' r q = ps_r s r q) : ps_fv s' c r q = ps_fv s c r q := by
  unfold ps_fv
  rw [e1, e2, e3]
theorem ps_R_w {w : pm_W} {s s' : ps_S} (h : ps_R w s) {c r q : Nat} {v : Value} {fs : List Value} (hc : c < 13) (hi : ps_is r c = true) (hl : fs.length = (pm_Ts c).length) (hf : ∀ q, q < (pm_Ts c).length → fs[q]? = some (ps_fv s c r q)) (hq : q < (pm_Ts c).length) (hn : ps_fin c q = false) (hw : ps_w s c r q v = some s') : pm_okv ((pm_Ts c).getD q .int) v = true ∧ ps_R (pm_set w r (.inr (c, fs.set q v))) s' := by
  obtain ⟨hr, hk⟩ := ps_is_lt hc hi
  have key : ∀ s' : ps_S, (∀ q', q' ≠ q → ps_i s' r q' = ps_i s r q' ∧ ps_j s' r q' = ps_j s r q' ∧ ps_r s' r q' = ps_r s r q') → (ps_fv s' c r q = v) → (∀ p, p ≠ r → (∀ k, ps_i s' p k = ps_i s p k) ∧ (∀ k, ps_j s' p k = ps_j s p k) ∧ (∀ k, ps_r s' p k = ps_r s p k) ∧ (∀ k, ps_a s' p k = ps_a s p k) ∧ (∀ k, ps_b s' p k = ps_b s p k)) → ps_R (pm_set w r (.inr (c, fs.set q v))) s' := by
    intro s' h1 h2 h3
    refine ps_R_set h hr hk.symm ⟨by rw [List.length_set]; exact hl, fun j hj => ?_⟩ h3
    by_cases e : j = q
    · subst e
      rw [List.getElem?_set_self (by rw [hl]; exact hj), h2]
    · rw [List.getElem?_set_ne (fun z => e z.symm), hf j hj]
      obtain ⟨a1, a2, a3⟩ := h1 j e
      rw [ps_fv_o a1 a2 a3]
  unfold ps_w at hw
  split at hw
  · next ht =>
    cases hw
    rw [ht]
    refine ⟨rfl, key _ (fun q' hq' => ⟨ps_u_n2 hq', rfl, rfl⟩) ?_ (fun p hp => ⟨fun k => ps_u_n hp, fun _ => rfl, fun _ => rfl, fun _ => rfl, fun _ => rfl⟩)⟩
    unfold ps_fv
    rw [ht]
    exact congrArg Value.int ps_u_s
  · next ht =>
    obtain ⟨h1, hw⟩ := pm_ct hw
    cases hw
    rw [ht]
    refine ⟨h1, key _ (fun q' hq' => ⟨ps_u_n2 hq', rfl, rfl⟩) ?_ (fun p hp => ⟨fun k => ps_u_n hp, fun _ => rfl, fun _ => rfl, fun _ => rfl, fun _ => rfl⟩)⟩
    unfold ps_fv
    rw [ht]
    exact congrArg Value.int ps_u_s
  · next ht =>
    cases hw
    rw [ht]
    refine ⟨rfl, key _ (fun q' hq' => ⟨rfl, ps_u_n2 hq', rfl⟩) ?_ (fun p hp => ⟨fun _ => rfl, fun k => ps_u_n hp, fun _ => rfl, fun _ => rfl, fun _ => rfl⟩)⟩
    unfold ps_fv
    rw [ht]
    exact congrArg Value.long ps_u_s
  · next ht =>
    cases hw
    rw [ht]
    refine ⟨rfl, key _ (fun q' hq' => ⟨rfl, rfl, ps_u_n2 hq'⟩) ?_ (fun p hp => ⟨fun _ => rfl, fun _ => rfl, fun k => ps_u_n hp, fun _ => rfl, fun _ => rfl⟩)⟩
    unfold ps_fv
    rw [ht]
    dsimp only
    rw [hn]
    exact congrArg Value.ref ps_u_s
  · next ht =>
    cases hw
    rw [ht]
    refine ⟨rfl, key _ (fun q' hq' => ⟨rfl, rfl, ps_u_n2 hq'⟩) ?_ (fun p hp => ⟨fun _ => rfl, fun _ => rfl, fun k => ps_u_n hp, fun _ => rfl, fun _ => rfl⟩)⟩
    unfold ps_fv
    rw [ht]
    dsimp only
    rw [hn]
    exact congrArg Value.ref ps_u_s
  · cases hw
end
section
/-! A SYMBOLIC RUN over pure states: from a place up to named places it answers what must hold -/
def ps_le (L L2 : pm_L) : Prop := ∀ (i : Nat) (v : Value), pm_lk L i = some v → pm_lk L2 i = some v
def ps_nu (L : pm_L) : Prop := (L.map Prod.fst).Nodup
theorem ps_le_refl (L : pm_L) : ps_le L L := fun _ _ h => h
theorem ps_lk_mem : ∀ {L : pm_L} {i : Nat} {v : Value}, pm_lk L i = some v → (i, v) ∈ L
  | [], _, _, h => by cases h
  | q :: L, i, v, h => by
    unfold pm_lk at h
    cases e : Nat.beq q.1 i with
    | true =>
      rw [e] at h
      have h1 := Nat.eq_of_beq_eq_true e
      cases h
      rw [← h1]
      exact List.mem_cons_self
    | false =>
      rw [e] at h
      exact List.mem_cons_of_mem _ (ps_lk_mem h)
theorem ps_mem_lk : ∀ {L : pm_L} {i : Nat} {v : Value}, ps_nu L → (i, v) ∈ L → pm_lk L i = some v
  | [], _, _, _, h => by cases h
  | q :: L, i, v, hn, h => by
    unfold ps_nu at hn
    rw [List.map_cons, List.nodup_cons] at hn
    unfold pm_lk
    rcases List.mem_cons.mp h with rfl | h
    · rw [Nat.beq_refl]; rfl
    · have hne : q.1 ≠ i := fun z => hn.1 (by rw [z]; exact List.mem_map.mpr ⟨_, h, rfl⟩)
      rw [pm_beq_f hne]
      exact ps_mem_lk hn.2 h
theorem ps_lk_filter {p : Nat × Value → Bool} : ∀ {L : pm_L} {i : Nat} {v : Value}, pm_lk L i = some v → p (i, v) = true → pm_lk (L.filter p) i = some v
  | [], _, _, h, _ => by cases h
  | q :: L, i, v, h, hp => by
    unfold pm_lk at h
    cases e : Nat.beq q.1 i with
    | true =>
      rw [e] at h
      have h1 := Nat.eq_of_beq_eq_true e
      cases h
      rw [← h1] at hp
      rw [List.filter_cons_of_pos hp]
      unfold pm_lk
      rw [e]
      rfl
    | false =>
      rw [e] at h
      have k := ps_lk_filter (p := p) h hp
      cases hq : p q with
      | true =>
        rw [List.filter_cons_of_pos hq]
        unfold pm_lk
        rw [e]
        exact k
      | false =>
        rw [List.filter_cons_of_neg (by rw [hq]; decide)]
        exact k
theorem ps_nu_filter {L : pm_L} (p : Nat × Value → Bool) (h : ps_nu L) : ps_nu (L.filter p) := by
  unfold ps_nu at *
  exact List.Nodup.sublist (List.Sublist.map _ List.filter_sublist) h
theorem ps_st_ok {L L2 : pm_L} {i : Nat} {v : Value} {p : Nat × Value → Bool} (hp : ∀ q, p q = true → q.1 ≠ i) (hn : ps_nu L) (h : ps_le L L2) : ps_nu ((i, v) :: L.filter p) ∧ ps_le ((i, v) :: L.filter p) ((i, v) :: L2.filter p) := by
  constructor
  · unfold ps_nu
    rw [List.map_cons, List.nodup_cons]
    refine ⟨fun z => ?_, ps_nu_filter p hn⟩
    obtain ⟨q, hq, e⟩ := List.mem_map.mp z
    exact hp q (List.mem_filter.mp hq).2 e
  · intro j u hj
    unfold pm_lk at hj ⊢
    cases e : Nat.beq i j with
    | true =>
      rw [e] at hj
      exact hj
    | false =>
      rw [e] at hj
      have m := List.mem_filter.mp (ps_lk_mem hj)
      exact ps_lk_filter (h _ _ (ps_mem_lk hn m.1)) m.2
theorem ps_st1_ok {L L2 : pm_L} {i : Nat} {v : Value} (hn : ps_nu L) (h : ps_le L L2) : ps_nu (pm_st1 L i v) ∧ ps_le (pm_st1 L i v) (pm_st1 L2 i v) :=
  ps_st_ok (fun q hq e => by rw [e, beq_self_eq_true] at hq; cases hq) hn h
theorem ps_st2_ok {L L2 : pm_L} {i : Nat} {v : Value} (hn : ps_nu L) (h : ps_le L L2) : ps_nu (pm_st2 L i v) ∧ ps_le (pm_st2 L i v) (pm_st2 L2 i v) :=
  ps_st_ok (fun q hq e => by rw [e, beq_self_eq_true] at hq; cases hq) hn h
/-- from here, in the state s, the method comes to an end of which Q holds -/
def ps_At (d y pc : Nat) (L : pm_L) (st : List Value) (s : ps_S) (Q : Option Value → ps_S → Prop) : Prop := ∀ (w : pm_W) (Lp : pm_L), ps_R w s → ps_le L Lp → pm_H none d y pc Lp st w (fun o w' => ∃ s', ps_R w' s' ∧ Q o s')
def ps_Cl (d t : Nat) (args : List Value) (s : ps_S) (Q : Option Value → ps_S → Prop) : Prop := ps_At d t 0 (lv_args 0 args) [] s Q
theorem ps_At.mono {d y pc : Nat} {L : pm_L} {st : List Value} {s : ps_S} {Q Q' : Option Value → ps_S → Prop} (h : ps_At d y pc L st s Q) (k : ∀ o s', Q o s' → Q' o s') : ps_At d y pc L st s Q' := by
  intro w Lp hw hL
  obtain ⟨o, w', h1, s', h2, h3⟩ := h w Lp hw hL
  exact ⟨o, w', h1, s', h2, k o s' h3⟩
theorem ps_Cl.mono {d t : Nat} {args : List Value} {s : ps_S} {Q Q' : Option Value → ps_S → Prop} (h : ps_Cl d t args s Q) (k : ∀ o s', Q o s' → Q' o s') : ps_Cl d t args s Q' := ps_At.mono h k
/-- what a test asks -/
def ps_nd (b : Bool) (P : Prop) : Prop := cond b P False
theorem ps_nd_i {b : Bool} {P : Prop} (h : b = true) (k : P) : ps_nd b P := by rw [h]; exact k
theorem ps_nd_e {b : Bool} {P : Prop} (h : ps_nd b P) : b = true ∧ P := by
  cases b
  · exact h.elim
  · exact ⟨rfl, h⟩
/-- what a test of kinds asks -/
def ps_nk (b : Bool) (P : Prop) : Prop := cond b P False
theorem ps_nk_i {b : Bool} {P : Prop} (h : b = true) (k : P) : ps_nk b P := by rw [h]; exact k
theorem ps_nk_e {b : Bool} {P : Prop} (h : ps_nk b P) : b = true ∧ P := by
  cases b
  · exact h.elim
  · exact ⟨rfl, h⟩
def ps_cd (c : ClassFile.Cond) (x y : Int32) (P Q : Prop) : Prop := match c with
  | .eq => (x = y → P) ∧ (x ≠ y → Q)
  | .ne => (x ≠ y → P) ∧ (x = y → Q)
  | .lt => (x < y → P) ∧ (y ≤ x → Q)
  | .ge => (y ≤ x → P) ∧ (x < y → Q)
  | .gt => (y < x → P) ∧ (x ≤ y → Q)
  | .le => (x ≤ y → P) ∧ (y < x → Q)
abbrev ps_k : Type := Nat → pm_L → List Value → ps_S → Prop
def ps_load (L : pm_L) (i pc : Nat) (st : List Value) (s : ps_S) (n : Nat) (is : Value → Bool) (k : ps_k) : Prop := match pm_lk L i with
  | some v => cond (is v) (k (pc + n) L (v :: st) s) False
  | none => False
def ps_sto (nL : Nat) (L : pm_L) (i pc : Nat) (st : List Value) (s : ps_S) (n : Nat) (is : Value → Bool) (k : ps_k) : Prop := match st with
  | v :: rest => cond (is v && Nat.blt i nL) (k (pc + n) (pm_st1 L i v) rest s) False
  | _ => False
def ps_stoJ (nL : Nat) (L : pm_L) (i pc : Nat) (st : List Value) (s : ps_S) (n : Nat) (k : ps_k) : Prop := match st with
  | .long x :: rest => cond (Nat.blt (i + 1) nL) (k (pc + n) (pm_st2 L i (.long x)) rest s) False
  | _ => False
def ps_pure : Instr → Bool
  | .iconst _ | .bipush _ | .sipush _ | .lconst _ | .ldc2_w _ | .iadd | .isub | .imul | .iand | .ior | .ishl | .ishr | .ladd | .lsub | .lmul | .land | .lor | .lxor | .lshl | .lcmp | .i2l | .l2i | .i2b | .dup | .dup2 | .pop | .pop2 | .goto _ => true
  | _ => false
theorem ps_pure_ok {X : Option (Nat × (Nat → Int32))} {own nL pc pc' : Nat} {b : Bool} {i : Instr} {L L' : pm_L} {st st' : List Value} {w w' : pm_W} (hp : ps_pure i = true) (h : pm_op none own nL false i pc [] st pm_w0 = some (pc', L', st', w')) : pm_op X own nL b i pc L st w = some (pc', L, st', w) := by
  cases i <;> first
    | (cases hp; done)
    | (simp only [pm_op, pm_bin, pm_binJ, Bool.cond_eq_ite] at h ⊢; (repeat' split at h) <;> first
      | (cases h; simp_all; done)
      | (cases h; done))
/-- the place behind an instruction that reads the stack alone (a number without variables) -/
def ps_pc (i : Instr) (pc : Nat) : Nat := match i with
  | .bipush _ => pc + 2
  | .sipush _ => pc + 3
  | .ldc2_w _ => pc + 3
  | .goto off => pm_tgt pc off
  | _ => pc + 1
theorem ps_pc_ok {own nL pc pc' : Nat} {i : Instr} {L' : pm_L} {st st' : List Value} {w' : pm_W} (hp : ps_pure i = true) (h : pm_op none own nL false i pc [] st pm_w0 = some (pc', L', st', w')) : pc' = ps_pc i pc := by
  cases i <;> first
    | (cases hp; done)
    | (simp only [pm_op, pm_bin, pm_binJ, Bool.cond_eq_ite] at h; (repeat' split at h) <;> first
      | (cases h; done)
      | (cases h; rfl; done))
/-- a switch, as tests one behind the other -/
def ps_sw (x : Int32) (k : Nat → Prop) (dflt : Nat) : List (Int32 × Nat) → Prop
  | [] => k dflt
  | q :: l => (x = q.1 → k q.2) ∧ (x ≠ q.1 → ps_sw x k dflt l)
def ps_zip (a : Int32) : List Nat → List (Int32 × Nat)
  | [] => []
  | t :: l => (a, t) :: ps_zip (a + 1) l
def ps_tb (pc : Nat) (off : Int) : Bool := decide ((pc : Int) + off = (pm_tgt pc off : Int))
def ps_op (own nL : Nat) (i : Instr) (pc : Nat) (L : pm_L) (st : List Value) (s : ps_S) (k : ps_k) : Prop :=
  match i with
  | .aload_n j => ps_load L j.val pc st s 1 pm_isA k
  | .aload j => ps_load L j pc st s 2 pm_isA k
  | .iload_n j => ps_load L j.val pc st s 1 pm_isI k
  | .iload j => ps_load L j pc st s 2 pm_isI k
  | .lload_n j => ps_load L j.val pc st s 1 pm_isJ k
  | .lload j => ps_load L j pc st s 2 pm_isJ k
  | .astore_n j => ps_sto nL L j.val pc st s 1 pm_isA k
  | .astore j => ps_sto nL L j pc st s 2 pm_isA k
  | .istore_n j => ps_sto nL L j.val pc st s 1 pm_isI k
  | .istore j => ps_sto nL L j pc st s 2 pm_isI k
  | .lstore_n j => ps_stoJ nL L j.val pc st s 1 k
  | .lstore j => ps_stoJ nL L j pc st s 2 k
  | .iinc j n => match pm_lk L j with
    | some (.int x) => cond (Nat.blt j nL) (k (pc + 3) (pm_st1 L j (.int (x + Int32.ofInt n))) st s) False
    | _ => False
  | .idiv => match st with
    | .int y :: .int x :: rest => ps_nd (!decide (y = 0)) (k (pc + 1) L (.int (x / y) :: rest) s)
    | _ => False
  | .irem => match st with
    | .int y :: .int x :: rest => ps_nd (!decide (y = 0)) (k (pc + 1) L (.int (x - (x / y) * y) :: rest) s)
    | _ => False
  | .ifCond c off => match st with
    | .int x :: rest => cond (ps_tb pc off) (ps_cd c x 0 (k (pm_tgt pc off) L rest s) (k (pc + 3) L rest s)) False
    | _ => False
  | .if_icmp c off => match st with
    | .int y :: .int x :: rest => cond (ps_tb pc off) (ps_cd c x y (k (pm_tgt pc off) L rest s) (k (pc + 3) L rest s)) False
    | _ => False
  | .tableswitch dflt lo hi offs => match st with
    | .int x :: rest => cond (ps_tb pc dflt && offs.toList.all (ps_tb pc) && decide (hi + 1 - lo = (offs.toList.length : Int)) && decide (-2147483648 ≤ lo) && decide (hi < 2147483647)) (ps_sw x (fun pc => k pc L rest s) (pm_tgt pc dflt) (ps_zip (Int32.ofInt lo) (offs.toList.map (pm_tgt pc)))) False
    | _ => False
  | .lookupswitch dflt l => match st with
    | .int x :: rest => cond (ps_tb pc dflt && l.toList.all (fun q => ps_tb pc q.2 && decide (-2147483648 ≤ q.1 ∧ q.1 < 2147483648)) && (l.toList.zip (l.toList.drop 1)).all (fun q => decide (q.1.1 < q.2.1))) (ps_sw x (fun pc => k pc L rest s) (pm_tgt pc dflt) (l.toList.map (fun q => (Int32.ofInt q.1, pm_tgt pc q.2)))) False
    | _ => False
  | .getfield j => match st with
    | .ref r :: rest => match pm_l4 (pm_FL own) j with
      | some (_, c, q, _) => cond (Nat.blt c 13 && Nat.blt q (pm_Ts c).length) (ps_nk (ps_is r c) (k (pc + 3) L (ps_fv s c r q :: rest) s)) False
      | none => False
    | _ => False
  | .putfield j => match st with
    | v :: .ref r :: rest => match pm_l4 (pm_FL own) j with
      | some (_, c, q, _) => cond (Nat.blt c 13 && Nat.blt q (pm_Ts c).length && !ps_fin c q) (ps_nk (ps_is r c) (match (pm_Ts c).getD q .int, v with
        | .int, .int x => k (pc + 3) L rest (ps_ui s r q x)
        | .boolean, .int x => ps_nd (decide (x &&& 1 = x)) (k (pc + 3) L rest (ps_ui s r q x))
        | .long, .long x => k (pc + 3) L rest (ps_uj s r q x)
        | .object _, .ref x => k (pc + 3) L rest (ps_ur s r q x)
        | .array _, .ref x => k (pc + 3) L rest (ps_ur s r q x)
        | _, _ => False)) False
      | none => False
    | _ => False
  | .iaload => match st with
    | .int i :: .ref r :: rest => ps_nk (ps_ar r 0) (ps_nd (pm_in i (ps_ln r)) (k (pc + 1) L (.int (ps_a s r i.toNatClampNeg) :: rest) s))
    | _ => False
  | .baload => match st with
    | .int i :: .ref r :: rest => ps_nk (ps_ar r 1 || ps_ar r 2) (ps_nd (pm_in i (ps_ln r)) (k (pc + 1) L (.int (ps_a s r i.toNatClampNeg) :: rest) s))
    | _ => False
  | .laload => match st with
    | .int i :: .ref r :: rest => ps_nk (ps_ar r 3) (ps_nd (pm_in i (ps_ln r)) (k (pc + 1) L (.long (ps_b s r i.toNatClampNeg) :: rest) s))
    | _ => False
  | .aaload => match st with
    | .int i :: .ref r :: rest => ps_nk (ps_ar r 4 || ps_ar r 5 || ps_ar r 6 || ps_ar r 7) (ps_nd (pm_in i (ps_ln r)) (k (pc + 1) L (.ref (ps_e0 r i.toNatClampNeg) :: rest) s))
    | _ => False
  | .iastore => match st with
    | .int x :: .int i :: .ref r :: rest => ps_nk (ps_ar r 0) (ps_nd (pm_in i (ps_ln r)) (k (pc + 1) L rest (ps_ua s r i.toNatClampNeg x)))
    | _ => False
  | .bastore => match st with
    | .int x :: .int i :: .ref r :: rest => ps_nk (ps_ar r 1 || ps_ar r 2) (ps_nd (pm_in i (ps_ln r)) (k (pc + 1) L rest (ps_ua s r i.toNatClampNeg (cond (ps_ar r 1) x.toInt8.toInt32 (x &&& 1)))))
    | _ => False
  | .lastore => match st with
    | .long x :: .int i :: .ref r :: rest => ps_nk (ps_ar r 3) (ps_nd (pm_in i (ps_ln r)) (k (pc + 1) L rest (ps_ub s r i.toNatClampNeg x)))
    | _ => False
  | .arraylength => match st with
    | .ref r :: rest => ps_nk (Nat.beq (ps_K r).1 0) (k (pc + 1) L (.int (nI (ps_ln r)) :: rest) s)
    | _ => False
  | i => cond (ps_pure i) (match pm_op none own nL false i pc [] st pm_w0 with
    | some q => k (ps_pc i pc) L q.2.2.1 s
    | none => False) False
end
section
/-! the symbolic run is right -/
theorem ps_in_blt {i : Int32} {n : Nat} (h : pm_in i n = true) : i.toNatClampNeg < n := by
  unfold pm_in at h
  rw [Bool.and_eq_true] at h
  exact Nat.le_of_ble_eq_true h.2
theorem ps_sc_ar {r t : Nat} (h : ps_ar r t = true) : Nat.beq r pm_SC = false := pm_beq_f (by
  have := (ps_ar_lt h).1
  unfold pm_SC
  omega)
theorem ps_sw_ok {x : Int32} {k : Nat → Prop} {dflt : Nat} : ∀ {l : List (Int32 × Nat)}, ps_sw x k dflt l → k (match l.find? (fun q => decide (x = q.1)) with
  | some q => q.2
  | none => dflt)
  | [], h => h
  | q :: l, h => by
    by_cases e : x = q.1
    · rw [List.find?_cons_of_pos (by exact decide_eq_true e)]
      exact h.1 e
    · rw [List.find?_cons_of_neg (by rw [decide_eq_false e]; decide)]
      exact ps_sw_ok (h.2 e)
theorem ps_zip_get : ∀ {l : List Nat} {a : Int} {x : Int32} {dflt : Nat}, -2147483648 ≤ a → a + l.length ≤ 2147483648 → (match (ps_zip (Int32.ofInt a) l).find? (fun q => decide (x = q.1)) with
  | some q => q.2
  | none => dflt) = (if x.toInt < a ∨ a + l.length ≤ x.toInt then dflt else l.getD (x.toInt - a).toNat dflt)
  | [], a, x, dflt, h1, h2 => by
    rw [if_pos (by rw [List.length_nil]; omega)]
    rfl
  | t :: l, a, x, dflt, h1, h2 => by
    rw [List.length_cons] at h2 ⊢
    have e0 : (Int32.ofInt a).toInt = a := Int32.toInt_ofInt_of_le h1 (by omega)
    have e1 : Int32.ofInt a + 1 = Int32.ofInt (a + 1) := by rw [Int32.ofInt_add]; rfl
    unfold ps_zip
    by_cases e : x = Int32.ofInt a
    · rw [List.find?_cons_of_pos (by exact decide_eq_true e)]
      have ex : x.toInt = a := by rw [e, e0]
      rw [if_neg (by omega), ex, Int.sub_self]
      rfl
    · rw [List.find?_cons_of_neg (by rw [decide_eq_false e]; decide), e1, ps_zip_get (a := a + 1) (by omega) (by omega)]
      have ex : x.toInt ≠ a := fun z => e (Int32.toInt_inj.mp (by rw [z, e0]))
      by_cases g : x.toInt < a + 1 ∨ a + 1 + l.length ≤ x.toInt
      · rw [if_pos g, if_pos (by omega)]
      · rw [if_neg g, if_neg (by omega)]
        rw [show (x.toInt - a).toNat = (x.toInt - (a + 1)).toNat + 1 by omega]
        rfl
theorem ps_tb_ok {pc : Nat} {off : Int} (h : ps_tb pc off = true) : decide ((pc : Int) + off = (pm_tgt pc off : Int)) = true := h
theorem ps_lk_off : ∀ {l : List (Int × Int)} {dflt : Int} {x : Int32} {pc : Nat}, (l.all (fun q => ps_tb pc q.2 && decide (-2147483648 ≤ q.1 ∧ q.1 < 2147483648))) = true → ps_tb pc dflt = true →
    (match (l.map (fun q => (Int32.ofInt q.1, pm_tgt pc q.2))).find? (fun q => decide (x = q.1)) with
    | some q => q.2
    | none => pm_tgt pc dflt) = pm_tgt pc (Op.lookupswitch.offset l dflt x.toInt) ∧ ps_tb pc (Op.lookupswitch.offset l dflt x.toInt) = true := by
  intro l
  induction l with
  | nil => intro dflt x pc h hd; exact ⟨rfl, hd⟩
  | cons q l ih =>
    intro dflt x pc h hd
    rw [List.all_cons, Bool.and_eq_true, Bool.and_eq_true] at h
    obtain ⟨⟨h1, h2⟩, h3⟩ := h
    have h2 := of_decide_eq_true h2
    have e0 : (Int32.ofInt q.1).toInt = q.1 := Int32.toInt_ofInt_of_le h2.1 h2.2
    obtain ⟨k1, k2⟩ := ih (dflt := dflt) (x := x) h3 hd
    rw [List.map_cons]
    by_cases e : x = Int32.ofInt q.1
    · rw [List.find?_cons_of_pos (by exact decide_eq_true e)]
      have ex : x.toInt = q.1 := by rw [e, e0]
      obtain ⟨a, o⟩ := q
      rw [Op.lookupswitch.offset_cons, if_pos ex.symm]
      exact ⟨rfl, h1⟩
    · rw [List.find?_cons_of_neg (by rw [decide_eq_false e]; decide)]
      have ex : ¬ q.1 = x.toInt := fun z => e (Int32.toInt_inj.mp (by rw [e0, z]))
      obtain ⟨a, o⟩ := q
      rw [Op.lookupswitch.offset_cons, if_neg ex]
      exact ⟨k1, k2⟩

theorem ps_cd_ok {c : ClassFile.Cond} {x y : Int32} {P Q : Prop} (h : ps_cd c x y P Q) : cond (pm_cnd c x y) P Q := by
  cases c <;> unfold ps_cd at h <;> unfold pm_cnd <;> dsimp only at h ⊢
  · by_cases e : x = y
    · rw [decide_eq_true e]; exact h.1 e
    · rw [decide_eq_false e]; exact h.2 e
  · by_cases e : x = y
    · rw [decide_eq_true e]; exact h.2 e
    · rw [decide_eq_false e]; exact h.1 e
  · by_cases e : x < y
    · rw [decide_eq_true e]; exact h.1 e
    · rw [decide_eq_false e]; exact h.2 (Int32.not_lt.mp e)
  · by_cases e : y ≤ x
    · rw [decide_eq_true e]; exact h.1 e
    · rw [decide_eq_false e]; exact h.2 (Int32.not_le.mp e)
  · by_cases e : y < x
    · rw [decide_eq_true e]; exact h.1 e
    · rw [decide_eq_false e]; exact h.2 (Int32.not_lt.mp e)
  · by_cases e : x ≤ y
    · rw [decide_eq_true e]; exact h.1 e
    · rw [decide_eq_false e]; exact h.2 (Int32.not_le.mp e)
theorem ps_cond_k {b : Bool} {k : ps_k} {p1 p2 : Nat} {L : pm_L} {st : List Value} {s : ps_S} (h : cond b (k p1 L st s) (k p2 L st s)) : k (cond b p1 p2) L st s := by
  cases b
  · exact h
  · exact h
/-- what a step of the run gives -/
def ps_Nx (own nL : Nat) (b : Bool) (i : Instr) (pc : Nat) (L Lp : pm_L) (st : List Value) (w : pm_W) (k : ps_k) : Prop := ∃ (pc' : Nat) (L' Lp' : pm_L) (st' : List Value) (w' : pm_W) (s' : ps_S), pm_op none own nL b i pc Lp st w = some (pc', Lp', st', w') ∧ ps_R w' s' ∧ ps_le L' Lp' ∧ ps_nu L' ∧ k pc' L' st' s'
section PSO
variable {own nL pc : Nat} {b : Bool} {L Lp : pm_L} {st : List Value} {s : ps_S} {w : pm_W} {k : ps_k}
theorem ps_o_load {i j n : Nat} {is : Value → Bool} {ins : Instr} (hR : ps_R w s) (hL : ps_le L Lp) (hn : ps_nu L) (e : pm_op none own nL b ins pc Lp st w = pm_load Lp j pc st w n is) (h : ps_load L j pc st s n is k) : ps_Nx own nL b ins pc L Lp st w k := by
  unfold ps_load at h
  split at h
  · next v hv =>
    have hx : is v = true ∧ k (pc + n) L (v :: st) s := by
      cases q : is v with
      | true => rw [q] at h; exact ⟨rfl, h⟩
      | false => rw [q] at h; exact h.elim
    refine ⟨_, L, Lp, _, w, s, ?_, hR, hL, hn, hx.2⟩
    rw [e]
    unfold pm_load
    rw [hL _ _ hv]
    dsimp only
    rw [hx.1]
    rfl
  · exact h.elim
theorem ps_o_sto {j n : Nat} {is : Value → Bool} {ins : Instr} (hR : ps_R w s) (hL : ps_le L Lp) (hn : ps_nu L) (e : pm_op none own nL b ins pc Lp st w = pm_sto nL Lp j pc st w n is) (h : ps_sto nL L j pc st s n is k) : ps_Nx own nL b ins pc L Lp st w k := by
  unfold ps_sto at h
  split at h
  · next v rest =>
    cases q : (is v && Nat.blt j nL) with
    | true =>
      rw [q] at h
      have z := ps_st1_ok (i := j) (v := v) hn hL
      refine ⟨_, _, _, _, w, s, ?_, hR, z.2, z.1, h⟩
      rw [e]
      unfold pm_sto
      dsimp only
      rw [q]
      rfl
    | false => rw [q] at h; exact h.elim
  · exact h.elim
theorem ps_o_stoJ {j n : Nat} {ins : Instr} (hR : ps_R w s) (hL : ps_le L Lp) (hn : ps_nu L) (e : pm_op none own nL b ins pc Lp st w = pm_stoJ nL Lp j pc st w n) (h : ps_stoJ nL L j pc st s n k) : ps_Nx own nL b ins pc L Lp st w k := by
  unfold ps_stoJ at h
  split at h
  · next x rest =>
    cases q : (Nat.blt (j + 1) nL) with
    | true =>
      rw [q] at h
      have z := ps_st2_ok (i := j) (v := .long x) hn hL
      refine ⟨_, _, _, _, w, s, ?_, hR, z.2, z.1, h⟩
      rw [e]
      unfold pm_stoJ
      dsimp only
      rw [q]
      rfl
    | false => rw [q] at h; exact h.elim
  · exact h.elim
theorem ps_o_pure {i : Instr} (hR : ps_R w s) (hL : ps_le L Lp) (hn : ps_nu L) (h : cond (ps_pure i) (match pm_op none own nL false i pc [] st pm_w0 with
    | some q => k (ps_pc i pc) L q.2.2.1 s
    | none => False) False) : ps_Nx own nL b i pc L Lp st w k := by
  cases hp : ps_pure i with
  | false => rw [hp] at h; exact h.elim
  | true =>
    rw [hp] at h
    dsimp only [cond] at h
    split at h
    · next q hq =>
      obtain ⟨pc', L', st', w'⟩ := q
      exact ⟨pc', L, Lp, st', w, s, ps_pure_ok hp hq, hR, hL, hn, by rw [ps_pc_ok hp hq]; exact h⟩
    · exact h.elim
theorem ps_cc {b : Bool} {P : Prop} (h : cond b P False) : b = true ∧ P := ps_nd_e h
set_option maxHeartbeats 4000000 in
theorem ps_op_ok {i : Instr} (hR : ps_R w s) (hL : ps_le L Lp) (hn : ps_nu L) (h : ps_op own nL i pc L st s k) : ps_Nx own nL b i pc L Lp st w k := by
  unfold ps_op at h
  split at h
  · exact ps_o_load (i := 0) hR hL hn rfl h
  · exact ps_o_load (i := 0) hR hL hn rfl h
  · exact ps_o_load (i := 0) hR hL hn rfl h
  · exact ps_o_load (i := 0) hR hL hn rfl h
  · exact ps_o_load (i := 0) hR hL hn rfl h
  · exact ps_o_load (i := 0) hR hL hn rfl h
  · exact ps_o_sto hR hL hn rfl h
  · exact ps_o_sto hR hL hn rfl h
  · exact ps_o_sto hR hL hn rfl h
  · exact ps_o_sto hR hL hn rfl h
  · exact ps_o_stoJ hR hL hn rfl h
  · exact ps_o_stoJ hR hL hn rfl h
  · -- iinc
    next j n =>
    split at h
    · next x hx =>
      obtain ⟨h1, h⟩ := ps_cc h
      have z := ps_st1_ok (i := j) (v := .int (x + Int32.ofInt n)) hn hL
      refine ⟨_, _, _, _, w, s, ?_, hR, z.2, z.1, h⟩
      show (match pm_lk Lp j with
        | some (.int x) => cond (Nat.blt j nL) (some (pc + 3, pm_st1 Lp j (.int (x + Int32.ofInt n)), st, w)) none
        | _ => none) = _
      rw [hL _ _ hx]
      dsimp only
      rw [h1]
      rfl
    · exact h.elim
  · -- idiv
    split at h
    · obtain ⟨h1, h⟩ := ps_nd_e h
      refine ⟨_, L, Lp, _, w, s, ?_, hR, hL, hn, h⟩
      show cond _ none _ = _
      rw [Bool.not_eq_true'] at h1
      rw [h1]
      rfl
    · exact h.elim
  · split at h
    · obtain ⟨h1, h⟩ := ps_nd_e h
      refine ⟨_, L, Lp, _, w, s, ?_, hR, hL, hn, h⟩
      show cond _ none _ = _
      rw [Bool.not_eq_true'] at h1
      rw [h1]
      rfl
    · exact h.elim
  · split at h
    · obtain ⟨h1, h⟩ := ps_cc h
      refine ⟨_, L, Lp, _, w, s, ?_, hR, hL, hn, ps_cond_k (ps_cd_ok h)⟩
      show cond _ _ none = _
      rw [ps_tb_ok h1]
      rfl
    · exact h.elim
  · split at h
    · obtain ⟨h1, h⟩ := ps_cc h
      refine ⟨_, L, Lp, _, w, s, ?_, hR, hL, hn, ps_cond_k (ps_cd_ok h)⟩
      show cond _ _ none = _
      rw [ps_tb_ok h1]
      rfl
    · exact h.elim
  · -- tableswitch
    next dflt lo hi offs =>
    split at h
    · next x rest =>
      obtain ⟨h1, h⟩ := ps_cc h
      simp only [Bool.and_eq_true, decide_eq_true_eq] at h1
      obtain ⟨⟨⟨⟨t1, t2⟩, t3⟩, t4⟩, t5⟩ := h1
      have key := ps_sw_ok h
      have z := ps_zip_get (l := offs.toList.map (pm_tgt pc)) (a := lo) (x := x) (dflt := pm_tgt pc dflt) t4 (by rw [List.length_map]; omega)
      rw [z, List.length_map] at key
      refine ⟨_, L, Lp, _, w, s, ?_, hR, hL, hn, key⟩
      show cond (decide (x.toInt < lo ∨ hi < x.toInt)) (cond (decide ((pc : Int) + dflt = (pm_tgt pc dflt : Int))) (some (pm_tgt pc dflt, Lp, rest, w)) none)
        (match offs.toList[(x.toInt - lo).toNat]? with
         | some off => cond (decide ((pc : Int) + off = (pm_tgt pc off : Int))) (some (pm_tgt pc off, Lp, rest, w)) none
         | none => none) = _
      by_cases g : x.toInt < lo ∨ hi < x.toInt
      · rw [decide_eq_true g, ps_tb_ok t1, if_pos (by omega)]
        rfl
      · rw [decide_eq_false g, if_neg (by omega)]
        have hlt : (x.toInt - lo).toNat < offs.toList.length := by omega
        rw [List.getElem?_eq_getElem hlt]
        have q := List.all_eq_true.mp t2 _ (List.getElem_mem hlt)
        dsimp only [cond]
        rw [ps_tb_ok q, List.getD_eq_getElem?_getD, List.getElem?_map, List.getElem?_eq_getElem hlt]
        rfl
    · exact h.elim
  · next dflt l =>
    split at h
    · next x rest =>
      obtain ⟨h1, h⟩ := ps_cc h
      rw [Bool.and_eq_true, Bool.and_eq_true] at h1
      obtain ⟨⟨t1, t2⟩, t3⟩ := h1
      have key := ps_sw_ok h
      obtain ⟨e1, e2⟩ := ps_lk_off (x := x) t2 t1
      rw [e1] at key
      refine ⟨_, L, Lp, _, w, s, ?_, hR, hL, hn, key⟩
      show cond _ (cond _ _ none) none = _
      rw [t3, ps_tb_ok e2]
      rfl
    · exact h.elim
  · -- getfield
    split at h
    · next r rest =>
      split at h
      · next a c q pl hl =>
        obtain ⟨h1, h⟩ := ps_cc h
        rw [Bool.and_eq_true] at h1
        obtain ⟨h2, h⟩ := ps_nk_e h
        obtain ⟨fs, g1, g2, g3⟩ := ps_get_ob hR (Nat.le_of_ble_eq_true h1.1) h2
        refine ⟨_, L, Lp, _, w, s, ?_, hR, hL, hn, h⟩
        show (match pm_l4 (pm_FL own) _ with
          | some (_, c, k, _) => match pm_get w r with
            | some (.inr (c', fs)) => cond (Nat.beq c c') (match fs[k]? with
              | some v => some (pc + 3, Lp, v :: rest, w)
              | none => none) none
            | _ => none
          | none => none) = _
        rw [hl]
        dsimp only
        rw [g1]
        dsimp only
        rw [Nat.beq_refl, g3 _ (Nat.le_of_ble_eq_true h1.2)]
        rfl
      · exact h.elim
    · exact h.elim
  · -- putfield
    split at h
    · next v r rest =>
      split at h
      · next a c q pl hl =>
        obtain ⟨h1, h⟩ := ps_cc h
        rw [Bool.and_eq_true, Bool.and_eq_true, Bool.not_eq_true'] at h1
        obtain ⟨h2, h⟩ := ps_nk_e h
        obtain ⟨⟨c13, q1⟩, hf⟩ := h1
        obtain ⟨fs, g1, g2, g3⟩ := ps_get_ob hR (Nat.le_of_ble_eq_true c13) h2
        have key : ∃ s', ps_w s c r q v = some s' ∧ k (pc + 3) L rest s' := by
          unfold ps_w
          generalize (pm_Ts c).getD q .int = ty at h
          split at h
          · exact ⟨_, rfl, h⟩
          · obtain ⟨h3, h⟩ := ps_nd_e h
            try dsimp only
            rw [h3]
            exact ⟨_, rfl, h⟩
          · exact ⟨_, rfl, h⟩
          · exact ⟨_, rfl, h⟩
          · exact ⟨_, rfl, h⟩
          · exact h.elim
        obtain ⟨s', hw, hk⟩ := key
        obtain ⟨w1, w2⟩ := ps_R_w hR (Nat.le_of_ble_eq_true c13) h2 g2 g3 (Nat.le_of_ble_eq_true q1) hf hw
        refine ⟨_, L, Lp, _, _, s', ?_, w2, hL, hn, hk⟩
        show (match pm_l4 (pm_FL own) _ with
          | some (_, c, k, _) => match pm_get w r with
            | some (.inr (c', fs)) => cond (Nat.beq c c' && Nat.blt k fs.length && pm_okv ((pm_Ts c).getD k .int) v && (!((pm_Fs c).getD k ("", "", "", false)).2.2.2 || (b && Nat.beq c own)))
              (some (pc + 3, Lp, rest, pm_set w r (.inr (c', fs.set k v)))) none
            | _ => none
          | none => none) = _
        rw [hl]
        dsimp only
        rw [g1]
        dsimp only
        unfold ps_fin at hf
        rw [Nat.beq_refl, g2, q1, w1, hf]
        rfl
      · exact h.elim
    · exact h.elim
  · -- iaload
    split at h
    · next i r rest =>
      obtain ⟨h1, h⟩ := ps_nk_e h
      obtain ⟨h2, h⟩ := ps_nd_e h
      obtain ⟨f, g1, g2⟩ := ps_get_ai hR (by decide) h1
      refine ⟨_, L, Lp, _, w, s, ?_, hR, hL, hn, h⟩
      unfold pm_op
      dsimp only
      rw [ps_sc_ar h1, g1]
      dsimp only [cond]
      rw [h2, ← g2 _ (ps_in_blt h2)]
      rfl
    · exact h.elim
  · split at h
    · next i r rest =>
      obtain ⟨h1, h⟩ := ps_nk_e h
      obtain ⟨h2, h⟩ := ps_nd_e h
      have h3 : ∃ t, (Nat.beq t 1 || Nat.beq t 2) = true ∧ t < 3 ∧ ps_ar r t = true := by
        rcases (Bool.or_eq_true _ _).mp h1 with q | q
        · exact ⟨1, rfl, by decide, q⟩
        · exact ⟨2, rfl, by decide, q⟩
      obtain ⟨t, t1, t2, t3⟩ := h3
      obtain ⟨f, g1, g2⟩ := ps_get_ai hR t2 t3
      refine ⟨_, L, Lp, _, w, s, ?_, hR, hL, hn, h⟩
      unfold pm_op
      dsimp only
      rw [g1]
      dsimp only
      rw [t1, h2, ← g2 _ (ps_in_blt h2)]
      rfl
    · exact h.elim
  · split at h
    · next i r rest =>
      obtain ⟨h1, h⟩ := ps_nk_e h
      obtain ⟨h2, h⟩ := ps_nd_e h
      obtain ⟨f, g1, g2⟩ := ps_get_aj hR h1
      refine ⟨_, L, Lp, _, w, s, ?_, hR, hL, hn, h⟩
      unfold pm_op
      dsimp only
      rw [g1]
      dsimp only
      rw [h2, ← g2 _ (ps_in_blt h2)]
      rfl
    · exact h.elim
  · split at h
    · next i r rest =>
      obtain ⟨h1, h⟩ := ps_nk_e h
      obtain ⟨h2, h⟩ := ps_nd_e h
      have h3 : ∃ t, Nat.blt 3 t = true ∧ ps_ar r t = true := by
        rcases (Bool.or_eq_true _ _).mp h1 with q | q
        · rcases (Bool.or_eq_true _ _).mp q with q | q
          · rcases (Bool.or_eq_true _ _).mp q with q | q
            · exact ⟨4, rfl, q⟩
            · exact ⟨5, rfl, q⟩
          · exact ⟨6, rfl, q⟩
        · exact ⟨7, rfl, q⟩
      obtain ⟨t, t1, t3⟩ := h3
      obtain ⟨f, g1, t2, g2⟩ := ps_get_ar hR (Nat.le_of_ble_eq_true t1) t3
      refine ⟨_, L, Lp, _, w, s, ?_, hR, hL, hn, h⟩
      unfold pm_op
      dsimp only
      rw [g1]
      dsimp only
      rw [t1, show Nat.blt t 8 = true from Nat.ble_eq_true_of_le t2, h2, g2 _ (ps_in_blt h2)]
      rfl
    · exact h.elim
  · -- iastore
    split at h
    · next x i r rest =>
      obtain ⟨h1, h⟩ := ps_nk_e h
      obtain ⟨h2, h⟩ := ps_nd_e h
      obtain ⟨f, g1, g2⟩ := ps_get_ai hR (by decide) h1
      refine ⟨_, L, Lp, _, _, _, ?_, ps_R_ua (i := i.toNatClampNeg) (v := x) hR (by decide) h1 g2, hL, hn, h⟩
      unfold pm_op
      dsimp only
      rw [g1]
      dsimp only
      rw [h2]
      rfl
    · exact h.elim
  · split at h
    · next x i r rest =>
      obtain ⟨h1, h⟩ := ps_nk_e h
      obtain ⟨h2, h⟩ := ps_nd_e h
      have h3 : ∃ t, (Nat.beq t 1 || Nat.beq t 2) = true ∧ t < 3 ∧ ps_ar r t = true ∧ vp_nar (pm_ty t) x = cond (ps_ar r 1) x.toInt8.toInt32 (x &&& 1) := by
        cases q : ps_ar r 1 with
        | true => exact ⟨1, rfl, by decide, q, rfl⟩
        | false =>
          rw [q, Bool.false_or] at h1
          exact ⟨2, rfl, by decide, h1, rfl⟩
      obtain ⟨t, t1, t2, t3, t4⟩ := h3
      obtain ⟨f, g1, g2⟩ := ps_get_ai hR t2 t3
      rw [← t4] at h
      refine ⟨_, L, Lp, _, _, _, ?_, ps_R_ua (i := i.toNatClampNeg) (v := vp_nar (pm_ty t) x) hR t2 t3 g2, hL, hn, h⟩
      unfold pm_op
      dsimp only
      rw [g1]
      dsimp only
      rw [t1, h2]
      rfl
    · exact h.elim
  · split at h
    · next x i r rest =>
      obtain ⟨h1, h⟩ := ps_nk_e h
      obtain ⟨h2, h⟩ := ps_nd_e h
      obtain ⟨f, g1, g2⟩ := ps_get_aj hR h1
      refine ⟨_, L, Lp, _, _, _, ?_, ps_R_ub (i := i.toNatClampNeg) (v := x) hR h1 g2, hL, hn, h⟩
      unfold pm_op
      dsimp only
      rw [g1]
      dsimp only
      rw [h2]
      rfl
    · exact h.elim
  · -- arraylength
    split at h
    · next r rest =>
      obtain ⟨h1, h⟩ := ps_nk_e h
      refine ⟨_, L, Lp, _, w, s, ?_, hR, hL, hn, h⟩
      have hr : r < 1179 := by
        refine Nat.lt_of_not_le (fun q => ?_)
        rw [ps_K_out q] at h1
        cases h1
      have k1 := hR.2 r hr
      have g1 := ps_get_lt hR hr
      have hne : r ≠ pm_SC := Nat.ne_of_lt (Nat.lt_trans hr (by decide))
      unfold pm_op
      dsimp only
      rw [pm_beq_f hne, g1]
      unfold ps_ln
      rw [← k1.1] at h1 ⊢
      have k2 := k1.2
      cases e : w.1 r with
      | inr a =>
        rw [e] at h1
        cases h1
      | inl a =>
        obtain ⟨t, n, f⟩ := a
        rw [e] at k2
        have ht : t < 8 := by
          rcases f with f | f | f
          · have := k2.1; omega
          · have := k2.1; omega
          · have := k2.1; omega
        dsimp only [cond]
        rw [show Nat.blt t 8 = true from Nat.ble_eq_true_of_le ht]
        rfl
    · exact h.elim
  · exact ps_o_pure hR hL hn h
end PSO
end
section
/-! the symbolic run: calls, ends, stops -/
def ps_rI (f : Int32 → ps_S → Prop) : Option Value → ps_S → Prop
  | some (.int x), s => f x s
  | _, _ => False
def ps_rJ (f : Int64 → ps_S → Prop) : Option Value → ps_S → Prop
  | some (.long x), s => f x s
  | _, _ => False
def ps_rA (f : Nat → ps_S → Prop) : Option Value → ps_S → Prop
  | some (.ref x), s => f x s
  | _, _ => False
def ps_rV (f : ps_S → Prop) : Option Value → ps_S → Prop
  | none, s => f s
  | _, _ => False
def ps_rk (ret : Option FieldType) (f : List Value → ps_S → Prop) : Option Value → ps_S → Prop := match ret with
  | none => ps_rV (fun s => f [] s)
  | some .long => ps_rJ (fun x s => f [.long x] s)
  | some (.object _) => ps_rA (fun x s => f [.ref x] s)
  | some (.array _) => ps_rA (fun x s => f [.ref x] s)
  | some _ => ps_rI (fun x s => f [.int x] s)
theorem ps_rk_ok {ret : Option FieldType} {f : List Value → ps_S → Prop} {o : Option Value} {s : ps_S} (h : ps_rk ret f o s) : f o.toList s := by
  unfold ps_rk at h
  split at h
  · unfold ps_rV at h
    split at h
    · exact h
    · exact h.elim
  · unfold ps_rJ at h
    split at h
    · exact h
    · exact h.elim
  · unfold ps_rA at h
    split at h
    · exact h
    · exact h.elim
  · unfold ps_rA at h
    split at h
    · exact h
    · exact h.elim
  · unfold ps_rI at h
    split at h
    · exact h
    · exact h.elim
def ps_ret (ret : Option FieldType) (i : Instr) (st : List Value) (s : ps_S) (Q : Option Value → ps_S → Prop) : Prop := match i, st with
  | .ireturn, [.int x] => (match ret with
    | some .int => Q (some (.int x)) s
    | some .boolean => ps_nd (decide (x &&& 1 = x)) (Q (some (.int x)) s)
    | _ => False)
  | .lreturn, [.long x] => (match ret with
    | some .long => Q (some (.long x)) s
    | _ => False)
  | .areturn, [.ref x] => (match ret with
    | some (.object _) => Q (some (.ref x)) s
    | _ => False)
  | .return_, [] => (match ret with
    | none => Q none s
    | _ => False)
  | _, _ => False
def ps_call (d kd mm nest pc : Nat) (L : pm_L) (st : List Value) (s : ps_S) (k : ps_k) : Prop := match d with
  | 0 => False
  | d' + 1 => cond (Nat.ble (pm_na kd mm) st.length && Nat.ble (pm_cats (st.drop (pm_na kd mm))) 8 && Nat.ble (lg_sl (st.take (pm_na kd mm)).reverse).length (pm_ml (mm - 6)) && Nat.blt 5 mm)
    (cond (Nat.beq kd 3) (cond (pm_st (mm - 6)) (ps_Cl d' (mm - 6) (st.take (pm_na kd mm)).reverse s (ps_rk (pm_ret (mm - 6)) (fun v s' => k (pc + 3) L (v ++ st.drop (pm_na kd mm)) s'))) False)
      (match (st.take (pm_na kd mm)).reverse.head? with
      | some (.ref r) => cond (!pm_st (mm - 6) && (cond (Nat.beq kd 2) (pm_ini (mm - 6)) (Nat.beq nest 0 && !pm_ini (mm - 6))) && Nat.blt (pm_own (mm - 6)) 13) (ps_nk (ps_is r (pm_own (mm - 6))) (ps_Cl d' (mm - 6) (st.take (pm_na kd mm)).reverse s (ps_rk (pm_ret (mm - 6)) (fun v s' => k (pc + 3) L (v ++ st.drop (pm_na kd mm)) s')))) False
      | _ => False)) False
def ps_body (k : ps_k) (d y : Nat) (Q : Option Value → ps_S → Prop) (pc : Nat) (L : pm_L) (st : List Value) (s : ps_S) : Prop := match pm_code y pc with
  | none => False
  | some (i, _) => cond (pm_isR i) (ps_ret (pm_ret y) i st s Q) (match pm_cal i with
    | (0, _) => ps_op (pm_own y) (pm_ml y) i pc L st s k
    | (kd, j) => match pm_l4 (pm_ML (pm_own y)) j with
      | none => False
      | some (_, mm, _, nest) => cond (Nat.blt mm 6) (match pm_mathOp mm st with
          | some q => cond (Nat.blt 2 mm && Nat.beq kd 3 && Nat.ble (pm_cats q.2) 8 && Nat.beq nest 0) (k (pc + 3) L (q.1 :: q.2) s) False
          | none => False) (ps_call d kd mm nest pc L st s k))
theorem pm_T.math {X : Option (Nat × (Nat → Int32))} {d y pc k j a mm pl nest : Nat} {L : pm_L} {st rest : List Value} {w : pm_W} {r : Option Value × pm_W} {i : Instr} {v : Value} (hc : pm_code y pc = some (i, k)) (hR : pm_isR i = false) (hcal : pm_cal i = (3, j)) (hl : pm_l4 (pm_ML (pm_own y)) j = some (a, mm, pl, nest)) (h2 : 2 < mm) (h6 : mm < 6) (hm : pm_mathOp mm st = some (v, rest)) (hn : (Nat.ble (pm_cats rest) 8 && Nat.beq nest 0) = true) (h : pm_T X d y (pc + 3) L (v :: rest) w r) : pm_T X d y pc L st w r := by
  obtain ⟨n, h⟩ := h
  refine ⟨n + 1, ?_⟩
  rw [pm_run_succ]
  unfold pm_body
  rw [hc]
  dsimp only
  rw [hR, hcal, cond_false]
  split
  · next z hz => cases hz
  next kd2 j2 hne hz =>
  cases hz
  rw [hl]
  dsimp only
  rw [pm_beq_f (show mm ≠ 0 by omega), show Nat.blt mm 3 = false from by rw [Bool.eq_false_iff]; intro q; have := Nat.le_of_ble_eq_true q; omega, show Nat.blt mm 6 = true from Nat.ble_eq_true_of_le h6]
  rw [cond_false, cond_false, cond_true, hm]
  dsimp only
  rw [Bool.and_eq_true] at hn
  rw [hn.1, hn.2]
  exact h
theorem ps_body_ok {k : ps_k} {d y pc : Nat} {L : pm_L} {st : List Value} {s : ps_S} {Q : Option Value → ps_S → Prop} (hn : ps_nu L) (h : ps_body k d y Q pc L st s) (hk : ∀ (pc' : Nat) (L' : pm_L) (st' : List Value) (s' : ps_S), ps_nu L' → k pc' L' st' s' → ps_At d y pc' L' st' s' Q) : ps_At d y pc L st s Q := by
  intro w Lp hw hL
  unfold ps_body at h
  split at h
  · exact h.elim
  next i n hcd =>
  cases hR : pm_isR i with
  | true =>
    rw [hR, cond_true] at h
    have key : ∃ o, pm_rtn (pm_ret y) i st = some o ∧ Q o s := by
      unfold ps_ret at h
      split at h
      · split at h
        · next e => rw [e]; exact ⟨_, rfl, h⟩
        · next e =>
          obtain ⟨h1, h⟩ := ps_nd_e h
          rw [e]
          refine ⟨_, ?_, h⟩
          unfold pm_rtn
          dsimp only
          rw [h1]
          rfl
        · exact h.elim
      · split at h
        · next e => rw [e]; exact ⟨_, rfl, h⟩
        · exact h.elim
      · split at h
        · next e => rw [e]; exact ⟨_, rfl, h⟩
        · exact h.elim
      · split at h
        · next e => rw [e]; exact ⟨_, rfl, h⟩
        · exact h.elim
      · exact h.elim
    obtain ⟨o, h1, h2⟩ := key
    exact pm_H.ret hcd hR h1 ⟨s, hw, h2⟩
  | false =>
    rw [hR, cond_false] at h
    split at h
    · next z hcal =>
      obtain ⟨pc', L', Lp', st', w', s', hop, hw', hL', hn', hk'⟩ := ps_op_ok (b := pm_ini y) hw hL hn h
      have q := hk _ _ _ _ hn' hk' w' Lp' hw' hL'
      have hcal0 : pm_cal i = (0, 0) := by
        cases i <;> first
          | rfl
          | (cases hcal; done)
      exact pm_H.go hcd hR hcal0 hop q
    · next kd j hne hcal =>
      split at h
      · exact h.elim
      next a mm pl nest hl =>
      have hkd : kd ≠ 0 := fun z => hne z
      cases g6 : Nat.blt mm 6 with
      | true =>
        rw [g6, cond_true] at h
        split at h
        · next q hq =>
          obtain ⟨h1, hq2⟩ := ps_cc h
          rw [Bool.and_eq_true, Bool.and_eq_true, Bool.and_eq_true] at h1
          obtain ⟨⟨⟨m1, m2⟩, m3⟩, m4⟩ := h1
          have e3 := Nat.eq_of_beq_eq_true m2
          subst e3
          obtain ⟨o, w', t1, t2⟩ := hk _ _ _ _ hn hq2 w Lp hw hL
          refine ⟨o, w', ?_, t2⟩
          exact pm_T.math hcd hR hcal hl (Nat.le_of_ble_eq_true m1) (Nat.le_of_ble_eq_true g6) hq (by rw [m3, m4]; rfl) t1
        · exact h.elim
      | false =>
        rw [g6, cond_false] at h
        unfold ps_call at h
        split at h
        · exact h.elim
        next d' =>
        obtain ⟨h1, h⟩ := ps_cc h
        rw [Bool.and_eq_true] at h1
        obtain ⟨h1, h5⟩ := h1
        have fin : ∀ (hck : pm_ckd kd mm nest st w = true) (hc : ps_Cl d' (mm - 6) (st.take (pm_na kd mm)).reverse s (ps_rk (pm_ret (mm - 6)) (fun v s' => k (pc + 3) L (v ++ st.drop (pm_na kd mm)) s'))), pm_H none (d' + 1) y pc Lp st w (fun o w' => ∃ s', ps_R w' s' ∧ Q o s') := by
          intro hck hc
          refine pm_H.call hcd hR hcal hkd hl (Nat.le_of_ble_eq_true h5) rfl hck (hc w _ hw (ps_le_refl _)) (fun o1 w1 q => ?_)
          obtain ⟨s1, q1, q2⟩ := q
          have q3 : k (pc + 3) L (o1.toList ++ st.drop (pm_na kd mm)) s1 := ps_rk_ok q2
          exact hk _ _ _ _ hn q3 w1 Lp q1 hL
        cases g3 : Nat.beq kd 3 with
        | true =>
          rw [g3, cond_true] at h
          obtain ⟨h7, h⟩ := ps_cc h
          refine fin ?_ h
          unfold pm_ckd
          rw [g3, h7, h1]
          rfl
        | false =>
          rw [g3, cond_false] at h
          split at h
          · next r hr =>
            obtain ⟨h7, h⟩ := ps_cc h
            obtain ⟨h8, h⟩ := ps_nk_e h
            rw [Bool.and_eq_true] at h7
            refine fin ?_ h
            obtain ⟨fs, e1, -, -⟩ := ps_get_ob hw (Nat.le_of_ble_eq_true h7.2) h8
            rw [Bool.and_eq_true] at h7
            unfold pm_ckd
            rw [hr]
            unfold pm_cls
            dsimp only
            rw [e1]
            dsimp only
            rw [g3, h1, Nat.beq_refl, h7.1.1]
            have h9 := h7.1.2
            cases g2 : Nat.beq kd 2 with
            | true => rw [g2, cond_true] at h9; rw [cond_true, h9]; rfl
            | false => rw [g2, cond_false] at h9; rw [cond_false, h9]; rfl
          · exact h.elim
def ps_sel (L : pm_L) : List Nat → Option pm_L
  | [] => some []
  | i :: l => match pm_lk L i, ps_sel L l with
    | some v, some L' => some ((i, v) :: L')
    | _, _ => none
theorem ps_sel_ok {L : pm_L} : ∀ {l : List Nat} {L' : pm_L}, ps_sel L l = some L' → ps_le L' L
  | [], L', h => by
    cases h
    intro i v hv
    cases hv
  | i :: l, L', h => by
    unfold ps_sel at h
    split at h
    · next v L2 h1 h2 =>
      cases h
      intro j u hj
      unfold pm_lk at hj
      cases e : Nat.beq i j with
      | true =>
        rw [e] at hj
        cases hj
        rw [← Nat.eq_of_beq_eq_true e]
        exact h1
      | false =>
        rw [e] at hj
        exact ps_sel_ok h2 j u hj
    · cases h
/-- a run of at most n steps; it ends at the stops, each with the locals that are named there -/
def ps_wp (stops : List (Nat × List Nat)) : Nat → Nat → Nat → (Option Value → ps_S → Prop) → Nat → pm_L → List Value → ps_S → Prop
  | 0, _, _, _, _, _, _, _ => False
  | n + 1, d, y, Q, pc, L, st, s => ps_body (fun pc L st s => match stops.find? (fun q => Nat.beq pc q.1) with
    | some q => (match ps_sel L q.2 with
      | some L' => ps_At d y pc L' st s Q
      | none => False)
    | none => ps_wp stops n d y Q pc L st s) d y Q pc L st s
theorem ps_wp_ok {stops : List (Nat × List Nat)} : ∀ {n d y : Nat} {Q : Option Value → ps_S → Prop} {pc : Nat} {L : pm_L} {st : List Value} {s : ps_S}, ps_nu L → ps_wp stops n d y Q pc L st s → ps_At d y pc L st s Q
  | 0, _, _, _, _, _, _, _, _, h => h.elim
  | n + 1, d, y, Q, pc, L, st, s, hn, h => by
    refine ps_body_ok hn h (fun pc' L' st' s' hn' h' => ?_)
    split at h'
    · next q hq =>
      split at h'
      · next L2 h2 =>
        intro w Lp hw hL
        exact h' w Lp hw (fun i v hv => hL i v (ps_sel_ok h2 i v hv))
      · exact h'.elim
    · exact ps_wp_ok hn' h'

def ps_nub : pm_L → Bool
  | [] => true
  | q :: L => (L.all (fun p => !Nat.beq p.1 q.1)) && ps_nub L
theorem ps_nu_of : ∀ {L : pm_L}, ps_nub L = true → ps_nu L
  | [], _ => List.nodup_nil
  | q :: L, h => by
    unfold ps_nub at h
    rw [Bool.and_eq_true] at h
    unfold ps_nu
    rw [List.map_cons, List.nodup_cons]
    refine ⟨fun z => ?_, ps_nu_of h.2⟩
    obtain ⟨p, hp, e⟩ := List.mem_map.mp z
    have k := List.all_eq_true.mp h.1 p hp
    rw [e, Nat.beq_refl] at k
    cases k
theorem ps_wp_at {stops : List (Nat × List Nat)} {n d y pc : Nat} {Q : Option Value → ps_S → Prop} {L : pm_L} {st : List Value} {s : ps_S} (h : ps_wp stops n d y Q pc L st s) (hn : ps_nub L = true) : ps_At d y pc L st s Q := ps_wp_ok (ps_nu_of hn) h
end
section
/-! THE CLASS'S SIDE: kinds of what its references reach; what every one of its calls keeps -/
/-- a kind: a class, or 100 and an array's type -/
def xKb (k v : Nat) : Bool := cond (Nat.blt k 100) (ps_is v k) (ps_ar v (k - 100) && Nat.blt v 1131)
def xfs : Nat → List (Nat × Nat)
  | 0 => [(0, 100), (1, 100), (3, 100), (4, 100), (5, 105), (6, 6), (7, 100), (8, 100), (9, 100), (12, 103), (13, 103)]
  | 1 => [(0, 6), (1, 100), (3, 100), (5, 100)]
  | 2 => [(0, 107), (1, 8), (2, 104), (3, 5), (4, 5), (5, 6)]
  | 3 => [(0, 10), (1, 103), (3, 103)]
  | 4 => [(0, 5), (1, 5), (2, 6), (3, 6), (4, 100), (5, 100), (6, 100), (7, 100)]
  | 5 => [(0, 100)]
  | 6 => [(0, 100), (1, 100), (2, 100)]
  | 7 => [(0, 104), (1, 5), (2, 100), (3, 100), (4, 100)]
  | 8 => [(1, 100), (4, 5), (5, 5), (6, 5), (7, 100)]
  | 9 => [(0, 103), (1, 103), (2, 103), (3, 100), (4, 104), (5, 5)]
  | 10 => [(0, 103)]
  | 11 => [(0, 101), (6, 7), (7, 106), (8, 3), (9, 5), (10, 1), (11, 0), (12, 4)]
  | _ => []
def xel (r t : Nat) : Nat → Bool
  | 0 => true
  | i + 1 => ps_is (ps_e0 r i) (t + 1) && xel r t i
def xck (r : Nat) : Bool := match pm_wx r with
  | .inr (c, fs) => (xfs c).all (fun p => match fs[p.1]? with
    | some (.ref x) => xKb p.2 x
    | _ => false)
  | .inl (t, n, _) => Nat.ble t 3 || xel r t n
def xall (a : Nat) : Nat → Bool
  | 0 => true
  | n + 1 => xck (a + n) && xall a n
theorem xall_ok {a : Nat} : ∀ {n : Nat}, xall a n = true → ∀ r, a ≤ r → r < a + n → xck r = true
  | 0, _, r, h1, h2 => by omega
  | n + 1, h, r, h1, h2 => by
    unfold xall at h
    rw [Bool.and_eq_true] at h
    by_cases e : r = a + n
    · rw [e]; exact h.1
    · exact xall_ok h.2 r h1 (by omega)
set_option maxRecDepth 1000000
theorem xall_0 : xall 0 150 = true := by decide +kernel
theorem xall_150 : xall 150 150 = true := by decide +kernel
theorem xall_300 : xall 300 150 = true := by decide +kernel
theorem xall_450 : xall 450 150 = true := by decide +kernel
theorem xall_600 : xall 600 150 = true := by decide +kernel
theorem xall_750 : xall 750 150 = true := by decide +kernel
theorem xall_900 : xall 900 150 = true := by decide +kernel
theorem xall_1050 : xall 1050 81 = true := by decide +kernel
theorem xck_all {r : Nat} (h : r < 1131) : xck r = true := by
  by_cases h150 : r < 150
  · exact xall_ok xall_0 r (by omega) (by omega)
  by_cases h300 : r < 300
  · exact xall_ok xall_150 r (by omega) (by omega)
  by_cases h450 : r < 450
  · exact xall_ok xall_300 r (by omega) (by omega)
  by_cases h600 : r < 600
  · exact xall_ok xall_450 r (by omega) (by omega)
  by_cases h750 : r < 750
  · exact xall_ok xall_600 r (by omega) (by omega)
  by_cases h900 : r < 900
  · exact xall_ok xall_750 r (by omega) (by omega)
  by_cases h1050 : r < 1050
  · exact xall_ok xall_900 r (by omega) (by omega)
  exact xall_ok xall_1050 r (by omega) (by omega)
def xlow (a : Nat) : Nat → Bool
  | 0 => true
  | n + 1 => (match pm_wx (a + n) with
    | .inr (c, _) => Nat.blt 11 c
    | .inl (t, _, _) => Nat.ble t 3) && xlow a n
theorem xlow_ok {a : Nat} : ∀ {n : Nat}, xlow a n = true → ∀ r, a ≤ r → r < a + n → (match pm_wx r with
    | .inr (c, _) => Nat.blt 11 c
    | .inl (t, _, _) => Nat.ble t 3) = true
  | 0, _, r, h1, h2 => by omega
  | n + 1, h, r, h1, h2 => by
    unfold xlow at h
    rw [Bool.and_eq_true] at h
    by_cases e : r = a + n
    · rw [e]; exact h.1
    · exact xlow_ok h.2 r h1 (by omega)
theorem xlow_1131 : xlow 1131 48 = true := by decide +kernel
/-- an object of the class's side is no cell of the reference's -/
theorem xis_lt {r c : Nat} (hc : c < 12) (h : ps_is r c = true) : r < 1131 := by
  obtain ⟨h1, h2⟩ := ps_is_lt (by omega) h
  refine Nat.lt_of_not_le (fun q => ?_)
  have k := xlow_ok xlow_1131 r q (by omega)
  unfold ps_K at h2
  cases e : pm_wx r with
  | inl a =>
    obtain ⟨t, n, f⟩ := a
    rw [e] at h2
    cases h2
  | inr a =>
    obtain ⟨c', fs⟩ := a
    rw [e] at h2 k
    cases h2
    have := Nat.le_of_ble_eq_true k
    omega
theorem xar_lt {r t : Nat} (ht : 3 < t) (h : ps_ar r t = true) : r < 1131 := by
  obtain ⟨h1, h2⟩ := ps_ar_lt h
  refine Nat.lt_of_not_le (fun q => ?_)
  have k := xlow_ok xlow_1131 r q (by omega)
  unfold ps_K at h2
  cases e : pm_wx r with
  | inr a =>
    obtain ⟨t, n⟩ := a
    rw [e] at h2
    cases h2
  | inl a =>
    obtain ⟨c', n, fs⟩ := a
    rw [e] at h2 k
    cases h2
    have := Nat.le_of_ble_eq_true k
    omega
theorem xis_c {r c c' : Nat} (h : ps_is r c = true) (h' : ps_is r c' = true) : c = c' := by
  unfold ps_is at h h'
  split at h
  · next q z e =>
    rw [e] at h'
    rw [Nat.eq_of_beq_eq_true h, Nat.eq_of_beq_eq_true h']
  · cases h
theorem xk_of {r c q k : Nat} (hc : c < 12) (hm : (q, k) ∈ xfs c) (h : ps_is r c = true) : xKb k (ps_c0 r q) = true := by
  have k1 := xck_all (xis_lt hc h)
  obtain ⟨h1, h2⟩ := ps_is_lt (by omega) h
  unfold ps_K at h2
  unfold xck at k1
  unfold ps_c0
  cases e : pm_wx r with
  | inl a =>
    obtain ⟨t, n, f⟩ := a
    rw [e] at h2
    cases h2
  | inr a =>
    obtain ⟨c', fs⟩ := a
    rw [e] at h2 k1
    cases h2
    have k2 := List.all_eq_true.mp k1 _ hm
    dsimp only at k2 ⊢
    split at k2
    · next x ex => (try rw [ex]); exact k2
    · cases k2
theorem xel_ok {r t : Nat} : ∀ {n : Nat}, xel r t n = true → ∀ i, i < n → ps_is (ps_e0 r i) (t + 1) = true
  | 0, _, i, h1 => by omega
  | n + 1, h, i, h1 => by
    unfold xel at h
    rw [Bool.and_eq_true] at h
    by_cases e : i = n
    · rw [e]; exact h.1
    · exact xel_ok h.2 i (by omega)
theorem xg_lt {i : Int32} {n : Nat} (h : pm_in i n = true) : i.toNatClampNeg < n := by
  unfold pm_in at h
  rw [Bool.and_eq_true] at h
  exact Nat.le_of_ble_eq_true h.2
theorem xe_of {r t : Nat} {i : Int32} (ht : 3 < t) (h : ps_ar r t = true) (hi : pm_in i (ps_ln r) = true) : ps_is (ps_e0 r i.toNatClampNeg) (t + 1) = true := by
  have k1 := xck_all (xar_lt ht h)
  obtain ⟨h1, h2⟩ := ps_ar_lt h
  have hl : ps_ln r = (ps_K r).2.2 := rfl
  have hi2 := xg_lt hi
  unfold xck at k1
  rw [hl] at hi2 h2
  unfold ps_K at h2 hi2
  cases e : pm_wx r with
  | inr a =>
    obtain ⟨t, n⟩ := a
    rw [e] at h2
    cases h2
  | inl a =>
    obtain ⟨c', n, fs⟩ := a
    rw [e] at h2 k1 hi2
    have e2 : c' = t := congrArg (fun z => z.2.1) h2
    subst e2
    dsimp only at k1
    rw [Bool.or_eq_true] at k1
    rcases k1 with k1 | k1
    · have := Nat.le_of_ble_eq_true k1; omega
    · exact xel_ok k1 _ hi2
theorem xKb_a {k v : Nat} (hk : 100 ≤ k) (h : xKb k v = true) : ps_ar v (k - 100) = true ∧ v < 1131 := by
  unfold xKb at h
  rw [pm_blt_f hk, cond_false, Bool.and_eq_true] at h
  exact ⟨h.1, Nat.le_of_ble_eq_true h.2⟩
theorem xKb_a_i {k v : Nat} (hk : 100 ≤ k) (h : ps_ar v (k - 100) = true ∧ v < 1131) : xKb k v = true := by
  unfold xKb
  rw [pm_blt_f hk, cond_false, Bool.and_eq_true]
  exact ⟨h.1, Nat.ble_eq_true_of_le h.2⟩
theorem xq_a {r t : Nat} (h : ps_ar r t = true) (h2 : Nat.blt r 1131 = true) : ps_ar r t = true ∧ r < 1131 := ⟨h, Nat.le_of_ble_eq_true h2⟩
/-- fields that are references and not final -/
def xF : Nat → Nat → Option Nat
  | 0, 14 => some 5
  | 0, 15 => some 6
  | 0, 16 => some 9
  | 2, 6 => some 9
  | 3, 5 => some 9
  | 3, 6 => some 5
  | 10, 1 => some 101
  | 11, 2 => some 9
  | 11, 3 => some 9
  | 11, 4 => some 2
  | 11, 5 => some 2
  | _, _ => none
def xT (g : Nat → Nat → Nat) : Prop := ∀ r c q k, ps_is r c = true → xF c q = some k → xKb k (g r q) = true
theorem xT_u {g : Nat → Nat → Nat} {r c q k v : Nat} (h : ps_is r c = true) (hF : xF c q = some k) (hv : xKb k v = true) (H : xT g) : xT (ps_u g r q v) := by
  intro r' c' q' k' h' hF'
  by_cases e : r' = r ∧ q' = q
  · obtain ⟨rfl, rfl⟩ := e
    rw [ps_u_s]
    have := xis_c h h'
    subst this
    rw [hF] at hF'
    cases hF'
    exact hv
  · unfold ps_u
    rw [if_neg e]
    exact H r' c' q' k' h' hF'
/-- the class's calls keep the other side's cells, their own kinds, and the tape's count t -/
def xJ (m : ps_S) (t : Int32) (s : ps_S) : Prop := xT s.1.2.2 ∧ ps_i s 0 1 = t ∧ ∀ r, 1131 ≤ r → ps_i s r = ps_i m r ∧ ps_j s r = ps_j m r ∧ ps_a s r = ps_a m r ∧ ps_b s r = ps_b m r
theorem xw_i {m s : ps_S} {t : Int32} {r c q : Nat} {v : Int32} (hc : c < 11) (h : ps_is r c = true) (J : xJ m t s) : xJ m t (ps_ui s r q v) := by
  obtain ⟨h1, h2, h3⟩ := J
  have hr := xis_lt (by omega) h
  have h0 : 0 ≠ r := fun e => by
    subst e
    have := xis_c h (show ps_is 0 11 = true from rfl)
    omega
  refine ⟨h1, ?_, fun r' hr' => ?_⟩
  · rw [ps_i_ui, if_neg (fun z => h0 z.1)]; exact h2
  · obtain ⟨a1, a2, a3, a4⟩ := h3 r' hr'
    refine ⟨?_, a2, a3, a4⟩
    rw [← a1]
    funext q'
    rw [ps_i_ui, if_neg (fun z => by omega)]
theorem xw_j {m s : ps_S} {t : Int32} {r c q : Nat} {v : Int64} (hc : c < 11) (h : ps_is r c = true) (J : xJ m t s) : xJ m t (ps_uj s r q v) := by
  obtain ⟨h1, h2, h3⟩ := J
  have hr := xis_lt (by omega) h
  refine ⟨h1, h2, fun r' hr' => ?_⟩
  obtain ⟨a1, a2, a3, a4⟩ := h3 r' hr'
  refine ⟨a1, ?_, a3, a4⟩
  rw [← a2]
  funext q'
  rw [ps_j_uj, if_neg (fun z => by omega)]
theorem xw_a {m s : ps_S} {t : Int32} {r q : Nat} {v : Int32} (hr : r < 1131) (J : xJ m t s) : xJ m t (ps_ua s r q v) := by
  obtain ⟨h1, h2, h3⟩ := J
  refine ⟨h1, h2, fun r' hr' => ?_⟩
  obtain ⟨a1, a2, a3, a4⟩ := h3 r' hr'
  refine ⟨a1, a2, ?_, a4⟩
  rw [← a3]
  funext q'
  rw [ps_a_ua, if_neg (fun z => by omega)]
theorem xw_b {m s : ps_S} {t : Int32} {r q : Nat} {v : Int64} (hr : r < 1131) (J : xJ m t s) : xJ m t (ps_ub s r q v) := by
  obtain ⟨h1, h2, h3⟩ := J
  refine ⟨h1, h2, fun r' hr' => ?_⟩
  obtain ⟨a1, a2, a3, a4⟩ := h3 r' hr'
  refine ⟨a1, a2, a3, ?_⟩
  rw [← a4]
  funext q'
  rw [ps_b_ub, if_neg (fun z => by omega)]
theorem xw_tape {m s : ps_S} {t v : Int32} (J : xJ m t s) : xJ m v (ps_ui s 0 1 v) := by
  obtain ⟨h1, h2, h3⟩ := J
  refine ⟨h1, ?_, fun r' hr' => ?_⟩
  · rw [ps_i_ui, if_pos ⟨rfl, rfl⟩]
  · obtain ⟨a1, a2, a3, a4⟩ := h3 r' hr'
    refine ⟨?_, a2, a3, a4⟩
    rw [← a1]
    funext q'
    rw [ps_i_ui, if_neg (fun z => by omega)]
theorem xw_r {m s : ps_S} {t : Int32} {r c q k v : Nat} (hF : xF c q = some k) (h : ps_is r c = true) (hv : xKb k v = true) (J : xJ m t s) : xJ m t (ps_ur s r q v) := by
  obtain ⟨h1, h2, h3⟩ := J
  exact ⟨xT_u h hF hv h1, h2, h3⟩
theorem xJ_refl {s : ps_S} {t : Int32} (h : xT s.1.2.2) (ht : ps_i s 0 1 = t) : xJ s t s := ⟨h, ht, fun _ _ => ⟨rfl, rfl, rfl, rfl⟩⟩
theorem xk_0_0 {r : Nat} (h : ps_is r 0 = true) : ps_ar (ps_c0 r 0) 0 = true ∧ (ps_c0 r 0) < 1131 := xKb_a (k := 100) (by decide) (xk_of (c := 0) (q := 0) (k := 100) (by decide) (by decide) h)
theorem xk_0_1 {r : Nat} (h : ps_is r 0 = true) : ps_ar (ps_c0 r 1) 0 = true ∧ (ps_c0 r 1) < 1131 := xKb_a (k := 100) (by decide) (xk_of (c := 0) (q := 1) (k := 100) (by decide) (by decide) h)
theorem xk_0_3 {r : Nat} (h : ps_is r 0 = true) : ps_ar (ps_c0 r 3) 0 = true ∧ (ps_c0 r 3) < 1131 := xKb_a (k := 100) (by decide) (xk_of (c := 0) (q := 3) (k := 100) (by decide) (by decide) h)
theorem xk_0_4 {r : Nat} (h : ps_is r 0 = true) : ps_ar (ps_c0 r 4) 0 = true ∧ (ps_c0 r 4) < 1131 := xKb_a (k := 100) (by decide) (xk_of (c := 0) (q := 4) (k := 100) (by decide) (by decide) h)
theorem xk_0_5 {r : Nat} (h : ps_is r 0 = true) : ps_ar (ps_c0 r 5) 5 = true ∧ (ps_c0 r 5) < 1131 := xKb_a (k := 105) (by decide) (xk_of (c := 0) (q := 5) (k := 105) (by decide) (by decide) h)
theorem xk_0_6 {r : Nat} (h : ps_is r 0 = true) : ps_is (ps_c0 r 6) 6 = true := xk_of (c := 0) (q := 6) (k := 6) (by decide) (by decide) h
theorem xk_0_7 {r : Nat} (h : ps_is r 0 = true) : ps_ar (ps_c0 r 7) 0 = true ∧ (ps_c0 r 7) < 1131 := xKb_a (k := 100) (by decide) (xk_of (c := 0) (q := 7) (k := 100) (by decide) (by decide) h)
theorem xk_0_8 {r : Nat} (h : ps_is r 0 = true) : ps_ar (ps_c0 r 8) 0 = true ∧ (ps_c0 r 8) < 1131 := xKb_a (k := 100) (by decide) (xk_of (c := 0) (q := 8) (k := 100) (by decide) (by decide) h)
theorem xk_0_9 {r : Nat} (h : ps_is r 0 = true) : ps_ar (ps_c0 r 9) 0 = true ∧ (ps_c0 r 9) < 1131 := xKb_a (k := 100) (by decide) (xk_of (c := 0) (q := 9) (k := 100) (by decide) (by decide) h)
theorem xk_0_12 {r : Nat} (h : ps_is r 0 = true) : ps_ar (ps_c0 r 12) 3 = true ∧ (ps_c0 r 12) < 1131 := xKb_a (k := 103) (by decide) (xk_of (c := 0) (q := 12) (k := 103) (by decide) (by decide) h)
theorem xk_0_13 {r : Nat} (h : ps_is r 0 = true) : ps_ar (ps_c0 r 13) 3 = true ∧ (ps_c0 r 13) < 1131 := xKb_a (k := 103) (by decide) (xk_of (c := 0) (q := 13) (k := 103) (by decide) (by decide) h)
theorem xj_0_14 {m s : ps_S} {t : Int32} {r : Nat} (J : xJ m t s) (h : ps_is r 0 = true) : ps_is (ps_r s r 14) 5 = true := J.1 _ 0 14 5 h rfl
theorem xw_0_14 {m s : ps_S} {t : Int32} {r v : Nat} (h : ps_is r 0 = true) (hv : ps_is (v) 5 = true) (J : xJ m t s) : xJ m t (ps_ur s r 14 v) := xw_r (c := 0) (k := 5) rfl h hv J
theorem xj_0_15 {m s : ps_S} {t : Int32} {r : Nat} (J : xJ m t s) (h : ps_is r 0 = true) : ps_is (ps_r s r 15) 6 = true := J.1 _ 0 15 6 h rfl
theorem xw_0_15 {m s : ps_S} {t : Int32} {r v : Nat} (h : ps_is r 0 = true) (hv : ps_is (v) 6 = true) (J : xJ m t s) : xJ m t (ps_ur s r 15 v) := xw_r (c := 0) (k := 6) rfl h hv J
theorem xj_0_16 {m s : ps_S} {t : Int32} {r : Nat} (J : xJ m t s) (h : ps_is r 0 = true) : ps_is (ps_r s r 16) 9 = true := J.1 _ 0 16 9 h rfl
theorem xw_0_16 {m s : ps_S} {t : Int32} {r v : Nat} (h : ps_is r 0 = true) (hv : ps_is (v) 9 = true) (J : xJ m t s) : xJ m t (ps_ur s r 16 v) := xw_r (c := 0) (k := 9) rfl h hv J
theorem xk_1_0 {r : Nat} (h : ps_is r 1 = true) : ps_is (ps_c0 r 0) 6 = true := xk_of (c := 1) (q := 0) (k := 6) (by decide) (by decide) h
theorem xk_1_1 {r : Nat} (h : ps_is r 1 = true) : ps_ar (ps_c0 r 1) 0 = true ∧ (ps_c0 r 1) < 1131 := xKb_a (k := 100) (by decide) (xk_of (c := 1) (q := 1) (k := 100) (by decide) (by decide) h)
theorem xk_1_3 {r : Nat} (h : ps_is r 1 = true) : ps_ar (ps_c0 r 3) 0 = true ∧ (ps_c0 r 3) < 1131 := xKb_a (k := 100) (by decide) (xk_of (c := 1) (q := 3) (k := 100) (by decide) (by decide) h)
theorem xk_1_5 {r : Nat} (h : ps_is r 1 = true) : ps_ar (ps_c0 r 5) 0 = true ∧ (ps_c0 r 5) < 1131 := xKb_a (k := 100) (by decide) (xk_of (c := 1) (q := 5) (k := 100) (by decide) (by decide) h)
theorem xk_2_0 {r : Nat} (h : ps_is r 2 = true) : ps_ar (ps_c0 r 0) 7 = true ∧ (ps_c0 r 0) < 1131 := xKb_a (k := 107) (by decide) (xk_of (c := 2) (q := 0) (k := 107) (by decide) (by decide) h)
theorem xk_2_1 {r : Nat} (h : ps_is r 2 = true) : ps_is (ps_c0 r 1) 8 = true := xk_of (c := 2) (q := 1) (k := 8) (by decide) (by decide) h
theorem xk_2_2 {r : Nat} (h : ps_is r 2 = true) : ps_ar (ps_c0 r 2) 4 = true ∧ (ps_c0 r 2) < 1131 := xKb_a (k := 104) (by decide) (xk_of (c := 2) (q := 2) (k := 104) (by decide) (by decide) h)
theorem xk_2_3 {r : Nat} (h : ps_is r 2 = true) : ps_is (ps_c0 r 3) 5 = true := xk_of (c := 2) (q := 3) (k := 5) (by decide) (by decide) h
theorem xk_2_4 {r : Nat} (h : ps_is r 2 = true) : ps_is (ps_c0 r 4) 5 = true := xk_of (c := 2) (q := 4) (k := 5) (by decide) (by decide) h
theorem xk_2_5 {r : Nat} (h : ps_is r 2 = true) : ps_is (ps_c0 r 5) 6 = true := xk_of (c := 2) (q := 5) (k := 6) (by decide) (by decide) h
theorem xj_2_6 {m s : ps_S} {t : Int32} {r : Nat} (J : xJ m t s) (h : ps_is r 2 = true) : ps_is (ps_r s r 6) 9 = true := J.1 _ 2 6 9 h rfl
theorem xw_2_6 {m s : ps_S} {t : Int32} {r v : Nat} (h : ps_is r 2 = true) (hv : ps_is (v) 9 = true) (J : xJ m t s) : xJ m t (ps_ur s r 6 v) := xw_r (c := 2) (k := 9) rfl h hv J
theorem xk_3_0 {r : Nat} (h : ps_is r 3 = true) : ps_is (ps_c0 r 0) 10 = true := xk_of (c := 3) (q := 0) (k := 10) (by decide) (by decide) h
theorem xk_3_1 {r : Nat} (h : ps_is r 3 = true) : ps_ar (ps_c0 r 1) 3 = true ∧ (ps_c0 r 1) < 1131 := xKb_a (k := 103) (by decide) (xk_of (c := 3) (q := 1) (k := 103) (by decide) (by decide) h)
theorem xk_3_3 {r : Nat} (h : ps_is r 3 = true) : ps_ar (ps_c0 r 3) 3 = true ∧ (ps_c0 r 3) < 1131 := xKb_a (k := 103) (by decide) (xk_of (c := 3) (q := 3) (k := 103) (by decide) (by decide) h)
theorem xj_3_5 {m s : ps_S} {t : Int32} {r : Nat} (J : xJ m t s) (h : ps_is r 3 = true) : ps_is (ps_r s r 5) 9 = true := J.1 _ 3 5 9 h rfl
theorem xw_3_5 {m s : ps_S} {t : Int32} {r v : Nat} (h : ps_is r 3 = true) (hv : ps_is (v) 9 = true) (J : xJ m t s) : xJ m t (ps_ur s r 5 v) := xw_r (c := 3) (k := 9) rfl h hv J
theorem xj_3_6 {m s : ps_S} {t : Int32} {r : Nat} (J : xJ m t s) (h : ps_is r 3 = true) : ps_is (ps_r s r 6) 5 = true := J.1 _ 3 6 5 h rfl
theorem xw_3_6 {m s : ps_S} {t : Int32} {r v : Nat} (h : ps_is r 3 = true) (hv : ps_is (v) 5 = true) (J : xJ m t s) : xJ m t (ps_ur s r 6 v) := xw_r (c := 3) (k := 5) rfl h hv J
theorem xk_4_0 {r : Nat} (h : ps_is r 4 = true) : ps_is (ps_c0 r 0) 5 = true := xk_of (c := 4) (q := 0) (k := 5) (by decide) (by decide) h
theorem xk_4_1 {r : Nat} (h : ps_is r 4 = true) : ps_is (ps_c0 r 1) 5 = true := xk_of (c := 4) (q := 1) (k := 5) (by decide) (by decide) h
theorem xk_4_2 {r : Nat} (h : ps_is r 4 = true) : ps_is (ps_c0 r 2) 6 = true := xk_of (c := 4) (q := 2) (k := 6) (by decide) (by decide) h
theorem xk_4_3 {r : Nat} (h : ps_is r 4 = true) : ps_is (ps_c0 r 3) 6 = true := xk_of (c := 4) (q := 3) (k := 6) (by decide) (by decide) h
theorem xk_4_4 {r : Nat} (h : ps_is r 4 = true) : ps_ar (ps_c0 r 4) 0 = true ∧ (ps_c0 r 4) < 1131 := xKb_a (k := 100) (by decide) (xk_of (c := 4) (q := 4) (k := 100) (by decide) (by decide) h)
theorem xk_4_5 {r : Nat} (h : ps_is r 4 = true) : ps_ar (ps_c0 r 5) 0 = true ∧ (ps_c0 r 5) < 1131 := xKb_a (k := 100) (by decide) (xk_of (c := 4) (q := 5) (k := 100) (by decide) (by decide) h)
theorem xk_4_6 {r : Nat} (h : ps_is r 4 = true) : ps_ar (ps_c0 r 6) 0 = true ∧ (ps_c0 r 6) < 1131 := xKb_a (k := 100) (by decide) (xk_of (c := 4) (q := 6) (k := 100) (by decide) (by decide) h)
theorem xk_4_7 {r : Nat} (h : ps_is r 4 = true) : ps_ar (ps_c0 r 7) 0 = true ∧ (ps_c0 r 7) < 1131 := xKb_a (k := 100) (by decide) (xk_of (c := 4) (q := 7) (k := 100) (by decide) (by decide) h)
theorem xk_5_0 {r : Nat} (h : ps_is r 5 = true) : ps_ar (ps_c0 r 0) 0 = true ∧ (ps_c0 r 0) < 1131 := xKb_a (k := 100) (by decide) (xk_of (c := 5) (q := 0) (k := 100) (by decide) (by decide) h)
theorem xk_6_0 {r : Nat} (h : ps_is r 6 = true) : ps_ar (ps_c0 r 0) 0 = true ∧ (ps_c0 r 0) < 1131 := xKb_a (k := 100) (by decide) (xk_of (c := 6) (q := 0) (k := 100) (by decide) (by decide) h)
theorem xk_6_1 {r : Nat} (h : ps_is r 6 = true) : ps_ar (ps_c0 r 1) 0 = true ∧ (ps_c0 r 1) < 1131 := xKb_a (k := 100) (by decide) (xk_of (c := 6) (q := 1) (k := 100) (by decide) (by decide) h)
theorem xk_6_2 {r : Nat} (h : ps_is r 6 = true) : ps_ar (ps_c0 r 2) 0 = true ∧ (ps_c0 r 2) < 1131 := xKb_a (k := 100) (by decide) (xk_of (c := 6) (q := 2) (k := 100) (by decide) (by decide) h)
theorem xk_7_0 {r : Nat} (h : ps_is r 7 = true) : ps_ar (ps_c0 r 0) 4 = true ∧ (ps_c0 r 0) < 1131 := xKb_a (k := 104) (by decide) (xk_of (c := 7) (q := 0) (k := 104) (by decide) (by decide) h)
theorem xk_7_1 {r : Nat} (h : ps_is r 7 = true) : ps_is (ps_c0 r 1) 5 = true := xk_of (c := 7) (q := 1) (k := 5) (by decide) (by decide) h
theorem xk_7_2 {r : Nat} (h : ps_is r 7 = true) : ps_ar (ps_c0 r 2) 0 = true ∧ (ps_c0 r 2) < 1131 := xKb_a (k := 100) (by decide) (xk_of (c := 7) (q := 2) (k := 100) (by decide) (by decide) h)
theorem xk_7_3 {r : Nat} (h : ps_is r 7 = true) : ps_ar (ps_c0 r 3) 0 = true ∧ (ps_c0 r 3) < 1131 := xKb_a (k := 100) (by decide) (xk_of (c := 7) (q := 3) (k := 100) (by decide) (by decide) h)
theorem xk_7_4 {r : Nat} (h : ps_is r 7 = true) : ps_ar (ps_c0 r 4) 0 = true ∧ (ps_c0 r 4) < 1131 := xKb_a (k := 100) (by decide) (xk_of (c := 7) (q := 4) (k := 100) (by decide) (by decide) h)
theorem xk_8_1 {r : Nat} (h : ps_is r 8 = true) : ps_ar (ps_c0 r 1) 0 = true ∧ (ps_c0 r 1) < 1131 := xKb_a (k := 100) (by decide) (xk_of (c := 8) (q := 1) (k := 100) (by decide) (by decide) h)
theorem xk_8_4 {r : Nat} (h : ps_is r 8 = true) : ps_is (ps_c0 r 4) 5 = true := xk_of (c := 8) (q := 4) (k := 5) (by decide) (by decide) h
theorem xk_8_5 {r : Nat} (h : ps_is r 8 = true) : ps_is (ps_c0 r 5) 5 = true := xk_of (c := 8) (q := 5) (k := 5) (by decide) (by decide) h
theorem xk_8_6 {r : Nat} (h : ps_is r 8 = true) : ps_is (ps_c0 r 6) 5 = true := xk_of (c := 8) (q := 6) (k := 5) (by decide) (by decide) h
theorem xk_8_7 {r : Nat} (h : ps_is r 8 = true) : ps_ar (ps_c0 r 7) 0 = true ∧ (ps_c0 r 7) < 1131 := xKb_a (k := 100) (by decide) (xk_of (c := 8) (q := 7) (k := 100) (by decide) (by decide) h)
theorem xk_9_0 {r : Nat} (h : ps_is r 9 = true) : ps_ar (ps_c0 r 0) 3 = true ∧ (ps_c0 r 0) < 1131 := xKb_a (k := 103) (by decide) (xk_of (c := 9) (q := 0) (k := 103) (by decide) (by decide) h)
theorem xk_9_1 {r : Nat} (h : ps_is r 9 = true) : ps_ar (ps_c0 r 1) 3 = true ∧ (ps_c0 r 1) < 1131 := xKb_a (k := 103) (by decide) (xk_of (c := 9) (q := 1) (k := 103) (by decide) (by decide) h)
theorem xk_9_2 {r : Nat} (h : ps_is r 9 = true) : ps_ar (ps_c0 r 2) 3 = true ∧ (ps_c0 r 2) < 1131 := xKb_a (k := 103) (by decide) (xk_of (c := 9) (q := 2) (k := 103) (by decide) (by decide) h)
theorem xk_9_3 {r : Nat} (h : ps_is r 9 = true) : ps_ar (ps_c0 r 3) 0 = true ∧ (ps_c0 r 3) < 1131 := xKb_a (k := 100) (by decide) (xk_of (c := 9) (q := 3) (k := 100) (by decide) (by decide) h)
theorem xk_9_4 {r : Nat} (h : ps_is r 9 = true) : ps_ar (ps_c0 r 4) 4 = true ∧ (ps_c0 r 4) < 1131 := xKb_a (k := 104) (by decide) (xk_of (c := 9) (q := 4) (k := 104) (by decide) (by decide) h)
theorem xk_9_5 {r : Nat} (h : ps_is r 9 = true) : ps_is (ps_c0 r 5) 5 = true := xk_of (c := 9) (q := 5) (k := 5) (by decide) (by decide) h
theorem xk_10_0 {r : Nat} (h : ps_is r 10 = true) : ps_ar (ps_c0 r 0) 3 = true ∧ (ps_c0 r 0) < 1131 := xKb_a (k := 103) (by decide) (xk_of (c := 10) (q := 0) (k := 103) (by decide) (by decide) h)
theorem xj_10_1 {m s : ps_S} {t : Int32} {r : Nat} (J : xJ m t s) (h : ps_is r 10 = true) : ps_ar (ps_r s r 1) 1 = true ∧ (ps_r s r 1) < 1131 := xKb_a (k := 101) (by decide) (J.1 _ 10 1 101 h rfl)
theorem xw_10_1 {m s : ps_S} {t : Int32} {r v : Nat} (h : ps_is r 10 = true) (hv : ps_ar (v) 1 = true ∧ (v) < 1131) (J : xJ m t s) : xJ m t (ps_ur s r 1 v) := xw_r (c := 10) (k := 101) rfl h (xKb_a_i (by decide) hv) J
theorem xk_11_0 {r : Nat} (h : ps_is r 11 = true) : ps_ar (ps_c0 r 0) 1 = true ∧ (ps_c0 r 0) < 1131 := xKb_a (k := 101) (by decide) (xk_of (c := 11) (q := 0) (k := 101) (by decide) (by decide) h)
theorem xj_11_2 {m s : ps_S} {t : Int32} {r : Nat} (J : xJ m t s) (h : ps_is r 11 = true) : ps_is (ps_r s r 2) 9 = true := J.1 _ 11 2 9 h rfl
theorem xw_11_2 {m s : ps_S} {t : Int32} {r v : Nat} (h : ps_is r 11 = true) (hv : ps_is (v) 9 = true) (J : xJ m t s) : xJ m t (ps_ur s r 2 v) := xw_r (c := 11) (k := 9) rfl h hv J
theorem xj_11_3 {m s : ps_S} {t : Int32} {r : Nat} (J : xJ m t s) (h : ps_is r 11 = true) : ps_is (ps_r s r 3) 9 = true := J.1 _ 11 3 9 h rfl
theorem xw_11_3 {m s : ps_S} {t : Int32} {r v : Nat} (h : ps_is r 11 = true) (hv : ps_is (v) 9 = true) (J : xJ m t s) : xJ m t (ps_ur s r 3 v) := xw_r (c := 11) (k := 9) rfl h hv J
theorem xj_11_4 {m s : ps_S} {t : Int32} {r : Nat} (J : xJ m t s) (h : ps_is r 11 = true) : ps_is (ps_r s r 4) 2 = true := J.1 _ 11 4 2 h rfl
theorem xw_11_4 {m s : ps_S} {t : Int32} {r v : Nat} (h : ps_is r 11 = true) (hv : ps_is (v) 2 = true) (J : xJ m t s) : xJ m t (ps_ur s r 4 v) := xw_r (c := 11) (k := 2) rfl h hv J
theorem xj_11_5 {m s : ps_S} {t : Int32} {r : Nat} (J : xJ m t s) (h : ps_is r 11 = true) : ps_is (ps_r s r 5) 2 = true := J.1 _ 11 5 2 h rfl
theorem xw_11_5 {m s : ps_S} {t : Int32} {r v : Nat} (h : ps_is r 11 = true) (hv : ps_is (v) 2 = true) (J : xJ m t s) : xJ m t (ps_ur s r 5 v) := xw_r (c := 11) (k := 2) rfl h hv J
theorem xk_11_6 {r : Nat} (h : ps_is r 11 = true) : ps_is (ps_c0 r 6) 7 = true := xk_of (c := 11) (q := 6) (k := 7) (by decide) (by decide) h
theorem xk_11_7 {r : Nat} (h : ps_is r 11 = true) : ps_ar (ps_c0 r 7) 6 = true ∧ (ps_c0 r 7) < 1131 := xKb_a (k := 106) (by decide) (xk_of (c := 11) (q := 7) (k := 106) (by decide) (by decide) h)
theorem xk_11_8 {r : Nat} (h : ps_is r 11 = true) : ps_is (ps_c0 r 8) 3 = true := xk_of (c := 11) (q := 8) (k := 3) (by decide) (by decide) h
theorem xk_11_9 {r : Nat} (h : ps_is r 11 = true) : ps_is (ps_c0 r 9) 5 = true := xk_of (c := 11) (q := 9) (k := 5) (by decide) (by decide) h
theorem xk_11_10 {r : Nat} (h : ps_is r 11 = true) : ps_is (ps_c0 r 10) 1 = true := xk_of (c := 11) (q := 10) (k := 1) (by decide) (by decide) h
theorem xk_11_11 {r : Nat} (h : ps_is r 11 = true) : ps_is (ps_c0 r 11) 0 = true := xk_of (c := 11) (q := 11) (k := 0) (by decide) (by decide) h
theorem xk_11_12 {r : Nat} (h : ps_is r 11 = true) : ps_is (ps_c0 r 12) 4 = true := xk_of (c := 11) (q := 12) (k := 4) (by decide) (by decide) h
theorem xe_4 {r n : Nat} {i : Int32} (h : ps_ar r 4 = true) (hi : pm_in i n = true) (hn : n = ps_ln r := by rfl) : ps_is (ps_e0 r i.toNatClampNeg) 5 = true := xe_of (by decide) h (hn ▸ hi)
theorem xe_5 {r n : Nat} {i : Int32} (h : ps_ar r 5 = true) (hi : pm_in i n = true) (hn : n = ps_ln r := by rfl) : ps_is (ps_e0 r i.toNatClampNeg) 6 = true := xe_of (by decide) h (hn ▸ hi)
theorem xe_6 {r n : Nat} {i : Int32} (h : ps_ar r 6 = true) (hi : pm_in i n = true) (hn : n = ps_ln r := by rfl) : ps_is (ps_e0 r i.toNatClampNeg) 7 = true := xe_of (by decide) h (hn ▸ hi)
theorem xe_7 {r n : Nat} {i : Int32} (h : ps_ar r 7 = true) (hi : pm_in i n = true) (hn : n = ps_ln r := by rfl) : ps_is (ps_e0 r i.toNatClampNeg) 8 = true := xe_of (by decide) h (hn ▸ hi)
theorem xn_0 {r : Nat} (h : ps_ar r 0 = true) : ps_ar r 0 = true := h
theorem xn_1 {r : Nat} (h : ps_ar r 1 = true) : (ps_ar r 1 || ps_ar r 2) = true := by rw [h]; rfl
theorem xn_2 {r : Nat} (h : ps_ar r 2 = true) : (ps_ar r 1 || ps_ar r 2) = true := by rw [h]; exact Bool.or_true _
theorem xn_3 {r : Nat} (h : ps_ar r 3 = true) : ps_ar r 3 = true := h
theorem xn_4 {r : Nat} (h : ps_ar r 4 = true) : (ps_ar r 4 || ps_ar r 5 || ps_ar r 6 || ps_ar r 7) = true := by rw [h]; simp
theorem xn_5 {r : Nat} (h : ps_ar r 5 = true) : (ps_ar r 4 || ps_ar r 5 || ps_ar r 6 || ps_ar r 7) = true := by rw [h]; simp
theorem xn_6 {r : Nat} (h : ps_ar r 6 = true) : (ps_ar r 4 || ps_ar r 5 || ps_ar r 6 || ps_ar r 7) = true := by rw [h]; simp
theorem xn_7 {r : Nat} (h : ps_ar r 7 = true) : (ps_ar r 4 || ps_ar r 5 || ps_ar r 6 || ps_ar r 7) = true := by rw [h]; simp
theorem xn_l {r t : Nat} (h : ps_ar r t = true) : Nat.beq (ps_K r).1 0 = true := by rw [(ps_ar_lt h).2]; rfl
theorem xI_add {a b : Int32} (h1 : -2147483648 ≤ a.toInt + b.toInt) (h2 : a.toInt + b.toInt < 2147483648) : (a + b).toInt = a.toInt + b.toInt := by
  rw [Int32.toInt_add]
  exact Int.bmod_eq_of_le (by omega) (by omega)
theorem xg_in {i : Int32} {n : Nat} (h1 : 0 ≤ i) (h2 : i < nI n) : pm_in i n = true := by
  unfold pm_in
  rw [Bool.and_eq_true]
  refine ⟨decide_eq_true h1, Nat.ble_eq_true_of_le ?_⟩
  have h1' : ¬ i < 0 := by rw [Int32.lt_iff_toInt_lt]; rw [Int32.le_iff_toInt_le] at h1; omega
  obtain ⟨j, hj, rfl⟩ := nI_of h1'
  rw [nI_clamp hj]
  refine Nat.lt_of_not_le (fun q => ?_)
  rw [Int32.lt_iff_toInt_lt, nI_toInt hj, nI_toInt (by omega)] at h2
  omega
theorem xg_nz {i : Int32} (h : 0 < i) : (!decide (i = 0)) = true := by
  have : i ≠ 0 := fun z => by
    rw [z] at h
    rw [Int32.lt_iff_toInt_lt] at h
    omega
  simp [this]
theorem xone : (1 : Int32).toInt = 1 := by decide
theorem xmone : (-1 : Int32).toInt = -1 := by decide
theorem xs_lt {x b : Int32} (h : x < b) : x < x + 1 := by
  rw [Int32.lt_iff_toInt_lt] at *
  have := Int32.toInt_lt b
  have := Int32.le_toInt x
  rw [xI_add (by rw [xone]; omega) (by rw [xone]; omega), xone]
  omega
theorem xs_le {x b : Int32} (h : x ≤ b) (hb : b.toInt < 2147483647) : x < x + 1 := by
  rw [Int32.le_iff_toInt_le] at h
  rw [Int32.lt_iff_toInt_lt]
  have := Int32.le_toInt x
  rw [xI_add (by rw [xone]; omega) (by rw [xone]; omega), xone]
  omega
theorem xs_ge {x : Int32} (h : 0 ≤ x) : x + (-1) < x := by
  rw [Int32.le_iff_toInt_le, Int32.toInt_zero] at h
  rw [Int32.lt_iff_toInt_lt]
  have := Int32.toInt_lt x
  rw [xI_add (by rw [xmone]; omega) (by rw [xmone]; omega), xmone]
  omega
theorem xs_gt {x : Int32} (h : 0 < x) : x + (-1) < x := xs_ge (Int32.le_of_lt h)
theorem xs_nn {x b : Int32} (h0 : 0 ≤ x) (h : x < b) : 0 ≤ x + 1 := by
  have h1 := xs_lt h
  rw [Int32.lt_iff_toInt_lt] at h1
  rw [Int32.le_iff_toInt_le] at *
  omega
theorem xs_max {x b v : Int32} (h : x < b) : x < if (x + 1) < v then v else (x + 1) := by
  have h1 := xs_lt h
  split
  · next q =>
    rw [Int32.lt_iff_toInt_lt] at *
    omega
  · exact h1
theorem xs_up {P : Int32 → Prop} (h : ∀ i, (∀ j, i < j → P j) → P i) (i : Int32) : P i := by
  have key : ∀ (n : Nat) (i : Int32), 2147483648 - i.toInt ≤ n → P i := by
    intro n
    induction n with
    | zero => intro i hi; have := Int32.toInt_lt i; omega
    | succ n ih => intro i hi; exact h i (fun j hj => ih j (by rw [Int32.lt_iff_toInt_lt] at hj; omega))
  exact key (2147483648 - i.toInt).toNat i (by omega)
theorem xs_dn {P : Int32 → Prop} (h : ∀ i, (∀ j, j < i → P j) → P i) (i : Int32) : P i := by
  have key : ∀ (n : Nat) (i : Int32), i.toInt + 2147483648 ≤ n → P i := by
    intro n
    induction n with
    | zero => intro i hi; exact h i (fun j hj => by rw [Int32.lt_iff_toInt_lt] at hj; have := Int32.le_toInt j; omega)
    | succ n ih => intro i hi; exact h i (fun j hj => ih j (by rw [Int32.lt_iff_toInt_lt] at hj; omega))
  exact key (i.toInt + 2147483648).toNat i (by have := Int32.le_toInt i; omega)
/-- a formula's depth, a term's: what the next level gives -/
def xsF (d : Nat) (x : Int32) : Prop := ∀ (m s : ps_S) (t : Int32) (r0 : Nat) (f : Int32 → ps_S → Prop), ps_is r0 3 = true → xJ m t s → (∀ (v : Int32) (s' : ps_S), v &&& 1 = v → xJ m t s' → f v s') → ps_Cl (d + 8) 70 [.ref r0, .int x] s (ps_rI f)
def xsT (d : Nat) (x : Int32) : Prop := ∀ (m s : ps_S) (t : Int32) (r0 : Nat) (f : Int32 → ps_S → Prop), ps_is r0 3 = true → xJ m t s → (∀ (v : Int32) (s' : ps_S), v &&& 1 = v → xJ m t s' → f v s') → ps_Cl (d + 8) 76 [.ref r0, .int x] s (ps_rI f)
def xsS (d : Nat) (x : Int32) : Prop := ∀ (m s : ps_S) (t : Int32) (r0 : Nat) (x1 x2 : Int32) (f : Int32 → ps_S → Prop), ps_is r0 0 = true → xJ m t s → (∀ (v : Int32) (s' : ps_S), v &&& 1 = v → xJ m t s' → f v s') → ps_Cl (d + 8) 15 [.ref r0, .int x1, .int x2, .int x] s (ps_rI f)
def xsG (d : Nat) (x : Int32) : Prop := ∀ (m s : ps_S) (t : Int32) (r0 : Nat) (x1 x2 : Int32) (f : Int32 → ps_S → Prop), ps_is r0 0 = true → xJ m t s → (∀ (v : Int32), f v s) → ps_Cl (d + 8) 18 [.ref r0, .int x1, .int x2, .int x] s (ps_rI f)
end
section
set_option maxRecDepth 100000
-- ProofBench$Judge.forget()V
theorem pg_1_0 {d : Nat} {r0 : Nat} {s : ps_S} {Q : Option Value → ps_S → Prop} (h :
  ps_At d 1 2 [(0, .ref r0), (1, .int 0)] [] s Q) : ps_At d 1 0 [(0, .ref r0)] [] s Q :=
  ps_wp_at (stops := [(2, [0, 1])]) (n := 4) h rfl

theorem pg_1_2 {d : Nat} {r0 : Nat} {x1 : Int32} {s : ps_S} {Q : Option Value → ps_S → Prop} (h :
  ps_nk (ps_is r0 0) (ps_nk (Nat.beq (ps_K (ps_c0 r0 12)).1 0) (((nI (ps_ln (ps_c0 r0 12))) ≤ x1 →
    Q none s) ∧
  (x1 < (nI (ps_ln (ps_c0 r0 12))) →
    ps_nk (ps_is r0 0) (ps_nk (ps_ar (ps_c0 r0 12) 3) (ps_nd (pm_in x1 (ps_ln (ps_c0 r0 12))) (ps_At d 1 2 [(0, .ref r0), (1, .int (x1 + 1))] [] (ps_ub s (ps_c0 r0 12) (Int32.toNatClampNeg x1) 0) Q))))))) : ps_At d 1 2 [(0, .ref r0), (1, .int x1)] [] s Q :=
  ps_wp_at (stops := [(2, [0, 1])]) (n := 15) h rfl

theorem xs_1_2 {m s : ps_S} {t : Int32} {d : Nat} {r0 : Nat} {x1 : Int32} {Q : Option Value → ps_S → Prop} (h0 : ps_is r0 0 = true) (e0 : 0 ≤ x1) (J : xJ m t s) (k : ∀ (s' : ps_S), xJ m t s' → Q none s') : ps_At d 1 2 [(0, .ref r0), (1, .int x1)] [] s Q :=
  xs_up (P := fun x1 => ∀ (s : ps_S), ps_is r0 0 = true → 0 ≤ x1 → xJ m t s → ps_At d 1 2 [(0, .ref r0), (1, .int x1)] [] s Q) (fun x1 ih s h0 e0 J => pg_1_2 (ps_nk_i h0 (ps_nk_i (xn_l ((xk_0_12 h0)).1) (And.intro (fun f1 => (k s J)) (fun f1 => (ps_nk_i h0 (ps_nk_i (xn_3 ((xk_0_12 h0)).1) (ps_nd_i (xg_in e0 f1) (ih ((x1 + 1)) (xs_lt f1) (ps_ub s (ps_c0 r0 12) (Int32.toNatClampNeg x1) 0) h0 (xs_nn e0 f1) (xw_b (((xk_0_12 h0)).2) J)))))))))) x1 s h0 e0 J

theorem xs_1 {m s : ps_S} {t : Int32} {d : Nat} {r0 : Nat} {f : ps_S → Prop} (h0 : ps_is r0 0 = true) (J : xJ m t s) (k : ∀ (s' : ps_S), xJ m t s' → f s') : ps_Cl d 1 [.ref r0] s (ps_rV f) :=
  pg_1_0 (xs_1_2 (d := d) (r0 := r0) (x1 := 0)  h0 (by decide) J k )

-- ProofBench.putAt([III)V
theorem pg_183_0 {d : Nat} {r0 : Nat} {x1 : Int32} {x2 : Int32} {s : ps_S} {Q : Option Value → ps_S → Prop} (h :
  (x1 < 0 →
    Q none s) ∧
  (0 ≤ x1 →
    ps_nk (Nat.beq (ps_K r0).1 0) (((nI (ps_ln r0)) ≤ x1 →
      Q none s) ∧
    (x1 < (nI (ps_ln r0)) →
      ps_nk (ps_ar r0 0) (ps_nd (pm_in x1 (ps_ln r0)) (Q none (ps_ua s r0 (Int32.toNatClampNeg x1) x2))))))) : ps_At d 183 0 [(0, .ref r0), (1, .int x1), (2, .int x2)] [] s Q :=
  ps_wp_at (stops := []) (n := 15) h rfl

theorem xs_183 {m s : ps_S} {t : Int32} {d : Nat} {r0 : Nat} {x1 : Int32} {x2 : Int32} {f : ps_S → Prop} (h0 : ps_ar r0 0 = true ∧ r0 < 1131) (J : xJ m t s) (k : ∀ (s' : ps_S), xJ m t s' → ps_i s' = ps_i s → f s') : ps_Cl d 183 [.ref r0, .int x1, .int x2] s (ps_rV f) :=
  pg_183_0 (And.intro (fun f1 => (k s J rfl)) (fun f1 => (ps_nk_i (xn_l (h0).1) (And.intro (fun f2 => (k s J rfl)) (fun f2 => (ps_nk_i (xn_0 (h0).1) (ps_nd_i (xg_in f1 f2) (k (ps_ua s r0 (Int32.toNatClampNeg x1) x2) (xw_a ((h0).2) J) rfl))))))))

-- ProofBench$Theory.arity(I)I
theorem pg_136_0 {d : Nat} {r0 : Nat} {x1 : Int32} {s : ps_S} {Q : Option Value → ps_S → Prop} (h :
  (x1 < 0 →
    Q (some (.int 0)) s) ∧
  (0 ≤ x1 →
    ps_nk (ps_is r0 9) (ps_nk (Nat.beq (ps_K (ps_c0 r0 3)).1 0) (((nI (ps_ln (ps_c0 r0 3))) ≤ x1 →
      Q (some (.int 0)) s) ∧
    (x1 < (nI (ps_ln (ps_c0 r0 3))) →
      ps_nk (ps_is r0 9) (ps_nk (ps_ar (ps_c0 r0 3) 0) (ps_nd (pm_in x1 (ps_ln (ps_c0 r0 3))) (Q (some (.int (ps_a s (ps_c0 r0 3) (Int32.toNatClampNeg x1)))) s)))))))) : ps_At d 136 0 [(0, .ref r0), (1, .int x1)] [] s Q :=
  ps_wp_at (stops := []) (n := 19) h rfl

theorem xs_136 {m s : ps_S} {t : Int32} {d : Nat} {r0 : Nat} {x1 : Int32} {f : Int32 → ps_S → Prop} (h0 : ps_is r0 9 = true) (J : xJ m t s) (k : ∀ (v : Int32), f v s) : ps_Cl d 136 [.ref r0, .int x1] s (ps_rI f) :=
  pg_136_0 (And.intro (fun f1 => (k 0)) (fun f1 => (ps_nk_i h0 (ps_nk_i (xn_l ((xk_9_3 h0)).1) (And.intro (fun f2 => (k 0)) (fun f2 => (ps_nk_i h0 (ps_nk_i (xn_0 ((xk_9_3 h0)).1) (ps_nd_i (xg_in f1 f2) (k (ps_a s (ps_c0 r0 3) (Int32.toNatClampNeg x1))))))))))))

-- ProofBench$Judge.addDigits(II)V
theorem pg_7_0 {d : Nat} {r0 : Nat} {x1 : Int32} {x2 : Int32} {s : ps_S} {Q : Option Value → ps_S → Prop} (h :
  (x2 ≠ 0 →
    (x2 ≠ 1 →
      ps_nk (ps_is r0 0) (ps_nk (ps_is r0 0) (ps_At (d + 1) 7 33 [(0, .ref r0), (1, .int x1), (3, .int ((ps_i s r0 11) * (ps_i s r0 11))), (4, .int 0)] [] s Q))) ∧
    (x2 = 1 →
      ps_nk (ps_is r0 0) (ps_At (d + 1) 7 33 [(0, .ref r0), (1, .int x1), (3, .int (ps_i s r0 11)), (4, .int 0)] [] s Q))) ∧
  (x2 = 0 →
    ps_At (d + 1) 7 33 [(0, .ref r0), (1, .int x1), (3, .int 1), (4, .int 0)] [] s Q)) : ps_At (d + 1) 7 0 [(0, .ref r0), (1, .int x1), (2, .int x2)] [] s Q :=
  ps_wp_at (stops := [(33, [0, 1, 3, 4])]) (n := 26) h rfl

theorem pg_7_33 {d : Nat} {r0 : Nat} {x1 : Int32} {x3 : Int32} {x4 : Int32} {s : ps_S} {Q : Option Value → ps_S → Prop} (h :
  (x3 ≤ x4 →
    Q none s) ∧
  (x4 < x3 →
    ps_nk (ps_is r0 0) (ps_nk (ps_is r0 0) (ps_Cl d 183 [.ref (ps_c0 r0 0), .int (ps_i s r0 2), .int x1] s (ps_rV (fun s1 =>
      ps_nk (ps_is r0 0) (ps_nk (ps_is r0 0) (ps_At (d + 1) 7 33 [(0, .ref r0), (1, .int x1), (3, .int x3), (4, .int (x4 + 1))] [] (ps_ui s1 r0 2 ((ps_i s1 r0 2) + 1)) Q)))))))) : ps_At (d + 1) 7 33 [(0, .ref r0), (1, .int x1), (3, .int x3), (4, .int x4)] [] s Q :=
  ps_wp_at (stops := [(33, [0, 1, 3, 4])]) (n := 20) h rfl

theorem xs_7_33 {m s : ps_S} {t : Int32} {d : Nat} {r0 : Nat} {x1 : Int32} {x3 : Int32} {x4 : Int32} {Q : Option Value → ps_S → Prop} (h0 : ps_is r0 0 = true) (J : xJ m t s) (k : ∀ (s' : ps_S), xJ m t s' → Q none s') : ps_At (d + 1) 7 33 [(0, .ref r0), (1, .int x1), (3, .int x3), (4, .int x4)] [] s Q :=
  xs_up (P := fun x4 => ∀ (s : ps_S), ps_is r0 0 = true → xJ m t s → ps_At (d + 1) 7 33 [(0, .ref r0), (1, .int x1), (3, .int x3), (4, .int x4)] [] s Q) (fun x4 ih s h0 J => pg_7_33 (d := d) (And.intro (fun f1 => (k s J)) (fun f1 => (ps_nk_i h0 (ps_nk_i h0 (xs_183 (xk_0_0 h0) J (fun s1 J1 e1 => (ps_nk_i h0 (ps_nk_i h0 (ih ((x4 + 1)) (xs_lt f1) (ps_ui s1 r0 2 ((ps_i s1 r0 2) + 1)) h0 (xw_i (c := 0) (by decide) h0 J1))))))))))) x4 s h0 J

theorem xs_7 {m s : ps_S} {t : Int32} {d : Nat} {r0 : Nat} {x1 : Int32} {x2 : Int32} {f : ps_S → Prop} (h0 : ps_is r0 0 = true) (J : xJ m t s) (k : ∀ (s' : ps_S), xJ m t s' → f s') : ps_Cl (d + 1) 7 [.ref r0, .int x1, .int x2] s (ps_rV f) :=
  pg_7_0 (d := d) (And.intro (fun f1 => (And.intro (fun f2 => (ps_nk_i h0 (ps_nk_i h0 (xs_7_33 (d := d) (r0 := r0) (x1 := x1) (x3 := ((ps_i s r0 11) * (ps_i s r0 11))) (x4 := 0)  h0 J k )))) (fun f2 => (ps_nk_i h0 (xs_7_33 (d := d) (r0 := r0) (x1 := x1) (x3 := (ps_i s r0 11)) (x4 := 0)  h0 J k ))))) (fun f1 => (xs_7_33 (d := d) (r0 := r0) (x1 := x1) (x3 := 1) (x4 := 0)  h0 J k )))

-- ProofBench.valueAt([II)I
theorem pg_182_0 {d : Nat} {r0 : Nat} {x1 : Int32} {s : ps_S} {Q : Option Value → ps_S → Prop} (h :
  (x1 < 0 →
    Q (some (.int (-1))) s) ∧
  (0 ≤ x1 →
    ps_nk (Nat.beq (ps_K r0).1 0) (((nI (ps_ln r0)) ≤ x1 →
      Q (some (.int (-1))) s) ∧
    (x1 < (nI (ps_ln r0)) →
      ps_nk (ps_ar r0 0) (ps_nd (pm_in x1 (ps_ln r0)) (Q (some (.int (ps_a s r0 (Int32.toNatClampNeg x1)))) s)))))) : ps_At d 182 0 [(0, .ref r0), (1, .int x1)] [] s Q :=
  ps_wp_at (stops := []) (n := 17) h rfl

theorem xs_182 {m s : ps_S} {t : Int32} {d : Nat} {r0 : Nat} {x1 : Int32} {f : Int32 → ps_S → Prop} (h0 : ps_ar r0 0 = true ∧ r0 < 1131) (J : xJ m t s) (k : ∀ (v : Int32), f v s) : ps_Cl d 182 [.ref r0, .int x1] s (ps_rI f) :=
  pg_182_0 (And.intro (fun f1 => (k (-1))) (fun f1 => (ps_nk_i (xn_l (h0).1) (And.intro (fun f2 => (k (-1))) (fun f2 => (ps_nk_i (xn_0 (h0).1) (ps_nd_i (xg_in f1 f2) (k (ps_a s r0 (Int32.toNatClampNeg x1))))))))))

-- ProofBench$Judge.layTables(LProofBench$Theory;I)J
theorem pg_6_0 {d : Nat} {r0 : Nat} {r1 : Nat} {x2 : Int32} {s : ps_S} {Q : Option Value → ps_S → Prop} (h :
  ps_nk (ps_is r0 0) (ps_nk (ps_is r0 0) (ps_nk (ps_is r0 0) (ps_At (d + 1) 6 17 [(0, .ref r0), (2, .int x2), (3, .int 0)] [] (ps_ui (ps_ui (ps_ur s r0 16 r1) r0 11 x2) r0 2 0) Q)))) : ps_At (d + 1) 6 0 [(0, .ref r0), (1, .ref r1), (2, .int x2)] [] s Q :=
  ps_wp_at (stops := [(17, [0, 2, 3]), (64, [0, 2, 3]), (114, [0, 3, 5])]) (n := 13) h rfl

theorem pg_6_17 {d : Nat} {r0 : Nat} {x2 : Int32} {x3 : Int32} {s : ps_S} {Q : Option Value → ps_S → Prop} (h :
  ps_nk (ps_is r0 0) (ps_nk (ps_is (ps_r s r0 16) 9) (((ps_i s (ps_r s r0 16) 6) ≤ x3 →
    ps_At (d + 1) 6 64 [(0, .ref r0), (2, .int x2), (3, .int 0)] [] s Q) ∧
  (x3 < (ps_i s (ps_r s r0 16) 6) →
    ps_nk (ps_is r0 0) (ps_nk (ps_is r0 0) (ps_Cl d 183 [.ref (ps_c0 r0 3), .int x3, .int (ps_i s r0 2)] s (ps_rV (fun s1 =>
      ps_nk (ps_is r0 0) (ps_nk (ps_is (ps_r s1 r0 16) 9) (ps_Cl d 136 [.ref (ps_r s1 r0 16), .int ((10 : Int32) + x3)] s1 (ps_rI (fun v2 s2 =>
        ps_nk (ps_is r0 0) (ps_Cl d 7 [.ref r0, .int 2, .int v2] s2 (ps_rV (fun s3 =>
          ps_At (d + 1) 6 17 [(0, .ref r0), (2, .int x2), (3, .int (x3 + 1))] [] s3 Q))))))))))))))) : ps_At (d + 1) 6 17 [(0, .ref r0), (2, .int x2), (3, .int x3)] [] s Q :=
  ps_wp_at (stops := [(17, [0, 2, 3]), (64, [0, 2, 3]), (114, [0, 3, 5])]) (n := 26) h rfl

theorem pg_6_64 {d : Nat} {r0 : Nat} {x2 : Int32} {x3 : Int32} {s : ps_S} {Q : Option Value → ps_S → Prop} (h :
  ps_nk (ps_is r0 0) (ps_nk (ps_is (ps_r s r0 16) 9) (((ps_i s (ps_r s r0 16) 7) ≤ x3 →
    ps_At (d + 1) 6 114 [(0, .ref r0), (3, .long 1), (5, .int 0)] [] s Q) ∧
  (x3 < (ps_i s (ps_r s r0 16) 7) →
    ps_nk (ps_is r0 0) (ps_nk (ps_is r0 0) (ps_Cl d 183 [.ref (ps_c0 r0 4), .int x3, .int (ps_i s r0 2)] s (ps_rV (fun s1 =>
      ps_nk (ps_is r0 0) (ps_nk (ps_is (ps_r s1 r0 16) 9) (ps_Cl d 136 [.ref (ps_r s1 r0 16), .int ((20 : Int32) + x3)] s1 (ps_rI (fun v2 s2 =>
        ps_nk (ps_is r0 0) (ps_Cl d 7 [.ref r0, .int x2, .int v2] s2 (ps_rV (fun s3 =>
          ps_At (d + 1) 6 64 [(0, .ref r0), (2, .int x2), (3, .int (x3 + 1))] [] s3 Q))))))))))))))) : ps_At (d + 1) 6 64 [(0, .ref r0), (2, .int x2), (3, .int x3)] [] s Q :=
  ps_wp_at (stops := [(17, [0, 2, 3]), (64, [0, 2, 3]), (114, [0, 3, 5])]) (n := 28) h rfl

theorem pg_6_114 {d : Nat} {r0 : Nat} {l3 : Int64} {x5 : Int32} {s : ps_S} {Q : Option Value → ps_S → Prop} (h :
  ps_nk (ps_is r0 0) (((ps_i s r0 2) ≤ x5 →
    Q (some (.long l3)) s) ∧
  (x5 < (ps_i s r0 2) →
    ps_nk (ps_is r0 0) (ps_Cl d 182 [.ref (ps_c0 r0 0), .int x5] s (ps_rI (fun v1 s1 =>
      ps_At (d + 1) 6 114 [(0, .ref r0), (3, .long (if (1099511627776 : Int64) < (l3 * (Int32.toInt64 v1)) then (1099511627776 : Int64) else (l3 * (Int32.toInt64 v1)))), (5, .int (x5 + 1))] [] s1 Q)))))) : ps_At (d + 1) 6 114 [(0, .ref r0), (3, .long l3), (5, .int x5)] [] s Q :=
  ps_wp_at (stops := [(17, [0, 2, 3]), (64, [0, 2, 3]), (114, [0, 3, 5])]) (n := 20) h rfl

theorem xs_6_114 {m s : ps_S} {t : Int32} {d : Nat} {r0 : Nat} {l3 : Int64} {x5 : Int32} {Q : Option Value → ps_S → Prop} (h0 : ps_is r0 0 = true) (J : xJ m t s) (k : ∀ (v : Int64) (s' : ps_S), xJ m t s' → Q (some (.long v)) s') : ps_At (d + 2) 6 114 [(0, .ref r0), (3, .long l3), (5, .int x5)] [] s Q :=
  xs_up (P := fun x5 => ∀ (l3 : Int64) (s : ps_S), ps_is r0 0 = true → xJ m t s → ps_At (d + 2) 6 114 [(0, .ref r0), (3, .long l3), (5, .int x5)] [] s Q) (fun x5 ih l3 s h0 J => pg_6_114 (d := d + 1) (ps_nk_i h0 (And.intro (fun f1 => (k l3 s J)) (fun f1 => (ps_nk_i h0 (xs_182 (xk_0_0 h0) J (fun v1 => (ih ((x5 + 1)) (xs_lt f1) ((if (1099511627776 : Int64) < (l3 * (Int32.toInt64 v1)) then (1099511627776 : Int64) else (l3 * (Int32.toInt64 v1)))) s h0 J)))))))) x5 l3 s h0 J

theorem xs_6_64 {m s : ps_S} {t : Int32} {d : Nat} {r0 : Nat} {x2 : Int32} {x3 : Int32} {Q : Option Value → ps_S → Prop} (h0 : ps_is r0 0 = true) (J : xJ m t s) (k : ∀ (v : Int64) (s' : ps_S), xJ m t s' → Q (some (.long v)) s') : ps_At (d + 2) 6 64 [(0, .ref r0), (2, .int x2), (3, .int x3)] [] s Q :=
  xs_up (P := fun x3 => ∀ (s : ps_S), ps_is r0 0 = true → xJ m t s → ps_At (d + 2) 6 64 [(0, .ref r0), (2, .int x2), (3, .int x3)] [] s Q) (fun x3 ih s h0 J => pg_6_64 (d := d + 1) (ps_nk_i h0 (ps_nk_i (xj_0_16 J h0) (And.intro (fun f1 => (xs_6_114 (d := d) (r0 := r0) (l3 := 1) (x5 := 0)  h0 J k )) (fun f1 => (ps_nk_i h0 (ps_nk_i h0 (xs_183 (xk_0_4 h0) J (fun s1 J1 e1 => (ps_nk_i h0 (ps_nk_i (xj_0_16 J1 h0) (xs_136 (xj_0_16 J1 h0) J1 (fun v2 => (ps_nk_i h0 (xs_7 h0 J1 (fun s3 J3 => (ih ((x3 + 1)) (xs_lt f1) s3 h0 J3))))))))))))))))) x3 s h0 J

theorem xs_6_17 {m s : ps_S} {t : Int32} {d : Nat} {r0 : Nat} {x2 : Int32} {x3 : Int32} {Q : Option Value → ps_S → Prop} (h0 : ps_is r0 0 = true) (J : xJ m t s) (k : ∀ (v : Int64) (s' : ps_S), xJ m t s' → Q (some (.long v)) s') : ps_At (d + 2) 6 17 [(0, .ref r0), (2, .int x2), (3, .int x3)] [] s Q :=
  xs_up (P := fun x3 => ∀ (s : ps_S), ps_is r0 0 = true → xJ m t s → ps_At (d + 2) 6 17 [(0, .ref r0), (2, .int x2), (3, .int x3)] [] s Q) (fun x3 ih s h0 J => pg_6_17 (d := d + 1) (ps_nk_i h0 (ps_nk_i (xj_0_16 J h0) (And.intro (fun f1 => (xs_6_64 (d := d) (r0 := r0) (x2 := x2) (x3 := 0)  h0 J k )) (fun f1 => (ps_nk_i h0 (ps_nk_i h0 (xs_183 (xk_0_3 h0) J (fun s1 J1 e1 => (ps_nk_i h0 (ps_nk_i (xj_0_16 J1 h0) (xs_136 (xj_0_16 J1 h0) J1 (fun v2 => (ps_nk_i h0 (xs_7 h0 J1 (fun s3 J3 => (ih ((x3 + 1)) (xs_lt f1) s3 h0 J3))))))))))))))))) x3 s h0 J

theorem xs_6 {m s : ps_S} {t : Int32} {d : Nat} {r0 : Nat} {r1 : Nat} {x2 : Int32} {f : Int64 → ps_S → Prop} (h0 : ps_is r0 0 = true) (h1 : ps_is r1 9 = true) (J : xJ m t s) (k : ∀ (v : Int64) (s' : ps_S), xJ m t s' → f v s') : ps_Cl (d + 2) 6 [.ref r0, .ref r1, .int x2] s (ps_rJ f) :=
  pg_6_0 (d := d + 1) (ps_nk_i h0 (ps_nk_i h0 (ps_nk_i h0 (xs_6_17 (d := d) (r0 := r0) (x2 := x2) (x3 := 0)  h0 (xw_i (c := 0) (by decide) h0 (xw_i (c := 0) (by decide) h0 (xw_0_16 h0 h1 J))) k ))))

-- ProofBench$Judge.modelCount(LProofBench$Theory;I)I
theorem pg_2_0 {d : Nat} {r0 : Nat} {r1 : Nat} {x2 : Int32} {s : ps_S} {Q : Option Value → ps_S → Prop} (h :
  ps_nk (ps_is r0 0) (ps_Cl d 6 [.ref r0, .ref r1, .int x2] s (ps_rJ (fun v1 s1 =>
    ((lg_cmp v1 (4096 : Int64)) ≤ 0 →
      Q (some (.int (Int64.toInt32 v1))) s1) ∧
    (0 < (lg_cmp v1 (4096 : Int64)) →
      Q (some (.int (-2))) s1))))) : ps_At (d + 1) 2 0 [(0, .ref r0), (1, .ref r1), (2, .int x2)] [] s Q :=
  ps_wp_at (stops := []) (n := 17) h rfl

theorem xs_2 {m s : ps_S} {t : Int32} {d : Nat} {r0 : Nat} {r1 : Nat} {x2 : Int32} {f : Int32 → ps_S → Prop} (h0 : ps_is r0 0 = true) (h1 : ps_is r1 9 = true) (J : xJ m t s) (k : ∀ (v : Int32) (s' : ps_S), xJ m t s' → f v s') : ps_Cl (d + 3) 2 [.ref r0, .ref r1, .int x2] s (ps_rI f) :=
  pg_2_0 (d := d + 2) (ps_nk_i h0 (xs_6 h0 h1 J (fun v1 s1 J1 => (And.intro (fun f1 => (k (Int64.toInt32 v1) s1 J1)) (fun f1 => (k (-2) s1 J1))))))

-- ProofBench$Judge.shapeAt(I)LProofBench$Shape;
theorem pg_10_0 {d : Nat} {r0 : Nat} {x1 : Int32} {s : ps_S} {Q : Option Value → ps_S → Prop} (h :
  (x1 < 0 →
    ps_nk (ps_is r0 0) (Q (some (.ref (ps_c0 r0 6))) s)) ∧
  (0 ≤ x1 →
    ps_nk (ps_is r0 0) (ps_nk (Nat.beq (ps_K (ps_c0 r0 5)).1 0) (((nI (ps_ln (ps_c0 r0 5))) ≤ x1 →
      ps_nk (ps_is r0 0) (Q (some (.ref (ps_c0 r0 6))) s)) ∧
    (x1 < (nI (ps_ln (ps_c0 r0 5))) →
      ps_nk (ps_is r0 0) (ps_nk (ps_ar (ps_c0 r0 5) 4 || ps_ar (ps_c0 r0 5) 5 || ps_ar (ps_c0 r0 5) 6 || ps_ar (ps_c0 r0 5) 7) (ps_nd (pm_in x1 (ps_ln (ps_c0 r0 5))) (Q (some (.ref (ps_e0 (ps_c0 r0 5) (Int32.toNatClampNeg x1)))) s)))))))) : ps_At d 10 0 [(0, .ref r0), (1, .int x1)] [] s Q :=
  ps_wp_at (stops := []) (n := 21) h rfl

theorem xs_10 {m s : ps_S} {t : Int32} {d : Nat} {r0 : Nat} {x1 : Int32} {f : Nat → ps_S → Prop} (h0 : ps_is r0 0 = true) (J : xJ m t s) (k : ∀ (v : Nat), ps_is v 6 = true → f v s) : ps_Cl d 10 [.ref r0, .int x1] s (ps_rA f) :=
  pg_10_0 (And.intro (fun f1 => (ps_nk_i h0 (k (ps_c0 r0 6) ((xk_0_6 h0))))) (fun f1 => (ps_nk_i h0 (ps_nk_i (xn_l ((xk_0_5 h0)).1) (And.intro (fun f2 => (ps_nk_i h0 (k (ps_c0 r0 6) ((xk_0_6 h0))))) (fun f2 => (ps_nk_i h0 (ps_nk_i (xn_5 ((xk_0_5 h0)).1) (ps_nd_i (xg_in f1 f2) (k (ps_e0 (ps_c0 r0 5) (Int32.toNatClampNeg x1)) ((xe_5 ((xk_0_5 h0)).1 (xg_in f1 f2)))))))))))))

-- ProofBench$Theory.axiomRow(I)LProofBench$Row;
theorem pg_135_0 {d : Nat} {r0 : Nat} {x1 : Int32} {s : ps_S} {Q : Option Value → ps_S → Prop} (h :
  (x1 < 0 →
    ps_nk (ps_is r0 9) (Q (some (.ref (ps_c0 r0 5))) s)) ∧
  (0 ≤ x1 →
    ps_nk (ps_is r0 9) (ps_nk (Nat.beq (ps_K (ps_c0 r0 4)).1 0) (((nI (ps_ln (ps_c0 r0 4))) ≤ x1 →
      ps_nk (ps_is r0 9) (Q (some (.ref (ps_c0 r0 5))) s)) ∧
    (x1 < (nI (ps_ln (ps_c0 r0 4))) →
      ps_nk (ps_is r0 9) (ps_nk (ps_ar (ps_c0 r0 4) 4 || ps_ar (ps_c0 r0 4) 5 || ps_ar (ps_c0 r0 4) 6 || ps_ar (ps_c0 r0 4) 7) (ps_nd (pm_in x1 (ps_ln (ps_c0 r0 4))) (Q (some (.ref (ps_e0 (ps_c0 r0 4) (Int32.toNatClampNeg x1)))) s)))))))) : ps_At d 135 0 [(0, .ref r0), (1, .int x1)] [] s Q :=
  ps_wp_at (stops := []) (n := 21) h rfl

theorem xs_135 {m s : ps_S} {t : Int32} {d : Nat} {r0 : Nat} {x1 : Int32} {f : Nat → ps_S → Prop} (h0 : ps_is r0 9 = true) (J : xJ m t s) (k : ∀ (v : Nat), ps_is v 5 = true → f v s) : ps_Cl d 135 [.ref r0, .int x1] s (ps_rA f) :=
  pg_135_0 (And.intro (fun f1 => (ps_nk_i h0 (k (ps_c0 r0 5) ((xk_9_5 h0))))) (fun f1 => (ps_nk_i h0 (ps_nk_i (xn_l ((xk_9_4 h0)).1) (And.intro (fun f2 => (ps_nk_i h0 (k (ps_c0 r0 5) ((xk_9_5 h0))))) (fun f2 => (ps_nk_i h0 (ps_nk_i (xn_4 ((xk_9_4 h0)).1) (ps_nd_i (xg_in f1 f2) (k (ps_e0 (ps_c0 r0 4) (Int32.toNatClampNeg x1)) ((xe_4 ((xk_9_4 h0)).1 (xg_in f1 f2)))))))))))))

-- ProofBench$Row.at(I)I
theorem pg_92_0 {d : Nat} {r0 : Nat} {x1 : Int32} {s : ps_S} {Q : Option Value → ps_S → Prop} (h :
  (x1 < 0 →
    Q (some (.int (-1))) s) ∧
  (0 ≤ x1 →
    ps_nk (ps_is r0 5) (((ps_i s r0 1) ≤ x1 →
      Q (some (.int (-1))) s) ∧
    (x1 < (ps_i s r0 1) →
      ps_nk (ps_is r0 5) (ps_nk (Nat.beq (ps_K (ps_c0 r0 0)).1 0) (((nI (ps_ln (ps_c0 r0 0))) ≤ x1 →
        Q (some (.int (-1))) s) ∧
      (x1 < (nI (ps_ln (ps_c0 r0 0))) →
        ps_nk (ps_is r0 5) (ps_nk (ps_ar (ps_c0 r0 0) 0) (ps_nd (pm_in x1 (ps_ln (ps_c0 r0 0))) (Q (some (.int (ps_a s (ps_c0 r0 0) (Int32.toNatClampNeg x1)))) s)))))))))) : ps_At d 92 0 [(0, .ref r0), (1, .int x1)] [] s Q :=
  ps_wp_at (stops := []) (n := 25) h rfl

theorem xs_92 {m s : ps_S} {t : Int32} {d : Nat} {r0 : Nat} {x1 : Int32} {f : Int32 → ps_S → Prop} (h0 : ps_is r0 5 = true) (J : xJ m t s) (k : ∀ (v : Int32), f v s) : ps_Cl d 92 [.ref r0, .int x1] s (ps_rI f) :=
  pg_92_0 (And.intro (fun f1 => (k (-1))) (fun f1 => (ps_nk_i h0 (And.intro (fun f2 => (k (-1))) (fun f2 => (ps_nk_i h0 (ps_nk_i (xn_l ((xk_5_0 h0)).1) (And.intro (fun f3 => (k (-1))) (fun f3 => (ps_nk_i h0 (ps_nk_i (xn_0 ((xk_5_0 h0)).1) (ps_nd_i (xg_in f1 f3) (k (ps_a s (ps_c0 r0 0) (Int32.toNatClampNeg x1)))))))))))))))

-- ProofBench$Shape.endAt(I)I
theorem pg_104_0 {d : Nat} {r0 : Nat} {x1 : Int32} {s : ps_S} {Q : Option Value → ps_S → Prop} (h :
  (x1 < 0 →
    Q (some (.int (-1))) s) ∧
  (0 ≤ x1 →
    ps_nk (ps_is r0 6) (ps_nk (Nat.beq (ps_K (ps_c0 r0 0)).1 0) (((nI (ps_ln (ps_c0 r0 0))) ≤ x1 →
      Q (some (.int (-1))) s) ∧
    (x1 < (nI (ps_ln (ps_c0 r0 0))) →
      ps_nk (ps_is r0 6) (ps_nk (ps_ar (ps_c0 r0 0) 0) (ps_nd (pm_in x1 (ps_ln (ps_c0 r0 0))) (Q (some (.int (ps_a s (ps_c0 r0 0) (Int32.toNatClampNeg x1)))) s)))))))) : ps_At d 104 0 [(0, .ref r0), (1, .int x1)] [] s Q :=
  ps_wp_at (stops := []) (n := 19) h rfl

theorem xs_104 {m s : ps_S} {t : Int32} {d : Nat} {r0 : Nat} {x1 : Int32} {f : Int32 → ps_S → Prop} (h0 : ps_is r0 6 = true) (J : xJ m t s) (k : ∀ (v : Int32), f v s) : ps_Cl d 104 [.ref r0, .int x1] s (ps_rI f) :=
  pg_104_0 (And.intro (fun f1 => (k (-1))) (fun f1 => (ps_nk_i h0 (ps_nk_i (xn_l ((xk_6_0 h0)).1) (And.intro (fun f2 => (k (-1))) (fun f2 => (ps_nk_i h0 (ps_nk_i (xn_0 ((xk_6_0 h0)).1) (ps_nd_i (xg_in f1 f2) (k (ps_a s (ps_c0 r0 0) (Int32.toNatClampNeg x1))))))))))))

-- ProofBench$Shape.nestedAt(I)I
theorem pg_105_0 {d : Nat} {r0 : Nat} {x1 : Int32} {s : ps_S} {Q : Option Value → ps_S → Prop} (h :
  (x1 < 0 →
    Q (some (.int 0)) s) ∧
  (0 ≤ x1 →
    ps_nk (ps_is r0 6) (ps_nk (Nat.beq (ps_K (ps_c0 r0 2)).1 0) (((nI (ps_ln (ps_c0 r0 2))) ≤ x1 →
      Q (some (.int 0)) s) ∧
    (x1 < (nI (ps_ln (ps_c0 r0 2))) →
      ps_nk (ps_is r0 6) (ps_nk (ps_ar (ps_c0 r0 2) 0) (ps_nd (pm_in x1 (ps_ln (ps_c0 r0 2))) (Q (some (.int (ps_a s (ps_c0 r0 2) (Int32.toNatClampNeg x1)))) s)))))))) : ps_At d 105 0 [(0, .ref r0), (1, .int x1)] [] s Q :=
  ps_wp_at (stops := []) (n := 19) h rfl

theorem xs_105 {m s : ps_S} {t : Int32} {d : Nat} {r0 : Nat} {x1 : Int32} {f : Int32 → ps_S → Prop} (h0 : ps_is r0 6 = true) (J : xJ m t s) (k : ∀ (v : Int32), f v s) : ps_Cl d 105 [.ref r0, .int x1] s (ps_rI f) :=
  pg_105_0 (And.intro (fun f1 => (k 0)) (fun f1 => (ps_nk_i h0 (ps_nk_i (xn_l ((xk_6_2 h0)).1) (And.intro (fun f2 => (k 0)) (fun f2 => (ps_nk_i h0 (ps_nk_i (xn_0 ((xk_6_2 h0)).1) (ps_nd_i (xg_in f1 f2) (k (ps_a s (ps_c0 r0 2) (Int32.toNatClampNeg x1))))))))))))

-- ProofBench.isQuantifier(I)Z
theorem pg_184_0 {d : Nat} {x0 : Int32} {s : ps_S} {Q : Option Value → ps_S → Prop} (h :
  (x0 = 4 →
    Q (some (.int 1)) s) ∧
  (x0 ≠ 4 →
    (x0 ≠ 5 →
      Q (some (.int 0)) s) ∧
    (x0 = 5 →
      Q (some (.int 1)) s))) : ps_At d 184 0 [(0, .int x0)] [] s Q :=
  ps_wp_at (stops := []) (n := 16) h rfl

theorem xs_184 {m s : ps_S} {t : Int32} {d : Nat} {x0 : Int32} {f : Int32 → ps_S → Prop} (J : xJ m t s) (k : ∀ (v : Int32), v &&& 1 = v → f v s) : ps_Cl d 184 [.int x0] s (ps_rI f) :=
  pg_184_0 (And.intro (fun f1 => (k 1 (by decide))) (fun f1 => (And.intro (fun f2 => (k 0 (by decide))) (fun f2 => (k 1 (by decide))))))

-- ProofBench$Shape.measure(LProofBench$Row;LProofBench$Theory;)V
theorem pg_103_0 {d : Nat} {r0 : Nat} {r1 : Nat} {r2 : Nat} {s : ps_S} {Q : Option Value → ps_S → Prop} (h :
  ps_nk (ps_is r0 6) (ps_nk (ps_is r0 6) (ps_nk (ps_is r0 6) (ps_Cl d 183 [.ref (ps_c0 r0 1), .int 0, .int 0] (ps_ui (ps_ui s r0 3 0) r0 4 0) (ps_rV (fun s1 =>
    ps_nk (ps_is r0 6) (ps_Cl d 183 [.ref (ps_c0 r0 2), .int 0, .int 0] s1 (ps_rV (fun s2 =>
      ps_nk (ps_is r1 5) (ps_At (d + 1) 103 35 [(0, .ref r0), (1, .ref r1), (2, .ref r2), (3, .int ((ps_i s2 r1 1) - 1))] [] s2 Q)))))))))) : ps_At (d + 1) 103 0 [(0, .ref r0), (1, .ref r1), (2, .ref r2)] [] s Q :=
  ps_wp_at (stops := [(35, [0, 1, 2, 3]), (55, [0, 1, 2, 3, 4, 5]), (92, [0, 1, 2, 3]), (176, [0, 1, 2, 3, 4, 5, 6, 7])]) (n := 23) h rfl

theorem pg_103_35 {d : Nat} {r0 : Nat} {r1 : Nat} {r2 : Nat} {x3 : Int32} {s : ps_S} {Q : Option Value → ps_S → Prop} (h :
  (x3 < 0 →
    ps_At (d + 1) 103 92 [(0, .ref r0), (1, .ref r1), (2, .ref r2), (3, .int 0)] [] s Q) ∧
  (0 ≤ x3 →
    ps_nk (ps_is r1 5) (ps_Cl d 92 [.ref r1, .int x3] s (ps_rI (fun v1 s1 =>
      ps_nk (ps_is r2 9) (ps_Cl d 136 [.ref r2, .int v1] s1 (ps_rI (fun v2 s2 =>
        ps_At (d + 1) 103 55 [(0, .ref r0), (1, .ref r1), (2, .ref r2), (3, .int x3), (4, .int (x3 + 1)), (5, .int v2)] [] s2 Q)))))))) : ps_At (d + 1) 103 35 [(0, .ref r0), (1, .ref r1), (2, .ref r2), (3, .int x3)] [] s Q :=
  ps_wp_at (stops := [(35, [0, 1, 2, 3]), (55, [0, 1, 2, 3, 4, 5]), (92, [0, 1, 2, 3]), (176, [0, 1, 2, 3, 4, 5, 6, 7])]) (n := 16) h rfl

theorem pg_103_55 {d : Nat} {r0 : Nat} {r1 : Nat} {r2 : Nat} {x3 : Int32} {x4 : Int32} {x5 : Int32} {s : ps_S} {Q : Option Value → ps_S → Prop} (h :
  (x5 ≤ 0 →
    ps_nk (ps_is r0 6) (ps_Cl d 183 [.ref (ps_c0 r0 0), .int x3, .int x4] s (ps_rV (fun s1 =>
      ps_At (d + 1) 103 35 [(0, .ref r0), (1, .ref r1), (2, .ref r2), (3, .int (x3 + (-1)))] [] s1 Q)))) ∧
  (0 < x5 →
    ps_nk (ps_is r0 6) (ps_Cl d 104 [.ref r0, .int x4] s (ps_rI (fun v2 s2 =>
      ps_At (d + 1) 103 55 [(0, .ref r0), (1, .ref r1), (2, .ref r2), (3, .int x3), (4, .int v2), (5, .int (x5 + (-1)))] [] s2 Q))))) : ps_At (d + 1) 103 55 [(0, .ref r0), (1, .ref r1), (2, .ref r2), (3, .int x3), (4, .int x4), (5, .int x5)] [] s Q :=
  ps_wp_at (stops := [(35, [0, 1, 2, 3]), (55, [0, 1, 2, 3, 4, 5]), (92, [0, 1, 2, 3]), (176, [0, 1, 2, 3, 4, 5, 6, 7])]) (n := 17) h rfl

theorem pg_103_92 {d : Nat} {r0 : Nat} {r1 : Nat} {r2 : Nat} {x3 : Int32} {s : ps_S} {Q : Option Value → ps_S → Prop} (h :
  ps_nk (ps_is r1 5) (((ps_i s r1 1) ≤ x3 →
    Q none s) ∧
  (x3 < (ps_i s r1 1) →
    ps_nk (ps_is r0 6) (ps_Cl d 182 [.ref (ps_c0 r0 1), .int x3] s (ps_rI (fun v1 s1 =>
      ps_nk (ps_is r0 6) (ps_Cl d 105 [.ref r0, .int x3] s1 (ps_rI (fun v2 s2 =>
        ps_nk (ps_is r1 5) (ps_Cl d 92 [.ref r1, .int x3] s2 (ps_rI (fun v3 s3 =>
          ps_Cl d 184 [.int v3] s3 (ps_rI (fun v4 s4 =>
            (v4 = 0 →
              ps_nk (ps_is r0 6) (ps_nk (ps_is r0 6) (ps_nk (ps_is r0 6) (ps_nk (ps_is r0 6) (ps_nk (ps_is r1 5) (ps_Cl d 92 [.ref r1, .int x3] (ps_ui (ps_ui s4 r0 3 (if (ps_i s4 r0 3) < v1 then v1 else (ps_i s4 r0 3))) r0 4 (if (ps_i (ps_ui s4 r0 3 (if (ps_i s4 r0 3) < v1 then v1 else (ps_i s4 r0 3))) r0 4) < (v2 + 0) then (v2 + 0) else (ps_i (ps_ui s4 r0 3 (if (ps_i s4 r0 3) < v1 then v1 else (ps_i s4 r0 3))) r0 4))) (ps_rI (fun v5 s5 =>
                ps_nk (ps_is r2 9) (ps_Cl d 136 [.ref r2, .int v5] s5 (ps_rI (fun v6 s6 =>
                  ps_At (d + 1) 103 176 [(0, .ref r0), (1, .ref r1), (2, .ref r2), (3, .int x3), (4, .int v1), (5, .int (v2 + 0)), (6, .int (x3 + 1)), (7, .int v6)] [] s6 Q))))))))))) ∧
            (v4 ≠ 0 →
              ps_nk (ps_is r0 6) (ps_nk (ps_is r0 6) (ps_nk (ps_is r0 6) (ps_nk (ps_is r0 6) (ps_nk (ps_is r1 5) (ps_Cl d 92 [.ref r1, .int x3] (ps_ui (ps_ui s4 r0 3 (if (ps_i s4 r0 3) < v1 then v1 else (ps_i s4 r0 3))) r0 4 (if (ps_i (ps_ui s4 r0 3 (if (ps_i s4 r0 3) < v1 then v1 else (ps_i s4 r0 3))) r0 4) < (v2 + 1) then (v2 + 1) else (ps_i (ps_ui s4 r0 3 (if (ps_i s4 r0 3) < v1 then v1 else (ps_i s4 r0 3))) r0 4))) (ps_rI (fun v7 s7 =>
                ps_nk (ps_is r2 9) (ps_Cl d 136 [.ref r2, .int v7] s7 (ps_rI (fun v8 s8 =>
                  ps_At (d + 1) 103 176 [(0, .ref r0), (1, .ref r1), (2, .ref r2), (3, .int x3), (4, .int v1), (5, .int (v2 + 1)), (6, .int (x3 + 1)), (7, .int v8)] [] s8 Q))))))))))))))))))))))))) : ps_At (d + 1) 103 92 [(0, .ref r0), (1, .ref r1), (2, .ref r2), (3, .int x3)] [] s Q :=
  ps_wp_at (stops := [(35, [0, 1, 2, 3]), (55, [0, 1, 2, 3, 4, 5]), (92, [0, 1, 2, 3]), (176, [0, 1, 2, 3, 4, 5, 6, 7])]) (n := 71) h rfl

theorem pg_103_176 {d : Nat} {r0 : Nat} {r1 : Nat} {r2 : Nat} {x3 : Int32} {x4 : Int32} {x5 : Int32} {x6 : Int32} {x7 : Int32} {s : ps_S} {Q : Option Value → ps_S → Prop} (h :
  (x7 ≤ 0 →
    ps_At (d + 1) 103 92 [(0, .ref r0), (1, .ref r1), (2, .ref r2), (3, .int (x3 + 1))] [] s Q) ∧
  (0 < x7 →
    ps_nk (ps_is r0 6) (ps_Cl d 183 [.ref (ps_c0 r0 1), .int x6, .int (x4 + 1)] s (ps_rV (fun s1 =>
      ps_nk (ps_is r0 6) (ps_Cl d 183 [.ref (ps_c0 r0 2), .int x6, .int x5] s1 (ps_rV (fun s2 =>
        ps_nk (ps_is r0 6) (ps_Cl d 104 [.ref r0, .int x6] s2 (ps_rI (fun v3 s3 =>
          ps_At (d + 1) 103 176 [(0, .ref r0), (1, .ref r1), (2, .ref r2), (3, .int x3), (4, .int x4), (5, .int x5), (6, .int v3), (7, .int (x7 + (-1)))] [] s3 Q))))))))))) : ps_At (d + 1) 103 176 [(0, .ref r0), (1, .ref r1), (2, .ref r2), (3, .int x3), (4, .int x4), (5, .int x5), (6, .int x6), (7, .int x7)] [] s Q :=
  ps_wp_at (stops := [(35, [0, 1, 2, 3]), (55, [0, 1, 2, 3, 4, 5]), (92, [0, 1, 2, 3]), (176, [0, 1, 2, 3, 4, 5, 6, 7])]) (n := 24) h rfl

theorem xs_103_55 {m s : ps_S} {t : Int32} {d : Nat} {r0 : Nat} {r1 : Nat} {r2 : Nat} {x3 : Int32} {x4 : Int32} {x5 : Int32} {Q : Option Value → ps_S → Prop} (h0 : ps_is r0 6 = true) (h1 : ps_is r1 5 = true) (h2 : ps_is r2 9 = true) (J : xJ m t s) (k : ∀ (s' : ps_S), xJ m t s' → Q none s') (K35 : ∀ (s : ps_S), ps_is r0 6 = true → ps_is r1 5 = true → ps_is r2 9 = true → xJ m t s → ps_At (d + 1) 103 35 [(0, .ref r0), (1, .ref r1), (2, .ref r2), (3, .int (x3 + (-1)))] [] s Q) : ps_At (d + 1) 103 55 [(0, .ref r0), (1, .ref r1), (2, .ref r2), (3, .int x3), (4, .int x4), (5, .int x5)] [] s Q :=
  xs_dn (P := fun x5 => ∀ (x4 : Int32) (s : ps_S), ps_is r0 6 = true → ps_is r1 5 = true → ps_is r2 9 = true → xJ m t s → ps_At (d + 1) 103 55 [(0, .ref r0), (1, .ref r1), (2, .ref r2), (3, .int x3), (4, .int x4), (5, .int x5)] [] s Q) (fun x5 ih x4 s h0 h1 h2 J => pg_103_55 (d := d) (And.intro (fun f1 => (ps_nk_i h0 (xs_183 (xk_6_0 h0) J (fun s1 J1 e1 => (K35 s1 h0 h1 h2 J1))))) (fun f1 => (ps_nk_i h0 (xs_104 h0 J (fun v2 => (ih ((x5 + (-1))) (xs_gt f1) (v2) s h0 h1 h2 J))))))) x5 x4 s h0 h1 h2 J

theorem xs_103_176 {m s : ps_S} {t : Int32} {d : Nat} {r0 : Nat} {r1 : Nat} {r2 : Nat} {x3 : Int32} {x4 : Int32} {x5 : Int32} {x6 : Int32} {x7 : Int32} {Q : Option Value → ps_S → Prop} (h0 : ps_is r0 6 = true) (h1 : ps_is r1 5 = true) (h2 : ps_is r2 9 = true) (J : xJ m t s) (k : ∀ (s' : ps_S), xJ m t s' → Q none s') (K92 : ∀ (s : ps_S), ps_is r0 6 = true → ps_is r1 5 = true → ps_is r2 9 = true → xJ m t s → ps_At (d + 1) 103 92 [(0, .ref r0), (1, .ref r1), (2, .ref r2), (3, .int (x3 + 1))] [] s Q) : ps_At (d + 1) 103 176 [(0, .ref r0), (1, .ref r1), (2, .ref r2), (3, .int x3), (4, .int x4), (5, .int x5), (6, .int x6), (7, .int x7)] [] s Q :=
  xs_dn (P := fun x7 => ∀ (x6 : Int32) (s : ps_S), ps_is r0 6 = true → ps_is r1 5 = true → ps_is r2 9 = true → xJ m t s → ps_At (d + 1) 103 176 [(0, .ref r0), (1, .ref r1), (2, .ref r2), (3, .int x3), (4, .int x4), (5, .int x5), (6, .int x6), (7, .int x7)] [] s Q) (fun x7 ih x6 s h0 h1 h2 J => pg_103_176 (d := d) (And.intro (fun f1 => (K92 s h0 h1 h2 J)) (fun f1 => (ps_nk_i h0 (xs_183 (xk_6_1 h0) J (fun s1 J1 e1 => (ps_nk_i h0 (xs_183 (xk_6_2 h0) J1 (fun s2 J2 e2 => (ps_nk_i h0 (xs_104 h0 J2 (fun v3 => (ih ((x7 + (-1))) (xs_gt f1) (v3) s2 h0 h1 h2 J2))))))))))))) x7 x6 s h0 h1 h2 J

theorem xs_103_92 {m s : ps_S} {t : Int32} {d : Nat} {r0 : Nat} {r1 : Nat} {r2 : Nat} {x3 : Int32} {Q : Option Value → ps_S → Prop} (h0 : ps_is r0 6 = true) (h1 : ps_is r1 5 = true) (h2 : ps_is r2 9 = true) (J : xJ m t s) (k : ∀ (s' : ps_S), xJ m t s' → Q none s') : ps_At (d + 1) 103 92 [(0, .ref r0), (1, .ref r1), (2, .ref r2), (3, .int x3)] [] s Q :=
  xs_up (P := fun x3 => ∀ (s : ps_S), ps_is r0 6 = true → ps_is r1 5 = true → ps_is r2 9 = true → xJ m t s → ps_At (d + 1) 103 92 [(0, .ref r0), (1, .ref r1), (2, .ref r2), (3, .int x3)] [] s Q) (fun x3 ih s h0 h1 h2 J => pg_103_92 (d := d) (ps_nk_i h1 (And.intro (fun f1 => (k s J)) (fun f1 => (ps_nk_i h0 (xs_182 (xk_6_1 h0) J (fun v1 => (ps_nk_i h0 (xs_105 h0 J (fun v2 => (ps_nk_i h1 (xs_92 h1 J (fun v3 => (xs_184  J (fun v4 b4 => (And.intro (fun f2 => (ps_nk_i h0 (ps_nk_i h0 (ps_nk_i h0 (ps_nk_i h0 (ps_nk_i h1 (xs_92 h1 (xw_i (c := 6) (by decide) h0 (xw_i (c := 6) (by decide) h0 J)) (fun v5 => (ps_nk_i h2 (xs_136 h2 (xw_i (c := 6) (by decide) h0 (xw_i (c := 6) (by decide) h0 J)) (fun v6 => (xs_103_176 (d := d) (r0 := r0) (r1 := r1) (r2 := r2) (x3 := x3) (x4 := v1) (x5 := (v2 + 0)) (x6 := (x3 + 1)) (x7 := v6)  h0 h1 h2 (xw_i (c := 6) (by decide) h0 (xw_i (c := 6) (by decide) h0 J)) k (fun s9 h0z h1z h2z J9 => ih (x3 + 1) (xs_lt f1) s9 h0z h1z h2z J9))))))))))))) (fun f2 => (ps_nk_i h0 (ps_nk_i h0 (ps_nk_i h0 (ps_nk_i h0 (ps_nk_i h1 (xs_92 h1 (xw_i (c := 6) (by decide) h0 (xw_i (c := 6) (by decide) h0 J)) (fun v7 => (ps_nk_i h2 (xs_136 h2 (xw_i (c := 6) (by decide) h0 (xw_i (c := 6) (by decide) h0 J)) (fun v8 => (xs_103_176 (d := d) (r0 := r0) (r1 := r1) (r2 := r2) (x3 := x3) (x4 := v1) (x5 := (v2 + 1)) (x6 := (x3 + 1)) (x7 := v8)  h0 h1 h2 (xw_i (c := 6) (by decide) h0 (xw_i (c := 6) (by decide) h0 J)) k (fun s9 h0z h1z h2z J9 => ih (x3 + 1) (xs_lt f1) s9 h0z h1z h2z J9))))))))))))))))))))))))))))) x3 s h0 h1 h2 J

theorem xs_103_35 {m s : ps_S} {t : Int32} {d : Nat} {r0 : Nat} {r1 : Nat} {r2 : Nat} {x3 : Int32} {Q : Option Value → ps_S → Prop} (h0 : ps_is r0 6 = true) (h1 : ps_is r1 5 = true) (h2 : ps_is r2 9 = true) (J : xJ m t s) (k : ∀ (s' : ps_S), xJ m t s' → Q none s') : ps_At (d + 1) 103 35 [(0, .ref r0), (1, .ref r1), (2, .ref r2), (3, .int x3)] [] s Q :=
  xs_dn (P := fun x3 => ∀ (s : ps_S), ps_is r0 6 = true → ps_is r1 5 = true → ps_is r2 9 = true → xJ m t s → ps_At (d + 1) 103 35 [(0, .ref r0), (1, .ref r1), (2, .ref r2), (3, .int x3)] [] s Q) (fun x3 ih s h0 h1 h2 J => pg_103_35 (d := d) (And.intro (fun f1 => (xs_103_92 (d := d) (r0 := r0) (r1 := r1) (r2 := r2) (x3 := 0)  h0 h1 h2 J k )) (fun f1 => (ps_nk_i h1 (xs_92 h1 J (fun v1 => (ps_nk_i h2 (xs_136 h2 J (fun v2 => (xs_103_55 (d := d) (r0 := r0) (r1 := r1) (r2 := r2) (x3 := x3) (x4 := (x3 + 1)) (x5 := v2)  h0 h1 h2 J k (fun s9 h0z h1z h2z J9 => ih (x3 + (-1)) (xs_ge f1) s9 h0z h1z h2z J9))))))))))) x3 s h0 h1 h2 J

theorem xs_103 {m s : ps_S} {t : Int32} {d : Nat} {r0 : Nat} {r1 : Nat} {r2 : Nat} {f : ps_S → Prop} (h0 : ps_is r0 6 = true) (h1 : ps_is r1 5 = true) (h2 : ps_is r2 9 = true) (J : xJ m t s) (k : ∀ (s' : ps_S), xJ m t s' → f s') : ps_Cl (d + 1) 103 [.ref r0, .ref r1, .ref r2] s (ps_rV f) :=
  pg_103_0 (d := d) (ps_nk_i h0 (ps_nk_i h0 (ps_nk_i h0 (xs_183 (xk_6_1 h0) (xw_i (c := 6) (by decide) h0 (xw_i (c := 6) (by decide) h0 J)) (fun s1 J1 e1 => (ps_nk_i h0 (xs_183 (xk_6_2 h0) J1 (fun s2 J2 e2 => (ps_nk_i h1 (xs_103_35 (d := d) (r0 := r0) (r1 := r1) (r2 := r2) (x3 := ((ps_i s2 r1 1) - 1))  h0 h1 h2 J2 k ))))))))))
end
section
set_option maxRecDepth 100000
-- ProofBench$Judge.measureAxioms()V
theorem pg_9_0 {d : Nat} {r0 : Nat} {s : ps_S} {Q : Option Value → ps_S → Prop} (h :
  ps_At (d + 1) 9 2 [(0, .ref r0), (1, .int 0)] [] s Q) : ps_At (d + 1) 9 0 [(0, .ref r0)] [] s Q :=
  ps_wp_at (stops := [(2, [0, 1])]) (n := 4) h rfl

theorem pg_9_2 {d : Nat} {r0 : Nat} {x1 : Int32} {s : ps_S} {Q : Option Value → ps_S → Prop} (h :
  ps_nk (ps_is r0 0) (ps_nk (ps_is (ps_r s r0 16) 9) (((ps_i s (ps_r s r0 16) 8) ≤ x1 →
    Q none s) ∧
  (x1 < (ps_i s (ps_r s r0 16) 8) →
    ps_nk (ps_is r0 0) (ps_Cl d 10 [.ref r0, .int x1] s (ps_rA (fun v1 s1 =>
      ps_nk (ps_is r0 0) (ps_nk (ps_is (ps_r s1 r0 16) 9) (ps_Cl d 135 [.ref (ps_r s1 r0 16), .int x1] s1 (ps_rA (fun v2 s2 =>
        ps_nk (ps_is r0 0) (ps_nk (ps_is v1 6) (ps_Cl d 103 [.ref v1, .ref v2, .ref (ps_r s2 r0 16)] s2 (ps_rV (fun s3 =>
          ps_At (d + 1) 9 2 [(0, .ref r0), (1, .int (x1 + 1))] [] s3 Q))))))))))))))) : ps_At (d + 1) 9 2 [(0, .ref r0), (1, .int x1)] [] s Q :=
  ps_wp_at (stops := [(2, [0, 1])]) (n := 20) h rfl

theorem xs_9_2 {m s : ps_S} {t : Int32} {d : Nat} {r0 : Nat} {x1 : Int32} {Q : Option Value → ps_S → Prop} (h0 : ps_is r0 0 = true) (J : xJ m t s) (k : ∀ (s' : ps_S), xJ m t s' → Q none s') : ps_At (d + 2) 9 2 [(0, .ref r0), (1, .int x1)] [] s Q :=
  xs_up (P := fun x1 => ∀ (s : ps_S), ps_is r0 0 = true → xJ m t s → ps_At (d + 2) 9 2 [(0, .ref r0), (1, .int x1)] [] s Q) (fun x1 ih s h0 J => pg_9_2 (d := d + 1) (ps_nk_i h0 (ps_nk_i (xj_0_16 J h0) (And.intro (fun f1 => (k s J)) (fun f1 => (ps_nk_i h0 (xs_10 h0 J (fun v1 h1 => (ps_nk_i h0 (ps_nk_i (xj_0_16 J h0) (xs_135 (xj_0_16 J h0) J (fun v2 h2 => (ps_nk_i h0 (ps_nk_i h1 (xs_103 h1 h2 (xj_0_16 J h0) J (fun s3 J3 => (ih ((x1 + 1)) (xs_lt f1) s3 h0 J3))))))))))))))))) x1 s h0 J

theorem xs_9 {m s : ps_S} {t : Int32} {d : Nat} {r0 : Nat} {f : ps_S → Prop} (h0 : ps_is r0 0 = true) (J : xJ m t s) (k : ∀ (s' : ps_S), xJ m t s' → f s') : ps_Cl (d + 2) 9 [.ref r0] s (ps_rV f) :=
  pg_9_0 (d := d + 1) (xs_9_2 (d := d) (r0 := r0) (x1 := 0)  h0 J k )

-- ProofBench$Judge.setDigits(I)V
theorem pg_8_0 {d : Nat} {r0 : Nat} {x1 : Int32} {s : ps_S} {Q : Option Value → ps_S → Prop} (h :
  ps_nk (ps_is r0 0) (ps_At (d + 1) 8 9 [(0, .ref r0), (2, .int x1), (3, .int ((ps_i s r0 2) - 1))] [] s Q)) : ps_At (d + 1) 8 0 [(0, .ref r0), (1, .int x1)] [] s Q :=
  ps_wp_at (stops := [(9, [0, 2, 3])]) (n := 9) h rfl

theorem pg_8_9 {d : Nat} {r0 : Nat} {x2 : Int32} {x3 : Int32} {s : ps_S} {Q : Option Value → ps_S → Prop} (h :
  (x3 < 0 →
    Q none s) ∧
  (0 ≤ x3 →
    ps_nk (ps_is r0 0) (ps_Cl d 182 [.ref (ps_c0 r0 0), .int x3] s (ps_rI (fun v1 s1 =>
      (v1 ≤ 0 →
        ps_At (d + 1) 8 9 [(0, .ref r0), (2, .int x2), (3, .int (x3 + (-1)))] [] s1 Q) ∧
      (0 < v1 →
        ps_nk (ps_is r0 0) (ps_nd (!decide (v1 = 0)) (ps_Cl d 183 [.ref (ps_c0 r0 1), .int x3, .int (x2 - (x2 / v1) * v1)] s1 (ps_rV (fun s2 =>
          ps_nd (!decide (v1 = 0)) (ps_At (d + 1) 8 9 [(0, .ref r0), (2, .int (x2 / v1)), (3, .int (x3 + (-1)))] [] s2 Q))))))))))) : ps_At (d + 1) 8 9 [(0, .ref r0), (2, .int x2), (3, .int x3)] [] s Q :=
  ps_wp_at (stops := [(9, [0, 2, 3])]) (n := 27) h rfl

theorem xs_8_9 {m s : ps_S} {t : Int32} {d : Nat} {r0 : Nat} {x2 : Int32} {x3 : Int32} {Q : Option Value → ps_S → Prop} (h0 : ps_is r0 0 = true) (J : xJ m t s) (k : ∀ (s' : ps_S), xJ m t s' → Q none s') : ps_At (d + 1) 8 9 [(0, .ref r0), (2, .int x2), (3, .int x3)] [] s Q :=
  xs_dn (P := fun x3 => ∀ (x2 : Int32) (s : ps_S), ps_is r0 0 = true → xJ m t s → ps_At (d + 1) 8 9 [(0, .ref r0), (2, .int x2), (3, .int x3)] [] s Q) (fun x3 ih x2 s h0 J => pg_8_9 (d := d) (And.intro (fun f1 => (k s J)) (fun f1 => (ps_nk_i h0 (xs_182 (xk_0_0 h0) J (fun v1 => (And.intro (fun f2 => (ih ((x3 + (-1))) (xs_ge f1) (x2) s h0 J)) (fun f2 => (ps_nk_i h0 (ps_nd_i (xg_nz f2) (xs_183 (xk_0_1 h0) J (fun s2 J2 e2 => (ps_nd_i (xg_nz f2) (ih ((x3 + (-1))) (xs_ge f1) ((x2 / v1)) s2 h0 J2)))))))))))))) x3 x2 s h0 J

theorem xs_8 {m s : ps_S} {t : Int32} {d : Nat} {r0 : Nat} {x1 : Int32} {f : ps_S → Prop} (h0 : ps_is r0 0 = true) (J : xJ m t s) (k : ∀ (s' : ps_S), xJ m t s' → f s') : ps_Cl (d + 1) 8 [.ref r0, .int x1] s (ps_rV f) :=
  pg_8_0 (d := d) (ps_nk_i h0 (xs_8_9 (d := d) (r0 := r0) (x2 := x1) (x3 := ((ps_i s r0 2) - 1))  h0 J k ))

-- ProofBench.isBound(I)Z
theorem pg_185_0 {d : Nat} {x0 : Int32} {s : ps_S} {Q : Option Value → ps_S → Prop} (h :
  (x0 < 40 →
    Q (some (.int 0)) s) ∧
  (40 ≤ x0 →
    (60 ≤ x0 →
      Q (some (.int 0)) s) ∧
    (x0 < 60 →
      Q (some (.int 1)) s))) : ps_At d 185 0 [(0, .int x0)] [] s Q :=
  ps_wp_at (stops := []) (n := 15) h rfl

theorem xs_185 {m s : ps_S} {t : Int32} {d : Nat} {x0 : Int32} {f : Int32 → ps_S → Prop} (J : xJ m t s) (k : ∀ (v : Int32), v &&& 1 = v → f v s) : ps_Cl d 185 [.int x0] s (ps_rI f) :=
  pg_185_0 (And.intro (fun f1 => (k 0 (by decide))) (fun f1 => (And.intro (fun f2 => (k 0 (by decide))) (fun f2 => (k 1 (by decide))))))

-- ProofBench$Judge.place(III)I
theorem pg_19_0 {d : Nat} {r0 : Nat} {x1 : Int32} {x2 : Int32} {x3 : Int32} {s : ps_S} {Q : Option Value → ps_S → Prop} (h :
  ps_nk (ps_is r0 0) (ps_nk (ps_is r0 0) (ps_nk (ps_is (ps_r s r0 14) 5) (ps_Cl d 92 [.ref (ps_r s r0 14), .int x1] s (ps_rI (fun v1 s1 =>
    ps_nk (ps_is (ps_r s r0 16) 9) (ps_Cl d 136 [.ref (ps_r s r0 16), .int v1] s1 (ps_rI (fun v2 s2 =>
      (v2 ≠ 0 →
        ps_nk (ps_is r0 0) (ps_Cl d 18 [.ref r0, .int (x1 + 1), .int x2, .int (x3 + 1)] s2 (ps_rI (fun v3 s3 =>
          (v2 ≠ 1 →
            ps_nk (ps_is r0 0) (ps_nk (ps_is r0 0) (ps_nk (ps_is (ps_r s3 r0 15) 6) (ps_Cl d 104 [.ref (ps_r s3 r0 15), .int (x1 + 1)] s3 (ps_rI (fun v4 s4 =>
              ps_nk (ps_is r0 0) (ps_Cl d 18 [.ref r0, .int v4, .int x2, .int (x3 + 1)] s4 (ps_rI (fun v5 s5 =>
                Q (some (.int ((v3 * (ps_i s3 r0 11)) + v5))) s5))))))))) ∧
          (v2 = 1 →
            Q (some (.int v3)) s3))))) ∧
      (v2 = 0 →
        Q (some (.int 0)) s2)))))))))) : ps_At (d + 1) 19 0 [(0, .ref r0), (1, .int x1), (2, .int x2), (3, .int x3)] [] s Q :=
  ps_wp_at (stops := []) (n := 48) h rfl

theorem xr_19 {m s : ps_S} {t : Int32} {d : Nat} {r0 : Nat} {x1 : Int32} {x2 : Int32} {x3 : Int32} {f : Int32 → ps_S → Prop} (HG : xsG d (x3 + 1)) (h0 : ps_is r0 0 = true) (J : xJ m t s) (k : ∀ (v : Int32), f v s) : ps_Cl (d + 9) 19 [.ref r0, .int x1, .int x2, .int x3] s (ps_rI f) :=
  pg_19_0 (d := d + 8) (ps_nk_i h0 (ps_nk_i h0 (ps_nk_i (xj_0_14 J h0) (xs_92 (xj_0_14 J h0) J (fun v1 => (ps_nk_i (xj_0_16 J h0) (xs_136 (xj_0_16 J h0) J (fun v2 => (And.intro (fun f1 => (ps_nk_i h0 (HG _ _ _ _ _ _ _ h0 J (fun v3 => (And.intro (fun f2 => (ps_nk_i h0 (ps_nk_i h0 (ps_nk_i (xj_0_15 J h0) (xs_104 (xj_0_15 J h0) J (fun v4 => (ps_nk_i h0 (HG _ _ _ _ _ _ _ h0 J (fun v5 => (k ((v3 * (ps_i s r0 11)) + v5))))))))))) (fun f2 => (k v3))))))) (fun f1 => (k 0)))))))))))

-- ProofBench$Judge.thingOf(III)I
theorem pg_18_0 {d : Nat} {r0 : Nat} {x1 : Int32} {x2 : Int32} {x3 : Int32} {s : ps_S} {Q : Option Value → ps_S → Prop} (h :
  (x3 ≤ 12 →
    ps_nk (ps_is r0 0) (ps_nk (ps_is (ps_r s r0 14) 5) (ps_Cl d 92 [.ref (ps_r s r0 14), .int x1] s (ps_rI (fun v1 s1 =>
      (v1 < 60 →
        ps_Cl d 185 [.int v1] s1 (ps_rI (fun v2 s2 =>
          (v2 = 0 →
            ps_nk (ps_is r0 0) (ps_nk (ps_is r0 0) (ps_Cl d 182 [.ref (ps_c0 r0 4), .int (v1 - 20)] s2 (ps_rI (fun v3 s3 =>
              ps_nk (ps_is r0 0) (ps_Cl d 19 [.ref r0, .int x1, .int x2, .int x3] s3 (ps_rI (fun v4 s4 =>
                ps_Cl d 182 [.ref (ps_c0 r0 1), .int (v3 + v4)] s4 (ps_rI (fun v5 s5 =>
                  Q (some (.int v5)) s5)))))))))) ∧
          (v2 ≠ 0 →
            ps_nk (ps_is r0 0) (ps_Cl d 182 [.ref (ps_c0 r0 7), .int ((x2 - 1) - (v1 - 40))] s2 (ps_rI (fun v6 s6 =>
              Q (some (.int v6)) s6))))))) ∧
      (60 ≤ v1 →
        ps_nk (ps_is r0 0) (ps_Cl d 182 [.ref (ps_c0 r0 8), .int (v1 - 60)] s1 (ps_rI (fun v7 s7 =>
          Q (some (.int v7)) s7))))))))) ∧
  (12 < x3 →
    Q (some (.int 0)) s)) : ps_At (d + 1) 18 0 [(0, .ref r0), (1, .int x1), (2, .int x2), (3, .int x3)] [] s Q :=
  ps_wp_at (stops := []) (n := 52) h rfl

theorem xr_18 {m s : ps_S} {t : Int32} {d : Nat} {r0 : Nat} {x1 : Int32} {x2 : Int32} {x3 : Int32} {f : Int32 → ps_S → Prop} (H : x3 ≤ 12 → xsG d (x3 + 1)) (h0 : ps_is r0 0 = true) (J : xJ m t s) (k : ∀ (v : Int32), f v s) : ps_Cl (d + 10) 18 [.ref r0, .int x1, .int x2, .int x3] s (ps_rI f) :=
  pg_18_0 (d := d + 9) (And.intro (fun f1 => (ps_nk_i h0 (ps_nk_i (xj_0_14 J h0) (xs_92 (xj_0_14 J h0) J (fun v1 => (And.intro (fun f2 => (xs_185  J (fun v2 b2 => (And.intro (fun f3 => (ps_nk_i h0 (ps_nk_i h0 (xs_182 (xk_0_4 h0) J (fun v3 => (ps_nk_i h0 (xr_19 (H f1) h0 J (fun v4 => (xs_182 (xk_0_1 h0) J (fun v5 => (k v5))))))))))) (fun f3 => (ps_nk_i h0 (xs_182 (xk_0_7 h0) J (fun v6 => (k v6))))))))) (fun f2 => (ps_nk_i h0 (xs_182 (xk_0_8 h0) J (fun v7 => (k v7))))))))))) (fun f1 => (k 0)))

-- ProofBench$Judge.isSoOfTwo(III)Z
theorem pg_16_0 {d : Nat} {r0 : Nat} {x1 : Int32} {x2 : Int32} {x3 : Int32} {s : ps_S} {Q : Option Value → ps_S → Prop} (h :
  ps_nk (ps_is r0 0) (ps_Cl d 15 [.ref r0, .int (x1 + 1), .int x2, .int x3] s (ps_rI (fun v1 s1 =>
    ps_nk (ps_is r0 0) (ps_nk (ps_is (ps_r s1 r0 14) 5) (ps_Cl d 92 [.ref (ps_r s1 r0 14), .int x1] s1 (ps_rI (fun v2 s2 =>
      (v2 = 1 →
        (v1 = 0 →
          Q (some (.int 0)) s2) ∧
        (v1 ≠ 0 →
          ps_nk (ps_is r0 0) (ps_nk (ps_is (ps_r s2 r0 15) 6) (ps_Cl d 104 [.ref (ps_r s2 r0 15), .int (x1 + 1)] s2 (ps_rI (fun v3 s3 =>
            ps_nk (ps_is r0 0) (ps_Cl d 15 [.ref r0, .int v3, .int x2, .int x3] s3 (ps_rI (fun v4 s4 =>
              (v4 = 0 →
                Q (some (.int 0)) s4) ∧
              (v4 ≠ 0 →
                Q (some (.int 1)) s4)))))))))) ∧
      (v2 ≠ 1 →
        (v2 = 2 →
        (v1 ≠ 0 →
          Q (some (.int 1)) s2) ∧
        (v1 = 0 →
          ps_nk (ps_is r0 0) (ps_nk (ps_is (ps_r s2 r0 15) 6) (ps_Cl d 104 [.ref (ps_r s2 r0 15), .int (x1 + 1)] s2 (ps_rI (fun v5 s5 =>
            ps_nk (ps_is r0 0) (ps_Cl d 15 [.ref r0, .int v5, .int x2, .int x3] s5 (ps_rI (fun v6 s6 =>
              (v6 = 0 →
                Q (some (.int 0)) s6) ∧
              (v6 ≠ 0 →
                Q (some (.int 1)) s6)))))))))) ∧
      (v2 ≠ 2 →
        (v1 = 0 →
        Q (some (.int 1)) s2) ∧
      (v1 ≠ 0 →
        ps_nk (ps_is r0 0) (ps_nk (ps_is (ps_r s2 r0 15) 6) (ps_Cl d 104 [.ref (ps_r s2 r0 15), .int (x1 + 1)] s2 (ps_rI (fun v7 s7 =>
          ps_nk (ps_is r0 0) (ps_Cl d 15 [.ref r0, .int v7, .int x2, .int x3] s7 (ps_rI (fun v8 s8 =>
            (v8 = 0 →
              Q (some (.int 0)) s8) ∧
            (v8 ≠ 0 →
              Q (some (.int 1)) s8))))))))))))))))))) : ps_At (d + 1) 16 0 [(0, .ref r0), (1, .int x1), (2, .int x2), (3, .int x3)] [] s Q :=
  ps_wp_at (stops := []) (n := 77) h rfl

theorem xr_16 {m s : ps_S} {t : Int32} {d : Nat} {r0 : Nat} {x1 : Int32} {x2 : Int32} {x3 : Int32} {f : Int32 → ps_S → Prop} (HS : xsS d x3) (h0 : ps_is r0 0 = true) (J : xJ m t s) (k : ∀ (v : Int32) (s' : ps_S), v &&& 1 = v → xJ m t s' → f v s') : ps_Cl (d + 9) 16 [.ref r0, .int x1, .int x2, .int x3] s (ps_rI f) :=
  pg_16_0 (d := d + 8) (ps_nk_i h0 (HS _ _ _ _ _ _ _ h0 J (fun v1 s1 b1 J1 => (ps_nk_i h0 (ps_nk_i (xj_0_14 J1 h0) (xs_92 (xj_0_14 J1 h0) J1 (fun v2 => (And.intro (fun f1 => (And.intro (fun f2 => (k 0 s1 (by decide) J1)) (fun f2 => (ps_nk_i h0 (ps_nk_i (xj_0_15 J1 h0) (xs_104 (xj_0_15 J1 h0) J1 (fun v3 => (ps_nk_i h0 (HS _ _ _ _ _ _ _ h0 J1 (fun v4 s4 b4 J4 => (And.intro (fun f3 => (k 0 s4 (by decide) J4)) (fun f3 => (k 1 s4 (by decide) J4))))))))))))) (fun f1 => (And.intro (fun f4 => (And.intro (fun f5 => (k 1 s1 (by decide) J1)) (fun f5 => (ps_nk_i h0 (ps_nk_i (xj_0_15 J1 h0) (xs_104 (xj_0_15 J1 h0) J1 (fun v5 => (ps_nk_i h0 (HS _ _ _ _ _ _ _ h0 J1 (fun v6 s6 b6 J6 => (And.intro (fun f6 => (k 0 s6 (by decide) J6)) (fun f6 => (k 1 s6 (by decide) J6))))))))))))) (fun f4 => (And.intro (fun f7 => (k 1 s1 (by decide) J1)) (fun f7 => (ps_nk_i h0 (ps_nk_i (xj_0_15 J1 h0) (xs_104 (xj_0_15 J1 h0) J1 (fun v7 => (ps_nk_i h0 (HS _ _ _ _ _ _ _ h0 J1 (fun v8 s8 b8 J8 => (And.intro (fun f8 => (k 0 s8 (by decide) J8)) (fun f8 => (k 1 s8 (by decide) J8)))))))))))))))))))))))

-- ProofBench$Judge.isSoForThings(III)Z
theorem pg_17_0 {d : Nat} {r0 : Nat} {x1 : Int32} {x2 : Int32} {x3 : Int32} {s : ps_S} {Q : Option Value → ps_S → Prop} (h :
  ps_nk (ps_is r0 0) (ps_nk (ps_is (ps_r s r0 14) 5) (ps_Cl d 92 [.ref (ps_r s r0 14), .int x1] s (ps_rI (fun v1 s1 =>
    (v1 ≠ 4 →
      ps_At (d + 1) 17 22 [(0, .ref r0), (1, .int x1), (2, .int x2), (3, .int x3), (4, .int 0), (5, .int 0)] [] s1 Q) ∧
    (v1 = 4 →
      ps_At (d + 1) 17 22 [(0, .ref r0), (1, .int x1), (2, .int x2), (3, .int x3), (4, .int 1), (5, .int 0)] [] s1 Q)))))) : ps_At (d + 1) 17 0 [(0, .ref r0), (1, .int x1), (2, .int x2), (3, .int x3)] [] s Q :=
  ps_wp_at (stops := [(22, [0, 1, 2, 3, 4, 5])]) (n := 17) h rfl

theorem pg_17_22 {d : Nat} {r0 : Nat} {x1 : Int32} {x2 : Int32} {x3 : Int32} {x4 : Int32} {x5 : Int32} {s : ps_S} {Q : Option Value → ps_S → Prop} (h :
  ps_nk (ps_is r0 0) (((ps_i s r0 11) ≤ x5 →
    ps_nd (decide (x4 &&& 1 = x4)) (Q (some (.int x4)) s)) ∧
  (x5 < (ps_i s r0 11) →
    ps_nk (ps_is r0 0) (ps_Cl d 183 [.ref (ps_c0 r0 7), .int x2, .int x5] s (ps_rV (fun s1 =>
      ps_nk (ps_is r0 0) (ps_Cl d 15 [.ref r0, .int (x1 + 1), .int (x2 + 1), .int (x3 + 1)] s1 (ps_rI (fun v2 s2 =>
        (v2 = x4 →
          ps_At (d + 1) 17 22 [(0, .ref r0), (1, .int x1), (2, .int x2), (3, .int x3), (4, .int x4), (5, .int (x5 + 1))] [] s2 Q) ∧
        (v2 ≠ x4 →
          (x4 ≠ 0 →
            Q (some (.int 0)) s2) ∧
          (x4 = 0 →
            Q (some (.int 1)) s2))))))))))) : ps_At (d + 1) 17 22 [(0, .ref r0), (1, .int x1), (2, .int x2), (3, .int x3), (4, .int x4), (5, .int x5)] [] s Q :=
  ps_wp_at (stops := [(22, [0, 1, 2, 3, 4, 5])]) (n := 35) h rfl

theorem xr_17_22 {m s : ps_S} {t : Int32} {d : Nat} {r0 : Nat} {x1 : Int32} {x2 : Int32} {x3 : Int32} {x4 : Int32} {x5 : Int32} {Q : Option Value → ps_S → Prop} (HS : xsS d (x3 + 1)) (h0 : ps_is r0 0 = true) (e0 : x4 &&& 1 = x4) (J : xJ m t s) (k : ∀ (v : Int32) (s' : ps_S), v &&& 1 = v → xJ m t s' → Q (some (.int v)) s') : ps_At (d + 9) 17 22 [(0, .ref r0), (1, .int x1), (2, .int x2), (3, .int x3), (4, .int x4), (5, .int x5)] [] s Q :=
  xs_up (P := fun x5 => ∀ (s : ps_S), ps_is r0 0 = true → x4 &&& 1 = x4 → xJ m t s → ps_At (d + 9) 17 22 [(0, .ref r0), (1, .int x1), (2, .int x2), (3, .int x3), (4, .int x4), (5, .int x5)] [] s Q) (fun x5 ih s h0 e0 J => pg_17_22 (d := d + 8) (ps_nk_i h0 (And.intro (fun f1 => (ps_nd_i (decide_eq_true e0) ((k x4 s (of_decide_eq_true (decide_eq_true e0)) J)))) (fun f1 => (ps_nk_i h0 (xs_183 (xk_0_7 h0) J (fun s1 J1 e1 => (ps_nk_i h0 (HS _ _ _ _ _ _ _ h0 J1 (fun v2 s2 b2 J2 => (And.intro (fun f2 => (ih ((x5 + 1)) (xs_lt f1) s2 h0 e0 J2)) (fun f2 => (And.intro (fun f3 => (k 0 s2 (by decide) J2)) (fun f3 => (k 1 s2 (by decide) J2))))))))))))))) x5 s h0 e0 J

theorem xr_17 {m s : ps_S} {t : Int32} {d : Nat} {r0 : Nat} {x1 : Int32} {x2 : Int32} {x3 : Int32} {f : Int32 → ps_S → Prop} (HS : xsS d (x3 + 1)) (h0 : ps_is r0 0 = true) (J : xJ m t s) (k : ∀ (v : Int32) (s' : ps_S), v &&& 1 = v → xJ m t s' → f v s') : ps_Cl (d + 9) 17 [.ref r0, .int x1, .int x2, .int x3] s (ps_rI f) :=
  pg_17_0 (d := d + 8) (ps_nk_i h0 (ps_nk_i (xj_0_14 J h0) (xs_92 (xj_0_14 J h0) J (fun v1 => (And.intro (fun f1 => (xr_17_22 (d := d) (r0 := r0) (x1 := x1) (x2 := x2) (x3 := x3) (x4 := 0) (x5 := 0) HS h0 (by decide) J k )) (fun f1 => (xr_17_22 (d := d) (r0 := r0) (x1 := x1) (x2 := x2) (x3 := x3) (x4 := 1) (x5 := 0) HS h0 (by decide) J k )))))))

-- ProofBench$Judge.isSo(III)Z
theorem pg_15_0 {d : Nat} {r0 : Nat} {x1 : Int32} {x2 : Int32} {x3 : Int32} {s : ps_S} {Q : Option Value → ps_S → Prop} (h :
  (x3 ≤ 12 →
    ps_nk (ps_is r0 0) (ps_nk (ps_is (ps_r s r0 14) 5) (ps_Cl d 92 [.ref (ps_r s r0 14), .int x1] s (ps_rI (fun v1 s1 =>
      (v1 = 0 →
        Q (some (.int 0)) s1) ∧
      (v1 ≠ 0 →
        (v1 = 1 →
        ps_nk (ps_is r0 0) (ps_Cl d 16 [.ref r0, .int x1, .int x2, .int (x3 + 1)] s1 (ps_rI (fun v2 s2 =>
          ps_nd (decide (v2 &&& 1 = v2)) (Q (some (.int v2)) s2))))) ∧
      (v1 ≠ 1 →
        (v1 = 2 →
        ps_nk (ps_is r0 0) (ps_Cl d 16 [.ref r0, .int x1, .int x2, .int (x3 + 1)] s1 (ps_rI (fun v3 s3 =>
          ps_nd (decide (v3 &&& 1 = v3)) (Q (some (.int v3)) s3))))) ∧
      (v1 ≠ 2 →
        (v1 = 3 →
        ps_nk (ps_is r0 0) (ps_Cl d 16 [.ref r0, .int x1, .int x2, .int (x3 + 1)] s1 (ps_rI (fun v4 s4 =>
          ps_nd (decide (v4 &&& 1 = v4)) (Q (some (.int v4)) s4))))) ∧
      (v1 ≠ 3 →
        (v1 = 4 →
        ps_nk (ps_is r0 0) (ps_Cl d 17 [.ref r0, .int x1, .int x2, .int x3] s1 (ps_rI (fun v5 s5 =>
          ps_nd (decide (v5 &&& 1 = v5)) (Q (some (.int v5)) s5))))) ∧
      (v1 ≠ 4 →
        (v1 = 5 →
        ps_nk (ps_is r0 0) (ps_Cl d 17 [.ref r0, .int x1, .int x2, .int x3] s1 (ps_rI (fun v6 s6 =>
          ps_nd (decide (v6 &&& 1 = v6)) (Q (some (.int v6)) s6))))) ∧
      (v1 ≠ 5 →
        (v1 = 6 →
        ps_nk (ps_is r0 0) (ps_Cl d 18 [.ref r0, .int (x1 + 1), .int x2, .int (x3 + 1)] s1 (ps_rI (fun v7 s7 =>
          ps_nk (ps_is r0 0) (ps_nk (ps_is (ps_r s7 r0 15) 6) (ps_Cl d 104 [.ref (ps_r s7 r0 15), .int (x1 + 1)] s7 (ps_rI (fun v8 s8 =>
            ps_nk (ps_is r0 0) (ps_Cl d 18 [.ref r0, .int v8, .int x2, .int (x3 + 1)] s8 (ps_rI (fun v9 s9 =>
              (v7 ≠ v9 →
                Q (some (.int 0)) s9) ∧
              (v7 = v9 →
                Q (some (.int 1)) s9)))))))))))) ∧
      (v1 ≠ 6 →
        ps_nk (ps_is r0 0) (ps_nk (ps_is r0 0) (ps_Cl d 182 [.ref (ps_c0 r0 3), .int (v1 - 10)] s1 (ps_rI (fun v10 s10 =>
        ps_nk (ps_is r0 0) (ps_Cl d 19 [.ref r0, .int x1, .int x2, .int x3] s10 (ps_rI (fun v11 s11 =>
          ps_Cl d 182 [.ref (ps_c0 r0 1), .int (v10 + v11)] s11 (ps_rI (fun v12 s12 =>
            (v12 ≠ 1 →
              Q (some (.int 0)) s12) ∧
            (v12 = 1 →
              Q (some (.int 1)) s12)))))))))))))))))))))) ∧
  (12 < x3 →
    Q (some (.int 0)) s)) : ps_At (d + 1) 15 0 [(0, .ref r0), (1, .int x1), (2, .int x2), (3, .int x3)] [] s Q :=
  ps_wp_at (stops := []) (n := 101) h rfl

theorem xr_15 {m s : ps_S} {t : Int32} {d : Nat} {r0 : Nat} {x1 : Int32} {x2 : Int32} {x3 : Int32} {f : Int32 → ps_S → Prop} (HS : x3 ≤ 12 → xsS d (x3 + 1)) (HG : ∀ e, x3 ≤ 12 → xsG (d + e) (x3 + 1)) (h0 : ps_is r0 0 = true) (J : xJ m t s) (k : ∀ (v : Int32) (s' : ps_S), v &&& 1 = v → xJ m t s' → f v s') : ps_Cl (d + 10) 15 [.ref r0, .int x1, .int x2, .int x3] s (ps_rI f) :=
  pg_15_0 (d := d + 9) (And.intro (fun f1 => (ps_nk_i h0 (ps_nk_i (xj_0_14 J h0) (xs_92 (xj_0_14 J h0) J (fun v1 => (And.intro (fun f2 => (k 0 s (by decide) J)) (fun f2 => (And.intro (fun f3 => (ps_nk_i h0 (xr_16 (HS f1) h0 J (fun v2 s2 b2 J2 => (ps_nd_i (decide_eq_true b2) ((k v2 s2 (of_decide_eq_true (decide_eq_true b2)) J2))))))) (fun f3 => (And.intro (fun f4 => (ps_nk_i h0 (xr_16 (HS f1) h0 J (fun v3 s3 b3 J3 => (ps_nd_i (decide_eq_true b3) ((k v3 s3 (of_decide_eq_true (decide_eq_true b3)) J3))))))) (fun f4 => (And.intro (fun f5 => (ps_nk_i h0 (xr_16 (HS f1) h0 J (fun v4 s4 b4 J4 => (ps_nd_i (decide_eq_true b4) ((k v4 s4 (of_decide_eq_true (decide_eq_true b4)) J4))))))) (fun f5 => (And.intro (fun f6 => (ps_nk_i h0 (xr_17 (HS f1) h0 J (fun v5 s5 b5 J5 => (ps_nd_i (decide_eq_true b5) ((k v5 s5 (of_decide_eq_true (decide_eq_true b5)) J5))))))) (fun f6 => (And.intro (fun f7 => (ps_nk_i h0 (xr_17 (HS f1) h0 J (fun v6 s6 b6 J6 => (ps_nd_i (decide_eq_true b6) ((k v6 s6 (of_decide_eq_true (decide_eq_true b6)) J6))))))) (fun f7 => (And.intro (fun f8 => (ps_nk_i h0 ((HG 1 f1) _ _ _ _ _ _ _ h0 J (fun v7 => (ps_nk_i h0 (ps_nk_i (xj_0_15 J h0) (xs_104 (xj_0_15 J h0) J (fun v8 => (ps_nk_i h0 ((HG 1 f1) _ _ _ _ _ _ _ h0 J (fun v9 => (And.intro (fun f9 => (k 0 s (by decide) J)) (fun f9 => (k 1 s (by decide) J)))))))))))))) (fun f8 => (ps_nk_i h0 (ps_nk_i h0 (xs_182 (xk_0_3 h0) J (fun v10 => (ps_nk_i h0 (xr_19 (HG 0 f1) h0 J (fun v11 => (xs_182 (xk_0_1 h0) J (fun v12 => (And.intro (fun f10 => (k 0 s (by decide) J)) (fun f10 => (k 1 s (by decide) J))))))))))))))))))))))))))))))) (fun f1 => (k 0 s (by decide) J)))

theorem xr_G : ∀ (k : Nat) (x : Int32) (d : Nat), 0 ≤ x.toInt → x.toInt ≤ 13 → 13 - x.toInt ≤ k → 2 * k + 2 ≤ d → xsG d x := by
  intro k
  induction k with
  | zero =>
    intro x d h0 h1 h2 h3
    obtain ⟨e, rfl⟩ : ∃ e, d = e + 2 := ⟨d - 2, by omega⟩
    have e1 : (12 : Int32).toInt = 12 := by decide
    have hx : ¬ x ≤ 12 := by rw [Int32.le_iff_toInt_le, e1]; omega
    exact fun m s t r0 x1 x2 f h J k => xr_18 (d := e) (fun q => absurd q hx) h J k
  | succ k ih =>
    intro x d h0 h1 h2 h3
    obtain ⟨e, rfl⟩ : ∃ e, d = e + 2 := ⟨d - 2, by omega⟩
    have e1 : (12 : Int32).toInt = 12 := by decide
    have s1 : x ≤ 12 → xsG e (x + 1) := fun q => by
      rw [Int32.le_iff_toInt_le, e1] at q
      have ex : (x + 1).toInt = x.toInt + 1 := by rw [xI_add (by rw [xone]; omega) (by rw [xone]; omega), xone]
      exact ih (x + 1) e (by omega) (by omega) (by omega) (by omega)
    exact fun m s t r0 x1 x2 f h J k => xr_18 (d := e) s1 h J k
theorem xr_S : ∀ (k : Nat) (x : Int32) (d : Nat), 0 ≤ x.toInt → x.toInt ≤ 13 → 13 - x.toInt ≤ k → 2 * k + 2 ≤ d → xsS d x := by
  intro k
  induction k with
  | zero =>
    intro x d h0 h1 h2 h3
    obtain ⟨e, rfl⟩ : ∃ e, d = e + 2 := ⟨d - 2, by omega⟩
    have e1 : (12 : Int32).toInt = 12 := by decide
    have hx : ¬ x ≤ 12 := by rw [Int32.le_iff_toInt_le, e1]; omega
    exact fun m s t r0 x1 x2 f h J k => xr_15 (d := e) (fun q => absurd q hx) (fun _ q => absurd q hx) h J k
  | succ k ih =>
    intro x d h0 h1 h2 h3
    obtain ⟨e, rfl⟩ : ∃ e, d = e + 2 := ⟨d - 2, by omega⟩
    have e1 : (12 : Int32).toInt = 12 := by decide
    have ex : x ≤ 12 → (x + 1).toInt = x.toInt + 1 ∧ x.toInt ≤ 12 := fun q => by
      rw [Int32.le_iff_toInt_le, e1] at q
      exact ⟨by rw [xI_add (by rw [xone]; omega) (by rw [xone]; omega), xone], q⟩
    exact fun m s t r0 x1 x2 f h J k' => xr_15 (d := e) (fun q => ih (x + 1) e (by have := ex q; omega) (by have := ex q; omega) (by have := ex q; omega) (by omega)) (fun i q => xr_G k (x + 1) (e + i) (by have := ex q; omega) (by have := ex q; omega) (by have := ex q; omega) (by omega)) h J k'
theorem xs_15 {m s : ps_S} {t x1 x2 : Int32} {d r0 : Nat} {f : Int32 → ps_S → Prop} (h0 : ps_is r0 0 = true) (J : xJ m t s) (k : ∀ (v : Int32) (s' : ps_S), v &&& 1 = v → xJ m t s' → f v s') : ps_Cl (d + 36) 15 [.ref r0, .int x1, .int x2, .int 0] s (ps_rI f) :=
  (xr_S 13 0 (d + 28) (by decide) (by decide) (by decide) (by omega)) m s t r0 x1 x2 f h0 J k

-- ProofBench$Judge.axiomsHold(I)Z
theorem pg_12_0 {d : Nat} {r0 : Nat} {x1 : Int32} {s : ps_S} {Q : Option Value → ps_S → Prop} (h :
  ps_nk (ps_is r0 0) (ps_Cl d 8 [.ref r0, .int x1] s (ps_rV (fun s1 =>
    ps_At (d + 1) 12 7 [(0, .ref r0), (2, .int 0)] [] s1 Q)))) : ps_At (d + 1) 12 0 [(0, .ref r0), (1, .int x1)] [] s Q :=
  ps_wp_at (stops := [(7, [0, 2])]) (n := 7) h rfl

theorem pg_12_7 {d : Nat} {r0 : Nat} {x2 : Int32} {s : ps_S} {Q : Option Value → ps_S → Prop} (h :
  ps_nk (ps_is r0 0) (ps_nk (ps_is (ps_r s r0 16) 9) (((ps_i s (ps_r s r0 16) 8) ≤ x2 →
    Q (some (.int 1)) s) ∧
  (x2 < (ps_i s (ps_r s r0 16) 8) →
    ps_nk (ps_is r0 0) (ps_nk (ps_is (ps_r s r0 16) 9) (ps_Cl d 135 [.ref (ps_r s r0 16), .int x2] s (ps_rA (fun v1 s1 =>
      ps_nk (ps_is r0 0) (ps_nk (ps_is r0 0) (ps_Cl d 10 [.ref r0, .int x2] (ps_ur s1 r0 14 v1) (ps_rA (fun v2 s2 =>
        ps_nk (ps_is r0 0) (ps_nk (ps_is r0 0) (ps_Cl d 15 [.ref r0, .int 0, .int 0, .int 0] (ps_ur s2 r0 15 v2) (ps_rI (fun v3 s3 =>
          (v3 ≠ 0 →
            ps_At (d + 1) 12 7 [(0, .ref r0), (2, .int (x2 + 1))] [] s3 Q) ∧
          (v3 = 0 →
            Q (some (.int 0)) s3))))))))))))))))) : ps_At (d + 1) 12 7 [(0, .ref r0), (2, .int x2)] [] s Q :=
  ps_wp_at (stops := [(7, [0, 2])]) (n := 30) h rfl

theorem xs_12_7 {m s : ps_S} {t : Int32} {d : Nat} {r0 : Nat} {x2 : Int32} {Q : Option Value → ps_S → Prop} (h0 : ps_is r0 0 = true) (J : xJ m t s) (k : ∀ (v : Int32) (s' : ps_S), v &&& 1 = v → xJ m t s' → Q (some (.int v)) s') : ps_At (d + 37) 12 7 [(0, .ref r0), (2, .int x2)] [] s Q :=
  xs_up (P := fun x2 => ∀ (s : ps_S), ps_is r0 0 = true → xJ m t s → ps_At (d + 37) 12 7 [(0, .ref r0), (2, .int x2)] [] s Q) (fun x2 ih s h0 J => pg_12_7 (d := d + 36) (ps_nk_i h0 (ps_nk_i (xj_0_16 J h0) (And.intro (fun f1 => (k 1 s (by decide) J)) (fun f1 => (ps_nk_i h0 (ps_nk_i (xj_0_16 J h0) (xs_135 (xj_0_16 J h0) J (fun v1 h1 => (ps_nk_i h0 (ps_nk_i h0 (xs_10 h0 (xw_0_14 h0 h1 J) (fun v2 h2 => (ps_nk_i h0 (ps_nk_i h0 (xs_15 h0 (xw_0_15 h0 h2 (xw_0_14 h0 h1 J)) (fun v3 s3 b3 J3 => (And.intro (fun f2 => (ih ((x2 + 1)) (xs_lt f1) s3 h0 J3)) (fun f2 => (k 0 s3 (by decide) J3)))))))))))))))))))) x2 s h0 J

theorem xs_12 {m s : ps_S} {t : Int32} {d : Nat} {r0 : Nat} {x1 : Int32} {f : Int32 → ps_S → Prop} (h0 : ps_is r0 0 = true) (J : xJ m t s) (k : ∀ (v : Int32) (s' : ps_S), v &&& 1 = v → xJ m t s' → f v s') : ps_Cl (d + 37) 12 [.ref r0, .int x1] s (ps_rI f) :=
  pg_12_0 (d := d + 36) (ps_nk_i h0 (xs_8 h0 J (fun s1 J1 => (xs_12_7 (d := d) (r0 := r0) (x2 := 0)  h0 J1 k ))))

-- ProofBench$Judge.isGood(I)Z
theorem pg_11_0 {d : Nat} {r0 : Nat} {x1 : Int32} {s : ps_S} {Q : Option Value → ps_S → Prop} (h :
  ps_nk (ps_is r0 0) ((((((ps_i s r0 11) - 1) * 64) + (x1 / 64)) < 0 →
    Q (some (.int 0)) s) ∧
  (0 ≤ ((((ps_i s r0 11) - 1) * 64) + (x1 / 64)) →
    ps_nk (ps_is r0 0) (ps_nk (Nat.beq (ps_K (ps_c0 r0 12)).1 0) (((nI (ps_ln (ps_c0 r0 12))) ≤ ((((ps_i s r0 11) - 1) * 64) + (x1 / 64)) →
      Q (some (.int 0)) s) ∧
    (((((ps_i s r0 11) - 1) * 64) + (x1 / 64)) < (nI (ps_ln (ps_c0 r0 12))) →
      ps_nk (ps_is r0 0) (ps_nk (Nat.beq (ps_K (ps_c0 r0 13)).1 0) ((((((ps_i s r0 11) - 1) * 64) + (x1 / 64)) < (nI (ps_ln (ps_c0 r0 13))) →
        ps_nk (ps_is r0 0) (ps_nk (ps_ar (ps_c0 r0 12) 3) (ps_nd (pm_in ((((ps_i s r0 11) - 1) * 64) + (x1 / 64)) (ps_ln (ps_c0 r0 12))) (((lg_cmp ((ps_b s (ps_c0 r0 12) (Int32.toNatClampNeg ((((ps_i s r0 11) - 1) * 64) + (x1 / 64)))) &&& ((1 : Int64) <<< (Int32.toInt64 (x1 - (x1 / 64) * 64) &&& 63))) 0) ≠ 0 →
          ps_At (d + 1) 11 106 [(0, .ref r0), (2, .int ((((ps_i s r0 11) - 1) * 64) + (x1 / 64))), (3, .long ((1 : Int64) <<< (Int32.toInt64 (x1 - (x1 / 64) * 64) &&& 63)))] [] s Q) ∧
        ((lg_cmp ((ps_b s (ps_c0 r0 12) (Int32.toNatClampNeg ((((ps_i s r0 11) - 1) * 64) + (x1 / 64)))) &&& ((1 : Int64) <<< (Int32.toInt64 (x1 - (x1 / 64) * 64) &&& 63))) 0) = 0 →
          ps_nk (ps_is r0 0) (ps_nk (ps_ar (ps_c0 r0 12) 3) (ps_nd (pm_in ((((ps_i s r0 11) - 1) * 64) + (x1 / 64)) (ps_ln (ps_c0 r0 12))) (ps_nk (ps_ar (ps_c0 r0 12) 3) (ps_nd (pm_in ((((ps_i s r0 11) - 1) * 64) + (x1 / 64)) (ps_ln (ps_c0 r0 12))) (ps_nk (ps_is r0 0) (ps_nk (ps_is r0 0) (ps_Cl d 12 [.ref r0, .int x1] (ps_ub s (ps_c0 r0 12) (Int32.toNatClampNeg ((((ps_i s r0 11) - 1) * 64) + (x1 / 64))) ((ps_b s (ps_c0 r0 12) (Int32.toNatClampNeg ((((ps_i s r0 11) - 1) * 64) + (x1 / 64)))) ||| ((1 : Int64) <<< (Int32.toInt64 (x1 - (x1 / 64) * 64) &&& 63)))) (ps_rI (fun v1 s1 =>
            (v1 = 0 →
              ps_nk (ps_is r0 0) (ps_nk (ps_ar (ps_c0 r0 13) 3) (ps_nd (pm_in ((((ps_i s r0 11) - 1) * 64) + (x1 / 64)) (ps_ln (ps_c0 r0 13))) (ps_nk (ps_ar (ps_c0 r0 13) 3) (ps_nd (pm_in ((((ps_i s r0 11) - 1) * 64) + (x1 / 64)) (ps_ln (ps_c0 r0 13))) (ps_At (d + 1) 11 106 [(0, .ref r0), (2, .int ((((ps_i s r0 11) - 1) * 64) + (x1 / 64))), (3, .long ((1 : Int64) <<< (Int32.toInt64 (x1 - (x1 / 64) * 64) &&& 63)))] [] (ps_ub s1 (ps_c0 r0 13) (Int32.toNatClampNeg ((((ps_i s r0 11) - 1) * 64) + (x1 / 64))) ((ps_b s1 (ps_c0 r0 13) (Int32.toNatClampNeg ((((ps_i s r0 11) - 1) * 64) + (x1 / 64)))) &&& (((1 : Int64) <<< (Int32.toInt64 (x1 - (x1 / 64) * 64) &&& 63)) ^^^ (-1 : Int64)))) Q)))))) ∧
            (v1 ≠ 0 →
              ps_nk (ps_is r0 0) (ps_nk (ps_ar (ps_c0 r0 13) 3) (ps_nd (pm_in ((((ps_i s r0 11) - 1) * 64) + (x1 / 64)) (ps_ln (ps_c0 r0 13))) (ps_nk (ps_ar (ps_c0 r0 13) 3) (ps_nd (pm_in ((((ps_i s r0 11) - 1) * 64) + (x1 / 64)) (ps_ln (ps_c0 r0 13))) (ps_At (d + 1) 11 106 [(0, .ref r0), (2, .int ((((ps_i s r0 11) - 1) * 64) + (x1 / 64))), (3, .long ((1 : Int64) <<< (Int32.toInt64 (x1 - (x1 / 64) * 64) &&& 63)))] [] (ps_ub s1 (ps_c0 r0 13) (Int32.toNatClampNeg ((((ps_i s r0 11) - 1) * 64) + (x1 / 64))) ((ps_b s1 (ps_c0 r0 13) (Int32.toNatClampNeg ((((ps_i s r0 11) - 1) * 64) + (x1 / 64)))) ||| ((1 : Int64) <<< (Int32.toInt64 (x1 - (x1 / 64) * 64) &&& 63)))) Q)))))))))))))))))))) ∧
      ((nI (ps_ln (ps_c0 r0 13))) ≤ ((((ps_i s r0 11) - 1) * 64) + (x1 / 64)) →
        Q (some (.int 0)) s))))))))) : ps_At (d + 1) 11 0 [(0, .ref r0), (1, .int x1)] [] s Q :=
  ps_wp_at (stops := [(106, [0, 2, 3])]) (n := 78) h rfl

theorem pg_11_106 {d : Nat} {r0 : Nat} {x2 : Int32} {l3 : Int64} {s : ps_S} {Q : Option Value → ps_S → Prop} (h :
  ps_nk (ps_is r0 0) (ps_nk (ps_ar (ps_c0 r0 13) 3) (ps_nd (pm_in x2 (ps_ln (ps_c0 r0 13))) (((lg_cmp ((ps_b s (ps_c0 r0 13) (Int32.toNatClampNeg x2)) &&& l3) 0) = 0 →
    Q (some (.int 0)) s) ∧
  ((lg_cmp ((ps_b s (ps_c0 r0 13) (Int32.toNatClampNeg x2)) &&& l3) 0) ≠ 0 →
    Q (some (.int 1)) s))))) : ps_At (d + 1) 11 106 [(0, .ref r0), (2, .int x2), (3, .long l3)] [] s Q :=
  ps_wp_at (stops := [(106, [0, 2, 3])]) (n := 16) h rfl

theorem xs_11_106 {m s : ps_S} {t : Int32} {d : Nat} {r0 : Nat} {x2 : Int32} {l3 : Int64} {Q : Option Value → ps_S → Prop} (h0 : ps_is r0 0 = true) (e0 : 0 ≤ x2) (e1 : x2 < (nI (ps_ln (ps_c0 r0 13)))) (J : xJ m t s) (k : ∀ (v : Int32) (s' : ps_S), v &&& 1 = v → xJ m t s' → Q (some (.int v)) s') : ps_At (d + 38) 11 106 [(0, .ref r0), (2, .int x2), (3, .long l3)] [] s Q :=
  pg_11_106 (d := d + 37) (ps_nk_i h0 (ps_nk_i (xn_3 ((xk_0_13 h0)).1) (ps_nd_i (xg_in e0 e1) (And.intro (fun f1 => (k 0 s (by decide) J)) (fun f1 => (k 1 s (by decide) J))))))

theorem xs_11 {m s : ps_S} {t : Int32} {d : Nat} {r0 : Nat} {x1 : Int32} {f : Int32 → ps_S → Prop} (h0 : ps_is r0 0 = true) (J : xJ m t s) (k : ∀ (v : Int32) (s' : ps_S), v &&& 1 = v → xJ m t s' → f v s') : ps_Cl (d + 38) 11 [.ref r0, .int x1] s (ps_rI f) :=
  pg_11_0 (d := d + 37) (ps_nk_i h0 (And.intro (fun f1 => (k 0 s (by decide) J)) (fun f1 => (ps_nk_i h0 (ps_nk_i (xn_l ((xk_0_12 h0)).1) (And.intro (fun f2 => (k 0 s (by decide) J)) (fun f2 => (ps_nk_i h0 (ps_nk_i (xn_l ((xk_0_13 h0)).1) (And.intro (fun f3 => (ps_nk_i h0 (ps_nk_i (xn_3 ((xk_0_12 h0)).1) (ps_nd_i (xg_in f1 f2) (And.intro (fun f4 => (xs_11_106 (d := d) (r0 := r0) (x2 := ((((ps_i s r0 11) - 1) * 64) + (x1 / 64))) (l3 := ((1 : Int64) <<< (Int32.toInt64 (x1 - (x1 / 64) * 64) &&& 63)))  h0 f1 f3 J k )) (fun f4 => (ps_nk_i h0 (ps_nk_i (xn_3 ((xk_0_12 h0)).1) (ps_nd_i (xg_in f1 f2) (ps_nk_i (xn_3 ((xk_0_12 h0)).1) (ps_nd_i (xg_in f1 f2) (ps_nk_i h0 (ps_nk_i h0 (xs_12 h0 (xw_b (((xk_0_12 h0)).2) J) (fun v1 s1 b1 J1 => (And.intro (fun f5 => (ps_nk_i h0 (ps_nk_i (xn_3 ((xk_0_13 h0)).1) (ps_nd_i (xg_in f1 f3) (ps_nk_i (xn_3 ((xk_0_13 h0)).1) (ps_nd_i (xg_in f1 f3) (xs_11_106 (d := d) (r0 := r0) (x2 := ((((ps_i s r0 11) - 1) * 64) + (x1 / 64))) (l3 := ((1 : Int64) <<< (Int32.toInt64 (x1 - (x1 / 64) * 64) &&& 63)))  h0 f1 f3 (xw_b (((xk_0_13 h0)).2) J1) k ))))))) (fun f5 => (ps_nk_i h0 (ps_nk_i (xn_3 ((xk_0_13 h0)).1) (ps_nd_i (xg_in f1 f3) (ps_nk_i (xn_3 ((xk_0_13 h0)).1) (ps_nd_i (xg_in f1 f3) (xs_11_106 (d := d) (r0 := r0) (x2 := ((((ps_i s r0 11) - 1) * 64) + (x1 / 64))) (l3 := ((1 : Int64) <<< (Int32.toInt64 (x1 - (x1 / 64) * 64) &&& 63)))  h0 f1 f3 (xw_b (((xk_0_13 h0)).2) J1) k ))))))))))))))))))))))) (fun f3 => (k 0 s (by decide) J))))))))))))

-- ProofBench$Judge.goodModels(LProofBench$Theory;I)I
theorem pg_3_0 {d : Nat} {r0 : Nat} {r1 : Nat} {x2 : Int32} {s : ps_S} {Q : Option Value → ps_S → Prop} (h :
  ps_nk (ps_is r0 0) (ps_Cl d 2 [.ref r0, .ref r1, .int x2] s (ps_rI (fun v1 s1 =>
    ps_nk (ps_is r0 0) (ps_Cl d 9 [.ref r0] s1 (ps_rV (fun s2 =>
      ps_At (d + 1) 3 17 [(0, .ref r0), (3, .int v1), (4, .int 0), (5, .int 0)] [] s2 Q))))))) : ps_At (d + 1) 3 0 [(0, .ref r0), (1, .ref r1), (2, .int x2)] [] s Q :=
  ps_wp_at (stops := [(17, [0, 3, 4, 5])]) (n := 13) h rfl

theorem pg_3_17 {d : Nat} {r0 : Nat} {x3 : Int32} {x4 : Int32} {x5 : Int32} {s : ps_S} {Q : Option Value → ps_S → Prop} (h :
  (x3 ≤ x5 →
    (x3 ≠ (-2) →
      Q (some (.int x4)) s) ∧
    (x3 = (-2) →
      Q (some (.int (-2))) s)) ∧
  (x5 < x3 →
    ps_nk (ps_is r0 0) (ps_Cl d 11 [.ref r0, .int x5] s (ps_rI (fun v1 s1 =>
      (v1 = 0 →
        ps_At (d + 1) 3 17 [(0, .ref r0), (3, .int x3), (4, .int x4), (5, .int (x5 + 1))] [] s1 Q) ∧
      (v1 ≠ 0 →
        ps_At (d + 1) 3 17 [(0, .ref r0), (3, .int x3), (4, .int (x4 + 1)), (5, .int (x5 + 1))] [] s1 Q)))))) : ps_At (d + 1) 3 17 [(0, .ref r0), (3, .int x3), (4, .int x4), (5, .int x5)] [] s Q :=
  ps_wp_at (stops := [(17, [0, 3, 4, 5])]) (n := 22) h rfl

theorem xs_3_17 {m s : ps_S} {t : Int32} {d : Nat} {r0 : Nat} {x3 : Int32} {x4 : Int32} {x5 : Int32} {Q : Option Value → ps_S → Prop} (h0 : ps_is r0 0 = true) (J : xJ m t s) (k : ∀ (v : Int32) (s' : ps_S), xJ m t s' → Q (some (.int v)) s') : ps_At (d + 39) 3 17 [(0, .ref r0), (3, .int x3), (4, .int x4), (5, .int x5)] [] s Q :=
  xs_up (P := fun x5 => ∀ (x4 : Int32) (s : ps_S), ps_is r0 0 = true → xJ m t s → ps_At (d + 39) 3 17 [(0, .ref r0), (3, .int x3), (4, .int x4), (5, .int x5)] [] s Q) (fun x5 ih x4 s h0 J => pg_3_17 (d := d + 38) (And.intro (fun f1 => (And.intro (fun f2 => (k x4 s J)) (fun f2 => (k (-2) s J)))) (fun f1 => (ps_nk_i h0 (xs_11 h0 J (fun v1 s1 b1 J1 => (And.intro (fun f3 => (ih ((x5 + 1)) (xs_lt f1) (x4) s1 h0 J1)) (fun f3 => (ih ((x5 + 1)) (xs_lt f1) ((x4 + 1)) s1 h0 J1))))))))) x5 x4 s h0 J

theorem xs_3 {m s : ps_S} {t : Int32} {d : Nat} {r0 : Nat} {r1 : Nat} {x2 : Int32} {f : Int32 → ps_S → Prop} (h0 : ps_is r0 0 = true) (h1 : ps_is r1 9 = true) (J : xJ m t s) (k : ∀ (v : Int32) (s' : ps_S), xJ m t s' → f v s') : ps_Cl (d + 39) 3 [.ref r0, .ref r1, .int x2] s (ps_rI f) :=
  pg_3_0 (d := d + 38) (ps_nk_i h0 (xs_2 h0 h1 J (fun v1 s1 J1 => (ps_nk_i h0 (xs_9 h0 J1 (fun s2 J2 => (xs_3_17 (d := d) (r0 := r0) (x3 := v1) (x4 := 0) (x5 := 0)  h0 J2 k )))))))

-- ProofBench$Row.contains(I)Z
theorem pg_100_0 {d : Nat} {r0 : Nat} {x1 : Int32} {s : ps_S} {Q : Option Value → ps_S → Prop} (h :
  ps_At (d + 1) 100 2 [(0, .ref r0), (1, .int x1), (2, .int 0)] [] s Q) : ps_At (d + 1) 100 0 [(0, .ref r0), (1, .int x1)] [] s Q :=
  ps_wp_at (stops := [(2, [0, 1, 2])]) (n := 4) h rfl

theorem pg_100_2 {d : Nat} {r0 : Nat} {x1 : Int32} {x2 : Int32} {s : ps_S} {Q : Option Value → ps_S → Prop} (h :
  ps_nk (ps_is r0 5) (((ps_i s r0 1) ≤ x2 →
    Q (some (.int 0)) s) ∧
  (x2 < (ps_i s r0 1) →
    ps_nk (ps_is r0 5) (ps_Cl d 92 [.ref r0, .int x2] s (ps_rI (fun v1 s1 =>
      (v1 ≠ x1 →
        ps_At (d + 1) 100 2 [(0, .ref r0), (1, .int x1), (2, .int (x2 + 1))] [] s1 Q) ∧
      (v1 = x1 →
        Q (some (.int 1)) s1))))))) : ps_At (d + 1) 100 2 [(0, .ref r0), (1, .int x1), (2, .int x2)] [] s Q :=
  ps_wp_at (stops := [(2, [0, 1, 2])]) (n := 17) h rfl

theorem xs_100_2 {m s : ps_S} {t : Int32} {d : Nat} {r0 : Nat} {x1 : Int32} {x2 : Int32} {Q : Option Value → ps_S → Prop} (h0 : ps_is r0 5 = true) (J : xJ m t s) (k : ∀ (v : Int32), v &&& 1 = v → Q (some (.int v)) s) : ps_At (d + 1) 100 2 [(0, .ref r0), (1, .int x1), (2, .int x2)] [] s Q :=
  xs_up (P := fun x2 => ps_is r0 5 = true → ps_At (d + 1) 100 2 [(0, .ref r0), (1, .int x1), (2, .int x2)] [] s Q) (fun x2 ih h0 => pg_100_2 (d := d) (ps_nk_i h0 (And.intro (fun f1 => (k 0 (by decide))) (fun f1 => (ps_nk_i h0 (xs_92 h0 J (fun v1 => (And.intro (fun f2 => (ih ((x2 + 1)) (xs_lt f1) h0)) (fun f2 => (k 1 (by decide))))))))))) x2 h0

theorem xs_100 {m s : ps_S} {t : Int32} {d : Nat} {r0 : Nat} {x1 : Int32} {f : Int32 → ps_S → Prop} (h0 : ps_is r0 5 = true) (J : xJ m t s) (k : ∀ (v : Int32), v &&& 1 = v → f v s) : ps_Cl (d + 1) 100 [.ref r0, .int x1] s (ps_rI f) :=
  pg_100_0 (d := d) (xs_100_2 (d := d) (r0 := r0) (x1 := x1) (x2 := 0)  h0 J k )

-- ProofBench$Judge.findFree(LProofBench$Row;)V
theorem pg_13_0 {d : Nat} {r0 : Nat} {r1 : Nat} {s : ps_S} {Q : Option Value → ps_S → Prop} (h :
  ps_nk (ps_is r0 0) (ps_At (d + 1) 13 7 [(0, .ref r0), (1, .ref r1), (2, .int 0)] [] (ps_ui s r0 10 0) Q)) : ps_At (d + 1) 13 0 [(0, .ref r0), (1, .ref r1)] [] s Q :=
  ps_wp_at (stops := [(7, [0, 1, 2])]) (n := 7) h rfl

theorem pg_13_7 {d : Nat} {r0 : Nat} {r1 : Nat} {x2 : Int32} {s : ps_S} {Q : Option Value → ps_S → Prop} (h :
  (12 ≤ x2 →
    Q none s) ∧
  (x2 < 12 →
    ps_nk (ps_is r1 5) (ps_Cl d 100 [.ref r1, .int ((60 : Int32) + x2)] s (ps_rI (fun v1 s1 =>
      (v1 = 0 →
        ps_At (d + 1) 13 7 [(0, .ref r0), (1, .ref r1), (2, .int (x2 + 1))] [] s1 Q) ∧
      (v1 ≠ 0 →
        ps_nk (ps_is r0 0) (ps_nk (ps_is r0 0) (ps_Cl d 183 [.ref (ps_c0 r0 9), .int (ps_i s1 r0 10), .int x2] s1 (ps_rV (fun s2 =>
          ps_nk (ps_is r0 0) (ps_nk (ps_is r0 0) (ps_At (d + 1) 13 7 [(0, .ref r0), (1, .ref r1), (2, .int (x2 + 1))] [] (ps_ui s2 r0 10 ((ps_i s2 r0 10) + 1)) Q)))))))))))) : ps_At (d + 1) 13 7 [(0, .ref r0), (1, .ref r1), (2, .int x2)] [] s Q :=
  ps_wp_at (stops := [(7, [0, 1, 2])]) (n := 28) h rfl

theorem xs_13_7 {m s : ps_S} {t : Int32} {d : Nat} {r0 : Nat} {r1 : Nat} {x2 : Int32} {Q : Option Value → ps_S → Prop} (h0 : ps_is r0 0 = true) (h1 : ps_is r1 5 = true) (J : xJ m t s) (k : ∀ (s' : ps_S), xJ m t s' → Q none s') : ps_At (d + 2) 13 7 [(0, .ref r0), (1, .ref r1), (2, .int x2)] [] s Q :=
  xs_up (P := fun x2 => ∀ (s : ps_S), ps_is r0 0 = true → ps_is r1 5 = true → xJ m t s → ps_At (d + 2) 13 7 [(0, .ref r0), (1, .ref r1), (2, .int x2)] [] s Q) (fun x2 ih s h0 h1 J => pg_13_7 (d := d + 1) (And.intro (fun f1 => (k s J)) (fun f1 => (ps_nk_i h1 (xs_100 h1 J (fun v1 b1 => (And.intro (fun f2 => (ih ((x2 + 1)) (xs_lt f1) s h0 h1 J)) (fun f2 => (ps_nk_i h0 (ps_nk_i h0 (xs_183 (xk_0_9 h0) J (fun s2 J2 e2 => (ps_nk_i h0 (ps_nk_i h0 (ih ((x2 + 1)) (xs_lt f1) (ps_ui s2 r0 10 ((ps_i s2 r0 10) + 1)) h0 h1 (xw_i (c := 0) (by decide) h0 J2)))))))))))))))) x2 s h0 h1 J

theorem xs_13 {m s : ps_S} {t : Int32} {d : Nat} {r0 : Nat} {r1 : Nat} {f : ps_S → Prop} (h0 : ps_is r0 0 = true) (h1 : ps_is r1 5 = true) (J : xJ m t s) (k : ∀ (s' : ps_S), xJ m t s' → f s') : ps_Cl (d + 2) 13 [.ref r0, .ref r1] s (ps_rV f) :=
  pg_13_0 (d := d + 1) (ps_nk_i h0 (xs_13_7 (d := d) (r0 := r0) (r1 := r1) (x2 := 0)  h0 h1 (xw_i (c := 0) (by decide) h0 J) k ))

-- ProofBench$Judge.isSoForAll(LProofBench$Row;)Z
theorem pg_14_0 {d : Nat} {r0 : Nat} {r1 : Nat} {s : ps_S} {Q : Option Value → ps_S → Prop} (h :
  ps_nk (ps_is r0 0) (ps_nk (ps_is r0 0) (ps_nk (ps_is r0 0) (ps_At (d + 1) 14 17 [(0, .ref r0), (2, .int 1), (3, .int 0)] [] (ps_ur (ps_ur s r0 14 r1) r0 15 (ps_c0 r0 6)) Q)))) : ps_At (d + 1) 14 0 [(0, .ref r0), (1, .ref r1)] [] s Q :=
  ps_wp_at (stops := [(17, [0, 2, 3]), (40, [0, 2, 3]), (51, [0, 2, 3, 4, 5]), (105, [0, 2, 3])]) (n := 13) h rfl

theorem pg_14_17 {d : Nat} {r0 : Nat} {x2 : Int32} {x3 : Int32} {s : ps_S} {Q : Option Value → ps_S → Prop} (h :
  ps_nk (ps_is r0 0) (((ps_i s r0 10) ≤ x3 →
    ps_At (d + 1) 14 40 [(0, .ref r0), (2, .int x2), (3, .int 0)] [] s Q) ∧
  (x3 < (ps_i s r0 10) →
    ps_nk (ps_is r0 0) (ps_At (d + 1) 14 17 [(0, .ref r0), (2, .int (x2 * (ps_i s r0 11))), (3, .int (x3 + 1))] [] s Q)))) : ps_At (d + 1) 14 17 [(0, .ref r0), (2, .int x2), (3, .int x3)] [] s Q :=
  ps_wp_at (stops := [(17, [0, 2, 3]), (40, [0, 2, 3]), (51, [0, 2, 3, 4, 5]), (105, [0, 2, 3])]) (n := 15) h rfl

theorem pg_14_40 {d : Nat} {r0 : Nat} {x2 : Int32} {x3 : Int32} {s : ps_S} {Q : Option Value → ps_S → Prop} (h :
  (x2 ≤ x3 →
    Q (some (.int 1)) s) ∧
  (x3 < x2 →
    ps_At (d + 1) 14 51 [(0, .ref r0), (2, .int x2), (3, .int x3), (4, .int x3), (5, .int 0)] [] s Q)) : ps_At (d + 1) 14 40 [(0, .ref r0), (2, .int x2), (3, .int x3)] [] s Q :=
  ps_wp_at (stops := [(17, [0, 2, 3]), (40, [0, 2, 3]), (51, [0, 2, 3, 4, 5]), (105, [0, 2, 3])]) (n := 11) h rfl

theorem pg_14_51 {d : Nat} {r0 : Nat} {x2 : Int32} {x3 : Int32} {x4 : Int32} {x5 : Int32} {s : ps_S} {Q : Option Value → ps_S → Prop} (h :
  ps_nk (ps_is r0 0) (((ps_i s r0 10) ≤ x5 →
    ps_At (d + 1) 14 105 [(0, .ref r0), (2, .int x2), (3, .int x3)] [] s Q) ∧
  (x5 < (ps_i s r0 10) →
    ps_nk (ps_is r0 0) (((ps_i s r0 11) ≤ 0 →
      ps_At (d + 1) 14 105 [(0, .ref r0), (2, .int x2), (3, .int x3)] [] s Q) ∧
    (0 < (ps_i s r0 11) →
      ps_nk (ps_is r0 0) (ps_nk (ps_is r0 0) (ps_Cl d 182 [.ref (ps_c0 r0 9), .int x5] s (ps_rI (fun v1 s1 =>
        ps_nk (ps_is r0 0) (ps_nd (!decide ((ps_i s1 r0 11) = 0)) (ps_Cl d 183 [.ref (ps_c0 r0 8), .int v1, .int (x4 - (x4 / (ps_i s1 r0 11)) * (ps_i s1 r0 11))] s1 (ps_rV (fun s2 =>
          ps_nk (ps_is r0 0) (ps_nd (!decide ((ps_i s2 r0 11) = 0)) (ps_At (d + 1) 14 51 [(0, .ref r0), (2, .int x2), (3, .int x3), (4, .int (x4 / (ps_i s2 r0 11))), (5, .int (x5 + 1))] [] s2 Q))))))))))))))) : ps_At (d + 1) 14 51 [(0, .ref r0), (2, .int x2), (3, .int x3), (4, .int x4), (5, .int x5)] [] s Q :=
  ps_wp_at (stops := [(17, [0, 2, 3]), (40, [0, 2, 3]), (51, [0, 2, 3, 4, 5]), (105, [0, 2, 3])]) (n := 27) h rfl

theorem pg_14_105 {d : Nat} {r0 : Nat} {x2 : Int32} {x3 : Int32} {s : ps_S} {Q : Option Value → ps_S → Prop} (h :
  ps_nk (ps_is r0 0) (ps_Cl d 15 [.ref r0, .int 0, .int 0, .int 0] s (ps_rI (fun v1 s1 =>
    (v1 ≠ 0 →
      ps_At (d + 1) 14 40 [(0, .ref r0), (2, .int x2), (3, .int (x3 + 1))] [] s1 Q) ∧
    (v1 = 0 →
      Q (some (.int 0)) s1))))) : ps_At (d + 1) 14 105 [(0, .ref r0), (2, .int x2), (3, .int x3)] [] s Q :=
  ps_wp_at (stops := [(17, [0, 2, 3]), (40, [0, 2, 3]), (51, [0, 2, 3, 4, 5]), (105, [0, 2, 3])]) (n := 12) h rfl

theorem xs_14_105 {m s : ps_S} {t : Int32} {d : Nat} {r0 : Nat} {x2 : Int32} {x3 : Int32} {Q : Option Value → ps_S → Prop} (h0 : ps_is r0 0 = true) (J : xJ m t s) (k : ∀ (v : Int32) (s' : ps_S), v &&& 1 = v → xJ m t s' → Q (some (.int v)) s') (K40 : ∀ (s : ps_S), ps_is r0 0 = true → xJ m t s → ps_At (d + 37) 14 40 [(0, .ref r0), (2, .int x2), (3, .int (x3 + 1))] [] s Q) : ps_At (d + 37) 14 105 [(0, .ref r0), (2, .int x2), (3, .int x3)] [] s Q :=
  pg_14_105 (d := d + 36) (ps_nk_i h0 (xs_15 h0 J (fun v1 s1 b1 J1 => (And.intro (fun f1 => (K40 s1 h0 J1)) (fun f1 => (k 0 s1 (by decide) J1))))))

theorem xs_14_51 {m s : ps_S} {t : Int32} {d : Nat} {r0 : Nat} {x2 : Int32} {x3 : Int32} {x4 : Int32} {x5 : Int32} {Q : Option Value → ps_S → Prop} (h0 : ps_is r0 0 = true) (J : xJ m t s) (k : ∀ (v : Int32) (s' : ps_S), v &&& 1 = v → xJ m t s' → Q (some (.int v)) s') (K40 : ∀ (s : ps_S), ps_is r0 0 = true → xJ m t s → ps_At (d + 37) 14 40 [(0, .ref r0), (2, .int x2), (3, .int (x3 + 1))] [] s Q) : ps_At (d + 37) 14 51 [(0, .ref r0), (2, .int x2), (3, .int x3), (4, .int x4), (5, .int x5)] [] s Q :=
  xs_up (P := fun x5 => ∀ (x4 : Int32) (s : ps_S), ps_is r0 0 = true → xJ m t s → ps_At (d + 37) 14 51 [(0, .ref r0), (2, .int x2), (3, .int x3), (4, .int x4), (5, .int x5)] [] s Q) (fun x5 ih x4 s h0 J => pg_14_51 (d := d + 36) (ps_nk_i h0 (And.intro (fun f1 => (xs_14_105 (d := d) (r0 := r0) (x2 := x2) (x3 := x3)  h0 J k K40)) (fun f1 => (ps_nk_i h0 (And.intro (fun f2 => (xs_14_105 (d := d) (r0 := r0) (x2 := x2) (x3 := x3)  h0 J k K40)) (fun f2 => (ps_nk_i h0 (ps_nk_i h0 (xs_182 (xk_0_9 h0) J (fun v1 => (ps_nk_i h0 (ps_nd_i (xg_nz f2) (xs_183 (xk_0_8 h0) J (fun s2 J2 e2 => (ps_nk_i h0 (ps_nd_i (xg_nz (by rw [e2]; exact f2)) (ih ((x5 + 1)) (xs_lt f1) ((x4 / (ps_i s2 r0 11))) s2 h0 J2)))))))))))))))))) x5 x4 s h0 J

theorem xs_14_40 {m s : ps_S} {t : Int32} {d : Nat} {r0 : Nat} {x2 : Int32} {x3 : Int32} {Q : Option Value → ps_S → Prop} (h0 : ps_is r0 0 = true) (J : xJ m t s) (k : ∀ (v : Int32) (s' : ps_S), v &&& 1 = v → xJ m t s' → Q (some (.int v)) s') : ps_At (d + 37) 14 40 [(0, .ref r0), (2, .int x2), (3, .int x3)] [] s Q :=
  xs_up (P := fun x3 => ∀ (s : ps_S), ps_is r0 0 = true → xJ m t s → ps_At (d + 37) 14 40 [(0, .ref r0), (2, .int x2), (3, .int x3)] [] s Q) (fun x3 ih s h0 J => pg_14_40 (d := d + 36) (And.intro (fun f1 => (k 1 s (by decide) J)) (fun f1 => (xs_14_51 (d := d) (r0 := r0) (x2 := x2) (x3 := x3) (x4 := x3) (x5 := 0)  h0 J k (fun s9 h0z J9 => ih (x3 + 1) (xs_lt f1) s9 h0z J9))))) x3 s h0 J

theorem xs_14_17 {m s : ps_S} {t : Int32} {d : Nat} {r0 : Nat} {x2 : Int32} {x3 : Int32} {Q : Option Value → ps_S → Prop} (h0 : ps_is r0 0 = true) (J : xJ m t s) (k : ∀ (v : Int32) (s' : ps_S), v &&& 1 = v → xJ m t s' → Q (some (.int v)) s') : ps_At (d + 37) 14 17 [(0, .ref r0), (2, .int x2), (3, .int x3)] [] s Q :=
  xs_up (P := fun x3 => ∀ (x2 : Int32) (s : ps_S), ps_is r0 0 = true → xJ m t s → ps_At (d + 37) 14 17 [(0, .ref r0), (2, .int x2), (3, .int x3)] [] s Q) (fun x3 ih x2 s h0 J => pg_14_17 (d := d + 36) (ps_nk_i h0 (And.intro (fun f1 => (xs_14_40 (d := d) (r0 := r0) (x2 := x2) (x3 := 0)  h0 J k )) (fun f1 => (ps_nk_i h0 (ih ((x3 + 1)) (xs_lt f1) ((x2 * (ps_i s r0 11))) s h0 J)))))) x3 x2 s h0 J

theorem xs_14 {m s : ps_S} {t : Int32} {d : Nat} {r0 : Nat} {r1 : Nat} {f : Int32 → ps_S → Prop} (h0 : ps_is r0 0 = true) (h1 : ps_is r1 5 = true) (J : xJ m t s) (k : ∀ (v : Int32) (s' : ps_S), v &&& 1 = v → xJ m t s' → f v s') : ps_Cl (d + 37) 14 [.ref r0, .ref r1] s (ps_rI f) :=
  pg_14_0 (d := d + 36) (ps_nk_i h0 (ps_nk_i h0 (ps_nk_i h0 (xs_14_17 (d := d) (r0 := r0) (x2 := 1) (x3 := 0)  h0 (xw_0_15 h0 (xk_0_6 h0) (xw_0_14 h0 h1 J)) k ))))

-- ProofBench$Judge.holdsIn(LProofBench$Theory;LProofBench$Row;II)I
theorem pg_4_0 {d : Nat} {r0 : Nat} {r1 : Nat} {r2 : Nat} {x3 : Int32} {x4 : Int32} {s : ps_S} {Q : Option Value → ps_S → Prop} (h :
  ps_nk (ps_is r0 0) (ps_Cl d 6 [.ref r0, .ref r1, .int x3] s (ps_rJ (fun v1 s1 =>
    ((lg_cmp (Int32.toInt64 x4) v1) < 0 →
      ps_nk (ps_is r0 0) (ps_Cl d 13 [.ref r0, .ref r2] s1 (ps_rV (fun s2 =>
        (0 < (lg_cmp v1 (4096 : Int64)) →
          Q (some (.int (-2))) s2) ∧
        ((lg_cmp v1 (4096 : Int64)) ≤ 0 →
          ps_nk (ps_is r0 0) (((ps_i s2 r0 10) ≤ 4 →
            ps_nk (ps_is r0 0) (ps_nk (ps_is r0 0) (ps_nk (ps_is (ps_c0 r0 6) 6) (ps_Cl d 103 [.ref (ps_c0 r0 6), .ref r2, .ref (ps_r s2 r0 16)] s2 (ps_rV (fun s3 =>
              ps_nk (ps_is r0 0) (ps_Cl d 8 [.ref r0, .int x4] s3 (ps_rV (fun s4 =>
                ps_nk (ps_is r0 0) (ps_Cl d 14 [.ref r0, .ref r2] s4 (ps_rI (fun v5 s5 =>
                  (v5 = 0 →
                    Q (some (.int 0)) s5) ∧
                  (v5 ≠ 0 →
                    Q (some (.int 1)) s5))))))))))))) ∧
          (4 < (ps_i s2 r0 10) →
            Q (some (.int (-2))) s2))))))) ∧
    (0 ≤ (lg_cmp (Int32.toInt64 x4) v1) →
      Q (some (.int (-1))) s1))))) : ps_At (d + 1) 4 0 [(0, .ref r0), (1, .ref r1), (2, .ref r2), (3, .int x3), (4, .int x4)] [] s Q :=
  ps_wp_at (stops := []) (n := 47) h rfl

theorem xs_4 {m s : ps_S} {t : Int32} {d : Nat} {r0 : Nat} {r1 : Nat} {r2 : Nat} {x3 : Int32} {x4 : Int32} {f : Int32 → ps_S → Prop} (h0 : ps_is r0 0 = true) (h1 : ps_is r1 9 = true) (h2 : ps_is r2 5 = true) (J : xJ m t s) (k : ∀ (v : Int32) (s' : ps_S), xJ m t s' → f v s') : ps_Cl (d + 38) 4 [.ref r0, .ref r1, .ref r2, .int x3, .int x4] s (ps_rI f) :=
  pg_4_0 (d := d + 37) (ps_nk_i h0 (xs_6 h0 h1 J (fun v1 s1 J1 => (And.intro (fun f1 => (ps_nk_i h0 (xs_13 h0 h2 J1 (fun s2 J2 => (And.intro (fun f2 => (k (-2) s2 J2)) (fun f2 => (ps_nk_i h0 (And.intro (fun f3 => (ps_nk_i h0 (ps_nk_i h0 (ps_nk_i (xk_0_6 h0) (xs_103 (xk_0_6 h0) h2 (xj_0_16 J2 h0) J2 (fun s3 J3 => (ps_nk_i h0 (xs_8 h0 J3 (fun s4 J4 => (ps_nk_i h0 (xs_14 h0 h2 J4 (fun v5 s5 b5 J5 => (And.intro (fun f4 => (k 0 s5 J5)) (fun f4 => (k 1 s5 J5))))))))))))))) (fun f3 => (k (-2) s2 J2)))))))))) (fun f1 => (k (-1) s1 J1))))))

-- ProofBench$Judge.firstAgainst(LProofBench$Theory;LProofBench$Row;I)I
theorem pg_5_0 {d : Nat} {r0 : Nat} {r1 : Nat} {r2 : Nat} {x3 : Int32} {s : ps_S} {Q : Option Value → ps_S → Prop} (h :
  ps_nk (ps_is r0 0) (ps_Cl d 2 [.ref r0, .ref r1, .int x3] s (ps_rI (fun v1 s1 =>
    ps_nk (ps_is r0 0) (ps_Cl d 13 [.ref r0, .ref r2] s1 (ps_rV (fun s2 =>
      (v1 = (-2) →
        Q (some (.int (-2))) s2) ∧
      (v1 ≠ (-2) →
        ps_nk (ps_is r0 0) (((ps_i s2 r0 10) ≤ 4 →
          ps_nk (ps_is r0 0) (ps_Cl d 9 [.ref r0] s2 (ps_rV (fun s3 =>
            ps_nk (ps_is r0 0) (ps_nk (ps_is r0 0) (ps_nk (ps_is (ps_c0 r0 6) 6) (ps_Cl d 103 [.ref (ps_c0 r0 6), .ref r2, .ref (ps_r s3 r0 16)] s3 (ps_rV (fun s4 =>
              ps_At (d + 1) 5 50 [(0, .ref r0), (2, .ref r2), (4, .int v1), (5, .int 0)] [] s4 Q))))))))) ∧
        (4 < (ps_i s2 r0 10) →
          Q (some (.int (-2))) s2)))))))))) : ps_At (d + 1) 5 0 [(0, .ref r0), (1, .ref r1), (2, .ref r2), (3, .int x3)] [] s Q :=
  ps_wp_at (stops := [(50, [0, 2, 4, 5])]) (n := 31) h rfl

theorem pg_5_50 {d : Nat} {r0 : Nat} {r2 : Nat} {x4 : Int32} {x5 : Int32} {s : ps_S} {Q : Option Value → ps_S → Prop} (h :
  (x4 ≤ x5 →
    Q (some (.int (-1))) s) ∧
  (x5 < x4 →
    ps_nk (ps_is r0 0) (ps_Cl d 11 [.ref r0, .int x5] s (ps_rI (fun v1 s1 =>
      (v1 = 0 →
        ps_At (d + 1) 5 50 [(0, .ref r0), (2, .ref r2), (4, .int x4), (5, .int (x5 + 1))] [] s1 Q) ∧
      (v1 ≠ 0 →
        ps_nk (ps_is r0 0) (ps_Cl d 8 [.ref r0, .int x5] s1 (ps_rV (fun s2 =>
          ps_nk (ps_is r0 0) (ps_Cl d 14 [.ref r0, .ref r2] s2 (ps_rI (fun v3 s3 =>
            (v3 ≠ 0 →
              ps_At (d + 1) 5 50 [(0, .ref r0), (2, .ref r2), (4, .int x4), (5, .int (x5 + 1))] [] s3 Q) ∧
            (v3 = 0 →
              Q (some (.int x5)) s3))))))))))))) : ps_At (d + 1) 5 50 [(0, .ref r0), (2, .ref r2), (4, .int x4), (5, .int x5)] [] s Q :=
  ps_wp_at (stops := [(50, [0, 2, 4, 5])]) (n := 24) h rfl

theorem xs_5_50 {m s : ps_S} {t : Int32} {d : Nat} {r0 : Nat} {r2 : Nat} {x4 : Int32} {x5 : Int32} {Q : Option Value → ps_S → Prop} (h0 : ps_is r0 0 = true) (h2 : ps_is r2 5 = true) (J : xJ m t s) (k : ∀ (v : Int32) (s' : ps_S), xJ m t s' → Q (some (.int v)) s') : ps_At (d + 39) 5 50 [(0, .ref r0), (2, .ref r2), (4, .int x4), (5, .int x5)] [] s Q :=
  xs_up (P := fun x5 => ∀ (s : ps_S), ps_is r0 0 = true → ps_is r2 5 = true → xJ m t s → ps_At (d + 39) 5 50 [(0, .ref r0), (2, .ref r2), (4, .int x4), (5, .int x5)] [] s Q) (fun x5 ih s h0 h2 J => pg_5_50 (d := d + 38) (And.intro (fun f1 => (k (-1) s J)) (fun f1 => (ps_nk_i h0 (xs_11 h0 J (fun v1 s1 b1 J1 => (And.intro (fun f2 => (ih ((x5 + 1)) (xs_lt f1) s1 h0 h2 J1)) (fun f2 => (ps_nk_i h0 (xs_8 h0 J1 (fun s2 J2 => (ps_nk_i h0 (xs_14 h0 h2 J2 (fun v3 s3 b3 J3 => (And.intro (fun f3 => (ih ((x5 + 1)) (xs_lt f1) s3 h0 h2 J3)) (fun f3 => (k x5 s3 J3))))))))))))))))) x5 s h0 h2 J

theorem xs_5 {m s : ps_S} {t : Int32} {d : Nat} {r0 : Nat} {r1 : Nat} {r2 : Nat} {x3 : Int32} {f : Int32 → ps_S → Prop} (h0 : ps_is r0 0 = true) (h1 : ps_is r1 9 = true) (h2 : ps_is r2 5 = true) (J : xJ m t s) (k : ∀ (v : Int32) (s' : ps_S), xJ m t s' → f v s') : ps_Cl (d + 39) 5 [.ref r0, .ref r1, .ref r2, .int x3] s (ps_rI f) :=
  pg_5_0 (d := d + 38) (ps_nk_i h0 (xs_2 h0 h1 J (fun v1 s1 J1 => (ps_nk_i h0 (xs_13 h0 h2 J1 (fun s2 J2 => (And.intro (fun f1 => (k (-2) s2 J2)) (fun f1 => (ps_nk_i h0 (And.intro (fun f2 => (ps_nk_i h0 (xs_9 h0 J2 (fun s3 J3 => (ps_nk_i h0 (ps_nk_i h0 (ps_nk_i (xk_0_6 h0) (xs_103 (xk_0_6 h0) h2 (xj_0_16 J3 h0) J3 (fun s4 J4 => (xs_5_50 (d := d) (r0 := r0) (r2 := r2) (x4 := v1) (x5 := 0)  h0 h2 J4 k )))))))))) (fun f2 => (k (-2) s2 J2))))))))))))

-- ProofBench$Row.isPartAt(IILProofBench$Row;I)Z
theorem pg_99_0 {d : Nat} {r0 : Nat} {x1 : Int32} {x2 : Int32} {r3 : Nat} {x4 : Int32} {s : ps_S} {Q : Option Value → ps_S → Prop} (h :
  ps_At (d + 1) 99 3 [(0, .ref r0), (1, .int x1), (2, .int x2), (3, .ref r3), (4, .int x4), (5, .int x1)] [] s Q) : ps_At (d + 1) 99 0 [(0, .ref r0), (1, .int x1), (2, .int x2), (3, .ref r3), (4, .int x4)] [] s Q :=
  ps_wp_at (stops := [(3, [0, 1, 2, 3, 4, 5])]) (n := 4) h rfl

theorem pg_99_3 {d : Nat} {r0 : Nat} {x1 : Int32} {x2 : Int32} {r3 : Nat} {x4 : Int32} {x5 : Int32} {s : ps_S} {Q : Option Value → ps_S → Prop} (h :
  (x2 ≤ x5 →
    Q (some (.int 1)) s) ∧
  (x5 < x2 →
    ps_nk (ps_is r0 5) (ps_Cl d 92 [.ref r0, .int x5] s (ps_rI (fun v1 s1 =>
      ps_nk (ps_is r3 5) (ps_Cl d 92 [.ref r3, .int ((x4 + x5) - x1)] s1 (ps_rI (fun v2 s2 =>
        (v1 = v2 →
          ps_At (d + 1) 99 3 [(0, .ref r0), (1, .int x1), (2, .int x2), (3, .ref r3), (4, .int x4), (5, .int (x5 + 1))] [] s2 Q) ∧
        (v1 ≠ v2 →
          Q (some (.int 0)) s2))))))))) : ps_At (d + 1) 99 3 [(0, .ref r0), (1, .int x1), (2, .int x2), (3, .ref r3), (4, .int x4), (5, .int x5)] [] s Q :=
  ps_wp_at (stops := [(3, [0, 1, 2, 3, 4, 5])]) (n := 22) h rfl

theorem xs_99_3 {m s : ps_S} {t : Int32} {d : Nat} {r0 : Nat} {x1 : Int32} {x2 : Int32} {r3 : Nat} {x4 : Int32} {x5 : Int32} {Q : Option Value → ps_S → Prop} (h0 : ps_is r0 5 = true) (h3 : ps_is r3 5 = true) (J : xJ m t s) (k : ∀ (v : Int32), v &&& 1 = v → Q (some (.int v)) s) : ps_At (d + 1) 99 3 [(0, .ref r0), (1, .int x1), (2, .int x2), (3, .ref r3), (4, .int x4), (5, .int x5)] [] s Q :=
  xs_up (P := fun x5 => ps_is r0 5 = true → ps_is r3 5 = true → ps_At (d + 1) 99 3 [(0, .ref r0), (1, .int x1), (2, .int x2), (3, .ref r3), (4, .int x4), (5, .int x5)] [] s Q) (fun x5 ih h0 h3 => pg_99_3 (d := d) (And.intro (fun f1 => (k 1 (by decide))) (fun f1 => (ps_nk_i h0 (xs_92 h0 J (fun v1 => (ps_nk_i h3 (xs_92 h3 J (fun v2 => (And.intro (fun f2 => (ih ((x5 + 1)) (xs_lt f1) h0 h3)) (fun f2 => (k 0 (by decide))))))))))))) x5 h0 h3

theorem xs_99 {m s : ps_S} {t : Int32} {d : Nat} {r0 : Nat} {x1 : Int32} {x2 : Int32} {r3 : Nat} {x4 : Int32} {f : Int32 → ps_S → Prop} (h0 : ps_is r0 5 = true) (h3 : ps_is r3 5 = true) (J : xJ m t s) (k : ∀ (v : Int32), v &&& 1 = v → f v s) : ps_Cl (d + 1) 99 [.ref r0, .int x1, .int x2, .ref r3, .int x4] s (ps_rI f) :=
  pg_99_0 (d := d) (xs_99_3 (d := d) (r0 := r0) (x1 := x1) (x2 := x2) (r3 := r3) (x4 := x4) (x5 := x1)  h0 h3 J k )

-- ProofBench$Letters.letterAt(LProofBench$Row;I)I
theorem pg_22_0 {d : Nat} {r0 : Nat} {r1 : Nat} {x2 : Int32} {s : ps_S} {Q : Option Value → ps_S → Prop} (h :
  ps_At (d + 1) 22 2 [(0, .ref r0), (1, .ref r1), (2, .int x2), (3, .int 0)] [] s Q) : ps_At (d + 1) 22 0 [(0, .ref r0), (1, .ref r1), (2, .int x2)] [] s Q :=
  ps_wp_at (stops := [(2, [0, 1, 2, 3])]) (n := 4) h rfl

theorem pg_22_2 {d : Nat} {r0 : Nat} {r1 : Nat} {x2 : Int32} {x3 : Int32} {s : ps_S} {Q : Option Value → ps_S → Prop} (h :
  ps_nk (ps_is r0 1) (((ps_i s r0 4) ≤ x3 →
    ps_nk (ps_is r0 1) (ps_nk (ps_is r0 1) (ps_Cl d 183 [.ref (ps_c0 r0 3), .int (ps_i s r0 4), .int x2] s (ps_rV (fun s1 =>
      ps_nk (ps_is r0 1) (ps_nk (ps_is r0 1) (ps_nk (ps_is r0 1) (Q (some (.int ((ps_i (ps_ui s1 r0 4 ((ps_i s1 r0 4) + 1)) r0 4) - 1))) (ps_ui s1 r0 4 ((ps_i s1 r0 4) + 1)))))))))) ∧
  (x3 < (ps_i s r0 4) →
    ps_nk (ps_is r0 1) (ps_nk (ps_is (ps_c0 r0 0) 6) (ps_Cl d 104 [.ref (ps_c0 r0 0), .int x2] s (ps_rI (fun v2 s2 =>
      ps_nk (ps_is r0 1) (ps_Cl d 182 [.ref (ps_c0 r0 3), .int x3] s2 (ps_rI (fun v3 s3 =>
        ps_nk (ps_is r1 5) (ps_Cl d 99 [.ref r1, .int x2, .int v2, .ref r1, .int v3] s3 (ps_rI (fun v4 s4 =>
          (v4 = 0 →
            ps_At (d + 1) 22 2 [(0, .ref r0), (1, .ref r1), (2, .int x2), (3, .int (x3 + 1))] [] s4 Q) ∧
          (v4 ≠ 0 →
            Q (some (.int x3)) s4)))))))))))))) : ps_At (d + 1) 22 2 [(0, .ref r0), (1, .ref r1), (2, .int x2), (3, .int x3)] [] s Q :=
  ps_wp_at (stops := [(2, [0, 1, 2, 3])]) (n := 40) h rfl

theorem xs_22_2 {m s : ps_S} {t : Int32} {d : Nat} {r0 : Nat} {r1 : Nat} {x2 : Int32} {x3 : Int32} {Q : Option Value → ps_S → Prop} (h0 : ps_is r0 1 = true) (h1 : ps_is r1 5 = true) (J : xJ m t s) (k : ∀ (v : Int32) (s' : ps_S), xJ m t s' → Q (some (.int v)) s') : ps_At (d + 2) 22 2 [(0, .ref r0), (1, .ref r1), (2, .int x2), (3, .int x3)] [] s Q :=
  xs_up (P := fun x3 => ∀ (s : ps_S), ps_is r0 1 = true → ps_is r1 5 = true → xJ m t s → ps_At (d + 2) 22 2 [(0, .ref r0), (1, .ref r1), (2, .int x2), (3, .int x3)] [] s Q) (fun x3 ih s h0 h1 J => pg_22_2 (d := d + 1) (ps_nk_i h0 (And.intro (fun f1 => (ps_nk_i h0 (ps_nk_i h0 (xs_183 (xk_1_3 h0) J (fun s1 J1 e1 => (ps_nk_i h0 (ps_nk_i h0 (ps_nk_i h0 (k ((ps_i (ps_ui s1 r0 4 ((ps_i s1 r0 4) + 1)) r0 4) - 1) (ps_ui s1 r0 4 ((ps_i s1 r0 4) + 1)) (xw_i (c := 1) (by decide) h0 J1)))))))))) (fun f1 => (ps_nk_i h0 (ps_nk_i (xk_1_0 h0) (xs_104 (xk_1_0 h0) J (fun v2 => (ps_nk_i h0 (xs_182 (xk_1_3 h0) J (fun v3 => (ps_nk_i h1 (xs_99 h1 h1 J (fun v4 b4 => (And.intro (fun f2 => (ih ((x3 + 1)) (xs_lt f1) s h0 h1 J)) (fun f2 => (k x3 s J))))))))))))))))) x3 s h0 h1 J

theorem xs_22 {m s : ps_S} {t : Int32} {d : Nat} {r0 : Nat} {r1 : Nat} {x2 : Int32} {f : Int32 → ps_S → Prop} (h0 : ps_is r0 1 = true) (h1 : ps_is r1 5 = true) (J : xJ m t s) (k : ∀ (v : Int32) (s' : ps_S), xJ m t s' → f v s') : ps_Cl (d + 2) 22 [.ref r0, .ref r1, .int x2] s (ps_rI f) :=
  pg_22_0 (d := d + 1) (xs_22_2 (d := d) (r0 := r0) (r1 := r1) (x2 := x2) (x3 := 0)  h0 h1 J k )

-- ProofBench$Letters.spell(LProofBench$Row;LProofBench$Theory;)V
theorem pg_21_0 {d : Nat} {r0 : Nat} {r1 : Nat} {r2 : Nat} {s : ps_S} {Q : Option Value → ps_S → Prop} (h :
  ps_nk (ps_is r0 1) (ps_nk (ps_is (ps_c0 r0 0) 6) (ps_Cl d 103 [.ref (ps_c0 r0 0), .ref r1, .ref r2] s (ps_rV (fun s1 =>
    ps_nk (ps_is r0 1) (ps_nk (ps_is r0 1) (ps_At (d + 1) 21 21 [(0, .ref r0), (1, .ref r1), (3, .int 0)] [] (ps_ui (ps_ui s1 r0 2 0) r0 4 0) Q))))))) : ps_At (d + 1) 21 0 [(0, .ref r0), (1, .ref r1), (2, .ref r2)] [] s Q :=
  ps_wp_at (stops := [(21, [0, 1, 3])]) (n := 15) h rfl

theorem pg_21_21 {d : Nat} {r0 : Nat} {r1 : Nat} {x3 : Int32} {s : ps_S} {Q : Option Value → ps_S → Prop} (h :
  ps_nk (ps_is r1 5) (((ps_i s r1 1) ≤ x3 →
    Q none s) ∧
  (x3 < (ps_i s r1 1) →
    ps_nk (ps_is r1 5) (ps_Cl d 92 [.ref r1, .int x3] s (ps_rI (fun v1 s1 =>
      (v1 < 4 →
        ps_nk (ps_is r0 1) (ps_nk (ps_is r0 1) (((0 : Int32) = 0 →
          ps_nk (ps_is r1 5) (ps_Cl d 92 [.ref r1, .int x3] s1 (ps_rI (fun v2 s2 =>
            ps_Cl d 183 [.ref (ps_c0 r0 1), .int (ps_i s1 r0 2), .int v2] s2 (ps_rV (fun s3 =>
              ps_nk (ps_is r0 1) (ps_nk (ps_is r0 1) (((0 : Int32) = 0 →
                ps_At (d + 1) 21 21 [(0, .ref r0), (1, .ref r1), (3, .int (x3 + 1))] [] (ps_ui s3 r0 2 ((ps_i s3 r0 2) + 1)) Q) ∧
              ((0 : Int32) ≠ 0 →
                ps_nk (ps_is r0 1) (ps_nk (ps_is (ps_c0 r0 0) 6) (ps_Cl d 104 [.ref (ps_c0 r0 0), .int x3] (ps_ui s3 r0 2 ((ps_i s3 r0 2) + 1)) (ps_rI (fun v4 s4 =>
                  ps_At (d + 1) 21 21 [(0, .ref r0), (1, .ref r1), (3, .int (if (x3 + 1) < v4 then v4 else (x3 + 1)))] [] s4 Q))))))))))))) ∧
        ((0 : Int32) ≠ 0 →
          ps_nk (ps_is r0 1) (ps_Cl d 22 [.ref r0, .ref r1, .int x3] s1 (ps_rI (fun v5 s5 =>
            ps_Cl d 183 [.ref (ps_c0 r0 1), .int (ps_i s1 r0 2), .int ((4 : Int32) + v5)] s5 (ps_rV (fun s6 =>
              ps_nk (ps_is r0 1) (ps_nk (ps_is r0 1) (((0 : Int32) = 0 →
                ps_At (d + 1) 21 21 [(0, .ref r0), (1, .ref r1), (3, .int (x3 + 1))] [] (ps_ui s6 r0 2 ((ps_i s6 r0 2) + 1)) Q) ∧
              ((0 : Int32) ≠ 0 →
                ps_nk (ps_is r0 1) (ps_nk (ps_is (ps_c0 r0 0) 6) (ps_Cl d 104 [.ref (ps_c0 r0 0), .int x3] (ps_ui s6 r0 2 ((ps_i s6 r0 2) + 1)) (ps_rI (fun v7 s7 =>
                  ps_At (d + 1) 21 21 [(0, .ref r0), (1, .ref r1), (3, .int (if (x3 + 1) < v7 then v7 else (x3 + 1)))] [] s7 Q)))))))))))))))) ∧
      (4 ≤ v1 →
        ps_nk (ps_is r0 1) (ps_nk (ps_is r0 1) (((1 : Int32) = 0 →
          ps_nk (ps_is r1 5) (ps_Cl d 92 [.ref r1, .int x3] s1 (ps_rI (fun v8 s8 =>
            ps_Cl d 183 [.ref (ps_c0 r0 1), .int (ps_i s1 r0 2), .int v8] s8 (ps_rV (fun s9 =>
              ps_nk (ps_is r0 1) (ps_nk (ps_is r0 1) (((1 : Int32) = 0 →
                ps_At (d + 1) 21 21 [(0, .ref r0), (1, .ref r1), (3, .int (x3 + 1))] [] (ps_ui s9 r0 2 ((ps_i s9 r0 2) + 1)) Q) ∧
              ((1 : Int32) ≠ 0 →
                ps_nk (ps_is r0 1) (ps_nk (ps_is (ps_c0 r0 0) 6) (ps_Cl d 104 [.ref (ps_c0 r0 0), .int x3] (ps_ui s9 r0 2 ((ps_i s9 r0 2) + 1)) (ps_rI (fun v10 s10 =>
                  ps_At (d + 1) 21 21 [(0, .ref r0), (1, .ref r1), (3, .int (if (x3 + 1) < v10 then v10 else (x3 + 1)))] [] s10 Q))))))))))))) ∧
        ((1 : Int32) ≠ 0 →
          ps_nk (ps_is r0 1) (ps_Cl d 22 [.ref r0, .ref r1, .int x3] s1 (ps_rI (fun v11 s11 =>
            ps_Cl d 183 [.ref (ps_c0 r0 1), .int (ps_i s1 r0 2), .int ((4 : Int32) + v11)] s11 (ps_rV (fun s12 =>
              ps_nk (ps_is r0 1) (ps_nk (ps_is r0 1) (((1 : Int32) = 0 →
                ps_At (d + 1) 21 21 [(0, .ref r0), (1, .ref r1), (3, .int (x3 + 1))] [] (ps_ui s12 r0 2 ((ps_i s12 r0 2) + 1)) Q) ∧
              ((1 : Int32) ≠ 0 →
                ps_nk (ps_is r0 1) (ps_nk (ps_is (ps_c0 r0 0) 6) (ps_Cl d 104 [.ref (ps_c0 r0 0), .int x3] (ps_ui s12 r0 2 ((ps_i s12 r0 2) + 1)) (ps_rI (fun v13 s13 =>
                  ps_At (d + 1) 21 21 [(0, .ref r0), (1, .ref r1), (3, .int (if (x3 + 1) < v13 then v13 else (x3 + 1)))] [] s13 Q)))))))))))))))))))))) : ps_At (d + 1) 21 21 [(0, .ref r0), (1, .ref r1), (3, .int x3)] [] s Q :=
  ps_wp_at (stops := [(21, [0, 1, 3])]) (n := 149) h rfl

theorem xs_21_21 {m s : ps_S} {t : Int32} {d : Nat} {r0 : Nat} {r1 : Nat} {x3 : Int32} {Q : Option Value → ps_S → Prop} (h0 : ps_is r0 1 = true) (h1 : ps_is r1 5 = true) (J : xJ m t s) (k : ∀ (s' : ps_S), xJ m t s' → Q none s') : ps_At (d + 3) 21 21 [(0, .ref r0), (1, .ref r1), (3, .int x3)] [] s Q :=
  xs_up (P := fun x3 => ∀ (s : ps_S), ps_is r0 1 = true → ps_is r1 5 = true → xJ m t s → ps_At (d + 3) 21 21 [(0, .ref r0), (1, .ref r1), (3, .int x3)] [] s Q) (fun x3 ih s h0 h1 J => pg_21_21 (d := d + 2) (ps_nk_i h1 (And.intro (fun f1 => (k s J)) (fun f1 => (ps_nk_i h1 (xs_92 h1 J (fun v1 => (And.intro (fun f2 => (ps_nk_i h0 (ps_nk_i h0 (And.intro (fun f3 => (ps_nk_i h1 (xs_92 h1 J (fun v2 => (xs_183 (xk_1_1 h0) J (fun s3 J3 e3 => (ps_nk_i h0 (ps_nk_i h0 (And.intro (fun f4 => (ih ((x3 + 1)) (xs_lt f1) (ps_ui s3 r0 2 ((ps_i s3 r0 2) + 1)) h0 h1 (xw_i (c := 1) (by decide) h0 J3))) (fun f4 => (ps_nk_i h0 (ps_nk_i (xk_1_0 h0) (xs_104 (xk_1_0 h0) (xw_i (c := 1) (by decide) h0 J3) (fun v4 => (ih ((if (x3 + 1) < v4 then v4 else (x3 + 1))) (xs_max f1) (ps_ui s3 r0 2 ((ps_i s3 r0 2) + 1)) h0 h1 (xw_i (c := 1) (by decide) h0 J3)))))))))))))))) (fun f3 => (ps_nk_i h0 (xs_22 h0 h1 J (fun v5 s5 J5 => (xs_183 (xk_1_1 h0) J5 (fun s6 J6 e6 => (ps_nk_i h0 (ps_nk_i h0 (And.intro (fun f5 => (ih ((x3 + 1)) (xs_lt f1) (ps_ui s6 r0 2 ((ps_i s6 r0 2) + 1)) h0 h1 (xw_i (c := 1) (by decide) h0 J6))) (fun f5 => (ps_nk_i h0 (ps_nk_i (xk_1_0 h0) (xs_104 (xk_1_0 h0) (xw_i (c := 1) (by decide) h0 J6) (fun v7 => (ih ((if (x3 + 1) < v7 then v7 else (x3 + 1))) (xs_max f1) (ps_ui s6 r0 2 ((ps_i s6 r0 2) + 1)) h0 h1 (xw_i (c := 1) (by decide) h0 J6)))))))))))))))))))) (fun f2 => (ps_nk_i h0 (ps_nk_i h0 (And.intro (fun f6 => (ps_nk_i h1 (xs_92 h1 J (fun v8 => (xs_183 (xk_1_1 h0) J (fun s9 J9 e9 => (ps_nk_i h0 (ps_nk_i h0 (And.intro (fun f7 => (ih ((x3 + 1)) (xs_lt f1) (ps_ui s9 r0 2 ((ps_i s9 r0 2) + 1)) h0 h1 (xw_i (c := 1) (by decide) h0 J9))) (fun f7 => (ps_nk_i h0 (ps_nk_i (xk_1_0 h0) (xs_104 (xk_1_0 h0) (xw_i (c := 1) (by decide) h0 J9) (fun v10 => (ih ((if (x3 + 1) < v10 then v10 else (x3 + 1))) (xs_max f1) (ps_ui s9 r0 2 ((ps_i s9 r0 2) + 1)) h0 h1 (xw_i (c := 1) (by decide) h0 J9)))))))))))))))) (fun f6 => (ps_nk_i h0 (xs_22 h0 h1 J (fun v11 s11 J11 => (xs_183 (xk_1_1 h0) J11 (fun s12 J12 e12 => (ps_nk_i h0 (ps_nk_i h0 (And.intro (fun f8 => (ih ((x3 + 1)) (xs_lt f1) (ps_ui s12 r0 2 ((ps_i s12 r0 2) + 1)) h0 h1 (xw_i (c := 1) (by decide) h0 J12))) (fun f8 => (ps_nk_i h0 (ps_nk_i (xk_1_0 h0) (xs_104 (xk_1_0 h0) (xw_i (c := 1) (by decide) h0 J12) (fun v13 => (ih ((if (x3 + 1) < v13 then v13 else (x3 + 1))) (xs_max f1) (ps_ui s12 r0 2 ((ps_i s12 r0 2) + 1)) h0 h1 (xw_i (c := 1) (by decide) h0 J12)))))))))))))))))))))))))))) x3 s h0 h1 J

theorem xs_21 {m s : ps_S} {t : Int32} {d : Nat} {r0 : Nat} {r1 : Nat} {r2 : Nat} {f : ps_S → Prop} (h0 : ps_is r0 1 = true) (h1 : ps_is r1 5 = true) (h2 : ps_is r2 9 = true) (J : xJ m t s) (k : ∀ (s' : ps_S), xJ m t s' → f s') : ps_Cl (d + 3) 21 [.ref r0, .ref r1, .ref r2] s (ps_rV f) :=
  pg_21_0 (d := d + 2) (ps_nk_i h0 (ps_nk_i (xk_1_0 h0) (xs_103 (xk_1_0 h0) h1 h2 J (fun s1 J1 => (ps_nk_i h0 (ps_nk_i h0 (xs_21_21 (d := d) (r0 := r0) (r1 := r1) (x3 := 0)  h0 h1 (xw_i (c := 1) (by decide) h0 (xw_i (c := 1) (by decide) h0 J1)) k )))))))

-- ProofBench$Letters.rowCount()I
theorem pg_25_0 {d : Nat} {r0 : Nat} {s : ps_S} {Q : Option Value → ps_S → Prop} (h :
  ps_nk (ps_is r0 1) (Q (some (.int ((1 : Int32) <<< ((if (12 : Int32) < (ps_i s r0 4) then (12 : Int32) else (ps_i s r0 4)) &&& 31)))) s)) : ps_At d 25 0 [(0, .ref r0)] [] s Q :=
  ps_wp_at (stops := []) (n := 9) h rfl

theorem xs_25 {m s : ps_S} {t : Int32} {d : Nat} {r0 : Nat} {f : Int32 → ps_S → Prop} (h0 : ps_is r0 1 = true) (J : xJ m t s) (k : ∀ (v : Int32), f v s) : ps_Cl d 25 [.ref r0] s (ps_rI f) :=
  pg_25_0 (ps_nk_i h0 (k ((1 : Int32) <<< ((if (12 : Int32) < (ps_i s r0 4) then (12 : Int32) else (ps_i s r0 4)) &&& 31))))

-- ProofBench$Letters.push(I)V
theorem pg_28_0 {d : Nat} {r0 : Nat} {x1 : Int32} {s : ps_S} {Q : Option Value → ps_S → Prop} (h :
  ps_nk (ps_is r0 1) (ps_nk (ps_is r0 1) (ps_Cl d 183 [.ref (ps_c0 r0 5), .int (ps_i s r0 6), .int x1] s (ps_rV (fun s1 =>
    ps_nk (ps_is r0 1) (ps_nk (ps_is r0 1) (Q none (ps_ui s1 r0 6 ((ps_i s1 r0 6) + 1))))))))) : ps_At (d + 1) 28 0 [(0, .ref r0), (1, .int x1)] [] s Q :=
  ps_wp_at (stops := []) (n := 15) h rfl

theorem xs_28 {m s : ps_S} {t : Int32} {d : Nat} {r0 : Nat} {x1 : Int32} {f : ps_S → Prop} (h0 : ps_is r0 1 = true) (J : xJ m t s) (k : ∀ (s' : ps_S), xJ m t s' → f s') : ps_Cl (d + 1) 28 [.ref r0, .int x1] s (ps_rV f) :=
  pg_28_0 (d := d) (ps_nk_i h0 (ps_nk_i h0 (xs_183 (xk_1_5 h0) J (fun s1 J1 e1 => (ps_nk_i h0 (ps_nk_i h0 (k (ps_ui s1 r0 6 ((ps_i s1 r0 6) + 1)) (xw_i (c := 1) (by decide) h0 J1))))))))

-- ProofBench$Letters.pop()I
theorem pg_29_0 {d : Nat} {r0 : Nat} {s : ps_S} {Q : Option Value → ps_S → Prop} (h :
  ps_nk (ps_is r0 1) (ps_nk (ps_is r0 1) (ps_nk (ps_is r0 1) (ps_nk (ps_is r0 1) (ps_Cl d 182 [.ref (ps_c0 r0 5), .int (ps_i (ps_ui s r0 6 ((ps_i s r0 6) - 1)) r0 6)] (ps_ui s r0 6 ((ps_i s r0 6) - 1)) (ps_rI (fun v1 s1 =>
    Q (some (.int v1)) s1))))))) : ps_At (d + 1) 29 0 [(0, .ref r0)] [] s Q :=
  ps_wp_at (stops := []) (n := 14) h rfl

theorem xs_29 {m s : ps_S} {t : Int32} {d : Nat} {r0 : Nat} {f : Int32 → ps_S → Prop} (h0 : ps_is r0 1 = true) (J : xJ m t s) (k : ∀ (v : Int32) (s' : ps_S), xJ m t s' → f v s') : ps_Cl (d + 1) 29 [.ref r0] s (ps_rI f) :=
  pg_29_0 (d := d) (ps_nk_i h0 (ps_nk_i h0 (ps_nk_i h0 (ps_nk_i h0 (xs_182 (xk_1_5 h0) (xw_i (c := 1) (by decide) h0 J) (fun v1 => (k v1 (ps_ui s r0 6 ((ps_i s r0 6) - 1)) (xw_i (c := 1) (by decide) h0 J))))))))

-- ProofBench$Letters.join(III)I
theorem pg_27_0 {d : Nat} {x0 : Int32} {x1 : Int32} {x2 : Int32} {s : ps_S} {Q : Option Value → ps_S → Prop} (h :
  (x0 = 1 →
    Q (some (.int (x1 &&& x2))) s) ∧
  (x0 ≠ 1 →
    (x0 = 2 →
    Q (some (.int (x1 ||| x2))) s) ∧
  (x0 ≠ 2 →
    Q (some (.int (((1 : Int32) - x1) ||| x2))) s))) : ps_At d 27 0 [(0, .int x0), (1, .int x1), (2, .int x2)] [] s Q :=
  ps_wp_at (stops := []) (n := 18) h rfl

theorem xs_27 {m s : ps_S} {t : Int32} {d : Nat} {x0 : Int32} {x1 : Int32} {x2 : Int32} {f : Int32 → ps_S → Prop} (J : xJ m t s) (k : ∀ (v : Int32), f v s) : ps_Cl d 27 [.int x0, .int x1, .int x2] s (ps_rI f) :=
  pg_27_0 (And.intro (fun f1 => (k (x1 &&& x2))) (fun f1 => (And.intro (fun f2 => (k (x1 ||| x2))) (fun f2 => (k (((1 : Int32) - x1) ||| x2))))))

-- ProofBench$Letters.isSo(I)Z
theorem pg_26_0 {d : Nat} {r0 : Nat} {x1 : Int32} {s : ps_S} {Q : Option Value → ps_S → Prop} (h :
  ps_nk (ps_is r0 1) (ps_nk (ps_is r0 1) (ps_At (d + 1) 26 12 [(0, .ref r0), (1, .int x1), (2, .int ((ps_i (ps_ui s r0 6 0) r0 2) - 1))] [] (ps_ui s r0 6 0) Q))) : ps_At (d + 1) 26 0 [(0, .ref r0), (1, .int x1)] [] s Q :=
  ps_wp_at (stops := [(12, [0, 1, 2])]) (n := 10) h rfl

theorem pg_26_12 {d : Nat} {r0 : Nat} {x1 : Int32} {x2 : Int32} {s : ps_S} {Q : Option Value → ps_S → Prop} (h :
  (x2 < 0 →
    ps_nk (ps_is r0 1) (ps_Cl d 29 [.ref r0] s (ps_rI (fun v1 s1 =>
      (v1 ≠ 1 →
        Q (some (.int 0)) s1) ∧
      (v1 = 1 →
        Q (some (.int 1)) s1))))) ∧
  (0 ≤ x2 →
    ps_nk (ps_is r0 1) (ps_Cl d 182 [.ref (ps_c0 r0 1), .int x2] s (ps_rI (fun v2 s2 =>
      (v2 < 4 →
        (v2 ≠ 0 →
          ps_nk (ps_is r0 1) (ps_Cl d 29 [.ref r0] s2 (ps_rI (fun v3 s3 =>
            ps_nk (ps_is r0 1) (ps_Cl d 29 [.ref r0] s3 (ps_rI (fun v4 s4 =>
              ps_Cl d 27 [.int v2, .int v3, .int v4] s4 (ps_rI (fun v5 s5 =>
                ps_nk (ps_is r0 1) (ps_Cl d 28 [.ref r0, .int v5] s5 (ps_rV (fun s6 =>
                  ps_At (d + 1) 26 12 [(0, .ref r0), (1, .int x1), (2, .int (x2 + (-1)))] [] s6 Q)))))))))))) ∧
        (v2 = 0 →
          ps_nk (ps_is r0 1) (ps_Cl d 28 [.ref r0, .int 0] s2 (ps_rV (fun s7 =>
            ps_At (d + 1) 26 12 [(0, .ref r0), (1, .int x1), (2, .int (x2 + (-1)))] [] s7 Q))))) ∧
      (4 ≤ v2 →
        ps_nk (ps_is r0 1) (ps_nk (ps_is r0 1) (ps_Cl d 28 [.ref r0, .int ((x1 >>> ((((ps_i s2 r0 4) - 1) - (v2 - 4)) &&& 31)) &&& 1)] s2 (ps_rV (fun s8 =>
          ps_At (d + 1) 26 12 [(0, .ref r0), (1, .int x1), (2, .int (x2 + (-1)))] [] s8 Q)))))))))) : ps_At (d + 1) 26 12 [(0, .ref r0), (1, .int x1), (2, .int x2)] [] s Q :=
  ps_wp_at (stops := [(12, [0, 1, 2])]) (n := 58) h rfl

theorem xs_26_12 {m s : ps_S} {t : Int32} {d : Nat} {r0 : Nat} {x1 : Int32} {x2 : Int32} {Q : Option Value → ps_S → Prop} (h0 : ps_is r0 1 = true) (J : xJ m t s) (k : ∀ (v : Int32) (s' : ps_S), v &&& 1 = v → xJ m t s' → Q (some (.int v)) s') : ps_At (d + 2) 26 12 [(0, .ref r0), (1, .int x1), (2, .int x2)] [] s Q :=
  xs_dn (P := fun x2 => ∀ (s : ps_S), ps_is r0 1 = true → xJ m t s → ps_At (d + 2) 26 12 [(0, .ref r0), (1, .int x1), (2, .int x2)] [] s Q) (fun x2 ih s h0 J => pg_26_12 (d := d + 1) (And.intro (fun f1 => (ps_nk_i h0 (xs_29 h0 J (fun v1 s1 J1 => (And.intro (fun f2 => (k 0 s1 (by decide) J1)) (fun f2 => (k 1 s1 (by decide) J1))))))) (fun f1 => (ps_nk_i h0 (xs_182 (xk_1_1 h0) J (fun v2 => (And.intro (fun f3 => (And.intro (fun f4 => (ps_nk_i h0 (xs_29 h0 J (fun v3 s3 J3 => (ps_nk_i h0 (xs_29 h0 J3 (fun v4 s4 J4 => (xs_27  J4 (fun v5 => (ps_nk_i h0 (xs_28 h0 J4 (fun s6 J6 => (ih ((x2 + (-1))) (xs_ge f1) s6 h0 J6))))))))))))) (fun f4 => (ps_nk_i h0 (xs_28 h0 J (fun s7 J7 => (ih ((x2 + (-1))) (xs_ge f1) s7 h0 J7))))))) (fun f3 => (ps_nk_i h0 (ps_nk_i h0 (xs_28 h0 J (fun s8 J8 => (ih ((x2 + (-1))) (xs_ge f1) s8 h0 J8))))))))))))) x2 s h0 J

theorem xs_26 {m s : ps_S} {t : Int32} {d : Nat} {r0 : Nat} {x1 : Int32} {f : Int32 → ps_S → Prop} (h0 : ps_is r0 1 = true) (J : xJ m t s) (k : ∀ (v : Int32) (s' : ps_S), v &&& 1 = v → xJ m t s' → f v s') : ps_Cl (d + 2) 26 [.ref r0, .int x1] s (ps_rI f) :=
  pg_26_0 (d := d + 1) (ps_nk_i h0 (ps_nk_i h0 (xs_26_12 (d := d) (r0 := r0) (x1 := x1) (x2 := ((ps_i (ps_ui s r0 6 0) r0 2) - 1))  h0 (xw_i (c := 1) (by decide) h0 J) k )))

-- ProofBench$Letters.rowsThatAreSo()I
theorem pg_23_0 {d : Nat} {r0 : Nat} {s : ps_S} {Q : Option Value → ps_S → Prop} (h :
  ps_At (d + 1) 23 4 [(0, .ref r0), (1, .int 0), (2, .int 0)] [] s Q) : ps_At (d + 1) 23 0 [(0, .ref r0)] [] s Q :=
  ps_wp_at (stops := [(4, [0, 1, 2])]) (n := 6) h rfl

theorem pg_23_4 {d : Nat} {r0 : Nat} {x1 : Int32} {x2 : Int32} {s : ps_S} {Q : Option Value → ps_S → Prop} (h :
  ps_nk (ps_is r0 1) (ps_Cl d 25 [.ref r0] s (ps_rI (fun v1 s1 =>
    (v1 ≤ x2 →
      Q (some (.int x1)) s1) ∧
    (x2 < v1 →
      ps_nk (ps_is r0 1) (ps_Cl d 26 [.ref r0, .int x2] s1 (ps_rI (fun v2 s2 =>
        (v2 = 0 →
          ps_At (d + 1) 23 4 [(0, .ref r0), (1, .int x1), (2, .int (x2 + 1))] [] s2 Q) ∧
        (v2 ≠ 0 →
          ps_At (d + 1) 23 4 [(0, .ref r0), (1, .int (x1 + 1)), (2, .int (x2 + 1))] [] s2 Q))))))))) : ps_At (d + 1) 23 4 [(0, .ref r0), (1, .int x1), (2, .int x2)] [] s Q :=
  ps_wp_at (stops := [(4, [0, 1, 2])]) (n := 17) h rfl

theorem xs_23_4 {m s : ps_S} {t : Int32} {d : Nat} {r0 : Nat} {x1 : Int32} {x2 : Int32} {Q : Option Value → ps_S → Prop} (h0 : ps_is r0 1 = true) (J : xJ m t s) (k : ∀ (v : Int32) (s' : ps_S), xJ m t s' → Q (some (.int v)) s') : ps_At (d + 3) 23 4 [(0, .ref r0), (1, .int x1), (2, .int x2)] [] s Q :=
  xs_up (P := fun x2 => ∀ (x1 : Int32) (s : ps_S), ps_is r0 1 = true → xJ m t s → ps_At (d + 3) 23 4 [(0, .ref r0), (1, .int x1), (2, .int x2)] [] s Q) (fun x2 ih x1 s h0 J => pg_23_4 (d := d + 2) (ps_nk_i h0 (xs_25 h0 J (fun v1 => (And.intro (fun f1 => (k x1 s J)) (fun f1 => (ps_nk_i h0 (xs_26 h0 J (fun v2 s2 b2 J2 => (And.intro (fun f2 => (ih ((x2 + 1)) (xs_lt f1) (x1) s2 h0 J2)) (fun f2 => (ih ((x2 + 1)) (xs_lt f1) ((x1 + 1)) s2 h0 J2)))))))))))) x2 x1 s h0 J

theorem xs_23 {m s : ps_S} {t : Int32} {d : Nat} {r0 : Nat} {f : Int32 → ps_S → Prop} (h0 : ps_is r0 1 = true) (J : xJ m t s) (k : ∀ (v : Int32) (s' : ps_S), xJ m t s' → f v s') : ps_Cl (d + 3) 23 [.ref r0] s (ps_rI f) :=
  pg_23_0 (d := d + 2) (xs_23_4 (d := d) (r0 := r0) (x1 := 0) (x2 := 0)  h0 J k )

-- ProofBench$Letters.firstRowNotSo()I
theorem pg_24_0 {d : Nat} {r0 : Nat} {s : ps_S} {Q : Option Value → ps_S → Prop} (h :
  ps_At (d + 1) 24 2 [(0, .ref r0), (1, .int 0)] [] s Q) : ps_At (d + 1) 24 0 [(0, .ref r0)] [] s Q :=
  ps_wp_at (stops := [(2, [0, 1])]) (n := 4) h rfl

theorem pg_24_2 {d : Nat} {r0 : Nat} {x1 : Int32} {s : ps_S} {Q : Option Value → ps_S → Prop} (h :
  ps_nk (ps_is r0 1) (ps_Cl d 25 [.ref r0] s (ps_rI (fun v1 s1 =>
    (v1 ≤ x1 →
      Q (some (.int (-1))) s1) ∧
    (x1 < v1 →
      ps_nk (ps_is r0 1) (ps_Cl d 26 [.ref r0, .int x1] s1 (ps_rI (fun v2 s2 =>
        (v2 ≠ 0 →
          ps_At (d + 1) 24 2 [(0, .ref r0), (1, .int (x1 + 1))] [] s2 Q) ∧
        (v2 = 0 →
          Q (some (.int x1)) s2))))))))) : ps_At (d + 1) 24 2 [(0, .ref r0), (1, .int x1)] [] s Q :=
  ps_wp_at (stops := [(2, [0, 1])]) (n := 16) h rfl

theorem xs_24_2 {m s : ps_S} {t : Int32} {d : Nat} {r0 : Nat} {x1 : Int32} {Q : Option Value → ps_S → Prop} (h0 : ps_is r0 1 = true) (J : xJ m t s) (k : ∀ (v : Int32) (s' : ps_S), xJ m t s' → Q (some (.int v)) s') : ps_At (d + 3) 24 2 [(0, .ref r0), (1, .int x1)] [] s Q :=
  xs_up (P := fun x1 => ∀ (s : ps_S), ps_is r0 1 = true → xJ m t s → ps_At (d + 3) 24 2 [(0, .ref r0), (1, .int x1)] [] s Q) (fun x1 ih s h0 J => pg_24_2 (d := d + 2) (ps_nk_i h0 (xs_25 h0 J (fun v1 => (And.intro (fun f1 => (k (-1) s J)) (fun f1 => (ps_nk_i h0 (xs_26 h0 J (fun v2 s2 b2 J2 => (And.intro (fun f2 => (ih ((x1 + 1)) (xs_lt f1) s2 h0 J2)) (fun f2 => (k x1 s2 J2)))))))))))) x1 s h0 J

theorem xs_24 {m s : ps_S} {t : Int32} {d : Nat} {r0 : Nat} {f : Int32 → ps_S → Prop} (h0 : ps_is r0 1 = true) (J : xJ m t s) (k : ∀ (v : Int32) (s' : ps_S), xJ m t s' → f v s') : ps_Cl (d + 3) 24 [.ref r0] s (ps_rI f) :=
  pg_24_0 (d := d + 2) (xs_24_2 (d := d) (r0 := r0) (x1 := 0)  h0 J k )
end
section
set_option maxRecDepth 100000
-- ProofBench$Proof.clear()V
theorem pg_31_0 {d : Nat} {r0 : Nat} {s : ps_S} {Q : Option Value → ps_S → Prop} (h :
  ps_nk (ps_is r0 2) (ps_nk (ps_is r0 2) (ps_nk (ps_is r0 2) (Q none (ps_ui (ps_ui (ps_ui s r0 7 0) r0 8 0) r0 9 0))))) : ps_At d 31 0 [(0, .ref r0)] [] s Q :=
  ps_wp_at (stops := []) (n := 12) h rfl

theorem xs_31 {m s : ps_S} {t : Int32} {d : Nat} {r0 : Nat} {f : ps_S → Prop} (h0 : ps_is r0 2 = true) (J : xJ m t s) (k : ∀ (s' : ps_S), xJ m t s' → f s') : ps_Cl d 31 [.ref r0] s (ps_rV f) :=
  pg_31_0 (ps_nk_i h0 (ps_nk_i h0 (ps_nk_i h0 (k (ps_ui (ps_ui (ps_ui s r0 7 0) r0 8 0) r0 9 0) (xw_i (c := 2) (by decide) h0 (xw_i (c := 2) (by decide) h0 (xw_i (c := 2) (by decide) h0 J)))))))

-- ProofBench$Proof.hasStep(I)Z
theorem pg_32_0 {d : Nat} {r0 : Nat} {x1 : Int32} {s : ps_S} {Q : Option Value → ps_S → Prop} (h :
  (x1 < 0 →
    Q (some (.int 0)) s) ∧
  (0 ≤ x1 →
    ps_nk (ps_is r0 2) (((ps_i s r0 8) ≤ x1 →
      Q (some (.int 0)) s) ∧
    (x1 < (ps_i s r0 8) →
      Q (some (.int 1)) s)))) : ps_At d 32 0 [(0, .ref r0), (1, .int x1)] [] s Q :=
  ps_wp_at (stops := []) (n := 15) h rfl

theorem xs_32 {m s : ps_S} {t : Int32} {d : Nat} {r0 : Nat} {x1 : Int32} {f : Int32 → ps_S → Prop} (h0 : ps_is r0 2 = true) (J : xJ m t s) (k : ∀ (v : Int32), v &&& 1 = v → f v s) : ps_Cl d 32 [.ref r0, .int x1] s (ps_rI f) :=
  pg_32_0 (And.intro (fun f1 => (k 0 (by decide))) (fun f1 => (ps_nk_i h0 (And.intro (fun f2 => (k 0 (by decide))) (fun f2 => (k 1 (by decide)))))))

-- ProofBench$Proof.stepAt(I)LProofBench$Step;
theorem pg_33_0 {d : Nat} {r0 : Nat} {x1 : Int32} {s : ps_S} {Q : Option Value → ps_S → Prop} (h :
  (x1 < 0 →
    ps_nk (ps_is r0 2) (Q (some (.ref (ps_c0 r0 1))) s)) ∧
  (0 ≤ x1 →
    ps_nk (ps_is r0 2) (ps_nk (Nat.beq (ps_K (ps_c0 r0 0)).1 0) (((nI (ps_ln (ps_c0 r0 0))) ≤ x1 →
      ps_nk (ps_is r0 2) (Q (some (.ref (ps_c0 r0 1))) s)) ∧
    (x1 < (nI (ps_ln (ps_c0 r0 0))) →
      ps_nk (ps_is r0 2) (ps_nk (ps_ar (ps_c0 r0 0) 4 || ps_ar (ps_c0 r0 0) 5 || ps_ar (ps_c0 r0 0) 6 || ps_ar (ps_c0 r0 0) 7) (ps_nd (pm_in x1 (ps_ln (ps_c0 r0 0))) (Q (some (.ref (ps_e0 (ps_c0 r0 0) (Int32.toNatClampNeg x1)))) s)))))))) : ps_At d 33 0 [(0, .ref r0), (1, .int x1)] [] s Q :=
  ps_wp_at (stops := []) (n := 21) h rfl

theorem xs_33 {m s : ps_S} {t : Int32} {d : Nat} {r0 : Nat} {x1 : Int32} {f : Nat → ps_S → Prop} (h0 : ps_is r0 2 = true) (J : xJ m t s) (k : ∀ (v : Nat), ps_is v 8 = true → f v s) : ps_Cl d 33 [.ref r0, .int x1] s (ps_rA f) :=
  pg_33_0 (And.intro (fun f1 => (ps_nk_i h0 (k (ps_c0 r0 1) ((xk_2_1 h0))))) (fun f1 => (ps_nk_i h0 (ps_nk_i (xn_l ((xk_2_0 h0)).1) (And.intro (fun f2 => (ps_nk_i h0 (k (ps_c0 r0 1) ((xk_2_1 h0))))) (fun f2 => (ps_nk_i h0 (ps_nk_i (xn_7 ((xk_2_0 h0)).1) (ps_nd_i (xg_in f1 f2) (k (ps_e0 (ps_c0 r0 0) (Int32.toNatClampNeg x1)) ((xe_7 ((xk_2_0 h0)).1 (xg_in f1 f2)))))))))))))

-- ProofBench$Step.number(I)I
theorem pg_121_0 {d : Nat} {r0 : Nat} {x1 : Int32} {s : ps_S} {Q : Option Value → ps_S → Prop} (h :
  ps_nk (ps_is r0 8) (ps_Cl d 182 [.ref (ps_c0 r0 1), .int x1] s (ps_rI (fun v1 s1 =>
    Q (some (.int v1)) s1)))) : ps_At (d + 1) 121 0 [(0, .ref r0), (1, .int x1)] [] s Q :=
  ps_wp_at (stops := []) (n := 7) h rfl

theorem xs_121 {m s : ps_S} {t : Int32} {d : Nat} {r0 : Nat} {x1 : Int32} {f : Int32 → ps_S → Prop} (h0 : ps_is r0 8 = true) (J : xJ m t s) (k : ∀ (v : Int32), f v s) : ps_Cl (d + 1) 121 [.ref r0, .int x1] s (ps_rI f) :=
  pg_121_0 (d := d) (ps_nk_i h0 (xs_182 (xk_8_1 h0) J (fun v1 => (k v1))))

-- ProofBench$Shelf.has(I)Z
theorem pg_109_0 {d : Nat} {r0 : Nat} {x1 : Int32} {s : ps_S} {Q : Option Value → ps_S → Prop} (h :
  (x1 < 0 →
    Q (some (.int 0)) s) ∧
  (0 ≤ x1 →
    ps_nk (ps_is r0 7) (((ps_i s r0 5) ≤ x1 →
      Q (some (.int 0)) s) ∧
    (x1 < (ps_i s r0 5) →
      Q (some (.int 1)) s)))) : ps_At d 109 0 [(0, .ref r0), (1, .int x1)] [] s Q :=
  ps_wp_at (stops := []) (n := 15) h rfl

theorem xs_109 {m s : ps_S} {t : Int32} {d : Nat} {r0 : Nat} {x1 : Int32} {f : Int32 → ps_S → Prop} (h0 : ps_is r0 7 = true) (J : xJ m t s) (k : ∀ (v : Int32), v &&& 1 = v → f v s) : ps_Cl d 109 [.ref r0, .int x1] s (ps_rI f) :=
  pg_109_0 (And.intro (fun f1 => (k 0 (by decide))) (fun f1 => (ps_nk_i h0 (And.intro (fun f2 => (k 0 (by decide))) (fun f2 => (k 1 (by decide)))))))

-- ProofBench$Step.numbersOf(I)I
theorem pg_115_0 {d : Nat} {x0 : Int32} {s : ps_S} {Q : Option Value → ps_S → Prop} (h :
  (x0 = 6 →
    Q (some (.int 0)) s) ∧
  (x0 ≠ 6 →
    (x0 = 7 →
    Q (some (.int 1)) s) ∧
  (x0 ≠ 7 →
    (x0 = 8 →
    Q (some (.int 1)) s) ∧
  (x0 ≠ 8 →
    (x0 = 9 →
    Q (some (.int 1)) s) ∧
  (x0 ≠ 9 →
    (x0 = 10 →
    Q (some (.int 0)) s) ∧
  (x0 ≠ 10 →
    (x0 = 11 →
    Q (some (.int 0)) s) ∧
  (x0 ≠ 11 →
    (x0 = 12 →
    Q (some (.int 1)) s) ∧
  (x0 ≠ 12 →
    (x0 = 13 →
    Q (some (.int 2)) s) ∧
  (x0 ≠ 13 →
    (x0 = 14 →
    Q (some (.int 1)) s) ∧
  (x0 ≠ 14 →
    (x0 = 15 →
    Q (some (.int 1)) s) ∧
  (x0 ≠ 15 →
    (x0 = 16 →
    Q (some (.int 1)) s) ∧
  (x0 ≠ 16 →
    (x0 = 17 →
    Q (some (.int 1)) s) ∧
  (x0 ≠ 17 →
    (x0 = 18 →
    Q (some (.int 3)) s) ∧
  (x0 ≠ 18 →
    (x0 = 19 →
    Q (some (.int 2)) s) ∧
  (x0 ≠ 19 →
    (x0 = 20 →
    Q (some (.int 1)) s) ∧
  (x0 ≠ 20 →
    (x0 = 21 →
    Q (some (.int 1)) s) ∧
  (x0 ≠ 21 →
    (x0 = 22 →
    Q (some (.int 1)) s) ∧
  (x0 ≠ 22 →
    (x0 = 23 →
    Q (some (.int 1)) s) ∧
  (x0 ≠ 23 →
    (x0 = 24 →
    Q (some (.int 2)) s) ∧
  (x0 ≠ 24 →
    (x0 = 25 →
    Q (some (.int 2)) s) ∧
  (x0 ≠ 25 →
    Q (some (.int 1)) s))))))))))))))))))))) : ps_At d 115 0 [(0, .int x0)] [] s Q :=
  ps_wp_at (stops := []) (n := 46) h rfl

theorem xs_115 {m s : ps_S} {t : Int32} {d : Nat} {x0 : Int32} {f : Int32 → ps_S → Prop} (J : xJ m t s) (k : ∀ (v : Int32), f v s) : ps_Cl d 115 [.int x0] s (ps_rI f) :=
  pg_115_0 (And.intro (fun f1 => (k 0)) (fun f1 => (And.intro (fun f2 => (k 1)) (fun f2 => (And.intro (fun f3 => (k 1)) (fun f3 => (And.intro (fun f4 => (k 1)) (fun f4 => (And.intro (fun f5 => (k 0)) (fun f5 => (And.intro (fun f6 => (k 0)) (fun f6 => (And.intro (fun f7 => (k 1)) (fun f7 => (And.intro (fun f8 => (k 2)) (fun f8 => (And.intro (fun f9 => (k 1)) (fun f9 => (And.intro (fun f10 => (k 1)) (fun f10 => (And.intro (fun f11 => (k 1)) (fun f11 => (And.intro (fun f12 => (k 1)) (fun f12 => (And.intro (fun f13 => (k 3)) (fun f13 => (And.intro (fun f14 => (k 2)) (fun f14 => (And.intro (fun f15 => (k 1)) (fun f15 => (And.intro (fun f16 => (k 1)) (fun f16 => (And.intro (fun f17 => (k 1)) (fun f17 => (And.intro (fun f18 => (k 1)) (fun f18 => (And.intro (fun f19 => (k 2)) (fun f19 => (And.intro (fun f20 => (k 2)) (fun f20 => (k 1)))))))))))))))))))))))))))))))))))))))))

-- ProofBench$Step.premisesOf(I)I
theorem pg_116_0 {d : Nat} {x0 : Int32} {s : ps_S} {Q : Option Value → ps_S → Prop} (h :
  (x0 ≠ 12 →
    ps_Cl d 115 [.int x0] s (ps_rI (fun v1 s1 =>
      Q (some (.int v1)) s1))) ∧
  (x0 = 12 →
    Q (some (.int 0)) s)) : ps_At (d + 1) 116 0 [(0, .int x0)] [] s Q :=
  ps_wp_at (stops := []) (n := 11) h rfl

theorem xs_116 {m s : ps_S} {t : Int32} {d : Nat} {x0 : Int32} {f : Int32 → ps_S → Prop} (J : xJ m t s) (k : ∀ (v : Int32), f v s) : ps_Cl (d + 1) 116 [.int x0] s (ps_rI f) :=
  pg_116_0 (d := d) (And.intro (fun f1 => (xs_115  J (fun v1 => (k v1)))) (fun f1 => (k 0)))

-- ProofBench$Proof.hasPremises(LProofBench$Step;ILProofBench$Shelf;)Z
theorem pg_36_0 {d : Nat} {r0 : Nat} {r1 : Nat} {x2 : Int32} {r3 : Nat} {s : ps_S} {Q : Option Value → ps_S → Prop} (h :
  ps_nk (ps_is r1 8) (((ps_i s r1 0) ≠ 12 →
    ps_At (d + 1) 36 22 [(1, .ref r1), (2, .int x2), (4, .int 0)] [] s Q) ∧
  ((ps_i s r1 0) = 12 →
    ps_nk (ps_is r1 8) (ps_Cl d 121 [.ref r1, .int 0] s (ps_rI (fun v1 s1 =>
      ps_nk (ps_is r3 7) (ps_Cl d 109 [.ref r3, .int v1] s1 (ps_rI (fun v2 s2 =>
        ps_nd (decide (v2 &&& 1 = v2)) (Q (some (.int v2)) s2)))))))))) : ps_At (d + 1) 36 0 [(0, .ref r0), (1, .ref r1), (2, .int x2), (3, .ref r3)] [] s Q :=
  ps_wp_at (stops := [(22, [1, 2, 4])]) (n := 14) h rfl

theorem pg_36_22 {d : Nat} {r1 : Nat} {x2 : Int32} {x4 : Int32} {s : ps_S} {Q : Option Value → ps_S → Prop} (h :
  ps_nk (ps_is r1 8) (ps_Cl d 116 [.int (ps_i s r1 0)] s (ps_rI (fun v1 s1 =>
    (v1 ≤ x4 →
      Q (some (.int 1)) s1) ∧
    (x4 < v1 →
      ps_nk (ps_is r1 8) (ps_Cl d 121 [.ref r1, .int x4] s1 (ps_rI (fun v2 s2 =>
        (v2 < x2 →
          ps_At (d + 1) 36 22 [(1, .ref r1), (2, .int x2), (4, .int (x4 + 1))] [] s2 Q) ∧
        (x2 ≤ v2 →
          Q (some (.int 0)) s2))))))))) : ps_At (d + 1) 36 22 [(1, .ref r1), (2, .int x2), (4, .int x4)] [] s Q :=
  ps_wp_at (stops := [(22, [1, 2, 4])]) (n := 18) h rfl

theorem xs_36_22 {m s : ps_S} {t : Int32} {d : Nat} {r1 : Nat} {x2 : Int32} {x4 : Int32} {Q : Option Value → ps_S → Prop} (h1 : ps_is r1 8 = true) (J : xJ m t s) (k : ∀ (v : Int32), v &&& 1 = v → Q (some (.int v)) s) : ps_At (d + 2) 36 22 [(1, .ref r1), (2, .int x2), (4, .int x4)] [] s Q :=
  xs_up (P := fun x4 => ps_is r1 8 = true → ps_At (d + 2) 36 22 [(1, .ref r1), (2, .int x2), (4, .int x4)] [] s Q) (fun x4 ih h1 => pg_36_22 (d := d + 1) (ps_nk_i h1 (xs_116  J (fun v1 => (And.intro (fun f1 => (k 1 (by decide))) (fun f1 => (ps_nk_i h1 (xs_121 h1 J (fun v2 => (And.intro (fun f2 => (ih ((x4 + 1)) (xs_lt f1) h1)) (fun f2 => (k 0 (by decide))))))))))))) x4 h1

theorem xs_36 {m s : ps_S} {t : Int32} {d : Nat} {r0 : Nat} {r1 : Nat} {x2 : Int32} {r3 : Nat} {f : Int32 → ps_S → Prop} (h0 : ps_is r0 2 = true) (h1 : ps_is r1 8 = true) (h3 : ps_is r3 7 = true) (J : xJ m t s) (k : ∀ (v : Int32), v &&& 1 = v → f v s) : ps_Cl (d + 2) 36 [.ref r0, .ref r1, .int x2, .ref r3] s (ps_rI f) :=
  pg_36_0 (d := d + 1) (ps_nk_i h1 (And.intro (fun f1 => (xs_36_22 (d := d) (r1 := r1) (x2 := x2) (x4 := 0)  h1 J k )) (fun f1 => (ps_nk_i h1 (xs_121 h1 J (fun v1 => (ps_nk_i h3 (xs_109 h3 J (fun v2 b2 => (ps_nd_i (decide_eq_true b2) ((k v2 (of_decide_eq_true (decide_eq_true b2))))))))))))))

-- ProofBench$Proof.outAt(I)LProofBench$Row;
theorem pg_38_0 {d : Nat} {r0 : Nat} {x1 : Int32} {s : ps_S} {Q : Option Value → ps_S → Prop} (h :
  (x1 < 0 →
    ps_nk (ps_is r0 2) (Q (some (.ref (ps_c0 r0 3))) s)) ∧
  (0 ≤ x1 →
    ps_nk (ps_is r0 2) (ps_nk (Nat.beq (ps_K (ps_c0 r0 2)).1 0) (((nI (ps_ln (ps_c0 r0 2))) ≤ x1 →
      ps_nk (ps_is r0 2) (Q (some (.ref (ps_c0 r0 3))) s)) ∧
    (x1 < (nI (ps_ln (ps_c0 r0 2))) →
      ps_nk (ps_is r0 2) (ps_nk (ps_ar (ps_c0 r0 2) 4 || ps_ar (ps_c0 r0 2) 5 || ps_ar (ps_c0 r0 2) 6 || ps_ar (ps_c0 r0 2) 7) (ps_nd (pm_in x1 (ps_ln (ps_c0 r0 2))) (Q (some (.ref (ps_e0 (ps_c0 r0 2) (Int32.toNatClampNeg x1)))) s)))))))) : ps_At d 38 0 [(0, .ref r0), (1, .int x1)] [] s Q :=
  ps_wp_at (stops := []) (n := 21) h rfl

theorem xs_38 {m s : ps_S} {t : Int32} {d : Nat} {r0 : Nat} {x1 : Int32} {f : Nat → ps_S → Prop} (h0 : ps_is r0 2 = true) (J : xJ m t s) (k : ∀ (v : Nat), ps_is v 5 = true → f v s) : ps_Cl d 38 [.ref r0, .int x1] s (ps_rA f) :=
  pg_38_0 (And.intro (fun f1 => (ps_nk_i h0 (k (ps_c0 r0 3) ((xk_2_3 h0))))) (fun f1 => (ps_nk_i h0 (ps_nk_i (xn_l ((xk_2_2 h0)).1) (And.intro (fun f2 => (ps_nk_i h0 (k (ps_c0 r0 3) ((xk_2_3 h0))))) (fun f2 => (ps_nk_i h0 (ps_nk_i (xn_4 ((xk_2_2 h0)).1) (ps_nd_i (xg_in f1 f2) (k (ps_e0 (ps_c0 r0 2) (Int32.toNatClampNeg x1)) ((xe_4 ((xk_2_2 h0)).1 (xg_in f1 f2)))))))))))))

-- ProofBench$Row.clear()V
theorem pg_91_0 {d : Nat} {r0 : Nat} {s : ps_S} {Q : Option Value → ps_S → Prop} (h :
  ps_nk (ps_is r0 5) (ps_nk (ps_is r0 5) (Q none (ps_ui (ps_ui s r0 1 0) r0 2 0)))) : ps_At d 91 0 [(0, .ref r0)] [] s Q :=
  ps_wp_at (stops := []) (n := 9) h rfl

theorem xs_91 {m s : ps_S} {t : Int32} {d : Nat} {r0 : Nat} {f : ps_S → Prop} (h0 : ps_is r0 5 = true) (J : xJ m t s) (k : ∀ (s' : ps_S), xJ m t s' → f s') : ps_Cl d 91 [.ref r0] s (ps_rV f) :=
  pg_91_0 (ps_nk_i h0 (ps_nk_i h0 (k (ps_ui (ps_ui s r0 1 0) r0 2 0) (xw_i (c := 5) (by decide) h0 (xw_i (c := 5) (by decide) h0 J)))))

-- ProofBench$Proof.premise(LProofBench$Step;I)LProofBench$Step;
theorem pg_37_0 {d : Nat} {r0 : Nat} {r1 : Nat} {x2 : Int32} {s : ps_S} {Q : Option Value → ps_S → Prop} (h :
  ps_nk (ps_is r1 8) (ps_Cl d 121 [.ref r1, .int x2] s (ps_rI (fun v1 s1 =>
    ps_nk (ps_is r0 2) (ps_Cl d 33 [.ref r0, .int v1] s1 (ps_rA (fun v2 s2 =>
      Q (some (.ref v2)) s2))))))) : ps_At (d + 1) 37 0 [(0, .ref r0), (1, .ref r1), (2, .int x2)] [] s Q :=
  ps_wp_at (stops := []) (n := 8) h rfl

theorem xs_37 {m s : ps_S} {t : Int32} {d : Nat} {r0 : Nat} {r1 : Nat} {x2 : Int32} {f : Nat → ps_S → Prop} (h0 : ps_is r0 2 = true) (h1 : ps_is r1 8 = true) (J : xJ m t s) (k : ∀ (v : Nat), ps_is v 8 = true → f v s) : ps_Cl (d + 2) 37 [.ref r0, .ref r1, .int x2] s (ps_rA f) :=
  pg_37_0 (d := d + 1) (ps_nk_i h1 (xs_121 h1 J (fun v1 => (ps_nk_i h0 (xs_33 h0 J (fun v2 g2 => (k v2 (g2))))))))

-- ProofBench$Row.add(I)V
theorem pg_93_0 {d : Nat} {r0 : Nat} {x1 : Int32} {s : ps_S} {Q : Option Value → ps_S → Prop} (h :
  ps_nk (ps_is r0 5) (((ps_i s r0 1) < 0 →
    ps_nk (ps_is r0 5) (Q none (ps_ui s r0 2 1))) ∧
  (0 ≤ (ps_i s r0 1) →
    ps_nk (ps_is r0 5) (ps_nk (ps_is r0 5) (ps_nk (Nat.beq (ps_K (ps_c0 r0 0)).1 0) (((nI (ps_ln (ps_c0 r0 0))) ≤ (ps_i s r0 1) →
      ps_nk (ps_is r0 5) (Q none (ps_ui s r0 2 1))) ∧
    ((ps_i s r0 1) < (nI (ps_ln (ps_c0 r0 0))) →
      ps_nk (ps_is r0 5) (ps_nk (ps_is r0 5) (ps_nk (ps_ar (ps_c0 r0 0) 0) (ps_nd (pm_in (ps_i s r0 1) (ps_ln (ps_c0 r0 0))) (ps_nk (ps_is r0 5) (ps_nk (ps_is r0 5) (Q none (ps_ui (ps_ua s (ps_c0 r0 0) (Int32.toNatClampNeg (ps_i s r0 1)) x1) r0 1 ((ps_i (ps_ua s (ps_c0 r0 0) (Int32.toNatClampNeg (ps_i s r0 1)) x1) r0 1) + 1))))))))))))))) : ps_At d 93 0 [(0, .ref r0), (1, .int x1)] [] s Q :=
  ps_wp_at (stops := []) (n := 33) h rfl

theorem xs_93 {m s : ps_S} {t : Int32} {d : Nat} {r0 : Nat} {x1 : Int32} {f : ps_S → Prop} (h0 : ps_is r0 5 = true) (J : xJ m t s) (k : ∀ (s' : ps_S), xJ m t s' → f s') : ps_Cl d 93 [.ref r0, .int x1] s (ps_rV f) :=
  pg_93_0 (ps_nk_i h0 (And.intro (fun f1 => (ps_nk_i h0 (k (ps_ui s r0 2 1) (xw_i (c := 5) (by decide) h0 J)))) (fun f1 => (ps_nk_i h0 (ps_nk_i h0 (ps_nk_i (xn_l ((xk_5_0 h0)).1) (And.intro (fun f2 => (ps_nk_i h0 (k (ps_ui s r0 2 1) (xw_i (c := 5) (by decide) h0 J)))) (fun f2 => (ps_nk_i h0 (ps_nk_i h0 (ps_nk_i (xn_0 ((xk_5_0 h0)).1) (ps_nd_i (xg_in f1 f2) (ps_nk_i h0 (ps_nk_i h0 (k (ps_ui (ps_ua s (ps_c0 r0 0) (Int32.toNatClampNeg (ps_i s r0 1)) x1) r0 1 ((ps_i (ps_ua s (ps_c0 r0 0) (Int32.toNatClampNeg (ps_i s r0 1)) x1) r0 1) + 1)) (xw_i (c := 5) (by decide) h0 (xw_a (((xk_5_0 h0)).2) J)))))))))))))))))

-- ProofBench$Row.addPart(LProofBench$Row;II)V
theorem pg_94_0 {d : Nat} {r0 : Nat} {r1 : Nat} {x2 : Int32} {x3 : Int32} {s : ps_S} {Q : Option Value → ps_S → Prop} (h :
  ps_At (d + 1) 94 3 [(0, .ref r0), (1, .ref r1), (3, .int x3), (4, .int x2)] [] s Q) : ps_At (d + 1) 94 0 [(0, .ref r0), (1, .ref r1), (2, .int x2), (3, .int x3)] [] s Q :=
  ps_wp_at (stops := [(3, [0, 1, 3, 4])]) (n := 4) h rfl

theorem pg_94_3 {d : Nat} {r0 : Nat} {r1 : Nat} {x3 : Int32} {x4 : Int32} {s : ps_S} {Q : Option Value → ps_S → Prop} (h :
  (x3 ≤ x4 →
    Q none s) ∧
  (x4 < x3 →
    ps_nk (ps_is r1 5) (ps_Cl d 92 [.ref r1, .int x4] s (ps_rI (fun v1 s1 =>
      ps_nk (ps_is r0 5) (ps_Cl d 93 [.ref r0, .int v1] s1 (ps_rV (fun s2 =>
        ps_At (d + 1) 94 3 [(0, .ref r0), (1, .ref r1), (3, .int x3), (4, .int (x4 + 1))] [] s2 Q)))))))) : ps_At (d + 1) 94 3 [(0, .ref r0), (1, .ref r1), (3, .int x3), (4, .int x4)] [] s Q :=
  ps_wp_at (stops := [(3, [0, 1, 3, 4])]) (n := 13) h rfl

theorem xs_94_3 {m s : ps_S} {t : Int32} {d : Nat} {r0 : Nat} {r1 : Nat} {x3 : Int32} {x4 : Int32} {Q : Option Value → ps_S → Prop} (h0 : ps_is r0 5 = true) (h1 : ps_is r1 5 = true) (J : xJ m t s) (k : ∀ (s' : ps_S), xJ m t s' → Q none s') : ps_At (d + 1) 94 3 [(0, .ref r0), (1, .ref r1), (3, .int x3), (4, .int x4)] [] s Q :=
  xs_up (P := fun x4 => ∀ (s : ps_S), ps_is r0 5 = true → ps_is r1 5 = true → xJ m t s → ps_At (d + 1) 94 3 [(0, .ref r0), (1, .ref r1), (3, .int x3), (4, .int x4)] [] s Q) (fun x4 ih s h0 h1 J => pg_94_3 (d := d) (And.intro (fun f1 => (k s J)) (fun f1 => (ps_nk_i h1 (xs_92 h1 J (fun v1 => (ps_nk_i h0 (xs_93 h0 J (fun s2 J2 => (ih ((x4 + 1)) (xs_lt f1) s2 h0 h1 J2)))))))))) x4 s h0 h1 J

theorem xs_94 {m s : ps_S} {t : Int32} {d : Nat} {r0 : Nat} {r1 : Nat} {x2 : Int32} {x3 : Int32} {f : ps_S → Prop} (h0 : ps_is r0 5 = true) (h1 : ps_is r1 5 = true) (J : xJ m t s) (k : ∀ (s' : ps_S), xJ m t s' → f s') : ps_Cl (d + 1) 94 [.ref r0, .ref r1, .int x2, .int x3] s (ps_rV f) :=
  pg_94_0 (d := d) (xs_94_3 (d := d) (r0 := r0) (r1 := r1) (x3 := x3) (x4 := x2)  h0 h1 J k )

-- ProofBench$Row.copy(LProofBench$Row;)V
theorem pg_95_0 {d : Nat} {r0 : Nat} {r1 : Nat} {s : ps_S} {Q : Option Value → ps_S → Prop} (h :
  ps_nk (ps_is r0 5) (ps_Cl d 91 [.ref r0] s (ps_rV (fun s1 =>
    ps_nk (ps_is r1 5) (ps_nk (ps_is r0 5) (ps_Cl d 94 [.ref r0, .ref r1, .int 0, .int (ps_i s1 r1 1)] s1 (ps_rV (fun s2 =>
      Q none s2)))))))) : ps_At (d + 1) 95 0 [(0, .ref r0), (1, .ref r1)] [] s Q :=
  ps_wp_at (stops := []) (n := 11) h rfl

theorem xs_95 {m s : ps_S} {t : Int32} {d : Nat} {r0 : Nat} {r1 : Nat} {f : ps_S → Prop} (h0 : ps_is r0 5 = true) (h1 : ps_is r1 5 = true) (J : xJ m t s) (k : ∀ (s' : ps_S), xJ m t s' → f s') : ps_Cl (d + 2) 95 [.ref r0, .ref r1] s (ps_rV f) :=
  pg_95_0 (d := d + 1) (ps_nk_i h0 (xs_91 h0 J (fun s1 J1 => (ps_nk_i h1 (ps_nk_i h0 (xs_94 h0 h1 J1 (fun s2 J2 => (k s2 J2))))))))

-- ProofBench$Step.addAssumed(I)V
theorem pg_123_0 {d : Nat} {r0 : Nat} {x1 : Int32} {s : ps_S} {Q : Option Value → ps_S → Prop} (h :
  ps_nk (ps_is r0 8) (((ps_i s r0 8) < 0 →
    ps_nk (ps_is r0 8) (Q none (ps_ui s r0 9 1))) ∧
  (0 ≤ (ps_i s r0 8) →
    ps_nk (ps_is r0 8) (ps_nk (ps_is r0 8) (ps_nk (Nat.beq (ps_K (ps_c0 r0 7)).1 0) (((nI (ps_ln (ps_c0 r0 7))) ≤ (ps_i s r0 8) →
      ps_nk (ps_is r0 8) (Q none (ps_ui s r0 9 1))) ∧
    ((ps_i s r0 8) < (nI (ps_ln (ps_c0 r0 7))) →
      ps_nk (ps_is r0 8) (ps_nk (ps_is r0 8) (ps_nk (ps_ar (ps_c0 r0 7) 0) (ps_nd (pm_in (ps_i s r0 8) (ps_ln (ps_c0 r0 7))) (ps_nk (ps_is r0 8) (ps_nk (ps_is r0 8) (Q none (ps_ui (ps_ua s (ps_c0 r0 7) (Int32.toNatClampNeg (ps_i s r0 8)) x1) r0 8 ((ps_i (ps_ua s (ps_c0 r0 7) (Int32.toNatClampNeg (ps_i s r0 8)) x1) r0 8) + 1))))))))))))))) : ps_At d 123 0 [(0, .ref r0), (1, .int x1)] [] s Q :=
  ps_wp_at (stops := []) (n := 33) h rfl

theorem xs_123 {m s : ps_S} {t : Int32} {d : Nat} {r0 : Nat} {x1 : Int32} {f : ps_S → Prop} (h0 : ps_is r0 8 = true) (J : xJ m t s) (k : ∀ (s' : ps_S), xJ m t s' → f s') : ps_Cl d 123 [.ref r0, .int x1] s (ps_rV f) :=
  pg_123_0 (ps_nk_i h0 (And.intro (fun f1 => (ps_nk_i h0 (k (ps_ui s r0 9 1) (xw_i (c := 8) (by decide) h0 J)))) (fun f1 => (ps_nk_i h0 (ps_nk_i h0 (ps_nk_i (xn_l ((xk_8_7 h0)).1) (And.intro (fun f2 => (ps_nk_i h0 (k (ps_ui s r0 9 1) (xw_i (c := 8) (by decide) h0 J)))) (fun f2 => (ps_nk_i h0 (ps_nk_i h0 (ps_nk_i (xn_0 ((xk_8_7 h0)).1) (ps_nd_i (xg_in f1 f2) (ps_nk_i h0 (ps_nk_i h0 (k (ps_ui (ps_ua s (ps_c0 r0 7) (Int32.toNatClampNeg (ps_i s r0 8)) x1) r0 8 ((ps_i (ps_ua s (ps_c0 r0 7) (Int32.toNatClampNeg (ps_i s r0 8)) x1) r0 8) + 1)) (xw_i (c := 8) (by decide) h0 (xw_a (((xk_8_7 h0)).2) J)))))))))))))))))

-- ProofBench$Shelf.rowAt(I)LProofBench$Row;
theorem pg_110_0 {d : Nat} {r0 : Nat} {x1 : Int32} {s : ps_S} {Q : Option Value → ps_S → Prop} (h :
  (x1 < 0 →
    ps_nk (ps_is r0 7) (Q (some (.ref (ps_c0 r0 1))) s)) ∧
  (0 ≤ x1 →
    ps_nk (ps_is r0 7) (ps_nk (Nat.beq (ps_K (ps_c0 r0 0)).1 0) (((nI (ps_ln (ps_c0 r0 0))) ≤ x1 →
      ps_nk (ps_is r0 7) (Q (some (.ref (ps_c0 r0 1))) s)) ∧
    (x1 < (nI (ps_ln (ps_c0 r0 0))) →
      ps_nk (ps_is r0 7) (ps_nk (ps_ar (ps_c0 r0 0) 4 || ps_ar (ps_c0 r0 0) 5 || ps_ar (ps_c0 r0 0) 6 || ps_ar (ps_c0 r0 0) 7) (ps_nd (pm_in x1 (ps_ln (ps_c0 r0 0))) (Q (some (.ref (ps_e0 (ps_c0 r0 0) (Int32.toNatClampNeg x1)))) s)))))))) : ps_At d 110 0 [(0, .ref r0), (1, .int x1)] [] s Q :=
  ps_wp_at (stops := []) (n := 21) h rfl

theorem xs_110 {m s : ps_S} {t : Int32} {d : Nat} {r0 : Nat} {x1 : Int32} {f : Nat → ps_S → Prop} (h0 : ps_is r0 7 = true) (J : xJ m t s) (k : ∀ (v : Nat), ps_is v 5 = true → f v s) : ps_Cl d 110 [.ref r0, .int x1] s (ps_rA f) :=
  pg_110_0 (And.intro (fun f1 => (ps_nk_i h0 (k (ps_c0 r0 1) ((xk_7_1 h0))))) (fun f1 => (ps_nk_i h0 (ps_nk_i (xn_l ((xk_7_0 h0)).1) (And.intro (fun f2 => (ps_nk_i h0 (k (ps_c0 r0 1) ((xk_7_1 h0))))) (fun f2 => (ps_nk_i h0 (ps_nk_i (xn_4 ((xk_7_0 h0)).1) (ps_nd_i (xg_in f1 f2) (k (ps_e0 (ps_c0 r0 0) (Int32.toNatClampNeg x1)) ((xe_4 ((xk_7_0 h0)).1 (xg_in f1 f2)))))))))))))

-- ProofBench$Row.join(ILProofBench$Row;LProofBench$Row;)V
theorem pg_97_0 {d : Nat} {r0 : Nat} {x1 : Int32} {r2 : Nat} {r3 : Nat} {s : ps_S} {Q : Option Value → ps_S → Prop} (h :
  ps_nk (ps_is r0 5) (ps_Cl d 91 [.ref r0] s (ps_rV (fun s1 =>
    ps_nk (ps_is r0 5) (ps_Cl d 93 [.ref r0, .int x1] s1 (ps_rV (fun s2 =>
      ps_nk (ps_is r2 5) (ps_nk (ps_is r0 5) (ps_Cl d 94 [.ref r0, .ref r2, .int 0, .int (ps_i s2 r2 1)] s2 (ps_rV (fun s3 =>
        ps_nk (ps_is r3 5) (ps_nk (ps_is r0 5) (ps_Cl d 94 [.ref r0, .ref r3, .int 0, .int (ps_i s3 r3 1)] s3 (ps_rV (fun s4 =>
          Q none s4))))))))))))))) : ps_At (d + 1) 97 0 [(0, .ref r0), (1, .int x1), (2, .ref r2), (3, .ref r3)] [] s Q :=
  ps_wp_at (stops := []) (n := 20) h rfl

theorem xs_97 {m s : ps_S} {t : Int32} {d : Nat} {r0 : Nat} {x1 : Int32} {r2 : Nat} {r3 : Nat} {f : ps_S → Prop} (h0 : ps_is r0 5 = true) (h2 : ps_is r2 5 = true) (h3 : ps_is r3 5 = true) (J : xJ m t s) (k : ∀ (s' : ps_S), xJ m t s' → f s') : ps_Cl (d + 2) 97 [.ref r0, .int x1, .ref r2, .ref r3] s (ps_rV f) :=
  pg_97_0 (d := d + 1) (ps_nk_i h0 (xs_91 h0 J (fun s1 J1 => (ps_nk_i h0 (xs_93 h0 J1 (fun s2 J2 => (ps_nk_i h2 (ps_nk_i h0 (xs_94 h0 h2 J2 (fun s3 J3 => (ps_nk_i h3 (ps_nk_i h0 (xs_94 h0 h3 J3 (fun s4 J4 => (k s4 J4)))))))))))))))

-- ProofBench$Proof.makeAlone(LProofBench$Step;ILProofBench$Shelf;)I
theorem pg_43_0 {d : Nat} {r0 : Nat} {r1 : Nat} {x2 : Int32} {r3 : Nat} {s : ps_S} {Q : Option Value → ps_S → Prop} (h :
  ps_nk (ps_is r1 8) (((ps_i s r1 0) = 10 →
    ps_nk (ps_is r1 8) (ps_nk (ps_is r0 2) (ps_nk (ps_is r1 8) (ps_nk (ps_is (ps_r s r0 6) 9) (ps_Cl d 135 [.ref (ps_r s r0 6), .int (ps_i s r1 2)] s (ps_rA (fun v1 s1 =>
      ps_nk (ps_is (ps_c0 r1 6) 5) (ps_Cl d 95 [.ref (ps_c0 r1 6), .ref v1] s1 (ps_rV (fun s2 =>
        ps_nk (ps_is r1 8) (ps_nk (ps_is r1 8) (Q (some (.int 0)) (ps_ui s2 r1 10 ((1 : Int32) <<< ((ps_i s2 r1 2) &&& 31))))))))))))))) ∧
  ((ps_i s r1 0) ≠ 10 →
    ((ps_i s r1 0) = 11 →
    ps_nk (ps_is r1 8) (ps_nk (ps_is r1 8) (ps_nk (ps_is (ps_c0 r1 6) 5) (ps_Cl d 95 [.ref (ps_c0 r1 6), .ref (ps_c0 r1 5)] s (ps_rV (fun s3 =>
      ps_nk (ps_is r1 8) (ps_Cl d 123 [.ref r1, .int x2] s3 (ps_rV (fun s4 =>
        Q (some (.int 0)) s4))))))))) ∧
  ((ps_i s r1 0) ≠ 11 →
    ((ps_i s r1 0) = 12 →
    ps_nk (ps_is r1 8) (ps_nk (ps_is r1 8) (ps_Cl d 121 [.ref r1, .int 0] s (ps_rI (fun v5 s5 =>
      ps_nk (ps_is r3 7) (ps_Cl d 110 [.ref r3, .int v5] s5 (ps_rA (fun v6 s6 =>
        ps_nk (ps_is (ps_c0 r1 6) 5) (ps_Cl d 95 [.ref (ps_c0 r1 6), .ref v6] s6 (ps_rV (fun s7 =>
          ps_nk (ps_is r1 8) (ps_Cl d 121 [.ref r1, .int 0] s7 (ps_rI (fun v8 s8 =>
            ps_nk (ps_is r1 8) (Q (some (.int 0)) (ps_ui s8 r1 11 ((1 : Int32) <<< (v8 &&& 31)))))))))))))))))) ∧
  ((ps_i s r1 0) ≠ 12 →
    ps_nk (ps_is r1 8) (ps_nk (ps_is r1 8) (ps_nk (ps_is r1 8) (ps_nk (ps_is (ps_c0 r1 6) 5) (ps_Cl d 97 [.ref (ps_c0 r1 6), .int 6, .ref (ps_c0 r1 4), .ref (ps_c0 r1 4)] s (ps_rV (fun s9 =>
    Q (some (.int 0)) s9))))))))))) : ps_At (d + 1) 43 0 [(0, .ref r0), (1, .ref r1), (2, .int x2), (3, .ref r3)] [] s Q :=
  ps_wp_at (stops := []) (n := 61) h rfl

theorem xs_43 {m s : ps_S} {t : Int32} {d : Nat} {r0 : Nat} {r1 : Nat} {x2 : Int32} {r3 : Nat} {f : Int32 → ps_S → Prop} (h0 : ps_is r0 2 = true) (h1 : ps_is r1 8 = true) (h3 : ps_is r3 7 = true) (J : xJ m t s) (k : ∀ (v : Int32) (s' : ps_S), xJ m t s' → f v s') : ps_Cl (d + 3) 43 [.ref r0, .ref r1, .int x2, .ref r3] s (ps_rI f) :=
  pg_43_0 (d := d + 2) (ps_nk_i h1 (And.intro (fun f1 => (ps_nk_i h1 (ps_nk_i h0 (ps_nk_i h1 (ps_nk_i (xj_2_6 J h0) (xs_135 (xj_2_6 J h0) J (fun v1 g1 => (ps_nk_i (xk_8_6 h1) (xs_95 (xk_8_6 h1) g1 J (fun s2 J2 => (ps_nk_i h1 (ps_nk_i h1 (k 0 (ps_ui s2 r1 10 ((1 : Int32) <<< ((ps_i s2 r1 2) &&& 31))) (xw_i (c := 8) (by decide) h1 J2)))))))))))))) (fun f1 => (And.intro (fun f2 => (ps_nk_i h1 (ps_nk_i h1 (ps_nk_i (xk_8_6 h1) (xs_95 (xk_8_6 h1) (xk_8_5 h1) J (fun s3 J3 => (ps_nk_i h1 (xs_123 h1 J3 (fun s4 J4 => (k 0 s4 J4)))))))))) (fun f2 => (And.intro (fun f3 => (ps_nk_i h1 (ps_nk_i h1 (xs_121 h1 J (fun v5 => (ps_nk_i h3 (xs_110 h3 J (fun v6 g6 => (ps_nk_i (xk_8_6 h1) (xs_95 (xk_8_6 h1) g6 J (fun s7 J7 => (ps_nk_i h1 (xs_121 h1 J7 (fun v8 => (ps_nk_i h1 (k 0 (ps_ui s7 r1 11 ((1 : Int32) <<< (v8 &&& 31))) (xw_i (c := 8) (by decide) h1 J7))))))))))))))))) (fun f3 => (ps_nk_i h1 (ps_nk_i h1 (ps_nk_i h1 (ps_nk_i (xk_8_6 h1) (xs_97 (xk_8_6 h1) (xk_8_4 h1) (xk_8_4 h1) J (fun s9 J9 => (k 0 s9 J9))))))))))))))

-- ProofBench$Proof.joinParts(LProofBench$Step;LProofBench$Row;)I
theorem pg_44_0 {d : Nat} {r0 : Nat} {r1 : Nat} {r2 : Nat} {s : ps_S} {Q : Option Value → ps_S → Prop} (h :
  ps_nk (ps_is r1 8) (((ps_i s r1 0) = 13 →
    ps_nk (ps_is r1 8) (ps_nk (ps_is r0 2) (ps_Cl d 37 [.ref r0, .ref r1, .int 1] s (ps_rA (fun v1 s1 =>
      ps_nk (ps_is v1 8) (ps_nk (ps_is (ps_c0 r1 6) 5) (ps_Cl d 97 [.ref (ps_c0 r1 6), .int 1, .ref r2, .ref (ps_c0 v1 6)] s1 (ps_rV (fun s2 =>
        Q (some (.int 0)) s2))))))))) ∧
  ((ps_i s r1 0) ≠ 13 →
    ((ps_i s r1 0) = 14 →
    ps_nk (ps_is r1 8) (ps_nk (ps_is r1 8) (ps_nk (ps_is (ps_c0 r1 6) 5) (ps_Cl d 97 [.ref (ps_c0 r1 6), .int 3, .ref (ps_c0 r1 5), .ref r2] s (ps_rV (fun s3 =>
      ps_nk (ps_is r0 2) (ps_Cl d 38 [.ref r0, .int 0] s3 (ps_rA (fun v4 s4 =>
        ps_nk (ps_is r1 8) (ps_nk (ps_is v4 5) (ps_Cl d 95 [.ref v4, .ref (ps_c0 r1 5)] s4 (ps_rV (fun s5 =>
          Q (some (.int 0)) s5))))))))))))) ∧
  ((ps_i s r1 0) ≠ 14 →
    ((ps_i s r1 0) = 15 →
    ps_nk (ps_is r1 8) (ps_nk (ps_is r1 8) (ps_nk (ps_is (ps_c0 r1 6) 5) (ps_Cl d 97 [.ref (ps_c0 r1 6), .int 3, .ref (ps_c0 r1 5), .ref r2] s (ps_rV (fun s6 =>
      ps_nk (ps_is r0 2) (ps_Cl d 38 [.ref r0, .int 0] s6 (ps_rA (fun v7 s7 =>
        ps_nk (ps_is r1 8) (ps_nk (ps_is v7 5) (ps_Cl d 95 [.ref v7, .ref (ps_c0 r1 5)] s7 (ps_rV (fun s8 =>
          Q (some (.int 0)) s8))))))))))))) ∧
  ((ps_i s r1 0) ≠ 15 →
    ((ps_i s r1 0) = 16 →
    ps_nk (ps_is r1 8) (ps_nk (ps_is r1 8) (ps_nk (ps_is (ps_c0 r1 6) 5) (ps_Cl d 97 [.ref (ps_c0 r1 6), .int 2, .ref r2, .ref (ps_c0 r1 5)] s (ps_rV (fun s9 =>
      Q (some (.int 0)) s9)))))) ∧
  ((ps_i s r1 0) ≠ 16 →
    ((ps_i s r1 0) = 17 →
    ps_nk (ps_is r1 8) (ps_nk (ps_is r1 8) (ps_nk (ps_is (ps_c0 r1 6) 5) (ps_Cl d 97 [.ref (ps_c0 r1 6), .int 2, .ref (ps_c0 r1 5), .ref r2] s (ps_rV (fun s10 =>
      Q (some (.int 0)) s10)))))) ∧
  ((ps_i s r1 0) ≠ 17 →
    ps_nk (ps_is r1 8) (ps_nk (ps_is r1 8) (ps_nk (ps_is (ps_c0 r1 6) 5) (ps_Cl d 97 [.ref (ps_c0 r1 6), .int 3, .ref (ps_c0 r1 5), .ref r2] s (ps_rV (fun s11 =>
    ps_nk (ps_is r0 2) (ps_Cl d 38 [.ref r0, .int 0] s11 (ps_rA (fun v12 s12 =>
      ps_nk (ps_is r1 8) (ps_nk (ps_is v12 5) (ps_Cl d 95 [.ref v12, .ref (ps_c0 r1 5)] s12 (ps_rV (fun s13 =>
        Q (some (.int 0)) s13))))))))))))))))))) : ps_At (d + 1) 44 0 [(0, .ref r0), (1, .ref r1), (2, .ref r2)] [] s Q :=
  ps_wp_at (stops := []) (n := 83) h rfl

theorem xs_44 {m s : ps_S} {t : Int32} {d : Nat} {r0 : Nat} {r1 : Nat} {r2 : Nat} {f : Int32 → ps_S → Prop} (h0 : ps_is r0 2 = true) (h1 : ps_is r1 8 = true) (h2 : ps_is r2 5 = true) (J : xJ m t s) (k : ∀ (v : Int32) (s' : ps_S), xJ m t s' → f v s') : ps_Cl (d + 3) 44 [.ref r0, .ref r1, .ref r2] s (ps_rI f) :=
  pg_44_0 (d := d + 2) (ps_nk_i h1 (And.intro (fun f1 => (ps_nk_i h1 (ps_nk_i h0 (xs_37 h0 h1 J (fun v1 g1 => (ps_nk_i g1 (ps_nk_i (xk_8_6 h1) (xs_97 (xk_8_6 h1) h2 (xk_8_6 g1) J (fun s2 J2 => (k 0 s2 J2)))))))))) (fun f1 => (And.intro (fun f2 => (ps_nk_i h1 (ps_nk_i h1 (ps_nk_i (xk_8_6 h1) (xs_97 (xk_8_6 h1) (xk_8_5 h1) h2 J (fun s3 J3 => (ps_nk_i h0 (xs_38 h0 J3 (fun v4 g4 => (ps_nk_i h1 (ps_nk_i g4 (xs_95 g4 (xk_8_5 h1) J3 (fun s5 J5 => (k 0 s5 J5)))))))))))))) (fun f2 => (And.intro (fun f3 => (ps_nk_i h1 (ps_nk_i h1 (ps_nk_i (xk_8_6 h1) (xs_97 (xk_8_6 h1) (xk_8_5 h1) h2 J (fun s6 J6 => (ps_nk_i h0 (xs_38 h0 J6 (fun v7 g7 => (ps_nk_i h1 (ps_nk_i g7 (xs_95 g7 (xk_8_5 h1) J6 (fun s8 J8 => (k 0 s8 J8)))))))))))))) (fun f3 => (And.intro (fun f4 => (ps_nk_i h1 (ps_nk_i h1 (ps_nk_i (xk_8_6 h1) (xs_97 (xk_8_6 h1) h2 (xk_8_5 h1) J (fun s9 J9 => (k 0 s9 J9))))))) (fun f4 => (And.intro (fun f5 => (ps_nk_i h1 (ps_nk_i h1 (ps_nk_i (xk_8_6 h1) (xs_97 (xk_8_6 h1) (xk_8_5 h1) h2 J (fun s10 J10 => (k 0 s10 J10))))))) (fun f5 => (ps_nk_i h1 (ps_nk_i h1 (ps_nk_i (xk_8_6 h1) (xs_97 (xk_8_6 h1) (xk_8_5 h1) h2 J (fun s11 J11 => (ps_nk_i h0 (xs_38 h0 J11 (fun v12 g12 => (ps_nk_i h1 (ps_nk_i g12 (xs_95 g12 (xk_8_5 h1) J11 (fun s13 J13 => (k 0 s13 J13))))))))))))))))))))))))

-- ProofBench$Row.copyPart(LProofBench$Row;II)V
theorem pg_96_0 {d : Nat} {r0 : Nat} {r1 : Nat} {x2 : Int32} {x3 : Int32} {s : ps_S} {Q : Option Value → ps_S → Prop} (h :
  ps_nk (ps_is r0 5) (ps_Cl d 91 [.ref r0] s (ps_rV (fun s1 =>
    ps_nk (ps_is r0 5) (ps_Cl d 94 [.ref r0, .ref r1, .int x2, .int x3] s1 (ps_rV (fun s2 =>
      Q none s2))))))) : ps_At (d + 1) 96 0 [(0, .ref r0), (1, .ref r1), (2, .int x2), (3, .int x3)] [] s Q :=
  ps_wp_at (stops := []) (n := 10) h rfl

theorem xs_96 {m s : ps_S} {t : Int32} {d : Nat} {r0 : Nat} {r1 : Nat} {x2 : Int32} {x3 : Int32} {f : ps_S → Prop} (h0 : ps_is r0 5 = true) (h1 : ps_is r1 5 = true) (J : xJ m t s) (k : ∀ (s' : ps_S), xJ m t s' → f s') : ps_Cl (d + 2) 96 [.ref r0, .ref r1, .int x2, .int x3] s (ps_rV f) :=
  pg_96_0 (d := d + 1) (ps_nk_i h0 (xs_91 h0 J (fun s1 J1 => (ps_nk_i h0 (xs_94 h0 h1 J1 (fun s2 J2 => (k s2 J2)))))))

-- ProofBench$Proof.takeHalf(LProofBench$Step;LProofBench$Row;)I
theorem pg_45_0 {d : Nat} {r0 : Nat} {r1 : Nat} {r2 : Nat} {s : ps_S} {Q : Option Value → ps_S → Prop} (h :
  ps_nk (ps_is r2 5) (ps_Cl d 92 [.ref r2, .int 0] s (ps_rI (fun v1 s1 =>
    (v1 = 1 →
      ps_nk (ps_is r0 2) (ps_nk (ps_is r0 2) (ps_nk (ps_is (ps_c0 r0 5) 6) (ps_Cl d 103 [.ref (ps_c0 r0 5), .ref r2, .ref (ps_r s1 r0 6)] s1 (ps_rV (fun s2 =>
        ps_nk (ps_is r0 2) (ps_nk (ps_is (ps_c0 r0 5) 6) (ps_Cl d 104 [.ref (ps_c0 r0 5), .int 1] s2 (ps_rI (fun v3 s3 =>
          ps_nk (ps_is r1 8) (((ps_i s3 r1 0) ≠ 14 →
            ps_nk (ps_is r1 8) (ps_nk (ps_is r2 5) (ps_nk (ps_is (ps_c0 r1 6) 5) (ps_Cl d 96 [.ref (ps_c0 r1 6), .ref r2, .int v3, .int (ps_i s3 r2 1)] s3 (ps_rV (fun s4 =>
              Q (some (.int 0)) s4)))))) ∧
          ((ps_i s3 r1 0) = 14 →
            ps_nk (ps_is r1 8) (ps_nk (ps_is (ps_c0 r1 6) 5) (ps_Cl d 96 [.ref (ps_c0 r1 6), .ref r2, .int 1, .int v3] s3 (ps_rV (fun s5 =>
              Q (some (.int 0)) s5)))))))))))))))) ∧
    (v1 ≠ 1 →
      Q (some (.int 2)) s1))))) : ps_At (d + 1) 45 0 [(0, .ref r0), (1, .ref r1), (2, .ref r2)] [] s Q :=
  ps_wp_at (stops := []) (n := 42) h rfl

theorem xs_45 {m s : ps_S} {t : Int32} {d : Nat} {r0 : Nat} {r1 : Nat} {r2 : Nat} {f : Int32 → ps_S → Prop} (h0 : ps_is r0 2 = true) (h1 : ps_is r1 8 = true) (h2 : ps_is r2 5 = true) (J : xJ m t s) (k : ∀ (v : Int32) (s' : ps_S), xJ m t s' → f v s') : ps_Cl (d + 3) 45 [.ref r0, .ref r1, .ref r2] s (ps_rI f) :=
  pg_45_0 (d := d + 2) (ps_nk_i h2 (xs_92 h2 J (fun v1 => (And.intro (fun f1 => (ps_nk_i h0 (ps_nk_i h0 (ps_nk_i (xk_2_5 h0) (xs_103 (xk_2_5 h0) h2 (xj_2_6 J h0) J (fun s2 J2 => (ps_nk_i h0 (ps_nk_i (xk_2_5 h0) (xs_104 (xk_2_5 h0) J2 (fun v3 => (ps_nk_i h1 (And.intro (fun f2 => (ps_nk_i h1 (ps_nk_i h2 (ps_nk_i (xk_8_6 h1) (xs_96 (xk_8_6 h1) h2 J2 (fun s4 J4 => (k 0 s4 J4))))))) (fun f2 => (ps_nk_i h1 (ps_nk_i (xk_8_6 h1) (xs_96 (xk_8_6 h1) h2 J2 (fun s5 J5 => (k 0 s5 J5)))))))))))))))))) (fun f1 => (k 2 s J))))))

-- ProofBench$Row.isLike(LProofBench$Row;)Z
theorem pg_98_0 {d : Nat} {r0 : Nat} {r1 : Nat} {s : ps_S} {Q : Option Value → ps_S → Prop} (h :
  ps_nk (ps_is r0 5) (((ps_i s r0 2) ≠ 0 →
    Q (some (.int 0)) s) ∧
  ((ps_i s r0 2) = 0 →
    ps_nk (ps_is r1 5) (((ps_i s r1 2) ≠ 0 →
      Q (some (.int 0)) s) ∧
    ((ps_i s r1 2) = 0 →
      ps_nk (ps_is r0 5) (ps_nk (ps_is r1 5) (((ps_i s r0 1) = (ps_i s r1 1) →
        ps_At (d + 1) 98 29 [(0, .ref r0), (1, .ref r1), (2, .int 0)] [] s Q) ∧
      ((ps_i s r0 1) ≠ (ps_i s r1 1) →
        Q (some (.int 0)) s)))))))) : ps_At (d + 1) 98 0 [(0, .ref r0), (1, .ref r1)] [] s Q :=
  ps_wp_at (stops := [(29, [0, 1, 2])]) (n := 21) h rfl

theorem pg_98_29 {d : Nat} {r0 : Nat} {r1 : Nat} {x2 : Int32} {s : ps_S} {Q : Option Value → ps_S → Prop} (h :
  ps_nk (ps_is r0 5) (((ps_i s r0 1) ≤ x2 →
    Q (some (.int 1)) s) ∧
  (x2 < (ps_i s r0 1) →
    ps_nk (ps_is r0 5) (ps_Cl d 92 [.ref r0, .int x2] s (ps_rI (fun v1 s1 =>
      ps_nk (ps_is r1 5) (ps_Cl d 92 [.ref r1, .int x2] s1 (ps_rI (fun v2 s2 =>
        (v1 = v2 →
          ps_At (d + 1) 98 29 [(0, .ref r0), (1, .ref r1), (2, .int (x2 + 1))] [] s2 Q) ∧
        (v1 ≠ v2 →
          Q (some (.int 0)) s2)))))))))) : ps_At (d + 1) 98 29 [(0, .ref r0), (1, .ref r1), (2, .int x2)] [] s Q :=
  ps_wp_at (stops := [(29, [0, 1, 2])]) (n := 19) h rfl

theorem xs_98_29 {m s : ps_S} {t : Int32} {d : Nat} {r0 : Nat} {r1 : Nat} {x2 : Int32} {Q : Option Value → ps_S → Prop} (h0 : ps_is r0 5 = true) (h1 : ps_is r1 5 = true) (J : xJ m t s) (k : ∀ (v : Int32), v &&& 1 = v → Q (some (.int v)) s) : ps_At (d + 1) 98 29 [(0, .ref r0), (1, .ref r1), (2, .int x2)] [] s Q :=
  xs_up (P := fun x2 => ps_is r0 5 = true → ps_is r1 5 = true → ps_At (d + 1) 98 29 [(0, .ref r0), (1, .ref r1), (2, .int x2)] [] s Q) (fun x2 ih h0 h1 => pg_98_29 (d := d) (ps_nk_i h0 (And.intro (fun f1 => (k 1 (by decide))) (fun f1 => (ps_nk_i h0 (xs_92 h0 J (fun v1 => (ps_nk_i h1 (xs_92 h1 J (fun v2 => (And.intro (fun f2 => (ih ((x2 + 1)) (xs_lt f1) h0 h1)) (fun f2 => (k 0 (by decide)))))))))))))) x2 h0 h1

theorem xs_98 {m s : ps_S} {t : Int32} {d : Nat} {r0 : Nat} {r1 : Nat} {f : Int32 → ps_S → Prop} (h0 : ps_is r0 5 = true) (h1 : ps_is r1 5 = true) (J : xJ m t s) (k : ∀ (v : Int32), v &&& 1 = v → f v s) : ps_Cl (d + 1) 98 [.ref r0, .ref r1] s (ps_rI f) :=
  pg_98_0 (d := d) (ps_nk_i h0 (And.intro (fun f1 => (k 0 (by decide))) (fun f1 => (ps_nk_i h1 (And.intro (fun f2 => (k 0 (by decide))) (fun f2 => (ps_nk_i h0 (ps_nk_i h1 (And.intro (fun f3 => (xs_98_29 (d := d) (r0 := r0) (r1 := r1) (x2 := 0)  h0 h1 J k )) (fun f3 => (k 0 (by decide))))))))))))

-- ProofBench$Proof.takeCases(LProofBench$Step;LProofBench$Row;)I
theorem pg_46_0 {d : Nat} {r0 : Nat} {r1 : Nat} {r2 : Nat} {s : ps_S} {Q : Option Value → ps_S → Prop} (h :
  ps_nk (ps_is r0 2) (ps_Cl d 37 [.ref r0, .ref r1, .int 1] s (ps_rA (fun v1 s1 =>
    ps_nk (ps_is v1 8) (ps_nk (ps_is r2 5) (ps_Cl d 92 [.ref r2, .int 0] s1 (ps_rI (fun v2 s2 =>
      (v2 ≠ 2 →
        Q (some (.int 2)) s2) ∧
      (v2 = 2 →
        ps_nk (ps_is r0 2) (ps_Cl d 37 [.ref r0, .ref r1, .int 2] s2 (ps_rA (fun v3 s3 =>
          ps_nk (ps_is v3 8) (ps_nk (ps_is (ps_c0 v1 6) 5) (ps_Cl d 98 [.ref (ps_c0 v1 6), .ref (ps_c0 v3 6)] s3 (ps_rI (fun v4 s4 =>
            (v4 ≠ 0 →
              ps_nk (ps_is r0 2) (ps_nk (ps_is r0 2) (ps_nk (ps_is (ps_c0 r0 5) 6) (ps_Cl d 103 [.ref (ps_c0 r0 5), .ref r2, .ref (ps_r s4 r0 6)] s4 (ps_rV (fun s5 =>
                ps_nk (ps_is r0 2) (ps_nk (ps_is (ps_c0 r0 5) 6) (ps_Cl d 104 [.ref (ps_c0 r0 5), .int 1] s5 (ps_rI (fun v6 s6 =>
                  ps_nk (ps_is r0 2) (ps_Cl d 38 [.ref r0, .int 1] s6 (ps_rA (fun v7 s7 =>
                    ps_nk (ps_is v7 5) (ps_Cl d 96 [.ref v7, .ref r2, .int 1, .int v6] s7 (ps_rV (fun s8 =>
                      ps_nk (ps_is r0 2) (ps_Cl d 38 [.ref r0, .int 2] s8 (ps_rA (fun v9 s9 =>
                        ps_nk (ps_is r2 5) (ps_nk (ps_is v9 5) (ps_Cl d 96 [.ref v9, .ref r2, .int v6, .int (ps_i s9 r2 1)] s9 (ps_rV (fun s10 =>
                          ps_nk (ps_is r1 8) (ps_nk (ps_is (ps_c0 r1 6) 5) (ps_Cl d 95 [.ref (ps_c0 r1 6), .ref (ps_c0 v1 6)] s10 (ps_rV (fun s11 =>
                            Q (some (.int 0)) s11))))))))))))))))))))))))))) ∧
            (v4 = 0 →
              Q (some (.int 2)) s4))))))))))))))))) : ps_At (d + 1) 46 0 [(0, .ref r0), (1, .ref r1), (2, .ref r2)] [] s Q :=
  ps_wp_at (stops := []) (n := 57) h rfl

theorem xs_46 {m s : ps_S} {t : Int32} {d : Nat} {r0 : Nat} {r1 : Nat} {r2 : Nat} {f : Int32 → ps_S → Prop} (h0 : ps_is r0 2 = true) (h1 : ps_is r1 8 = true) (h2 : ps_is r2 5 = true) (J : xJ m t s) (k : ∀ (v : Int32) (s' : ps_S), xJ m t s' → f v s') : ps_Cl (d + 3) 46 [.ref r0, .ref r1, .ref r2] s (ps_rI f) :=
  pg_46_0 (d := d + 2) (ps_nk_i h0 (xs_37 h0 h1 J (fun v1 g1 => (ps_nk_i g1 (ps_nk_i h2 (xs_92 h2 J (fun v2 => (And.intro (fun f1 => (k 2 s J)) (fun f1 => (ps_nk_i h0 (xs_37 h0 h1 J (fun v3 g3 => (ps_nk_i g3 (ps_nk_i (xk_8_6 g1) (xs_98 (xk_8_6 g1) (xk_8_6 g3) J (fun v4 b4 => (And.intro (fun f2 => (ps_nk_i h0 (ps_nk_i h0 (ps_nk_i (xk_2_5 h0) (xs_103 (xk_2_5 h0) h2 (xj_2_6 J h0) J (fun s5 J5 => (ps_nk_i h0 (ps_nk_i (xk_2_5 h0) (xs_104 (xk_2_5 h0) J5 (fun v6 => (ps_nk_i h0 (xs_38 h0 J5 (fun v7 g7 => (ps_nk_i g7 (xs_96 g7 h2 J5 (fun s8 J8 => (ps_nk_i h0 (xs_38 h0 J8 (fun v9 g9 => (ps_nk_i h2 (ps_nk_i g9 (xs_96 g9 h2 J8 (fun s10 J10 => (ps_nk_i h1 (ps_nk_i (xk_8_6 h1) (xs_95 (xk_8_6 h1) (xk_8_6 g1) J10 (fun s11 J11 => (k 0 s11 J11)))))))))))))))))))))))))))) (fun f2 => (k 2 s J)))))))))))))))))))

-- ProofBench$Proof.apply(LProofBench$Step;LProofBench$Row;LProofBench$Row;)I
theorem pg_47_0 {d : Nat} {r0 : Nat} {r1 : Nat} {r2 : Nat} {r3 : Nat} {s : ps_S} {Q : Option Value → ps_S → Prop} (h :
  ps_nk (ps_is r0 2) (ps_nk (ps_is r0 2) (ps_nk (ps_is (ps_c0 r0 5) 6) (ps_Cl d 103 [.ref (ps_c0 r0 5), .ref r2, .ref (ps_r s r0 6)] s (ps_rV (fun s1 =>
    ps_nk (ps_is r0 2) (ps_nk (ps_is (ps_c0 r0 5) 6) (ps_Cl d 104 [.ref (ps_c0 r0 5), .int 1] s1 (ps_rI (fun v2 s2 =>
      ps_nk (ps_is r2 5) (ps_Cl d 92 [.ref r2, .int 0] s2 (ps_rI (fun v3 s3 =>
        (v3 ≠ 3 →
          Q (some (.int 2)) s3) ∧
        (v3 = 3 →
          ps_nk (ps_is r3 5) (((v2 - 1) ≠ (ps_i s3 r3 1) →
            Q (some (.int 2)) s3) ∧
          ((v2 - 1) = (ps_i s3 r3 1) →
            ps_nk (ps_is r2 5) (ps_Cl d 99 [.ref r2, .int 1, .int v2, .ref r3, .int 0] s3 (ps_rI (fun v4 s4 =>
              (v4 ≠ 0 →
                ps_nk (ps_is r1 8) (ps_nk (ps_is r2 5) (ps_nk (ps_is (ps_c0 r1 6) 5) (ps_Cl d 96 [.ref (ps_c0 r1 6), .ref r2, .int v2, .int (ps_i s4 r2 1)] s4 (ps_rV (fun s5 =>
                  Q (some (.int 0)) s5)))))) ∧
              (v4 = 0 →
                Q (some (.int 2)) s4)))))))))))))))))))) : ps_At (d + 1) 47 0 [(0, .ref r0), (1, .ref r1), (2, .ref r2), (3, .ref r3)] [] s Q :=
  ps_wp_at (stops := []) (n := 46) h rfl

theorem xs_47 {m s : ps_S} {t : Int32} {d : Nat} {r0 : Nat} {r1 : Nat} {r2 : Nat} {r3 : Nat} {f : Int32 → ps_S → Prop} (h0 : ps_is r0 2 = true) (h1 : ps_is r1 8 = true) (h2 : ps_is r2 5 = true) (h3 : ps_is r3 5 = true) (J : xJ m t s) (k : ∀ (v : Int32) (s' : ps_S), xJ m t s' → f v s') : ps_Cl (d + 3) 47 [.ref r0, .ref r1, .ref r2, .ref r3] s (ps_rI f) :=
  pg_47_0 (d := d + 2) (ps_nk_i h0 (ps_nk_i h0 (ps_nk_i (xk_2_5 h0) (xs_103 (xk_2_5 h0) h2 (xj_2_6 J h0) J (fun s1 J1 => (ps_nk_i h0 (ps_nk_i (xk_2_5 h0) (xs_104 (xk_2_5 h0) J1 (fun v2 => (ps_nk_i h2 (xs_92 h2 J1 (fun v3 => (And.intro (fun f1 => (k 2 s1 J1)) (fun f1 => (ps_nk_i h3 (And.intro (fun f2 => (k 2 s1 J1)) (fun f2 => (ps_nk_i h2 (xs_99 h2 h3 J1 (fun v4 b4 => (And.intro (fun f3 => (ps_nk_i h1 (ps_nk_i h2 (ps_nk_i (xk_8_6 h1) (xs_96 (xk_8_6 h1) h2 J1 (fun s5 J5 => (k 0 s5 J5))))))) (fun f3 => (k 2 s1 J1)))))))))))))))))))))))

-- ProofBench$Step.assumedAt(I)I
theorem pg_122_0 {d : Nat} {r0 : Nat} {x1 : Int32} {s : ps_S} {Q : Option Value → ps_S → Prop} (h :
  ps_nk (ps_is r0 8) (((ps_i s r0 8) ≤ x1 →
    Q (some (.int (-1))) s) ∧
  (x1 < (ps_i s r0 8) →
    ps_nk (ps_is r0 8) (ps_Cl d 182 [.ref (ps_c0 r0 7), .int x1] s (ps_rI (fun v1 s1 =>
      Q (some (.int v1)) s1)))))) : ps_At (d + 1) 122 0 [(0, .ref r0), (1, .int x1)] [] s Q :=
  ps_wp_at (stops := []) (n := 14) h rfl

theorem xs_122 {m s : ps_S} {t : Int32} {d : Nat} {r0 : Nat} {x1 : Int32} {f : Int32 → ps_S → Prop} (h0 : ps_is r0 8 = true) (J : xJ m t s) (k : ∀ (v : Int32), f v s) : ps_Cl (d + 1) 122 [.ref r0, .int x1] s (ps_rI f) :=
  pg_122_0 (d := d) (ps_nk_i h0 (And.intro (fun f1 => (k (-1))) (fun f1 => (ps_nk_i h0 (xs_182 (xk_8_7 h0) J (fun v1 => (k v1)))))))

-- ProofBench$Proof.isFreeInAssumed(LProofBench$Step;ILProofBench$Row;)Z
theorem pg_51_0 {d : Nat} {r0 : Nat} {r1 : Nat} {x2 : Int32} {r3 : Nat} {s : ps_S} {Q : Option Value → ps_S → Prop} (h :
  ps_At (d + 1) 51 3 [(0, .ref r0), (1, .ref r1), (2, .int x2), (3, .ref r3), (4, .int 0)] [] s Q) : ps_At (d + 1) 51 0 [(0, .ref r0), (1, .ref r1), (2, .int x2), (3, .ref r3)] [] s Q :=
  ps_wp_at (stops := [(3, [0, 1, 2, 3, 4])]) (n := 4) h rfl

theorem pg_51_3 {d : Nat} {r0 : Nat} {r1 : Nat} {x2 : Int32} {r3 : Nat} {x4 : Int32} {s : ps_S} {Q : Option Value → ps_S → Prop} (h :
  ps_nk (ps_is r1 8) (((ps_i s r1 8) ≤ x4 →
    Q (some (.int 0)) s) ∧
  (x4 < (ps_i s r1 8) →
    ps_nk (ps_is r1 8) (ps_Cl d 122 [.ref r1, .int x4] s (ps_rI (fun v1 s1 =>
      ps_nk (ps_is r0 2) (ps_Cl d 33 [.ref r0, .int v1] s1 (ps_rA (fun v2 s2 =>
        ps_nk (ps_is v2 8) (ps_nk (ps_is (ps_c0 v2 6) 5) (ps_Cl d 98 [.ref (ps_c0 v2 6), .ref r3] s2 (ps_rI (fun v3 s3 =>
          (v3 ≠ 0 →
            ps_At (d + 1) 51 3 [(0, .ref r0), (1, .ref r1), (2, .int x2), (3, .ref r3), (4, .int (x4 + 1))] [] s3 Q) ∧
          (v3 = 0 →
            ps_nk (ps_is (ps_c0 v2 6) 5) (ps_Cl d 100 [.ref (ps_c0 v2 6), .int x2] s3 (ps_rI (fun v4 s4 =>
              (v4 = 0 →
                ps_At (d + 1) 51 3 [(0, .ref r0), (1, .ref r1), (2, .int x2), (3, .ref r3), (4, .int (x4 + 1))] [] s4 Q) ∧
              (v4 ≠ 0 →
                Q (some (.int 1)) s4)))))))))))))))))) : ps_At (d + 1) 51 3 [(0, .ref r0), (1, .ref r1), (2, .int x2), (3, .ref r3), (4, .int x4)] [] s Q :=
  ps_wp_at (stops := [(3, [0, 1, 2, 3, 4])]) (n := 29) h rfl

theorem xs_51_3 {m s : ps_S} {t : Int32} {d : Nat} {r0 : Nat} {r1 : Nat} {x2 : Int32} {r3 : Nat} {x4 : Int32} {Q : Option Value → ps_S → Prop} (h0 : ps_is r0 2 = true) (h1 : ps_is r1 8 = true) (h3 : ps_is r3 5 = true) (J : xJ m t s) (k : ∀ (v : Int32), v &&& 1 = v → Q (some (.int v)) s) : ps_At (d + 2) 51 3 [(0, .ref r0), (1, .ref r1), (2, .int x2), (3, .ref r3), (4, .int x4)] [] s Q :=
  xs_up (P := fun x4 => ps_is r0 2 = true → ps_is r1 8 = true → ps_is r3 5 = true → ps_At (d + 2) 51 3 [(0, .ref r0), (1, .ref r1), (2, .int x2), (3, .ref r3), (4, .int x4)] [] s Q) (fun x4 ih h0 h1 h3 => pg_51_3 (d := d + 1) (ps_nk_i h1 (And.intro (fun f1 => (k 0 (by decide))) (fun f1 => (ps_nk_i h1 (xs_122 h1 J (fun v1 => (ps_nk_i h0 (xs_33 h0 J (fun v2 g2 => (ps_nk_i g2 (ps_nk_i (xk_8_6 g2) (xs_98 (xk_8_6 g2) h3 J (fun v3 b3 => (And.intro (fun f2 => (ih ((x4 + 1)) (xs_lt f1) h0 h1 h3)) (fun f2 => (ps_nk_i (xk_8_6 g2) (xs_100 (xk_8_6 g2) J (fun v4 b4 => (And.intro (fun f3 => (ih ((x4 + 1)) (xs_lt f1) h0 h1 h3)) (fun f3 => (k 1 (by decide))))))))))))))))))))))) x4 h0 h1 h3

theorem xs_51 {m s : ps_S} {t : Int32} {d : Nat} {r0 : Nat} {r1 : Nat} {x2 : Int32} {r3 : Nat} {f : Int32 → ps_S → Prop} (h0 : ps_is r0 2 = true) (h1 : ps_is r1 8 = true) (h3 : ps_is r3 5 = true) (J : xJ m t s) (k : ∀ (v : Int32), v &&& 1 = v → f v s) : ps_Cl (d + 2) 51 [.ref r0, .ref r1, .int x2, .ref r3] s (ps_rI f) :=
  pg_51_0 (d := d + 1) (xs_51_3 (d := d) (r0 := r0) (r1 := r1) (x2 := x2) (r3 := r3) (x4 := 0)  h0 h1 h3 J k )
end
section
set_option maxRecDepth 100000
-- ProofBench$Proof.generalise(LProofBench$Step;LProofBench$Row;)I
theorem pg_49_0 {d : Nat} {r0 : Nat} {r1 : Nat} {r2 : Nat} {s : ps_S} {Q : Option Value → ps_S → Prop} (h :
  ps_nk (ps_is r0 2) (ps_Cl d 37 [.ref r0, .ref r1, .int 0] s (ps_rA (fun v1 s1 =>
    ps_nk (ps_is r1 8) (ps_nk (ps_is r0 2) (ps_nk (ps_is r0 2) (ps_Cl d 51 [.ref r0, .ref v1, .int (ps_i s1 r1 3), .ref (ps_c0 r0 3)] s1 (ps_rI (fun v2 s2 =>
      (v2 = 0 →
        ps_nk (ps_is r0 2) (ps_nk (ps_is r0 2) (ps_nk (ps_is (ps_c0 r0 5) 6) (ps_Cl d 103 [.ref (ps_c0 r0 5), .ref r2, .ref (ps_r s2 r0 6)] s2 (ps_rV (fun s3 =>
          ps_nk (ps_is r1 8) (ps_nk (ps_is (ps_c0 r1 6) 5) (ps_Cl d 91 [.ref (ps_c0 r1 6)] s3 (ps_rV (fun s4 =>
            ps_nk (ps_is r1 8) (ps_nk (ps_is (ps_c0 r1 6) 5) (ps_Cl d 93 [.ref (ps_c0 r1 6), .int 4] s4 (ps_rV (fun s5 =>
              ps_At (d + 1) 49 52 [(0, .ref r0), (1, .ref r1), (2, .ref r2), (3, .int 0)] [] s5 Q)))))))))))))) ∧
      (v2 ≠ 0 →
        Q (some (.int 3)) s2)))))))))) : ps_At (d + 1) 49 0 [(0, .ref r0), (1, .ref r1), (2, .ref r2)] [] s Q :=
  ps_wp_at (stops := [(52, [0, 1, 2, 3])]) (n := 30) h rfl

theorem pg_49_52 {d : Nat} {r0 : Nat} {r1 : Nat} {r2 : Nat} {x3 : Int32} {s : ps_S} {Q : Option Value → ps_S → Prop} (h :
  ps_nk (ps_is r2 5) (((ps_i s r2 1) ≤ x3 →
    Q (some (.int 0)) s) ∧
  (x3 < (ps_i s r2 1) →
    ps_nk (ps_is r1 8) (ps_nk (ps_is r2 5) (ps_Cl d 92 [.ref r2, .int x3] s (ps_rI (fun v1 s1 =>
      ps_nk (ps_is r1 8) ((v1 ≠ (ps_i s1 r1 3) →
        ps_nk (ps_is r2 5) (ps_Cl d 92 [.ref r2, .int x3] s1 (ps_rI (fun v2 s2 =>
          ps_nk (ps_is (ps_c0 r1 6) 5) (ps_Cl d 93 [.ref (ps_c0 r1 6), .int v2] s2 (ps_rV (fun s3 =>
            ps_At (d + 1) 49 52 [(0, .ref r0), (1, .ref r1), (2, .ref r2), (3, .int (x3 + 1))] [] s3 Q))))))) ∧
      (v1 = (ps_i s1 r1 3) →
        ps_nk (ps_is r0 2) (ps_nk (ps_is (ps_c0 r0 5) 6) (ps_Cl d 105 [.ref (ps_c0 r0 5), .int x3] s1 (ps_rI (fun v4 s4 =>
          ps_nk (ps_is (ps_c0 r1 6) 5) (ps_Cl d 93 [.ref (ps_c0 r1 6), .int ((40 : Int32) + v4)] s4 (ps_rV (fun s5 =>
            ps_At (d + 1) 49 52 [(0, .ref r0), (1, .ref r1), (2, .ref r2), (3, .int (x3 + 1))] [] s5 Q)))))))))))))))) : ps_At (d + 1) 49 52 [(0, .ref r0), (1, .ref r1), (2, .ref r2), (3, .int x3)] [] s Q :=
  ps_wp_at (stops := [(52, [0, 1, 2, 3])]) (n := 32) h rfl

theorem xs_49_52 {m s : ps_S} {t : Int32} {d : Nat} {r0 : Nat} {r1 : Nat} {r2 : Nat} {x3 : Int32} {Q : Option Value → ps_S → Prop} (h0 : ps_is r0 2 = true) (h1 : ps_is r1 8 = true) (h2 : ps_is r2 5 = true) (J : xJ m t s) (k : ∀ (v : Int32) (s' : ps_S), xJ m t s' → Q (some (.int v)) s') : ps_At (d + 3) 49 52 [(0, .ref r0), (1, .ref r1), (2, .ref r2), (3, .int x3)] [] s Q :=
  xs_up (P := fun x3 => ∀ (s : ps_S), ps_is r0 2 = true → ps_is r1 8 = true → ps_is r2 5 = true → xJ m t s → ps_At (d + 3) 49 52 [(0, .ref r0), (1, .ref r1), (2, .ref r2), (3, .int x3)] [] s Q) (fun x3 ih s h0 h1 h2 J => pg_49_52 (d := d + 2) (ps_nk_i h2 (And.intro (fun f1 => (k 0 s J)) (fun f1 => (ps_nk_i h1 (ps_nk_i h2 (xs_92 h2 J (fun v1 => (ps_nk_i h1 (And.intro (fun f2 => (ps_nk_i h2 (xs_92 h2 J (fun v2 => (ps_nk_i (xk_8_6 h1) (xs_93 (xk_8_6 h1) J (fun s3 J3 => (ih ((x3 + 1)) (xs_lt f1) s3 h0 h1 h2 J3)))))))) (fun f2 => (ps_nk_i h0 (ps_nk_i (xk_2_5 h0) (xs_105 (xk_2_5 h0) J (fun v4 => (ps_nk_i (xk_8_6 h1) (xs_93 (xk_8_6 h1) J (fun s5 J5 => (ih ((x3 + 1)) (xs_lt f1) s5 h0 h1 h2 J5))))))))))))))))))) x3 s h0 h1 h2 J

theorem xs_49 {m s : ps_S} {t : Int32} {d : Nat} {r0 : Nat} {r1 : Nat} {r2 : Nat} {f : Int32 → ps_S → Prop} (h0 : ps_is r0 2 = true) (h1 : ps_is r1 8 = true) (h2 : ps_is r2 5 = true) (J : xJ m t s) (k : ∀ (v : Int32) (s' : ps_S), xJ m t s' → f v s') : ps_Cl (d + 3) 49 [.ref r0, .ref r1, .ref r2] s (ps_rI f) :=
  pg_49_0 (d := d + 2) (ps_nk_i h0 (xs_37 h0 h1 J (fun v1 g1 => (ps_nk_i h1 (ps_nk_i h0 (ps_nk_i h0 (xs_51 h0 g1 (xk_2_3 h0) J (fun v2 b2 => (And.intro (fun f1 => (ps_nk_i h0 (ps_nk_i h0 (ps_nk_i (xk_2_5 h0) (xs_103 (xk_2_5 h0) h2 (xj_2_6 J h0) J (fun s3 J3 => (ps_nk_i h1 (ps_nk_i (xk_8_6 h1) (xs_91 (xk_8_6 h1) J3 (fun s4 J4 => (ps_nk_i h1 (ps_nk_i (xk_8_6 h1) (xs_93 (xk_8_6 h1) J4 (fun s5 J5 => (xs_49_52 (d := d) (r0 := r0) (r1 := r1) (r2 := r2) (x3 := 0)  h0 h1 h2 J5 k ))))))))))))))) (fun f1 => (k 3 s J)))))))))))

-- ProofBench$Proof.putInto(LProofBench$Row;LProofBench$Row;LProofBench$Row;)V
theorem pg_52_0 {d : Nat} {r0 : Nat} {r1 : Nat} {r2 : Nat} {r3 : Nat} {s : ps_S} {Q : Option Value → ps_S → Prop} (h :
  ps_nk (ps_is r0 2) (ps_nk (ps_is r0 2) (ps_nk (ps_is (ps_c0 r0 5) 6) (ps_Cl d 103 [.ref (ps_c0 r0 5), .ref r2, .ref (ps_r s r0 6)] s (ps_rV (fun s1 =>
    ps_nk (ps_is r1 5) (ps_Cl d 91 [.ref r1] s1 (ps_rV (fun s2 =>
      ps_At (d + 1) 52 19 [(0, .ref r0), (1, .ref r1), (2, .ref r2), (3, .ref r3), (4, .int 1)] [] s2 Q))))))))) : ps_At (d + 1) 52 0 [(0, .ref r0), (1, .ref r1), (2, .ref r2), (3, .ref r3)] [] s Q :=
  ps_wp_at (stops := [(19, [0, 1, 2, 3, 4])]) (n := 12) h rfl

theorem pg_52_19 {d : Nat} {r0 : Nat} {r1 : Nat} {r2 : Nat} {r3 : Nat} {x4 : Int32} {s : ps_S} {Q : Option Value → ps_S → Prop} (h :
  ps_nk (ps_is r2 5) (((ps_i s r2 1) ≤ x4 →
    Q none s) ∧
  (x4 < (ps_i s r2 1) →
    ps_nk (ps_is r2 5) (ps_Cl d 92 [.ref r2, .int x4] s (ps_rI (fun v1 s1 =>
      ps_nk (ps_is r0 2) (ps_nk (ps_is (ps_c0 r0 5) 6) (ps_Cl d 105 [.ref (ps_c0 r0 5), .int x4] s1 (ps_rI (fun v2 s2 =>
        (v1 ≠ (((40 : Int32) + v2) - 1) →
          ps_nk (ps_is r2 5) (ps_Cl d 92 [.ref r2, .int x4] s2 (ps_rI (fun v3 s3 =>
            ps_nk (ps_is r1 5) (ps_Cl d 93 [.ref r1, .int v3] s3 (ps_rV (fun s4 =>
              ps_At (d + 1) 52 19 [(0, .ref r0), (1, .ref r1), (2, .ref r2), (3, .ref r3), (4, .int (x4 + 1))] [] s4 Q))))))) ∧
        (v1 = (((40 : Int32) + v2) - 1) →
          ps_nk (ps_is r3 5) (ps_nk (ps_is r1 5) (ps_Cl d 94 [.ref r1, .ref r3, .int 0, .int (ps_i s2 r3 1)] s2 (ps_rV (fun s5 =>
            ps_At (d + 1) 52 19 [(0, .ref r0), (1, .ref r1), (2, .ref r2), (3, .ref r3), (4, .int (x4 + 1))] [] s5 Q))))))))))))))) : ps_At (d + 1) 52 19 [(0, .ref r0), (1, .ref r1), (2, .ref r2), (3, .ref r3), (4, .int x4)] [] s Q :=
  ps_wp_at (stops := [(19, [0, 1, 2, 3, 4])]) (n := 35) h rfl

theorem xs_52_19 {m s : ps_S} {t : Int32} {d : Nat} {r0 : Nat} {r1 : Nat} {r2 : Nat} {r3 : Nat} {x4 : Int32} {Q : Option Value → ps_S → Prop} (h0 : ps_is r0 2 = true) (h1 : ps_is r1 5 = true) (h2 : ps_is r2 5 = true) (h3 : ps_is r3 5 = true) (J : xJ m t s) (k : ∀ (s' : ps_S), xJ m t s' → Q none s') : ps_At (d + 2) 52 19 [(0, .ref r0), (1, .ref r1), (2, .ref r2), (3, .ref r3), (4, .int x4)] [] s Q :=
  xs_up (P := fun x4 => ∀ (s : ps_S), ps_is r0 2 = true → ps_is r1 5 = true → ps_is r2 5 = true → ps_is r3 5 = true → xJ m t s → ps_At (d + 2) 52 19 [(0, .ref r0), (1, .ref r1), (2, .ref r2), (3, .ref r3), (4, .int x4)] [] s Q) (fun x4 ih s h0 h1 h2 h3 J => pg_52_19 (d := d + 1) (ps_nk_i h2 (And.intro (fun f1 => (k s J)) (fun f1 => (ps_nk_i h2 (xs_92 h2 J (fun v1 => (ps_nk_i h0 (ps_nk_i (xk_2_5 h0) (xs_105 (xk_2_5 h0) J (fun v2 => (And.intro (fun f2 => (ps_nk_i h2 (xs_92 h2 J (fun v3 => (ps_nk_i h1 (xs_93 h1 J (fun s4 J4 => (ih ((x4 + 1)) (xs_lt f1) s4 h0 h1 h2 h3 J4)))))))) (fun f2 => (ps_nk_i h3 (ps_nk_i h1 (xs_94 h1 h3 J (fun s5 J5 => (ih ((x4 + 1)) (xs_lt f1) s5 h0 h1 h2 h3 J5)))))))))))))))))) x4 s h0 h1 h2 h3 J

theorem xs_52 {m s : ps_S} {t : Int32} {d : Nat} {r0 : Nat} {r1 : Nat} {r2 : Nat} {r3 : Nat} {f : ps_S → Prop} (h0 : ps_is r0 2 = true) (h1 : ps_is r1 5 = true) (h2 : ps_is r2 5 = true) (h3 : ps_is r3 5 = true) (J : xJ m t s) (k : ∀ (s' : ps_S), xJ m t s' → f s') : ps_Cl (d + 2) 52 [.ref r0, .ref r1, .ref r2, .ref r3] s (ps_rV f) :=
  pg_52_0 (d := d + 1) (ps_nk_i h0 (ps_nk_i h0 (ps_nk_i (xk_2_5 h0) (xs_103 (xk_2_5 h0) h2 (xj_2_6 J h0) J (fun s1 J1 => (ps_nk_i h1 (xs_91 h1 J1 (fun s2 J2 => (xs_52_19 (d := d) (r0 := r0) (r1 := r1) (r2 := r2) (r3 := r3) (x4 := 1)  h0 h1 h2 h3 J2 k )))))))))

-- ProofBench$Proof.specialise(LProofBench$Step;LProofBench$Row;)I
theorem pg_50_0 {d : Nat} {r0 : Nat} {r1 : Nat} {r2 : Nat} {s : ps_S} {Q : Option Value → ps_S → Prop} (h :
  ps_nk (ps_is r2 5) (ps_Cl d 92 [.ref r2, .int 0] s (ps_rI (fun v1 s1 =>
    (v1 = 4 →
      ps_nk (ps_is r1 8) (ps_nk (ps_is r1 8) (ps_nk (ps_is r0 2) (ps_Cl d 52 [.ref r0, .ref (ps_c0 r1 6), .ref r2, .ref (ps_c0 r1 4)] s1 (ps_rV (fun s2 =>
        Q (some (.int 0)) s2)))))) ∧
    (v1 ≠ 4 →
      Q (some (.int 2)) s1))))) : ps_At (d + 1) 50 0 [(0, .ref r0), (1, .ref r1), (2, .ref r2)] [] s Q :=
  ps_wp_at (stops := []) (n := 18) h rfl

theorem xs_50 {m s : ps_S} {t : Int32} {d : Nat} {r0 : Nat} {r1 : Nat} {r2 : Nat} {f : Int32 → ps_S → Prop} (h0 : ps_is r0 2 = true) (h1 : ps_is r1 8 = true) (h2 : ps_is r2 5 = true) (J : xJ m t s) (k : ∀ (v : Int32) (s' : ps_S), xJ m t s' → f v s') : ps_Cl (d + 3) 50 [.ref r0, .ref r1, .ref r2] s (ps_rI f) :=
  pg_50_0 (d := d + 2) (ps_nk_i h2 (xs_92 h2 J (fun v1 => (And.intro (fun f1 => (ps_nk_i h1 (ps_nk_i h1 (ps_nk_i h0 (xs_52 h0 (xk_8_6 h1) h2 (xk_8_4 h1) J (fun s2 J2 => (k 0 s2 J2))))))) (fun f1 => (k 2 s J))))))

-- ProofBench$Proof.makeSome(LProofBench$Step;LProofBench$Row;)I
theorem pg_53_0 {d : Nat} {r0 : Nat} {r1 : Nat} {r2 : Nat} {s : ps_S} {Q : Option Value → ps_S → Prop} (h :
  ps_nk (ps_is r1 8) (ps_nk (ps_is (ps_c0 r1 5) 5) (ps_Cl d 92 [.ref (ps_c0 r1 5), .int 0] s (ps_rI (fun v1 s1 =>
    (v1 = 5 →
      ps_nk (ps_is r0 2) (ps_nk (ps_is r1 8) (ps_nk (ps_is r1 8) (ps_nk (ps_is r0 2) (ps_Cl d 52 [.ref r0, .ref (ps_c0 r0 4), .ref (ps_c0 r1 5), .ref (ps_c0 r1 4)] s1 (ps_rV (fun s2 =>
        ps_nk (ps_is r0 2) (ps_nk (ps_is (ps_c0 r0 4) 5) (ps_Cl d 98 [.ref (ps_c0 r0 4), .ref r2] s2 (ps_rI (fun v3 s3 =>
          (v3 ≠ 0 →
            ps_nk (ps_is r1 8) (ps_nk (ps_is r1 8) (ps_nk (ps_is (ps_c0 r1 6) 5) (ps_Cl d 95 [.ref (ps_c0 r1 6), .ref (ps_c0 r1 5)] s3 (ps_rV (fun s4 =>
              Q (some (.int 0)) s4)))))) ∧
          (v3 = 0 →
            Q (some (.int 4)) s3)))))))))))) ∧
    (v1 ≠ 5 →
      Q (some (.int 4)) s1)))))) : ps_At (d + 1) 53 0 [(0, .ref r0), (1, .ref r1), (2, .ref r2)] [] s Q :=
  ps_wp_at (stops := []) (n := 32) h rfl

theorem xs_53 {m s : ps_S} {t : Int32} {d : Nat} {r0 : Nat} {r1 : Nat} {r2 : Nat} {f : Int32 → ps_S → Prop} (h0 : ps_is r0 2 = true) (h1 : ps_is r1 8 = true) (h2 : ps_is r2 5 = true) (J : xJ m t s) (k : ∀ (v : Int32) (s' : ps_S), xJ m t s' → f v s') : ps_Cl (d + 3) 53 [.ref r0, .ref r1, .ref r2] s (ps_rI f) :=
  pg_53_0 (d := d + 2) (ps_nk_i h1 (ps_nk_i (xk_8_5 h1) (xs_92 (xk_8_5 h1) J (fun v1 => (And.intro (fun f1 => (ps_nk_i h0 (ps_nk_i h1 (ps_nk_i h1 (ps_nk_i h0 (xs_52 h0 (xk_2_4 h0) (xk_8_5 h1) (xk_8_4 h1) J (fun s2 J2 => (ps_nk_i h0 (ps_nk_i (xk_2_4 h0) (xs_98 (xk_2_4 h0) h2 J2 (fun v3 b3 => (And.intro (fun f2 => (ps_nk_i h1 (ps_nk_i h1 (ps_nk_i (xk_8_6 h1) (xs_95 (xk_8_6 h1) (xk_8_5 h1) J2 (fun s4 J4 => (k 0 s4 J4))))))) (fun f2 => (k 4 s2 J2)))))))))))))) (fun f1 => (k 4 s J)))))))

-- ProofBench$Proof.openSome(LProofBench$Step;LProofBench$Row;LProofBench$Step;)I
theorem pg_54_0 {d : Nat} {r0 : Nat} {r1 : Nat} {r2 : Nat} {r3 : Nat} {s : ps_S} {Q : Option Value → ps_S → Prop} (h :
  ps_nk (ps_is r2 5) (ps_Cl d 92 [.ref r2, .int 0] s (ps_rI (fun v1 s1 =>
    (v1 = 5 →
      ps_nk (ps_is r1 8) (ps_nk (ps_is (ps_c0 r1 4) 5) (ps_Cl d 91 [.ref (ps_c0 r1 4)] s1 (ps_rV (fun s2 =>
        ps_nk (ps_is r1 8) (ps_nk (ps_is r1 8) (ps_nk (ps_is (ps_c0 r1 4) 5) (ps_Cl d 93 [.ref (ps_c0 r1 4), .int (ps_i s2 r1 3)] s2 (ps_rV (fun s3 =>
          ps_nk (ps_is r0 2) (ps_Cl d 38 [.ref r0, .int 1] s3 (ps_rA (fun v4 s4 =>
            ps_nk (ps_is r1 8) (ps_nk (ps_is r0 2) (ps_Cl d 52 [.ref r0, .ref v4, .ref r2, .ref (ps_c0 r1 4)] s4 (ps_rV (fun s5 =>
              ps_nk (ps_is r1 8) (ps_nk (ps_is r2 5) (ps_Cl d 100 [.ref r2, .int (ps_i s5 r1 3)] s5 (ps_rI (fun v6 s6 =>
                (v6 ≠ 0 →
                  ps_At (d + 1) 54 68 [(0, .ref r0), (1, .ref r1), (3, .ref r3)] [] s6 Q) ∧
                (v6 = 0 →
                  ps_nk (ps_is r3 8) (ps_nk (ps_is r1 8) (ps_nk (ps_is (ps_c0 r3 6) 5) (ps_Cl d 100 [.ref (ps_c0 r3 6), .int (ps_i s6 r1 3)] s6 (ps_rI (fun v7 s7 =>
                    (v7 = 0 →
                      ((0 : Int32) ≠ 0 →
                        Q (some (.int 3)) s7) ∧
                      ((0 : Int32) = 0 →
                        ps_nk (ps_is r1 8) (ps_nk (ps_is r0 2) (ps_Cl d 38 [.ref r0, .int 1] s7 (ps_rA (fun v8 s8 =>
                          ps_nk (ps_is r0 2) (ps_Cl d 51 [.ref r0, .ref r3, .int (ps_i s7 r1 3), .ref v8] s8 (ps_rI (fun v9 s9 =>
                            (v9 = 0 →
                              ps_nk (ps_is r1 8) (ps_nk (ps_is r3 8) (ps_nk (ps_is (ps_c0 r1 6) 5) (ps_Cl d 95 [.ref (ps_c0 r1 6), .ref (ps_c0 r3 6)] s9 (ps_rV (fun s10 =>
                                Q (some (.int 0)) s10)))))) ∧
                            (v9 ≠ 0 →
                              Q (some (.int 3)) s9)))))))))) ∧
                    (v7 ≠ 0 →
                      ps_At (d + 1) 54 68 [(0, .ref r0), (1, .ref r1), (3, .ref r3)] [] s7 Q)))))))))))))))))))))))))))) ∧
    (v1 ≠ 5 →
      Q (some (.int 2)) s1))))) : ps_At (d + 1) 54 0 [(0, .ref r0), (1, .ref r1), (2, .ref r2), (3, .ref r3)] [] s Q :=
  ps_wp_at (stops := [(68, [0, 1, 3])]) (n := 60) h rfl

theorem pg_54_68 {d : Nat} {r0 : Nat} {r1 : Nat} {r3 : Nat} {s : ps_S} {Q : Option Value → ps_S → Prop} (h :
  ((1 : Int32) ≠ 0 →
    Q (some (.int 3)) s) ∧
  ((1 : Int32) = 0 →
    ps_nk (ps_is r1 8) (ps_nk (ps_is r0 2) (ps_Cl d 38 [.ref r0, .int 1] s (ps_rA (fun v1 s1 =>
      ps_nk (ps_is r0 2) (ps_Cl d 51 [.ref r0, .ref r3, .int (ps_i s r1 3), .ref v1] s1 (ps_rI (fun v2 s2 =>
        (v2 = 0 →
          ps_nk (ps_is r1 8) (ps_nk (ps_is r3 8) (ps_nk (ps_is (ps_c0 r1 6) 5) (ps_Cl d 95 [.ref (ps_c0 r1 6), .ref (ps_c0 r3 6)] s2 (ps_rV (fun s3 =>
            Q (some (.int 0)) s3)))))) ∧
        (v2 ≠ 0 →
          Q (some (.int 3)) s2)))))))))) : ps_At (d + 1) 54 68 [(0, .ref r0), (1, .ref r1), (3, .ref r3)] [] s Q :=
  ps_wp_at (stops := [(68, [0, 1, 3])]) (n := 27) h rfl

theorem xs_54_68 {m s : ps_S} {t : Int32} {d : Nat} {r0 : Nat} {r1 : Nat} {r3 : Nat} {Q : Option Value → ps_S → Prop} (h0 : ps_is r0 2 = true) (h1 : ps_is r1 8 = true) (h3 : ps_is r3 8 = true) (J : xJ m t s) (k : ∀ (v : Int32) (s' : ps_S), xJ m t s' → Q (some (.int v)) s') : ps_At (d + 3) 54 68 [(0, .ref r0), (1, .ref r1), (3, .ref r3)] [] s Q :=
  pg_54_68 (d := d + 2) (And.intro (fun f1 => (k 3 s J)) (fun f1 => (ps_nk_i h1 (ps_nk_i h0 (xs_38 h0 J (fun v1 g1 => (ps_nk_i h0 (xs_51 h0 h3 g1 J (fun v2 b2 => (And.intro (fun f2 => (ps_nk_i h1 (ps_nk_i h3 (ps_nk_i (xk_8_6 h1) (xs_95 (xk_8_6 h1) (xk_8_6 h3) J (fun s3 J3 => (k 0 s3 J3))))))) (fun f2 => (k 3 s J))))))))))))

theorem xs_54 {m s : ps_S} {t : Int32} {d : Nat} {r0 : Nat} {r1 : Nat} {r2 : Nat} {r3 : Nat} {f : Int32 → ps_S → Prop} (h0 : ps_is r0 2 = true) (h1 : ps_is r1 8 = true) (h2 : ps_is r2 5 = true) (h3 : ps_is r3 8 = true) (J : xJ m t s) (k : ∀ (v : Int32) (s' : ps_S), xJ m t s' → f v s') : ps_Cl (d + 3) 54 [.ref r0, .ref r1, .ref r2, .ref r3] s (ps_rI f) :=
  pg_54_0 (d := d + 2) (ps_nk_i h2 (xs_92 h2 J (fun v1 => (And.intro (fun f1 => (ps_nk_i h1 (ps_nk_i (xk_8_4 h1) (xs_91 (xk_8_4 h1) J (fun s2 J2 => (ps_nk_i h1 (ps_nk_i h1 (ps_nk_i (xk_8_4 h1) (xs_93 (xk_8_4 h1) J2 (fun s3 J3 => (ps_nk_i h0 (xs_38 h0 J3 (fun v4 g4 => (ps_nk_i h1 (ps_nk_i h0 (xs_52 h0 g4 h2 (xk_8_4 h1) J3 (fun s5 J5 => (ps_nk_i h1 (ps_nk_i h2 (xs_100 h2 J5 (fun v6 b6 => (And.intro (fun f2 => (xs_54_68 (d := d) (r0 := r0) (r1 := r1) (r3 := r3)  h0 h1 h3 J5 k )) (fun f2 => (ps_nk_i h3 (ps_nk_i h1 (ps_nk_i (xk_8_6 h3) (xs_100 (xk_8_6 h3) J5 (fun v7 b7 => (And.intro (fun f3 => (And.intro (fun f4 => (k 3 s5 J5)) (fun f4 => (ps_nk_i h1 (ps_nk_i h0 (xs_38 h0 J5 (fun v8 g8 => (ps_nk_i h0 (xs_51 h0 h3 g8 J5 (fun v9 b9 => (And.intro (fun f5 => (ps_nk_i h1 (ps_nk_i h3 (ps_nk_i (xk_8_6 h1) (xs_95 (xk_8_6 h1) (xk_8_6 h3) J5 (fun s10 J10 => (k 0 s10 J10))))))) (fun f5 => (k 3 s5 J5))))))))))))) (fun f3 => (xs_54_68 (d := d) (r0 := r0) (r1 := r1) (r3 := r3)  h0 h1 h3 J5 k ))))))))))))))))))))))))))))))) (fun f1 => (k 2 s J))))))

-- ProofBench$Proof.isExchanged(LProofBench$Row;LProofBench$Row;LProofBench$Row;)Z
theorem pg_56_0 {d : Nat} {r0 : Nat} {r1 : Nat} {r2 : Nat} {r3 : Nat} {s : ps_S} {Q : Option Value → ps_S → Prop} (h :
  ps_nk (ps_is r0 2) (ps_nk (ps_is r0 2) (ps_nk (ps_is (ps_c0 r0 5) 6) (ps_Cl d 103 [.ref (ps_c0 r0 5), .ref r2, .ref (ps_r s r0 6)] s (ps_rV (fun s1 =>
    ps_nk (ps_is r0 2) (ps_nk (ps_is (ps_c0 r0 5) 6) (ps_Cl d 104 [.ref (ps_c0 r0 5), .int 1] s1 (ps_rI (fun v2 s2 =>
      ps_nk (ps_is r2 5) (ps_At (d + 1) 56 46 [(1, .ref r1), (2, .ref r2), (3, .ref r3), (4, .int v2), (5, .int (v2 - 1)), (6, .int ((ps_i s2 r2 1) - v2)), (7, .int 0), (8, .int 0), (9, .int 0)] [] s2 Q))))))))))) : ps_At (d + 1) 56 0 [(0, .ref r0), (1, .ref r1), (2, .ref r2), (3, .ref r3)] [] s Q :=
  ps_wp_at (stops := [(46, [1, 2, 3, 4, 5, 6, 7, 8, 9]), (117, [1, 2, 3, 4, 5, 6, 7, 8, 9]), (149, [1, 3, 7, 8])]) (n := 28) h rfl

theorem pg_56_46 {d : Nat} {r1 : Nat} {r2 : Nat} {r3 : Nat} {x4 : Int32} {x5 : Int32} {x6 : Int32} {x7 : Int32} {x8 : Int32} {x9 : Int32} {s : ps_S} {Q : Option Value → ps_S → Prop} (h :
  (40 ≤ x9 →
    ps_At (d + 1) 56 149 [(1, .ref r1), (3, .ref r3), (7, .int x7), (8, .int x8)] [] s Q) ∧
  (x9 < 40 →
    ps_nk (ps_is r1 5) (((ps_i s r1 1) ≤ x7 →
      ps_At (d + 1) 56 149 [(1, .ref r1), (3, .ref r3), (7, .int x7), (8, .int x8)] [] s Q) ∧
    (x7 < (ps_i s r1 1) →
      ps_nk (ps_is r3 5) (((ps_i s r3 1) ≤ x8 →
        ps_At (d + 1) 56 149 [(1, .ref r1), (3, .ref r3), (7, .int x7), (8, .int x8)] [] s Q) ∧
      (x8 < (ps_i s r3 1) →
        ps_nk (ps_is r2 5) (ps_Cl d 99 [.ref r2, .int 1, .int x4, .ref r3, .int x8] s (ps_rI (fun v1 s1 =>
          (v1 = 0 →
            ps_At (d + 1) 56 117 [(1, .ref r1), (2, .ref r2), (3, .ref r3), (4, .int x4), (5, .int x5), (6, .int x6), (7, .int x7), (8, .int x8), (9, .int x9)] [] s1 Q) ∧
          (v1 ≠ 0 →
            ps_nk (ps_is r2 5) (ps_nk (ps_is r2 5) (ps_Cl d 99 [.ref r2, .int x4, .int (ps_i s1 r2 1), .ref r1, .int x7] s1 (ps_rI (fun v2 s2 =>
              (v2 = 0 →
                ps_At (d + 1) 56 117 [(1, .ref r1), (2, .ref r2), (3, .ref r3), (4, .int x4), (5, .int x5), (6, .int x6), (7, .int x7), (8, .int x8), (9, .int x9)] [] s2 Q) ∧
              (v2 ≠ 0 →
                ps_At (d + 1) 56 46 [(1, .ref r1), (2, .ref r2), (3, .ref r3), (4, .int x4), (5, .int x5), (6, .int x6), (7, .int (x7 + x6)), (8, .int (x8 + x5)), (9, .int (x9 + 1))] [] s2 Q))))))))))))))) : ps_At (d + 1) 56 46 [(1, .ref r1), (2, .ref r2), (3, .ref r3), (4, .int x4), (5, .int x5), (6, .int x6), (7, .int x7), (8, .int x8), (9, .int x9)] [] s Q :=
  ps_wp_at (stops := [(46, [1, 2, 3, 4, 5, 6, 7, 8, 9]), (117, [1, 2, 3, 4, 5, 6, 7, 8, 9]), (149, [1, 3, 7, 8])]) (n := 39) h rfl

theorem pg_56_117 {d : Nat} {r1 : Nat} {r2 : Nat} {r3 : Nat} {x4 : Int32} {x5 : Int32} {x6 : Int32} {x7 : Int32} {x8 : Int32} {x9 : Int32} {s : ps_S} {Q : Option Value → ps_S → Prop} (h :
  ps_nk (ps_is r1 5) (ps_Cl d 92 [.ref r1, .int x7] s (ps_rI (fun v1 s1 =>
    ps_nk (ps_is r3 5) (ps_Cl d 92 [.ref r3, .int x8] s1 (ps_rI (fun v2 s2 =>
      (v1 ≠ v2 →
        Q (some (.int 0)) s2) ∧
      (v1 = v2 →
        ps_At (d + 1) 56 46 [(1, .ref r1), (2, .ref r2), (3, .ref r3), (4, .int x4), (5, .int x5), (6, .int x6), (7, .int (x7 + 1)), (8, .int (x8 + 1)), (9, .int (x9 + 1))] [] s2 Q)))))))) : ps_At (d + 1) 56 117 [(1, .ref r1), (2, .ref r2), (3, .ref r3), (4, .int x4), (5, .int x5), (6, .int x6), (7, .int x7), (8, .int x8), (9, .int x9)] [] s Q :=
  ps_wp_at (stops := [(46, [1, 2, 3, 4, 5, 6, 7, 8, 9]), (117, [1, 2, 3, 4, 5, 6, 7, 8, 9]), (149, [1, 3, 7, 8])]) (n := 16) h rfl

theorem pg_56_149 {d : Nat} {r1 : Nat} {r3 : Nat} {x7 : Int32} {x8 : Int32} {s : ps_S} {Q : Option Value → ps_S → Prop} (h :
  ps_nk (ps_is r1 5) ((x7 ≠ (ps_i s r1 1) →
    Q (some (.int 0)) s) ∧
  (x7 = (ps_i s r1 1) →
    ps_nk (ps_is r3 5) ((x8 ≠ (ps_i s r3 1) →
      Q (some (.int 0)) s) ∧
    (x8 = (ps_i s r3 1) →
      Q (some (.int 1)) s))))) : ps_At (d + 1) 56 149 [(1, .ref r1), (3, .ref r3), (7, .int x7), (8, .int x8)] [] s Q :=
  ps_wp_at (stops := [(46, [1, 2, 3, 4, 5, 6, 7, 8, 9]), (117, [1, 2, 3, 4, 5, 6, 7, 8, 9]), (149, [1, 3, 7, 8])]) (n := 17) h rfl

theorem xs_56_117 {m s : ps_S} {t : Int32} {d : Nat} {r1 : Nat} {r2 : Nat} {r3 : Nat} {x4 : Int32} {x5 : Int32} {x6 : Int32} {x7 : Int32} {x8 : Int32} {x9 : Int32} {Q : Option Value → ps_S → Prop} (h1 : ps_is r1 5 = true) (h2 : ps_is r2 5 = true) (h3 : ps_is r3 5 = true) (J : xJ m t s) (k : ∀ (v : Int32) (s' : ps_S), v &&& 1 = v → xJ m t s' → Q (some (.int v)) s') (K46 : ∀ (x7 : Int32) (x8 : Int32) (s : ps_S), ps_is r1 5 = true → ps_is r2 5 = true → ps_is r3 5 = true → xJ m t s → ps_At (d + 2) 56 46 [(1, .ref r1), (2, .ref r2), (3, .ref r3), (4, .int x4), (5, .int x5), (6, .int x6), (7, .int x7), (8, .int x8), (9, .int (x9 + 1))] [] s Q) : ps_At (d + 2) 56 117 [(1, .ref r1), (2, .ref r2), (3, .ref r3), (4, .int x4), (5, .int x5), (6, .int x6), (7, .int x7), (8, .int x8), (9, .int x9)] [] s Q :=
  pg_56_117 (d := d + 1) (ps_nk_i h1 (xs_92 h1 J (fun v1 => (ps_nk_i h3 (xs_92 h3 J (fun v2 => (And.intro (fun f1 => (k 0 s (by decide) J)) (fun f1 => (K46 ((x7 + 1)) ((x8 + 1)) s h1 h2 h3 J)))))))))

theorem xs_56_149 {m s : ps_S} {t : Int32} {d : Nat} {r1 : Nat} {r3 : Nat} {x7 : Int32} {x8 : Int32} {Q : Option Value → ps_S → Prop} (h1 : ps_is r1 5 = true) (h3 : ps_is r3 5 = true) (J : xJ m t s) (k : ∀ (v : Int32) (s' : ps_S), v &&& 1 = v → xJ m t s' → Q (some (.int v)) s') : ps_At (d + 2) 56 149 [(1, .ref r1), (3, .ref r3), (7, .int x7), (8, .int x8)] [] s Q :=
  pg_56_149 (d := d + 1) (ps_nk_i h1 (And.intro (fun f1 => (k 0 s (by decide) J)) (fun f1 => (ps_nk_i h3 (And.intro (fun f2 => (k 0 s (by decide) J)) (fun f2 => (k 1 s (by decide) J)))))))

theorem xs_56_46 {m s : ps_S} {t : Int32} {d : Nat} {r1 : Nat} {r2 : Nat} {r3 : Nat} {x4 : Int32} {x5 : Int32} {x6 : Int32} {x7 : Int32} {x8 : Int32} {x9 : Int32} {Q : Option Value → ps_S → Prop} (h1 : ps_is r1 5 = true) (h2 : ps_is r2 5 = true) (h3 : ps_is r3 5 = true) (J : xJ m t s) (k : ∀ (v : Int32) (s' : ps_S), v &&& 1 = v → xJ m t s' → Q (some (.int v)) s') : ps_At (d + 2) 56 46 [(1, .ref r1), (2, .ref r2), (3, .ref r3), (4, .int x4), (5, .int x5), (6, .int x6), (7, .int x7), (8, .int x8), (9, .int x9)] [] s Q :=
  xs_up (P := fun x9 => ∀ (x7 : Int32) (x8 : Int32) (s : ps_S), ps_is r1 5 = true → ps_is r2 5 = true → ps_is r3 5 = true → xJ m t s → ps_At (d + 2) 56 46 [(1, .ref r1), (2, .ref r2), (3, .ref r3), (4, .int x4), (5, .int x5), (6, .int x6), (7, .int x7), (8, .int x8), (9, .int x9)] [] s Q) (fun x9 ih x7 x8 s h1 h2 h3 J => pg_56_46 (d := d + 1) (And.intro (fun f1 => (xs_56_149 (d := d) (r1 := r1) (r3 := r3) (x7 := x7) (x8 := x8)  h1 h3 J k )) (fun f1 => (ps_nk_i h1 (And.intro (fun f2 => (xs_56_149 (d := d) (r1 := r1) (r3 := r3) (x7 := x7) (x8 := x8)  h1 h3 J k )) (fun f2 => (ps_nk_i h3 (And.intro (fun f3 => (xs_56_149 (d := d) (r1 := r1) (r3 := r3) (x7 := x7) (x8 := x8)  h1 h3 J k )) (fun f3 => (ps_nk_i h2 (xs_99 h2 h3 J (fun v1 b1 => (And.intro (fun f4 => (xs_56_117 (d := d) (r1 := r1) (r2 := r2) (r3 := r3) (x4 := x4) (x5 := x5) (x6 := x6) (x7 := x7) (x8 := x8) (x9 := x9)  h1 h2 h3 J k (fun x7 x8 s9 h1z h2z h3z J9 => ih (x9 + 1) (xs_lt f1) x7 x8 s9 h1z h2z h3z J9))) (fun f4 => (ps_nk_i h2 (ps_nk_i h2 (xs_99 h2 h1 J (fun v2 b2 => (And.intro (fun f5 => (xs_56_117 (d := d) (r1 := r1) (r2 := r2) (r3 := r3) (x4 := x4) (x5 := x5) (x6 := x6) (x7 := x7) (x8 := x8) (x9 := x9)  h1 h2 h3 J k (fun x7 x8 s9 h1z h2z h3z J9 => ih (x9 + 1) (xs_lt f1) x7 x8 s9 h1z h2z h3z J9))) (fun f5 => (ih ((x9 + 1)) (xs_lt f1) ((x7 + x6)) ((x8 + x5)) s h1 h2 h3 J))))))))))))))))))))) x9 x7 x8 s h1 h2 h3 J

theorem xs_56 {m s : ps_S} {t : Int32} {d : Nat} {r0 : Nat} {r1 : Nat} {r2 : Nat} {r3 : Nat} {f : Int32 → ps_S → Prop} (h0 : ps_is r0 2 = true) (h1 : ps_is r1 5 = true) (h2 : ps_is r2 5 = true) (h3 : ps_is r3 5 = true) (J : xJ m t s) (k : ∀ (v : Int32) (s' : ps_S), v &&& 1 = v → xJ m t s' → f v s') : ps_Cl (d + 2) 56 [.ref r0, .ref r1, .ref r2, .ref r3] s (ps_rI f) :=
  pg_56_0 (d := d + 1) (ps_nk_i h0 (ps_nk_i h0 (ps_nk_i (xk_2_5 h0) (xs_103 (xk_2_5 h0) h2 (xj_2_6 J h0) J (fun s1 J1 => (ps_nk_i h0 (ps_nk_i (xk_2_5 h0) (xs_104 (xk_2_5 h0) J1 (fun v2 => (ps_nk_i h2 (xs_56_46 (d := d) (r1 := r1) (r2 := r2) (r3 := r3) (x4 := v2) (x5 := (v2 - 1)) (x6 := ((ps_i s1 r2 1) - v2)) (x7 := 0) (x8 := 0) (x9 := 0)  h1 h2 h3 J1 k )))))))))))

-- ProofBench$Proof.exchange(LProofBench$Step;LProofBench$Row;LProofBench$Row;)I
theorem pg_55_0 {d : Nat} {r0 : Nat} {r1 : Nat} {r2 : Nat} {r3 : Nat} {s : ps_S} {Q : Option Value → ps_S → Prop} (h :
  ps_nk (ps_is r2 5) (ps_Cl d 92 [.ref r2, .int 0] s (ps_rI (fun v1 s1 =>
    (v1 = 6 →
      ps_nk (ps_is r1 8) (ps_nk (ps_is r0 2) (ps_Cl d 56 [.ref r0, .ref (ps_c0 r1 5), .ref r2, .ref r3] s1 (ps_rI (fun v2 s2 =>
        (v2 ≠ 0 →
          ps_nk (ps_is r1 8) (ps_nk (ps_is r1 8) (ps_nk (ps_is (ps_c0 r1 6) 5) (ps_Cl d 95 [.ref (ps_c0 r1 6), .ref (ps_c0 r1 5)] s2 (ps_rV (fun s3 =>
            Q (some (.int 0)) s3)))))) ∧
        (v2 = 0 →
          Q (some (.int 4)) s2)))))) ∧
    (v1 ≠ 6 →
      Q (some (.int 2)) s1))))) : ps_At (d + 1) 55 0 [(0, .ref r0), (1, .ref r1), (2, .ref r2), (3, .ref r3)] [] s Q :=
  ps_wp_at (stops := []) (n := 25) h rfl

theorem xs_55 {m s : ps_S} {t : Int32} {d : Nat} {r0 : Nat} {r1 : Nat} {r2 : Nat} {r3 : Nat} {f : Int32 → ps_S → Prop} (h0 : ps_is r0 2 = true) (h1 : ps_is r1 8 = true) (h2 : ps_is r2 5 = true) (h3 : ps_is r3 5 = true) (J : xJ m t s) (k : ∀ (v : Int32) (s' : ps_S), xJ m t s' → f v s') : ps_Cl (d + 3) 55 [.ref r0, .ref r1, .ref r2, .ref r3] s (ps_rI f) :=
  pg_55_0 (d := d + 2) (ps_nk_i h2 (xs_92 h2 J (fun v1 => (And.intro (fun f1 => (ps_nk_i h1 (ps_nk_i h0 (xs_56 h0 (xk_8_5 h1) h2 h3 J (fun v2 s2 b2 J2 => (And.intro (fun f2 => (ps_nk_i h1 (ps_nk_i h1 (ps_nk_i (xk_8_6 h1) (xs_95 (xk_8_6 h1) (xk_8_5 h1) J2 (fun s3 J3 => (k 0 s3 J3))))))) (fun f2 => (k 4 s2 J2)))))))) (fun f1 => (k 2 s J))))))

-- ProofBench$Proof.fromFalse(LProofBench$Step;LProofBench$Row;)I
theorem pg_48_0 {d : Nat} {r0 : Nat} {r1 : Nat} {r2 : Nat} {s : ps_S} {Q : Option Value → ps_S → Prop} (h :
  ps_nk (ps_is r2 5) (ps_Cl d 92 [.ref r2, .int 0] s (ps_rI (fun v1 s1 =>
    (v1 = 0 →
      ps_nk (ps_is r1 8) (ps_nk (ps_is r1 8) (ps_nk (ps_is (ps_c0 r1 6) 5) (ps_Cl d 95 [.ref (ps_c0 r1 6), .ref (ps_c0 r1 5)] s1 (ps_rV (fun s2 =>
        ps_nk (ps_is r1 8) (((ps_i s2 r1 0) ≠ 27 →
          Q (some (.int 0)) s2) ∧
        ((ps_i s2 r1 0) = 27 →
          ps_nk (ps_is r0 2) (ps_Cl d 38 [.ref r0, .int 0] s2 (ps_rA (fun v3 s3 =>
            ps_nk (ps_is v3 5) (ps_Cl d 91 [.ref v3] s3 (ps_rV (fun s4 =>
              ps_nk (ps_is r0 2) (ps_Cl d 38 [.ref r0, .int 0] s4 (ps_rA (fun v5 s5 =>
                ps_nk (ps_is v5 5) (ps_Cl d 93 [.ref v5, .int 3] s5 (ps_rV (fun s6 =>
                  ps_nk (ps_is r0 2) (ps_Cl d 38 [.ref r0, .int 0] s6 (ps_rA (fun v7 s7 =>
                    ps_nk (ps_is r1 8) (ps_nk (ps_is r1 8) (ps_nk (ps_is (ps_c0 r1 5) 5) (ps_nk (ps_is v7 5) (ps_Cl d 94 [.ref v7, .ref (ps_c0 r1 5), .int 0, .int (ps_i s7 (ps_c0 r1 5) 1)] s7 (ps_rV (fun s8 =>
                      ps_nk (ps_is r0 2) (ps_Cl d 38 [.ref r0, .int 0] s8 (ps_rA (fun v9 s9 =>
                        ps_nk (ps_is v9 5) (ps_Cl d 93 [.ref v9, .int 0] s9 (ps_rV (fun s10 =>
                          Q (some (.int 0)) s10))))))))))))))))))))))))))))))))))) ∧
    (v1 ≠ 0 →
      Q (some (.int 2)) s1))))) : ps_At (d + 1) 48 0 [(0, .ref r0), (1, .ref r1), (2, .ref r2)] [] s Q :=
  ps_wp_at (stops := []) (n := 45) h rfl

theorem xs_48 {m s : ps_S} {t : Int32} {d : Nat} {r0 : Nat} {r1 : Nat} {r2 : Nat} {f : Int32 → ps_S → Prop} (h0 : ps_is r0 2 = true) (h1 : ps_is r1 8 = true) (h2 : ps_is r2 5 = true) (J : xJ m t s) (k : ∀ (v : Int32) (s' : ps_S), xJ m t s' → f v s') : ps_Cl (d + 3) 48 [.ref r0, .ref r1, .ref r2] s (ps_rI f) :=
  pg_48_0 (d := d + 2) (ps_nk_i h2 (xs_92 h2 J (fun v1 => (And.intro (fun f1 => (ps_nk_i h1 (ps_nk_i h1 (ps_nk_i (xk_8_6 h1) (xs_95 (xk_8_6 h1) (xk_8_5 h1) J (fun s2 J2 => (ps_nk_i h1 (And.intro (fun f2 => (k 0 s2 J2)) (fun f2 => (ps_nk_i h0 (xs_38 h0 J2 (fun v3 g3 => (ps_nk_i g3 (xs_91 g3 J2 (fun s4 J4 => (ps_nk_i h0 (xs_38 h0 J4 (fun v5 g5 => (ps_nk_i g5 (xs_93 g5 J4 (fun s6 J6 => (ps_nk_i h0 (xs_38 h0 J6 (fun v7 g7 => (ps_nk_i h1 (ps_nk_i h1 (ps_nk_i (xk_8_5 h1) (ps_nk_i g7 (xs_94 g7 (xk_8_5 h1) J6 (fun s8 J8 => (ps_nk_i h0 (xs_38 h0 J8 (fun v9 g9 => (ps_nk_i g9 (xs_93 g9 J8 (fun s10 J10 => (k 0 s10 J10))))))))))))))))))))))))))))))))))))) (fun f1 => (k 2 s J))))))

-- ProofBench$Proof.make(LProofBench$Step;ILProofBench$Shelf;)I
theorem pg_42_0 {d : Nat} {r0 : Nat} {r1 : Nat} {x2 : Int32} {r3 : Nat} {s : ps_S} {Q : Option Value → ps_S → Prop} (h :
  ps_nk (ps_is r0 2) (ps_Cl d 37 [.ref r0, .ref r1, .int 0] s (ps_rA (fun v1 s1 =>
    ps_nk (ps_is v1 8) (ps_nk (ps_is r1 8) (((ps_i s1 r1 0) = 6 →
      ps_nk (ps_is r0 2) (ps_Cl d 43 [.ref r0, .ref r1, .int x2, .ref r3] s1 (ps_rI (fun v2 s2 =>
        Q (some (.int v2)) s2)))) ∧
    ((ps_i s1 r1 0) ≠ 6 →
      ((ps_i s1 r1 0) = 7 →
      ps_nk (ps_is r0 2) (ps_Cl d 48 [.ref r0, .ref r1, .ref (ps_c0 v1 6)] s1 (ps_rI (fun v3 s3 =>
        Q (some (.int v3)) s3)))) ∧
    ((ps_i s1 r1 0) ≠ 7 →
      ((ps_i s1 r1 0) = 8 →
      ps_nk (ps_is r0 2) (ps_Cl d 48 [.ref r0, .ref r1, .ref (ps_c0 v1 6)] s1 (ps_rI (fun v4 s4 =>
        Q (some (.int v4)) s4)))) ∧
    ((ps_i s1 r1 0) ≠ 8 →
      ((ps_i s1 r1 0) = 9 →
      ps_nk (ps_is r0 2) (ps_Cl d 48 [.ref r0, .ref r1, .ref (ps_c0 v1 6)] s1 (ps_rI (fun v5 s5 =>
        Q (some (.int v5)) s5)))) ∧
    ((ps_i s1 r1 0) ≠ 9 →
      ((ps_i s1 r1 0) = 10 →
      ps_nk (ps_is r0 2) (ps_Cl d 43 [.ref r0, .ref r1, .int x2, .ref r3] s1 (ps_rI (fun v6 s6 =>
        Q (some (.int v6)) s6)))) ∧
    ((ps_i s1 r1 0) ≠ 10 →
      ((ps_i s1 r1 0) = 11 →
      ps_nk (ps_is r0 2) (ps_Cl d 43 [.ref r0, .ref r1, .int x2, .ref r3] s1 (ps_rI (fun v7 s7 =>
        Q (some (.int v7)) s7)))) ∧
    ((ps_i s1 r1 0) ≠ 11 →
      ((ps_i s1 r1 0) = 12 →
      ps_nk (ps_is r0 2) (ps_Cl d 43 [.ref r0, .ref r1, .int x2, .ref r3] s1 (ps_rI (fun v8 s8 =>
        Q (some (.int v8)) s8)))) ∧
    ((ps_i s1 r1 0) ≠ 12 →
      ((ps_i s1 r1 0) = 13 →
      ps_nk (ps_is r0 2) (ps_Cl d 44 [.ref r0, .ref r1, .ref (ps_c0 v1 6)] s1 (ps_rI (fun v9 s9 =>
        Q (some (.int v9)) s9)))) ∧
    ((ps_i s1 r1 0) ≠ 13 →
      ((ps_i s1 r1 0) = 14 →
      ps_nk (ps_is r0 2) (ps_Cl d 45 [.ref r0, .ref r1, .ref (ps_c0 v1 6)] s1 (ps_rI (fun v10 s10 =>
        Q (some (.int v10)) s10)))) ∧
    ((ps_i s1 r1 0) ≠ 14 →
      ((ps_i s1 r1 0) = 15 →
      ps_nk (ps_is r0 2) (ps_Cl d 45 [.ref r0, .ref r1, .ref (ps_c0 v1 6)] s1 (ps_rI (fun v11 s11 =>
        Q (some (.int v11)) s11)))) ∧
    ((ps_i s1 r1 0) ≠ 15 →
      ((ps_i s1 r1 0) = 16 →
      ps_nk (ps_is r0 2) (ps_Cl d 44 [.ref r0, .ref r1, .ref (ps_c0 v1 6)] s1 (ps_rI (fun v12 s12 =>
        Q (some (.int v12)) s12)))) ∧
    ((ps_i s1 r1 0) ≠ 16 →
      ((ps_i s1 r1 0) = 17 →
      ps_nk (ps_is r0 2) (ps_Cl d 44 [.ref r0, .ref r1, .ref (ps_c0 v1 6)] s1 (ps_rI (fun v13 s13 =>
        Q (some (.int v13)) s13)))) ∧
    ((ps_i s1 r1 0) ≠ 17 →
      ((ps_i s1 r1 0) = 18 →
      ps_nk (ps_is r0 2) (ps_Cl d 46 [.ref r0, .ref r1, .ref (ps_c0 v1 6)] s1 (ps_rI (fun v14 s14 =>
        Q (some (.int v14)) s14)))) ∧
    ((ps_i s1 r1 0) ≠ 18 →
      ((ps_i s1 r1 0) = 19 →
      ps_nk (ps_is r0 2) (ps_Cl d 37 [.ref r0, .ref r1, .int 1] s1 (ps_rA (fun v15 s15 =>
        ps_nk (ps_is v15 8) (ps_nk (ps_is r0 2) (ps_Cl d 47 [.ref r0, .ref r1, .ref (ps_c0 v1 6), .ref (ps_c0 v15 6)] s15 (ps_rI (fun v16 s16 =>
          Q (some (.int v16)) s16)))))))) ∧
    ((ps_i s1 r1 0) ≠ 19 →
      ((ps_i s1 r1 0) = 20 →
      ps_nk (ps_is r0 2) (ps_Cl d 44 [.ref r0, .ref r1, .ref (ps_c0 v1 6)] s1 (ps_rI (fun v17 s17 =>
        Q (some (.int v17)) s17)))) ∧
    ((ps_i s1 r1 0) ≠ 20 →
      ((ps_i s1 r1 0) = 21 →
      ps_nk (ps_is r0 2) (ps_Cl d 49 [.ref r0, .ref r1, .ref (ps_c0 v1 6)] s1 (ps_rI (fun v18 s18 =>
        Q (some (.int v18)) s18)))) ∧
    ((ps_i s1 r1 0) ≠ 21 →
      ((ps_i s1 r1 0) = 22 →
      ps_nk (ps_is r0 2) (ps_Cl d 50 [.ref r0, .ref r1, .ref (ps_c0 v1 6)] s1 (ps_rI (fun v19 s19 =>
        Q (some (.int v19)) s19)))) ∧
    ((ps_i s1 r1 0) ≠ 22 →
      ((ps_i s1 r1 0) = 23 →
      ps_nk (ps_is r0 2) (ps_Cl d 53 [.ref r0, .ref r1, .ref (ps_c0 v1 6)] s1 (ps_rI (fun v20 s20 =>
        Q (some (.int v20)) s20)))) ∧
    ((ps_i s1 r1 0) ≠ 23 →
      ((ps_i s1 r1 0) = 24 →
      ps_nk (ps_is r0 2) (ps_Cl d 37 [.ref r0, .ref r1, .int 1] s1 (ps_rA (fun v21 s21 =>
        ps_nk (ps_is r0 2) (ps_Cl d 54 [.ref r0, .ref r1, .ref (ps_c0 v1 6), .ref v21] s21 (ps_rI (fun v22 s22 =>
          Q (some (.int v22)) s22))))))) ∧
    ((ps_i s1 r1 0) ≠ 24 →
      ((ps_i s1 r1 0) = 25 →
      ps_nk (ps_is r0 2) (ps_Cl d 37 [.ref r0, .ref r1, .int 1] s1 (ps_rA (fun v23 s23 =>
        ps_nk (ps_is v23 8) (ps_nk (ps_is r0 2) (ps_Cl d 55 [.ref r0, .ref r1, .ref (ps_c0 v1 6), .ref (ps_c0 v23 6)] s23 (ps_rI (fun v24 s24 =>
          Q (some (.int v24)) s24)))))))) ∧
    ((ps_i s1 r1 0) ≠ 25 →
      ps_nk (ps_is r0 2) (ps_Cl d 48 [.ref r0, .ref r1, .ref (ps_c0 v1 6)] s1 (ps_rI (fun v25 s25 =>
      Q (some (.int v25)) s25))))))))))))))))))))))))))))) : ps_At (d + 1) 42 0 [(0, .ref r0), (1, .ref r1), (2, .int x2), (3, .ref r3)] [] s Q :=
  ps_wp_at (stops := []) (n := 134) h rfl

theorem xs_42 {m s : ps_S} {t : Int32} {d : Nat} {r0 : Nat} {r1 : Nat} {x2 : Int32} {r3 : Nat} {f : Int32 → ps_S → Prop} (h0 : ps_is r0 2 = true) (h1 : ps_is r1 8 = true) (h3 : ps_is r3 7 = true) (J : xJ m t s) (k : ∀ (v : Int32) (s' : ps_S), xJ m t s' → f v s') : ps_Cl (d + 4) 42 [.ref r0, .ref r1, .int x2, .ref r3] s (ps_rI f) :=
  pg_42_0 (d := d + 3) (ps_nk_i h0 (xs_37 h0 h1 J (fun v1 g1 => (ps_nk_i g1 (ps_nk_i h1 (And.intro (fun f1 => (ps_nk_i h0 (xs_43 h0 h1 h3 J (fun v2 s2 J2 => (k v2 s2 J2))))) (fun f1 => (And.intro (fun f2 => (ps_nk_i h0 (xs_48 h0 h1 (xk_8_6 g1) J (fun v3 s3 J3 => (k v3 s3 J3))))) (fun f2 => (And.intro (fun f3 => (ps_nk_i h0 (xs_48 h0 h1 (xk_8_6 g1) J (fun v4 s4 J4 => (k v4 s4 J4))))) (fun f3 => (And.intro (fun f4 => (ps_nk_i h0 (xs_48 h0 h1 (xk_8_6 g1) J (fun v5 s5 J5 => (k v5 s5 J5))))) (fun f4 => (And.intro (fun f5 => (ps_nk_i h0 (xs_43 h0 h1 h3 J (fun v6 s6 J6 => (k v6 s6 J6))))) (fun f5 => (And.intro (fun f6 => (ps_nk_i h0 (xs_43 h0 h1 h3 J (fun v7 s7 J7 => (k v7 s7 J7))))) (fun f6 => (And.intro (fun f7 => (ps_nk_i h0 (xs_43 h0 h1 h3 J (fun v8 s8 J8 => (k v8 s8 J8))))) (fun f7 => (And.intro (fun f8 => (ps_nk_i h0 (xs_44 h0 h1 (xk_8_6 g1) J (fun v9 s9 J9 => (k v9 s9 J9))))) (fun f8 => (And.intro (fun f9 => (ps_nk_i h0 (xs_45 h0 h1 (xk_8_6 g1) J (fun v10 s10 J10 => (k v10 s10 J10))))) (fun f9 => (And.intro (fun f10 => (ps_nk_i h0 (xs_45 h0 h1 (xk_8_6 g1) J (fun v11 s11 J11 => (k v11 s11 J11))))) (fun f10 => (And.intro (fun f11 => (ps_nk_i h0 (xs_44 h0 h1 (xk_8_6 g1) J (fun v12 s12 J12 => (k v12 s12 J12))))) (fun f11 => (And.intro (fun f12 => (ps_nk_i h0 (xs_44 h0 h1 (xk_8_6 g1) J (fun v13 s13 J13 => (k v13 s13 J13))))) (fun f12 => (And.intro (fun f13 => (ps_nk_i h0 (xs_46 h0 h1 (xk_8_6 g1) J (fun v14 s14 J14 => (k v14 s14 J14))))) (fun f13 => (And.intro (fun f14 => (ps_nk_i h0 (xs_37 h0 h1 J (fun v15 g15 => (ps_nk_i g15 (ps_nk_i h0 (xs_47 h0 h1 (xk_8_6 g1) (xk_8_6 g15) J (fun v16 s16 J16 => (k v16 s16 J16))))))))) (fun f14 => (And.intro (fun f15 => (ps_nk_i h0 (xs_44 h0 h1 (xk_8_6 g1) J (fun v17 s17 J17 => (k v17 s17 J17))))) (fun f15 => (And.intro (fun f16 => (ps_nk_i h0 (xs_49 h0 h1 (xk_8_6 g1) J (fun v18 s18 J18 => (k v18 s18 J18))))) (fun f16 => (And.intro (fun f17 => (ps_nk_i h0 (xs_50 h0 h1 (xk_8_6 g1) J (fun v19 s19 J19 => (k v19 s19 J19))))) (fun f17 => (And.intro (fun f18 => (ps_nk_i h0 (xs_53 h0 h1 (xk_8_6 g1) J (fun v20 s20 J20 => (k v20 s20 J20))))) (fun f18 => (And.intro (fun f19 => (ps_nk_i h0 (xs_37 h0 h1 J (fun v21 g21 => (ps_nk_i h0 (xs_54 h0 h1 (xk_8_6 g1) g21 J (fun v22 s22 J22 => (k v22 s22 J22)))))))) (fun f19 => (And.intro (fun f20 => (ps_nk_i h0 (xs_37 h0 h1 J (fun v23 g23 => (ps_nk_i g23 (ps_nk_i h0 (xs_55 h0 h1 (xk_8_6 g1) (xk_8_6 g23) J (fun v24 s24 J24 => (k v24 s24 J24))))))))) (fun f20 => (ps_nk_i h0 (xs_48 h0 h1 (xk_8_6 g1) J (fun v25 s25 J25 => (k v25 s25 J25)))))))))))))))))))))))))))))))))))))))))))))))))

-- ProofBench$Step.leanAs(LProofBench$Step;)V
theorem pg_124_0 {d : Nat} {r0 : Nat} {r1 : Nat} {s : ps_S} {Q : Option Value → ps_S → Prop} (h :
  ps_nk (ps_is r0 8) (ps_nk (ps_is r1 8) (ps_nk (ps_is r0 8) (ps_nk (ps_is r0 8) (ps_nk (ps_is r1 8) (ps_nk (ps_is r0 8) (ps_nk (ps_is r0 8) (ps_nk (ps_is r1 8) (ps_nk (ps_is r0 8) (Q none (ps_uj (ps_ui (ps_ui s r0 10 ((ps_i s r0 10) ||| (ps_i s r1 10))) r0 11 ((ps_i (ps_ui s r0 10 ((ps_i s r0 10) ||| (ps_i s r1 10))) r0 11) ||| (ps_i (ps_ui s r0 10 ((ps_i s r0 10) ||| (ps_i s r1 10))) r1 11))) r0 12 ((ps_j (ps_ui (ps_ui s r0 10 ((ps_i s r0 10) ||| (ps_i s r1 10))) r0 11 ((ps_i (ps_ui s r0 10 ((ps_i s r0 10) ||| (ps_i s r1 10))) r0 11) ||| (ps_i (ps_ui s r0 10 ((ps_i s r0 10) ||| (ps_i s r1 10))) r1 11))) r0 12) ||| (ps_j (ps_ui (ps_ui s r0 10 ((ps_i s r0 10) ||| (ps_i s r1 10))) r0 11 ((ps_i (ps_ui s r0 10 ((ps_i s r0 10) ||| (ps_i s r1 10))) r0 11) ||| (ps_i (ps_ui s r0 10 ((ps_i s r0 10) ||| (ps_i s r1 10))) r1 11))) r1 12))))))))))))) : ps_At d 124 0 [(0, .ref r0), (1, .ref r1)] [] s Q :=
  ps_wp_at (stops := []) (n := 24) h rfl

theorem xs_124 {m s : ps_S} {t : Int32} {d : Nat} {r0 : Nat} {r1 : Nat} {f : ps_S → Prop} (h0 : ps_is r0 8 = true) (h1 : ps_is r1 8 = true) (J : xJ m t s) (k : ∀ (s' : ps_S), xJ m t s' → f s') : ps_Cl d 124 [.ref r0, .ref r1] s (ps_rV f) :=
  pg_124_0 (ps_nk_i h0 (ps_nk_i h1 (ps_nk_i h0 (ps_nk_i h0 (ps_nk_i h1 (ps_nk_i h0 (ps_nk_i h0 (ps_nk_i h1 (ps_nk_i h0 (k (ps_uj (ps_ui (ps_ui s r0 10 ((ps_i s r0 10) ||| (ps_i s r1 10))) r0 11 ((ps_i (ps_ui s r0 10 ((ps_i s r0 10) ||| (ps_i s r1 10))) r0 11) ||| (ps_i (ps_ui s r0 10 ((ps_i s r0 10) ||| (ps_i s r1 10))) r1 11))) r0 12 ((ps_j (ps_ui (ps_ui s r0 10 ((ps_i s r0 10) ||| (ps_i s r1 10))) r0 11 ((ps_i (ps_ui s r0 10 ((ps_i s r0 10) ||| (ps_i s r1 10))) r0 11) ||| (ps_i (ps_ui s r0 10 ((ps_i s r0 10) ||| (ps_i s r1 10))) r1 11))) r0 12) ||| (ps_j (ps_ui (ps_ui s r0 10 ((ps_i s r0 10) ||| (ps_i s r1 10))) r0 11 ((ps_i (ps_ui s r0 10 ((ps_i s r0 10) ||| (ps_i s r1 10))) r0 11) ||| (ps_i (ps_ui s r0 10 ((ps_i s r0 10) ||| (ps_i s r1 10))) r1 11))) r1 12))) (xw_j (c := 8) (by decide) h0 (xw_i (c := 8) (by decide) h0 (xw_i (c := 8) (by decide) h0 J)))))))))))))

-- ProofBench$Proof.assumes(LProofBench$Step;LProofBench$Row;)Z
theorem pg_40_0 {d : Nat} {r0 : Nat} {r1 : Nat} {r2 : Nat} {s : ps_S} {Q : Option Value → ps_S → Prop} (h :
  ps_At (d + 1) 40 2 [(0, .ref r0), (1, .ref r1), (2, .ref r2), (3, .int 0)] [] s Q) : ps_At (d + 1) 40 0 [(0, .ref r0), (1, .ref r1), (2, .ref r2)] [] s Q :=
  ps_wp_at (stops := [(2, [0, 1, 2, 3])]) (n := 4) h rfl

theorem pg_40_2 {d : Nat} {r0 : Nat} {r1 : Nat} {r2 : Nat} {x3 : Int32} {s : ps_S} {Q : Option Value → ps_S → Prop} (h :
  ps_nk (ps_is r1 8) (((ps_i s r1 8) ≤ x3 →
    Q (some (.int 0)) s) ∧
  (x3 < (ps_i s r1 8) →
    ps_nk (ps_is r1 8) (ps_Cl d 122 [.ref r1, .int x3] s (ps_rI (fun v1 s1 =>
      ps_nk (ps_is r0 2) (ps_Cl d 33 [.ref r0, .int v1] s1 (ps_rA (fun v2 s2 =>
        ps_nk (ps_is v2 8) (ps_nk (ps_is (ps_c0 v2 6) 5) (ps_Cl d 98 [.ref (ps_c0 v2 6), .ref r2] s2 (ps_rI (fun v3 s3 =>
          (v3 = 0 →
            ps_At (d + 1) 40 2 [(0, .ref r0), (1, .ref r1), (2, .ref r2), (3, .int (x3 + 1))] [] s3 Q) ∧
          (v3 ≠ 0 →
            Q (some (.int 1)) s3)))))))))))))) : ps_At (d + 1) 40 2 [(0, .ref r0), (1, .ref r1), (2, .ref r2), (3, .int x3)] [] s Q :=
  ps_wp_at (stops := [(2, [0, 1, 2, 3])]) (n := 21) h rfl

theorem xs_40_2 {m s : ps_S} {t : Int32} {d : Nat} {r0 : Nat} {r1 : Nat} {r2 : Nat} {x3 : Int32} {Q : Option Value → ps_S → Prop} (h0 : ps_is r0 2 = true) (h1 : ps_is r1 8 = true) (h2 : ps_is r2 5 = true) (J : xJ m t s) (k : ∀ (v : Int32), v &&& 1 = v → Q (some (.int v)) s) : ps_At (d + 2) 40 2 [(0, .ref r0), (1, .ref r1), (2, .ref r2), (3, .int x3)] [] s Q :=
  xs_up (P := fun x3 => ps_is r0 2 = true → ps_is r1 8 = true → ps_is r2 5 = true → ps_At (d + 2) 40 2 [(0, .ref r0), (1, .ref r1), (2, .ref r2), (3, .int x3)] [] s Q) (fun x3 ih h0 h1 h2 => pg_40_2 (d := d + 1) (ps_nk_i h1 (And.intro (fun f1 => (k 0 (by decide))) (fun f1 => (ps_nk_i h1 (xs_122 h1 J (fun v1 => (ps_nk_i h0 (xs_33 h0 J (fun v2 g2 => (ps_nk_i g2 (ps_nk_i (xk_8_6 g2) (xs_98 (xk_8_6 g2) h2 J (fun v3 b3 => (And.intro (fun f2 => (ih ((x3 + 1)) (xs_lt f1) h0 h1 h2)) (fun f2 => (k 1 (by decide)))))))))))))))))) x3 h0 h1 h2

theorem xs_40 {m s : ps_S} {t : Int32} {d : Nat} {r0 : Nat} {r1 : Nat} {r2 : Nat} {f : Int32 → ps_S → Prop} (h0 : ps_is r0 2 = true) (h1 : ps_is r1 8 = true) (h2 : ps_is r2 5 = true) (J : xJ m t s) (k : ∀ (v : Int32), v &&& 1 = v → f v s) : ps_Cl (d + 2) 40 [.ref r0, .ref r1, .ref r2] s (ps_rI f) :=
  pg_40_0 (d := d + 1) (xs_40_2 (d := d) (r0 := r0) (r1 := r1) (r2 := r2) (x3 := 0)  h0 h1 h2 J k )

-- ProofBench$Proof.gather(LProofBench$Step;LProofBench$Step;LProofBench$Row;)V
theorem pg_39_0 {d : Nat} {r0 : Nat} {r1 : Nat} {r2 : Nat} {r3 : Nat} {s : ps_S} {Q : Option Value → ps_S → Prop} (h :
  ps_At (d + 1) 39 3 [(0, .ref r0), (1, .ref r1), (2, .ref r2), (3, .ref r3), (4, .int 0)] [] s Q) : ps_At (d + 1) 39 0 [(0, .ref r0), (1, .ref r1), (2, .ref r2), (3, .ref r3)] [] s Q :=
  ps_wp_at (stops := [(3, [0, 1, 2, 3, 4])]) (n := 4) h rfl

theorem pg_39_3 {d : Nat} {r0 : Nat} {r1 : Nat} {r2 : Nat} {r3 : Nat} {x4 : Int32} {s : ps_S} {Q : Option Value → ps_S → Prop} (h :
  ps_nk (ps_is r2 8) (((ps_i s r2 8) ≤ x4 →
    Q none s) ∧
  (x4 < (ps_i s r2 8) →
    ps_nk (ps_is r2 8) (ps_Cl d 122 [.ref r2, .int x4] s (ps_rI (fun v1 s1 =>
      ps_nk (ps_is r0 2) (ps_Cl d 33 [.ref r0, .int v1] s1 (ps_rA (fun v2 s2 =>
        ps_nk (ps_is v2 8) (ps_nk (ps_is (ps_c0 v2 6) 5) (ps_Cl d 98 [.ref (ps_c0 v2 6), .ref r3] s2 (ps_rI (fun v3 s3 =>
          (v3 ≠ 0 →
            ps_At (d + 1) 39 3 [(0, .ref r0), (1, .ref r1), (2, .ref r2), (3, .ref r3), (4, .int (x4 + 1))] [] s3 Q) ∧
          (v3 = 0 →
            ps_nk (ps_is r0 2) (ps_Cl d 40 [.ref r0, .ref r1, .ref (ps_c0 v2 6)] s3 (ps_rI (fun v4 s4 =>
              (v4 ≠ 0 →
                ps_At (d + 1) 39 3 [(0, .ref r0), (1, .ref r1), (2, .ref r2), (3, .ref r3), (4, .int (x4 + 1))] [] s4 Q) ∧
              (v4 = 0 →
                ps_nk (ps_is r1 8) (ps_Cl d 123 [.ref r1, .int v1] s4 (ps_rV (fun s5 =>
                  ps_At (d + 1) 39 3 [(0, .ref r0), (1, .ref r1), (2, .ref r2), (3, .ref r3), (4, .int (x4 + 1))] [] s5 Q))))))))))))))))))))) : ps_At (d + 1) 39 3 [(0, .ref r0), (1, .ref r1), (2, .ref r2), (3, .ref r3), (4, .int x4)] [] s Q :=
  ps_wp_at (stops := [(3, [0, 1, 2, 3, 4])]) (n := 34) h rfl

theorem xs_39_3 {m s : ps_S} {t : Int32} {d : Nat} {r0 : Nat} {r1 : Nat} {r2 : Nat} {r3 : Nat} {x4 : Int32} {Q : Option Value → ps_S → Prop} (h0 : ps_is r0 2 = true) (h1 : ps_is r1 8 = true) (h2 : ps_is r2 8 = true) (h3 : ps_is r3 5 = true) (J : xJ m t s) (k : ∀ (s' : ps_S), xJ m t s' → Q none s') : ps_At (d + 3) 39 3 [(0, .ref r0), (1, .ref r1), (2, .ref r2), (3, .ref r3), (4, .int x4)] [] s Q :=
  xs_up (P := fun x4 => ∀ (s : ps_S), ps_is r0 2 = true → ps_is r1 8 = true → ps_is r2 8 = true → ps_is r3 5 = true → xJ m t s → ps_At (d + 3) 39 3 [(0, .ref r0), (1, .ref r1), (2, .ref r2), (3, .ref r3), (4, .int x4)] [] s Q) (fun x4 ih s h0 h1 h2 h3 J => pg_39_3 (d := d + 2) (ps_nk_i h2 (And.intro (fun f1 => (k s J)) (fun f1 => (ps_nk_i h2 (xs_122 h2 J (fun v1 => (ps_nk_i h0 (xs_33 h0 J (fun v2 g2 => (ps_nk_i g2 (ps_nk_i (xk_8_6 g2) (xs_98 (xk_8_6 g2) h3 J (fun v3 b3 => (And.intro (fun f2 => (ih ((x4 + 1)) (xs_lt f1) s h0 h1 h2 h3 J)) (fun f2 => (ps_nk_i h0 (xs_40 h0 h1 (xk_8_6 g2) J (fun v4 b4 => (And.intro (fun f3 => (ih ((x4 + 1)) (xs_lt f1) s h0 h1 h2 h3 J)) (fun f3 => (ps_nk_i h1 (xs_123 h1 J (fun s5 J5 => (ih ((x4 + 1)) (xs_lt f1) s5 h0 h1 h2 h3 J5))))))))))))))))))))))))) x4 s h0 h1 h2 h3 J

theorem xs_39 {m s : ps_S} {t : Int32} {d : Nat} {r0 : Nat} {r1 : Nat} {r2 : Nat} {r3 : Nat} {f : ps_S → Prop} (h0 : ps_is r0 2 = true) (h1 : ps_is r1 8 = true) (h2 : ps_is r2 8 = true) (h3 : ps_is r3 5 = true) (J : xJ m t s) (k : ∀ (s' : ps_S), xJ m t s' → f s') : ps_Cl (d + 3) 39 [.ref r0, .ref r1, .ref r2, .ref r3] s (ps_rV f) :=
  pg_39_0 (d := d + 2) (xs_39_3 (d := d) (r0 := r0) (r1 := r1) (r2 := r2) (r3 := r3) (x4 := 0)  h0 h1 h2 h3 J k )

-- ProofBench$Shape.isTooDeep()Z
theorem pg_106_0 {d : Nat} {r0 : Nat} {s : ps_S} {Q : Option Value → ps_S → Prop} (h :
  ps_nk (ps_is r0 6) ((12 < (ps_i s r0 3) →
    Q (some (.int 1)) s) ∧
  ((ps_i s r0 3) ≤ 12 →
    ps_nk (ps_is r0 6) (((ps_i s r0 4) ≤ 5 →
      Q (some (.int 0)) s) ∧
    (5 < (ps_i s r0 4) →
      Q (some (.int 1)) s))))) : ps_At d 106 0 [(0, .ref r0)] [] s Q :=
  ps_wp_at (stops := []) (n := 18) h rfl

theorem xs_106 {m s : ps_S} {t : Int32} {d : Nat} {r0 : Nat} {f : Int32 → ps_S → Prop} (h0 : ps_is r0 6 = true) (J : xJ m t s) (k : ∀ (v : Int32), v &&& 1 = v → f v s) : ps_Cl d 106 [.ref r0] s (ps_rI f) :=
  pg_106_0 (ps_nk_i h0 (And.intro (fun f1 => (k 1 (by decide))) (fun f1 => (ps_nk_i h0 (And.intro (fun f2 => (k 0 (by decide))) (fun f2 => (k 1 (by decide))))))))

-- ProofBench$Proof.isTooMuch(LProofBench$Step;)Z
theorem pg_41_0 {d : Nat} {r0 : Nat} {r1 : Nat} {s : ps_S} {Q : Option Value → ps_S → Prop} (h :
  ps_nk (ps_is r1 8) (ps_nk (ps_is (ps_c0 r1 6) 5) (((ps_i s (ps_c0 r1 6) 2) ≠ 0 →
    Q (some (.int 1)) s) ∧
  ((ps_i s (ps_c0 r1 6) 2) = 0 →
    ps_nk (ps_is r1 8) (((ps_i s r1 9) = 0 →
      ps_nk (ps_is r0 2) (ps_nk (ps_is r1 8) (ps_nk (ps_is r0 2) (ps_nk (ps_is (ps_c0 r0 5) 6) (ps_Cl d 103 [.ref (ps_c0 r0 5), .ref (ps_c0 r1 6), .ref (ps_r s r0 6)] s (ps_rV (fun s1 =>
        ps_nk (ps_is r0 2) (ps_nk (ps_is (ps_c0 r0 5) 6) (ps_Cl d 106 [.ref (ps_c0 r0 5)] s1 (ps_rI (fun v2 s2 =>
          ps_nd (decide (v2 &&& 1 = v2)) (Q (some (.int v2)) s2)))))))))))) ∧
    ((ps_i s r1 9) ≠ 0 →
      Q (some (.int 1)) s)))))) : ps_At (d + 1) 41 0 [(0, .ref r0), (1, .ref r1)] [] s Q :=
  ps_wp_at (stops := []) (n := 24) h rfl

theorem xs_41 {m s : ps_S} {t : Int32} {d : Nat} {r0 : Nat} {r1 : Nat} {f : Int32 → ps_S → Prop} (h0 : ps_is r0 2 = true) (h1 : ps_is r1 8 = true) (J : xJ m t s) (k : ∀ (v : Int32) (s' : ps_S), v &&& 1 = v → xJ m t s' → f v s') : ps_Cl (d + 2) 41 [.ref r0, .ref r1] s (ps_rI f) :=
  pg_41_0 (d := d + 1) (ps_nk_i h1 (ps_nk_i (xk_8_6 h1) (And.intro (fun f1 => (k 1 s (by decide) J)) (fun f1 => (ps_nk_i h1 (And.intro (fun f2 => (ps_nk_i h0 (ps_nk_i h1 (ps_nk_i h0 (ps_nk_i (xk_2_5 h0) (xs_103 (xk_2_5 h0) (xk_8_6 h1) (xj_2_6 J h0) J (fun s1 J1 => (ps_nk_i h0 (ps_nk_i (xk_2_5 h0) (xs_106 (xk_2_5 h0) J1 (fun v2 b2 => (ps_nd_i (decide_eq_true b2) ((k v2 s1 (of_decide_eq_true (decide_eq_true b2)) J1)))))))))))))) (fun f2 => (k 1 s (by decide) J))))))))

-- ProofBench$Proof.takeOne(ILProofBench$Shelf;)I
theorem pg_35_0 {d : Nat} {r0 : Nat} {x1 : Int32} {r2 : Nat} {s : ps_S} {Q : Option Value → ps_S → Prop} (h :
  ps_nk (ps_is r0 2) (ps_Cl d 33 [.ref r0, .int x1] s (ps_rA (fun v1 s1 =>
    ps_nk (ps_is r0 2) (ps_Cl d 36 [.ref r0, .ref v1, .int x1, .ref r2] s1 (ps_rI (fun v2 s2 =>
      (v2 ≠ 0 →
        ps_At (d + 1) 35 21 [(0, .ref r0), (1, .int x1), (2, .ref r2), (3, .ref v1), (4, .int 0)] [] s2 Q) ∧
      (v2 = 0 →
        Q (some (.int 1)) s2)))))))) : ps_At (d + 1) 35 0 [(0, .ref r0), (1, .int x1), (2, .ref r2)] [] s Q :=
  ps_wp_at (stops := [(21, [0, 1, 2, 3, 4]), (73, [0, 3, 5])]) (n := 16) h rfl

theorem pg_35_21 {d : Nat} {r0 : Nat} {x1 : Int32} {r2 : Nat} {r3 : Nat} {x4 : Int32} {s : ps_S} {Q : Option Value → ps_S → Prop} (h :
  ps_nk (ps_is r0 2) (ps_nk (Nat.beq (ps_K (ps_c0 r0 2)).1 0) (((nI (ps_ln (ps_c0 r0 2))) ≤ x4 →
    ps_nk (ps_is r0 2) (ps_Cl d 42 [.ref r0, .ref r3, .int x1, .ref r2] s (ps_rI (fun v1 s1 =>
      (v1 = 0 →
        ps_nk (ps_is r3 8) (ps_At (d + 1) 35 73 [(0, .ref r0), (3, .ref r3), (5, .int 0)] [] (ps_uj s1 r3 12 ((1 : Int64) <<< (Int32.toInt64 x1 &&& 63))) Q)) ∧
      (v1 ≠ 0 →
        Q (some (.int v1)) s1))))) ∧
  (x4 < (nI (ps_ln (ps_c0 r0 2))) →
    ps_nk (ps_is r0 2) (ps_Cl d 38 [.ref r0, .int x4] s (ps_rA (fun v2 s2 =>
      ps_nk (ps_is v2 5) (ps_Cl d 91 [.ref v2] s2 (ps_rV (fun s3 =>
        ps_At (d + 1) 35 21 [(0, .ref r0), (1, .int x1), (2, .ref r2), (3, .ref r3), (4, .int (x4 + 1))] [] s3 Q)))))))))) : ps_At (d + 1) 35 21 [(0, .ref r0), (1, .int x1), (2, .ref r2), (3, .ref r3), (4, .int x4)] [] s Q :=
  ps_wp_at (stops := [(21, [0, 1, 2, 3, 4]), (73, [0, 3, 5])]) (n := 30) h rfl

theorem pg_35_73 {d : Nat} {r0 : Nat} {r3 : Nat} {x5 : Int32} {s : ps_S} {Q : Option Value → ps_S → Prop} (h :
  ps_nk (ps_is r3 8) (ps_Cl d 116 [.int (ps_i s r3 0)] s (ps_rI (fun v1 s1 =>
    (v1 ≤ x5 →
      ps_nk (ps_is r0 2) (ps_Cl d 41 [.ref r0, .ref r3] s1 (ps_rI (fun v2 s2 =>
        (v2 = 0 →
          Q (some (.int 0)) s2) ∧
        (v2 ≠ 0 →
          Q (some (.int 5)) s2))))) ∧
    (x5 < v1 →
      ps_nk (ps_is r0 2) (ps_Cl d 37 [.ref r0, .ref r3, .int x5] s1 (ps_rA (fun v3 s3 =>
        ps_nk (ps_is r3 8) (ps_Cl d 124 [.ref r3, .ref v3] s3 (ps_rV (fun s4 =>
          ps_nk (ps_is r0 2) (ps_Cl d 37 [.ref r0, .ref r3, .int x5] s4 (ps_rA (fun v5 s5 =>
            ps_nk (ps_is r0 2) (ps_Cl d 38 [.ref r0, .int x5] s5 (ps_rA (fun v6 s6 =>
              ps_nk (ps_is r0 2) (ps_Cl d 39 [.ref r0, .ref r3, .ref v5, .ref v6] s6 (ps_rV (fun s7 =>
                ps_At (d + 1) 35 73 [(0, .ref r0), (3, .ref r3), (5, .int (x5 + 1))] [] s7 Q)))))))))))))))))))) : ps_At (d + 1) 35 73 [(0, .ref r0), (3, .ref r3), (5, .int x5)] [] s Q :=
  ps_wp_at (stops := [(21, [0, 1, 2, 3, 4]), (73, [0, 3, 5])]) (n := 34) h rfl

theorem xs_35_73 {m s : ps_S} {t : Int32} {d : Nat} {r0 : Nat} {r3 : Nat} {x5 : Int32} {Q : Option Value → ps_S → Prop} (h0 : ps_is r0 2 = true) (h3 : ps_is r3 8 = true) (J : xJ m t s) (k : ∀ (v : Int32) (s' : ps_S), xJ m t s' → Q (some (.int v)) s') : ps_At (d + 5) 35 73 [(0, .ref r0), (3, .ref r3), (5, .int x5)] [] s Q :=
  xs_up (P := fun x5 => ∀ (s : ps_S), ps_is r0 2 = true → ps_is r3 8 = true → xJ m t s → ps_At (d + 5) 35 73 [(0, .ref r0), (3, .ref r3), (5, .int x5)] [] s Q) (fun x5 ih s h0 h3 J => pg_35_73 (d := d + 4) (ps_nk_i h3 (xs_116  J (fun v1 => (And.intro (fun f1 => (ps_nk_i h0 (xs_41 h0 h3 J (fun v2 s2 b2 J2 => (And.intro (fun f2 => (k 0 s2 J2)) (fun f2 => (k 5 s2 J2))))))) (fun f1 => (ps_nk_i h0 (xs_37 h0 h3 J (fun v3 g3 => (ps_nk_i h3 (xs_124 h3 g3 J (fun s4 J4 => (ps_nk_i h0 (xs_37 h0 h3 J4 (fun v5 g5 => (ps_nk_i h0 (xs_38 h0 J4 (fun v6 g6 => (ps_nk_i h0 (xs_39 h0 h3 g5 g6 J4 (fun s7 J7 => (ih ((x5 + 1)) (xs_lt f1) s7 h0 h3 J7)))))))))))))))))))))) x5 s h0 h3 J

theorem xs_35_21 {m s : ps_S} {t : Int32} {d : Nat} {r0 : Nat} {x1 : Int32} {r2 : Nat} {r3 : Nat} {x4 : Int32} {Q : Option Value → ps_S → Prop} (h0 : ps_is r0 2 = true) (h2 : ps_is r2 7 = true) (h3 : ps_is r3 8 = true) (J : xJ m t s) (k : ∀ (v : Int32) (s' : ps_S), xJ m t s' → Q (some (.int v)) s') : ps_At (d + 5) 35 21 [(0, .ref r0), (1, .int x1), (2, .ref r2), (3, .ref r3), (4, .int x4)] [] s Q :=
  xs_up (P := fun x4 => ∀ (s : ps_S), ps_is r0 2 = true → ps_is r2 7 = true → ps_is r3 8 = true → xJ m t s → ps_At (d + 5) 35 21 [(0, .ref r0), (1, .int x1), (2, .ref r2), (3, .ref r3), (4, .int x4)] [] s Q) (fun x4 ih s h0 h2 h3 J => pg_35_21 (d := d + 4) (ps_nk_i h0 (ps_nk_i (xn_l ((xk_2_2 h0)).1) (And.intro (fun f1 => (ps_nk_i h0 (xs_42 h0 h3 h2 J (fun v1 s1 J1 => (And.intro (fun f2 => (ps_nk_i h3 (xs_35_73 (d := d) (r0 := r0) (r3 := r3) (x5 := 0)  h0 h3 (xw_j (c := 8) (by decide) h3 J1) k ))) (fun f2 => (k v1 s1 J1))))))) (fun f1 => (ps_nk_i h0 (xs_38 h0 J (fun v2 g2 => (ps_nk_i g2 (xs_91 g2 J (fun s3 J3 => (ih ((x4 + 1)) (xs_lt f1) s3 h0 h2 h3 J3)))))))))))) x4 s h0 h2 h3 J

theorem xs_35 {m s : ps_S} {t : Int32} {d : Nat} {r0 : Nat} {x1 : Int32} {r2 : Nat} {f : Int32 → ps_S → Prop} (h0 : ps_is r0 2 = true) (h2 : ps_is r2 7 = true) (J : xJ m t s) (k : ∀ (v : Int32) (s' : ps_S), xJ m t s' → f v s') : ps_Cl (d + 5) 35 [.ref r0, .int x1, .ref r2] s (ps_rI f) :=
  pg_35_0 (d := d + 4) (ps_nk_i h0 (xs_33 h0 J (fun v1 g1 => (ps_nk_i h0 (xs_36 h0 g1 h2 J (fun v2 b2 => (And.intro (fun f1 => (xs_35_21 (d := d) (r0 := r0) (x1 := x1) (r2 := r2) (r3 := v1) (x4 := 0)  h0 h2 g1 J k )) (fun f1 => (k 1 s J)))))))))

-- ProofBench$Proof.takeSteps(LProofBench$Theory;LProofBench$Shelf;)V
theorem pg_34_0 {d : Nat} {r0 : Nat} {r1 : Nat} {r2 : Nat} {s : ps_S} {Q : Option Value → ps_S → Prop} (h :
  ps_nk (ps_is r0 2) (ps_At (d + 1) 34 7 [(0, .ref r0), (2, .ref r2), (3, .int 0)] [] (ps_ur s r0 6 r1) Q)) : ps_At (d + 1) 34 0 [(0, .ref r0), (1, .ref r1), (2, .ref r2)] [] s Q :=
  ps_wp_at (stops := [(7, [0, 2, 3])]) (n := 7) h rfl

theorem pg_34_7 {d : Nat} {r0 : Nat} {r2 : Nat} {x3 : Int32} {s : ps_S} {Q : Option Value → ps_S → Prop} (h :
  ps_nk (ps_is r0 2) (((ps_i s r0 7) ≤ x3 →
    Q none s) ∧
  (x3 < (ps_i s r0 7) →
    ps_nk (ps_is r0 2) (ps_Cl d 35 [.ref r0, .int x3, .ref r2] s (ps_rI (fun v1 s1 =>
      ps_nk (ps_is r0 2) (ps_nk (ps_is r0 2) (((ps_i (ps_ui s1 r0 9 v1) r0 9) = 0 →
        ps_nk (ps_is r0 2) (ps_At (d + 1) 34 7 [(0, .ref r0), (2, .ref r2), (3, .int (x3 + 1))] [] (ps_ui (ps_ui s1 r0 9 v1) r0 8 (x3 + 1)) Q)) ∧
      ((ps_i (ps_ui s1 r0 9 v1) r0 9) ≠ 0 →
        Q none (ps_ui s1 r0 9 v1)))))))))) : ps_At (d + 1) 34 7 [(0, .ref r0), (2, .ref r2), (3, .int x3)] [] s Q :=
  ps_wp_at (stops := [(7, [0, 2, 3])]) (n := 24) h rfl

theorem xs_34_7 {m s : ps_S} {t : Int32} {d : Nat} {r0 : Nat} {r2 : Nat} {x3 : Int32} {Q : Option Value → ps_S → Prop} (h0 : ps_is r0 2 = true) (h2 : ps_is r2 7 = true) (J : xJ m t s) (k : ∀ (s' : ps_S), xJ m t s' → Q none s') : ps_At (d + 6) 34 7 [(0, .ref r0), (2, .ref r2), (3, .int x3)] [] s Q :=
  xs_up (P := fun x3 => ∀ (s : ps_S), ps_is r0 2 = true → ps_is r2 7 = true → xJ m t s → ps_At (d + 6) 34 7 [(0, .ref r0), (2, .ref r2), (3, .int x3)] [] s Q) (fun x3 ih s h0 h2 J => pg_34_7 (d := d + 5) (ps_nk_i h0 (And.intro (fun f1 => (k s J)) (fun f1 => (ps_nk_i h0 (xs_35 h0 h2 J (fun v1 s1 J1 => (ps_nk_i h0 (ps_nk_i h0 (And.intro (fun f2 => (ps_nk_i h0 (ih ((x3 + 1)) (xs_lt f1) (ps_ui (ps_ui s1 r0 9 v1) r0 8 (x3 + 1)) h0 h2 (xw_i (c := 2) (by decide) h0 (xw_i (c := 2) (by decide) h0 J1))))) (fun f2 => (k (ps_ui s1 r0 9 v1) (xw_i (c := 2) (by decide) h0 J1))))))))))))) x3 s h0 h2 J

theorem xs_34 {m s : ps_S} {t : Int32} {d : Nat} {r0 : Nat} {r1 : Nat} {r2 : Nat} {f : ps_S → Prop} (h0 : ps_is r0 2 = true) (h1 : ps_is r1 9 = true) (h2 : ps_is r2 7 = true) (J : xJ m t s) (k : ∀ (s' : ps_S), xJ m t s' → f s') : ps_Cl (d + 6) 34 [.ref r0, .ref r1, .ref r2] s (ps_rV f) :=
  pg_34_0 (d := d + 5) (ps_nk_i h0 (xs_34_7 (d := d) (r0 := r0) (r2 := r2) (x3 := 0)  h0 h2 (xw_2_6 h0 h1 J) k ))

-- ProofBench$Theory.clear()V
theorem pg_126_0 {d : Nat} {r0 : Nat} {s : ps_S} {Q : Option Value → ps_S → Prop} (h :
  ps_nk (ps_is r0 9) (ps_nk (ps_is r0 9) (ps_nk (ps_is r0 9) (Q none (ps_ui (ps_ui (ps_ui s r0 6 0) r0 7 0) r0 8 0))))) : ps_At d 126 0 [(0, .ref r0)] [] s Q :=
  ps_wp_at (stops := []) (n := 12) h rfl

theorem xs_126 {m s : ps_S} {t : Int32} {d : Nat} {r0 : Nat} {f : ps_S → Prop} (h0 : ps_is r0 9 = true) (J : xJ m t s) (k : ∀ (s' : ps_S), xJ m t s' → f s') : ps_Cl d 126 [.ref r0] s (ps_rV f) :=
  pg_126_0 (ps_nk_i h0 (ps_nk_i h0 (ps_nk_i h0 (k (ps_ui (ps_ui (ps_ui s r0 6 0) r0 7 0) r0 8 0) (xw_i (c := 9) (by decide) h0 (xw_i (c := 9) (by decide) h0 (xw_i (c := 9) (by decide) h0 J)))))))

-- ProofBench$Tokens.byteAt(I)I
theorem pg_143_0 {d : Nat} {r0 : Nat} {x1 : Int32} {s : ps_S} {Q : Option Value → ps_S → Prop} (h :
  (x1 < 0 →
    Q (some (.int (-1))) s) ∧
  (0 ≤ x1 →
    ps_nk (ps_is r0 10) (((ps_i s r0 2) ≤ x1 →
      Q (some (.int (-1))) s) ∧
    (x1 < (ps_i s r0 2) →
      ps_nk (ps_is r0 10) (ps_nk (Nat.beq (ps_K (ps_r s r0 1)).1 0) (((nI (ps_ln (ps_r s r0 1))) ≤ x1 →
        Q (some (.int (-1))) s) ∧
      (x1 < (nI (ps_ln (ps_r s r0 1))) →
        ps_nk (ps_is r0 10) (ps_nk (ps_ar (ps_r s r0 1) 1 || ps_ar (ps_r s r0 1) 2) (ps_nd (pm_in x1 (ps_ln (ps_r s r0 1))) (Q (some (.int ((ps_a s (ps_r s r0 1) (Int32.toNatClampNeg x1)) &&& 255))) s)))))))))) : ps_At d 143 0 [(0, .ref r0), (1, .int x1)] [] s Q :=
  ps_wp_at (stops := []) (n := 27) h rfl

theorem xs_143 {m s : ps_S} {t : Int32} {d : Nat} {r0 : Nat} {x1 : Int32} {f : Int32 → ps_S → Prop} (h0 : ps_is r0 10 = true) (J : xJ m t s) (k : ∀ (v : Int32), f v s) : ps_Cl d 143 [.ref r0, .int x1] s (ps_rI f) :=
  pg_143_0 (And.intro (fun f1 => (k (-1))) (fun f1 => (ps_nk_i h0 (And.intro (fun f2 => (k (-1))) (fun f2 => (ps_nk_i h0 (ps_nk_i (xn_l ((xj_10_1 J h0)).1) (And.intro (fun f3 => (k (-1))) (fun f3 => (ps_nk_i h0 (ps_nk_i (xn_1 ((xj_10_1 J h0)).1) (ps_nd_i (xg_in f1 f3) (k ((ps_a s (ps_r s r0 1) (Int32.toNatClampNeg x1)) &&& 255))))))))))))))

-- ProofBench$Tokens.isBlank(I)Z
theorem pg_145_0 {d : Nat} {x0 : Int32} {s : ps_S} {Q : Option Value → ps_S → Prop} (h :
  (x0 = 32 →
    Q (some (.int 1)) s) ∧
  (x0 ≠ 32 →
    (x0 ≠ 10 →
      Q (some (.int 0)) s) ∧
    (x0 = 10 →
      Q (some (.int 1)) s))) : ps_At d 145 0 [(0, .int x0)] [] s Q :=
  ps_wp_at (stops := []) (n := 16) h rfl

theorem xs_145 {m s : ps_S} {t : Int32} {d : Nat} {x0 : Int32} {f : Int32 → ps_S → Prop} (J : xJ m t s) (k : ∀ (v : Int32), v &&& 1 = v → f v s) : ps_Cl d 145 [.int x0] s (ps_rI f) :=
  pg_145_0 (And.intro (fun f1 => (k 1 (by decide))) (fun f1 => (And.intro (fun f2 => (k 0 (by decide))) (fun f2 => (k 1 (by decide))))))

-- ProofBench$Tokens.isLetter(I)Z
theorem pg_146_0 {d : Nat} {x0 : Int32} {s : ps_S} {Q : Option Value → ps_S → Prop} (h :
  (x0 < 97 →
    Q (some (.int 0)) s) ∧
  (97 ≤ x0 →
    (122 < x0 →
      Q (some (.int 0)) s) ∧
    (x0 ≤ 122 →
      Q (some (.int 1)) s))) : ps_At d 146 0 [(0, .int x0)] [] s Q :=
  ps_wp_at (stops := []) (n := 15) h rfl

theorem xs_146 {m s : ps_S} {t : Int32} {d : Nat} {x0 : Int32} {f : Int32 → ps_S → Prop} (J : xJ m t s) (k : ∀ (v : Int32), v &&& 1 = v → f v s) : ps_Cl d 146 [.int x0] s (ps_rI f) :=
  pg_146_0 (And.intro (fun f1 => (k 0 (by decide))) (fun f1 => (And.intro (fun f2 => (k 0 (by decide))) (fun f2 => (k 1 (by decide))))))

-- ProofBench$Tokens.withLetter(JI)J
theorem pg_144_0 {d : Nat} {l0 : Int64} {x2 : Int32} {s : ps_S} {Q : Option Value → ps_S → Prop} (h :
  Q (some (.long ((((l0 * (32 : Int64)) + (Int32.toInt64 x2)) - (97 : Int64)) + 1))) s) : ps_At d 144 0 [(0, .long l0), (2, .int x2)] [] s Q :=
  ps_wp_at (stops := []) (n := 13) h rfl

theorem xs_144 {m s : ps_S} {t : Int32} {d : Nat} {l0 : Int64} {x2 : Int32} {f : Int64 → ps_S → Prop} (J : xJ m t s) (k : ∀ (v : Int64), f v s) : ps_Cl d 144 [.long l0, .int x2] s (ps_rJ f) :=
  pg_144_0 (k ((((l0 * (32 : Int64)) + (Int32.toInt64 x2)) - (97 : Int64)) + 1))

-- ProofBench$Tokens.takeWord()V
theorem pg_141_0 {d : Nat} {r0 : Nat} {s : ps_S} {Q : Option Value → ps_S → Prop} (h :
  ps_nk (ps_is r0 10) (ps_nk (ps_is r0 10) (ps_At (d + 1) 141 10 [(0, .ref r0), (1, .int (ps_i s r0 5))] [] (ps_uj s r0 8 0) Q))) : ps_At (d + 1) 141 0 [(0, .ref r0)] [] s Q :=
  ps_wp_at (stops := [(10, [0, 1]), (51, [0, 1]), (78, [0, 2])]) (n := 8) h rfl

theorem pg_141_10 {d : Nat} {r0 : Nat} {x1 : Int32} {s : ps_S} {Q : Option Value → ps_S → Prop} (h :
  ps_nk (ps_is r0 10) (((ps_i s r0 2) ≤ x1 →
    ps_At (d + 1) 141 51 [(0, .ref r0), (1, .int x1)] [] s Q) ∧
  (x1 < (ps_i s r0 2) →
    ps_nk (ps_is r0 10) (ps_Cl d 143 [.ref r0, .int x1] s (ps_rI (fun v1 s1 =>
      ps_Cl d 146 [.int v1] s1 (ps_rI (fun v2 s2 =>
        (v2 = 0 →
          ps_At (d + 1) 141 51 [(0, .ref r0), (1, .int x1)] [] s2 Q) ∧
        (v2 ≠ 0 →
          ps_nk (ps_is r0 10) (ps_nk (ps_is r0 10) (ps_Cl d 143 [.ref r0, .int x1] s2 (ps_rI (fun v3 s3 =>
            ps_Cl d 144 [.long (ps_j s2 r0 8), .int v3] s3 (ps_rJ (fun v4 s4 =>
              ps_nk (ps_is r0 10) (ps_At (d + 1) 141 10 [(0, .ref r0), (1, .int (x1 + 1))] [] (ps_uj s4 r0 8 v4) Q)))))))))))))))) : ps_At (d + 1) 141 10 [(0, .ref r0), (1, .int x1)] [] s Q :=
  ps_wp_at (stops := [(10, [0, 1]), (51, [0, 1]), (78, [0, 2])]) (n := 21) h rfl

theorem pg_141_51 {d : Nat} {r0 : Nat} {x1 : Int32} {s : ps_S} {Q : Option Value → ps_S → Prop} (h :
  ps_nk (ps_is r0 10) (ps_nk (ps_is r0 10) (((x1 - (ps_i (ps_ui s r0 3 x1) r0 5)) ≤ 8 →
    ps_nk (ps_is r0 10) (ps_At (d + 1) 141 78 [(0, .ref r0), (2, .int 0)] [] (ps_ui (ps_ui s r0 3 x1) r0 4 2) Q)) ∧
  (8 < (x1 - (ps_i (ps_ui s r0 3 x1) r0 5)) →
    ps_nk (ps_is r0 10) (ps_At (d + 1) 141 78 [(0, .ref r0), (2, .int 0)] [] (ps_ui (ps_ui s r0 3 x1) r0 4 1) Q))))) : ps_At (d + 1) 141 51 [(0, .ref r0), (1, .int x1)] [] s Q :=
  ps_wp_at (stops := [(10, [0, 1]), (51, [0, 1]), (78, [0, 2])]) (n := 21) h rfl

theorem pg_141_78 {d : Nat} {r0 : Nat} {x2 : Int32} {s : ps_S} {Q : Option Value → ps_S → Prop} (h :
  ps_nk (ps_is r0 10) (ps_nk (Nat.beq (ps_K (ps_c0 r0 0)).1 0) (((nI (ps_ln (ps_c0 r0 0))) ≤ x2 →
    Q none s) ∧
  (x2 < (nI (ps_ln (ps_c0 r0 0))) →
    ps_nk (ps_is r0 10) (((ps_i s r0 4) ≠ 2 →
      Q none s) ∧
    ((ps_i s r0 4) = 2 →
      ps_nk (ps_is r0 10) (ps_nk (ps_ar (ps_c0 r0 0) 3) (ps_nd (pm_in x2 (ps_ln (ps_c0 r0 0))) (ps_nk (ps_is r0 10) (((lg_cmp (ps_b s (ps_c0 r0 0) (Int32.toNatClampNeg x2)) (ps_j s r0 8)) ≠ 0 →
        ps_At (d + 1) 141 78 [(0, .ref r0), (2, .int (x2 + 1))] [] s Q) ∧
      ((lg_cmp (ps_b s (ps_c0 r0 0) (Int32.toNatClampNeg x2)) (ps_j s r0 8)) = 0 →
        ps_nk (ps_is r0 10) (ps_nk (ps_is r0 10) (ps_At (d + 1) 141 78 [(0, .ref r0), (2, .int (x2 + 1))] [] (ps_ui (ps_ui s r0 4 3) r0 6 x2) Q))))))))))))) : ps_At (d + 1) 141 78 [(0, .ref r0), (2, .int x2)] [] s Q :=
  ps_wp_at (stops := [(10, [0, 1]), (51, [0, 1]), (78, [0, 2])]) (n := 31) h rfl

theorem xs_141_78 {m s : ps_S} {t : Int32} {d : Nat} {r0 : Nat} {x2 : Int32} {Q : Option Value → ps_S → Prop} (h0 : ps_is r0 10 = true) (e0 : 0 ≤ x2) (J : xJ m t s) (k : ∀ (s' : ps_S), xJ m t s' → Q none s') : ps_At (d + 1) 141 78 [(0, .ref r0), (2, .int x2)] [] s Q :=
  xs_up (P := fun x2 => ∀ (s : ps_S), ps_is r0 10 = true → 0 ≤ x2 → xJ m t s → ps_At (d + 1) 141 78 [(0, .ref r0), (2, .int x2)] [] s Q) (fun x2 ih s h0 e0 J => pg_141_78 (d := d) (ps_nk_i h0 (ps_nk_i (xn_l ((xk_10_0 h0)).1) (And.intro (fun f1 => (k s J)) (fun f1 => (ps_nk_i h0 (And.intro (fun f2 => (k s J)) (fun f2 => (ps_nk_i h0 (ps_nk_i (xn_3 ((xk_10_0 h0)).1) (ps_nd_i (xg_in e0 f1) (ps_nk_i h0 (And.intro (fun f3 => (ih ((x2 + 1)) (xs_lt f1) s h0 (xs_nn e0 f1) J)) (fun f3 => (ps_nk_i h0 (ps_nk_i h0 (ih ((x2 + 1)) (xs_lt f1) (ps_ui (ps_ui s r0 4 3) r0 6 x2) h0 (xs_nn e0 f1) (xw_i (c := 10) (by decide) h0 (xw_i (c := 10) (by decide) h0 J))))))))))))))))))) x2 s h0 e0 J

theorem xs_141_51 {m s : ps_S} {t : Int32} {d : Nat} {r0 : Nat} {x1 : Int32} {Q : Option Value → ps_S → Prop} (h0 : ps_is r0 10 = true) (J : xJ m t s) (k : ∀ (s' : ps_S), xJ m t s' → Q none s') : ps_At (d + 1) 141 51 [(0, .ref r0), (1, .int x1)] [] s Q :=
  pg_141_51 (d := d) (ps_nk_i h0 (ps_nk_i h0 (And.intro (fun f1 => (ps_nk_i h0 (xs_141_78 (d := d) (r0 := r0) (x2 := 0)  h0 (by decide) (xw_i (c := 10) (by decide) h0 (xw_i (c := 10) (by decide) h0 J)) k ))) (fun f1 => (ps_nk_i h0 (xs_141_78 (d := d) (r0 := r0) (x2 := 0)  h0 (by decide) (xw_i (c := 10) (by decide) h0 (xw_i (c := 10) (by decide) h0 J)) k ))))))

theorem xs_141_10 {m s : ps_S} {t : Int32} {d : Nat} {r0 : Nat} {x1 : Int32} {Q : Option Value → ps_S → Prop} (h0 : ps_is r0 10 = true) (J : xJ m t s) (k : ∀ (s' : ps_S), xJ m t s' → Q none s') : ps_At (d + 1) 141 10 [(0, .ref r0), (1, .int x1)] [] s Q :=
  xs_up (P := fun x1 => ∀ (s : ps_S), ps_is r0 10 = true → xJ m t s → ps_At (d + 1) 141 10 [(0, .ref r0), (1, .int x1)] [] s Q) (fun x1 ih s h0 J => pg_141_10 (d := d) (ps_nk_i h0 (And.intro (fun f1 => (xs_141_51 (d := d) (r0 := r0) (x1 := x1)  h0 J k )) (fun f1 => (ps_nk_i h0 (xs_143 h0 J (fun v1 => (xs_146  J (fun v2 b2 => (And.intro (fun f2 => (xs_141_51 (d := d) (r0 := r0) (x1 := x1)  h0 J k )) (fun f2 => (ps_nk_i h0 (ps_nk_i h0 (xs_143 h0 J (fun v3 => (xs_144  J (fun v4 => (ps_nk_i h0 (ih ((x1 + 1)) (xs_lt f1) (ps_uj s r0 8 v4) h0 (xw_j (c := 10) (by decide) h0 J)))))))))))))))))))) x1 s h0 J

theorem xs_141 {m s : ps_S} {t : Int32} {d : Nat} {r0 : Nat} {f : ps_S → Prop} (h0 : ps_is r0 10 = true) (J : xJ m t s) (k : ∀ (s' : ps_S), xJ m t s' → f s') : ps_Cl (d + 1) 141 [.ref r0] s (ps_rV f) :=
  pg_141_0 (d := d) (ps_nk_i h0 (ps_nk_i h0 (xs_141_10 (d := d) (r0 := r0) (x1 := (ps_i s r0 5))  h0 (xw_j (c := 10) (by decide) h0 J) k )))

-- ProofBench$Tokens.isDigit(I)Z
theorem pg_147_0 {d : Nat} {x0 : Int32} {s : ps_S} {Q : Option Value → ps_S → Prop} (h :
  (x0 < 48 →
    Q (some (.int 0)) s) ∧
  (48 ≤ x0 →
    (57 < x0 →
      Q (some (.int 0)) s) ∧
    (x0 ≤ 57 →
      Q (some (.int 1)) s))) : ps_At d 147 0 [(0, .int x0)] [] s Q :=
  ps_wp_at (stops := []) (n := 15) h rfl

theorem xs_147 {m s : ps_S} {t : Int32} {d : Nat} {x0 : Int32} {f : Int32 → ps_S → Prop} (J : xJ m t s) (k : ∀ (v : Int32), v &&& 1 = v → f v s) : ps_Cl d 147 [.int x0] s (ps_rI f) :=
  pg_147_0 (And.intro (fun f1 => (k 0 (by decide))) (fun f1 => (And.intro (fun f2 => (k 0 (by decide))) (fun f2 => (k 1 (by decide))))))

-- ProofBench$Tokens.takeDigits()V
theorem pg_142_0 {d : Nat} {r0 : Nat} {s : ps_S} {Q : Option Value → ps_S → Prop} (h :
  ps_nk (ps_is r0 10) (ps_nk (ps_is r0 10) (ps_At (d + 1) 142 10 [(0, .ref r0), (1, .int (ps_i s r0 5))] [] (ps_ui s r0 7 0) Q))) : ps_At (d + 1) 142 0 [(0, .ref r0)] [] s Q :=
  ps_wp_at (stops := [(10, [0, 1]), (55, [0, 1])]) (n := 8) h rfl

theorem pg_142_10 {d : Nat} {r0 : Nat} {x1 : Int32} {s : ps_S} {Q : Option Value → ps_S → Prop} (h :
  ps_nk (ps_is r0 10) (((ps_i s r0 2) ≤ x1 →
    ps_At (d + 1) 142 55 [(0, .ref r0), (1, .int x1)] [] s Q) ∧
  (x1 < (ps_i s r0 2) →
    ps_nk (ps_is r0 10) (ps_Cl d 143 [.ref r0, .int x1] s (ps_rI (fun v1 s1 =>
      ps_Cl d 147 [.int v1] s1 (ps_rI (fun v2 s2 =>
        (v2 = 0 →
          ps_At (d + 1) 142 55 [(0, .ref r0), (1, .int x1)] [] s2 Q) ∧
        (v2 ≠ 0 →
          ps_nk (ps_is r0 10) (ps_nk (ps_is r0 10) (ps_Cl d 143 [.ref r0, .int x1] s2 (ps_rI (fun v3 s3 =>
            ps_nk (ps_is r0 10) (ps_At (d + 1) 142 10 [(0, .ref r0), (1, .int (x1 + 1))] [] (ps_ui s3 r0 7 ((((ps_i s2 r0 7) * 10) + v3) - 48)) Q)))))))))))))) : ps_At (d + 1) 142 10 [(0, .ref r0), (1, .int x1)] [] s Q :=
  ps_wp_at (stops := [(10, [0, 1]), (55, [0, 1])]) (n := 25) h rfl

theorem pg_142_55 {d : Nat} {r0 : Nat} {x1 : Int32} {s : ps_S} {Q : Option Value → ps_S → Prop} (h :
  ps_nk (ps_is r0 10) (ps_nk (ps_is r0 10) ((4 < (x1 - (ps_i (ps_ui s r0 3 x1) r0 5)) →
    ps_nk (ps_is r0 10) (Q none (ps_ui (ps_ui s r0 3 x1) r0 4 1))) ∧
  ((x1 - (ps_i (ps_ui s r0 3 x1) r0 5)) ≤ 4 →
    ps_nk (ps_is r0 10) (ps_Cl d 143 [.ref r0, .int x1] (ps_ui s r0 3 x1) (ps_rI (fun v1 s1 =>
      ps_Cl d 146 [.int v1] s1 (ps_rI (fun v2 s2 =>
        (v2 = 0 →
          ps_nk (ps_is r0 10) (Q none (ps_ui s2 r0 4 4))) ∧
        (v2 ≠ 0 →
          ps_nk (ps_is r0 10) (Q none (ps_ui s2 r0 4 1)))))))))))) : ps_At (d + 1) 142 55 [(0, .ref r0), (1, .int x1)] [] s Q :=
  ps_wp_at (stops := [(10, [0, 1]), (55, [0, 1])]) (n := 28) h rfl

theorem xs_142_55 {m s : ps_S} {t : Int32} {d : Nat} {r0 : Nat} {x1 : Int32} {Q : Option Value → ps_S → Prop} (h0 : ps_is r0 10 = true) (J : xJ m t s) (k : ∀ (s' : ps_S), xJ m t s' → Q none s') : ps_At (d + 1) 142 55 [(0, .ref r0), (1, .int x1)] [] s Q :=
  pg_142_55 (d := d) (ps_nk_i h0 (ps_nk_i h0 (And.intro (fun f1 => (ps_nk_i h0 (k (ps_ui (ps_ui s r0 3 x1) r0 4 1) (xw_i (c := 10) (by decide) h0 (xw_i (c := 10) (by decide) h0 J))))) (fun f1 => (ps_nk_i h0 (xs_143 h0 (xw_i (c := 10) (by decide) h0 J) (fun v1 => (xs_146  (xw_i (c := 10) (by decide) h0 J) (fun v2 b2 => (And.intro (fun f2 => (ps_nk_i h0 (k (ps_ui (ps_ui s r0 3 x1) r0 4 4) (xw_i (c := 10) (by decide) h0 (xw_i (c := 10) (by decide) h0 J))))) (fun f2 => (ps_nk_i h0 (k (ps_ui (ps_ui s r0 3 x1) r0 4 1) (xw_i (c := 10) (by decide) h0 (xw_i (c := 10) (by decide) h0 J)))))))))))))))

theorem xs_142_10 {m s : ps_S} {t : Int32} {d : Nat} {r0 : Nat} {x1 : Int32} {Q : Option Value → ps_S → Prop} (h0 : ps_is r0 10 = true) (J : xJ m t s) (k : ∀ (s' : ps_S), xJ m t s' → Q none s') : ps_At (d + 1) 142 10 [(0, .ref r0), (1, .int x1)] [] s Q :=
  xs_up (P := fun x1 => ∀ (s : ps_S), ps_is r0 10 = true → xJ m t s → ps_At (d + 1) 142 10 [(0, .ref r0), (1, .int x1)] [] s Q) (fun x1 ih s h0 J => pg_142_10 (d := d) (ps_nk_i h0 (And.intro (fun f1 => (xs_142_55 (d := d) (r0 := r0) (x1 := x1)  h0 J k )) (fun f1 => (ps_nk_i h0 (xs_143 h0 J (fun v1 => (xs_147  J (fun v2 b2 => (And.intro (fun f2 => (xs_142_55 (d := d) (r0 := r0) (x1 := x1)  h0 J k )) (fun f2 => (ps_nk_i h0 (ps_nk_i h0 (xs_143 h0 J (fun v3 => (ps_nk_i h0 (ih ((x1 + 1)) (xs_lt f1) (ps_ui s r0 7 ((((ps_i s r0 7) * 10) + v3) - 48)) h0 (xw_i (c := 10) (by decide) h0 J)))))))))))))))))) x1 s h0 J

theorem xs_142 {m s : ps_S} {t : Int32} {d : Nat} {r0 : Nat} {f : ps_S → Prop} (h0 : ps_is r0 10 = true) (J : xJ m t s) (k : ∀ (s' : ps_S), xJ m t s' → f s') : ps_Cl (d + 1) 142 [.ref r0] s (ps_rV f) :=
  pg_142_0 (d := d) (ps_nk_i h0 (ps_nk_i h0 (xs_142_10 (d := d) (r0 := r0) (x1 := (ps_i s r0 5))  h0 (xw_i (c := 10) (by decide) h0 J) k )))

-- ProofBench$Tokens.advance()V
theorem pg_140_0 {d : Nat} {r0 : Nat} {s : ps_S} {Q : Option Value → ps_S → Prop} (h :
  ps_nk (ps_is r0 10) (ps_At (d + 1) 140 5 [(0, .ref r0), (1, .int (ps_i s r0 3))] [] s Q)) : ps_At (d + 1) 140 0 [(0, .ref r0)] [] s Q :=
  ps_wp_at (stops := [(5, [0, 1]), (30, [0, 1])]) (n := 5) h rfl

theorem pg_140_5 {d : Nat} {r0 : Nat} {x1 : Int32} {s : ps_S} {Q : Option Value → ps_S → Prop} (h :
  ps_nk (ps_is r0 10) (((ps_i s r0 2) ≤ x1 →
    ps_At (d + 1) 140 30 [(0, .ref r0), (1, .int x1)] [] s Q) ∧
  (x1 < (ps_i s r0 2) →
    ps_nk (ps_is r0 10) (ps_Cl d 143 [.ref r0, .int x1] s (ps_rI (fun v1 s1 =>
      ps_Cl d 145 [.int v1] s1 (ps_rI (fun v2 s2 =>
        (v2 = 0 →
          ps_At (d + 1) 140 30 [(0, .ref r0), (1, .int x1)] [] s2 Q) ∧
        (v2 ≠ 0 →
          ps_At (d + 1) 140 5 [(0, .ref r0), (1, .int (x1 + 1))] [] s2 Q))))))))) : ps_At (d + 1) 140 5 [(0, .ref r0), (1, .int x1)] [] s Q :=
  ps_wp_at (stops := [(5, [0, 1]), (30, [0, 1])]) (n := 13) h rfl

theorem pg_140_30 {d : Nat} {r0 : Nat} {x1 : Int32} {s : ps_S} {Q : Option Value → ps_S → Prop} (h :
  ps_nk (ps_is r0 10) (ps_nk (ps_is r0 10) (ps_nk (ps_is r0 10) (ps_Cl d 143 [.ref r0, .int x1] (ps_ui (ps_ui s r0 5 x1) r0 6 (-1)) (ps_rI (fun v1 s1 =>
    ps_nk (ps_is r0 10) ((x1 < (ps_i s1 r0 2) →
      ps_Cl d 146 [.int v1] s1 (ps_rI (fun v2 s2 =>
        (v2 = 0 →
          ps_Cl d 147 [.int v1] s2 (ps_rI (fun v3 s3 =>
            (v3 = 0 →
              (v1 ≠ 59 →
                ps_nk (ps_is r0 10) (ps_nk (ps_is r0 10) (Q none (ps_ui (ps_ui s3 r0 4 1) r0 3 (x1 + 1))))) ∧
              (v1 = 59 →
                ps_nk (ps_is r0 10) (ps_nk (ps_is r0 10) (Q none (ps_ui (ps_ui s3 r0 4 5) r0 3 (x1 + 1)))))) ∧
            (v3 ≠ 0 →
              ps_nk (ps_is r0 10) (ps_Cl d 142 [.ref r0] s3 (ps_rV (fun s4 =>
                Q none s4))))))) ∧
        (v2 ≠ 0 →
          ps_nk (ps_is r0 10) (ps_Cl d 141 [.ref r0] s2 (ps_rV (fun s5 =>
            Q none s5))))))) ∧
    ((ps_i s1 r0 2) ≤ x1 →
      ps_nk (ps_is r0 10) (ps_nk (ps_is r0 10) (Q none (ps_ui (ps_ui s1 r0 4 0) r0 3 x1))))))))))) : ps_At (d + 1) 140 30 [(0, .ref r0), (1, .int x1)] [] s Q :=
  ps_wp_at (stops := [(5, [0, 1]), (30, [0, 1])]) (n := 59) h rfl

theorem xs_140_30 {m s : ps_S} {t : Int32} {d : Nat} {r0 : Nat} {x1 : Int32} {Q : Option Value → ps_S → Prop} (h0 : ps_is r0 10 = true) (J : xJ m t s) (k : ∀ (s' : ps_S), xJ m t s' → Q none s') : ps_At (d + 2) 140 30 [(0, .ref r0), (1, .int x1)] [] s Q :=
  pg_140_30 (d := d + 1) (ps_nk_i h0 (ps_nk_i h0 (ps_nk_i h0 (xs_143 h0 (xw_i (c := 10) (by decide) h0 (xw_i (c := 10) (by decide) h0 J)) (fun v1 => (ps_nk_i h0 (And.intro (fun f1 => (xs_146  (xw_i (c := 10) (by decide) h0 (xw_i (c := 10) (by decide) h0 J)) (fun v2 b2 => (And.intro (fun f2 => (xs_147  (xw_i (c := 10) (by decide) h0 (xw_i (c := 10) (by decide) h0 J)) (fun v3 b3 => (And.intro (fun f3 => (And.intro (fun f4 => (ps_nk_i h0 (ps_nk_i h0 (k (ps_ui (ps_ui (ps_ui (ps_ui s r0 5 x1) r0 6 (-1)) r0 4 1) r0 3 (x1 + 1)) (xw_i (c := 10) (by decide) h0 (xw_i (c := 10) (by decide) h0 (xw_i (c := 10) (by decide) h0 (xw_i (c := 10) (by decide) h0 J)))))))) (fun f4 => (ps_nk_i h0 (ps_nk_i h0 (k (ps_ui (ps_ui (ps_ui (ps_ui s r0 5 x1) r0 6 (-1)) r0 4 5) r0 3 (x1 + 1)) (xw_i (c := 10) (by decide) h0 (xw_i (c := 10) (by decide) h0 (xw_i (c := 10) (by decide) h0 (xw_i (c := 10) (by decide) h0 J)))))))))) (fun f3 => (ps_nk_i h0 (xs_142 h0 (xw_i (c := 10) (by decide) h0 (xw_i (c := 10) (by decide) h0 J)) (fun s4 J4 => (k s4 J4))))))))) (fun f2 => (ps_nk_i h0 (xs_141 h0 (xw_i (c := 10) (by decide) h0 (xw_i (c := 10) (by decide) h0 J)) (fun s5 J5 => (k s5 J5))))))))) (fun f1 => (ps_nk_i h0 (ps_nk_i h0 (k (ps_ui (ps_ui (ps_ui (ps_ui s r0 5 x1) r0 6 (-1)) r0 4 0) r0 3 x1) (xw_i (c := 10) (by decide) h0 (xw_i (c := 10) (by decide) h0 (xw_i (c := 10) (by decide) h0 (xw_i (c := 10) (by decide) h0 J)))))))))))))))

theorem xs_140_5 {m s : ps_S} {t : Int32} {d : Nat} {r0 : Nat} {x1 : Int32} {Q : Option Value → ps_S → Prop} (h0 : ps_is r0 10 = true) (J : xJ m t s) (k : ∀ (s' : ps_S), xJ m t s' → Q none s') : ps_At (d + 2) 140 5 [(0, .ref r0), (1, .int x1)] [] s Q :=
  xs_up (P := fun x1 => ∀ (s : ps_S), ps_is r0 10 = true → xJ m t s → ps_At (d + 2) 140 5 [(0, .ref r0), (1, .int x1)] [] s Q) (fun x1 ih s h0 J => pg_140_5 (d := d + 1) (ps_nk_i h0 (And.intro (fun f1 => (xs_140_30 (d := d) (r0 := r0) (x1 := x1)  h0 J k )) (fun f1 => (ps_nk_i h0 (xs_143 h0 J (fun v1 => (xs_145  J (fun v2 b2 => (And.intro (fun f2 => (xs_140_30 (d := d) (r0 := r0) (x1 := x1)  h0 J k )) (fun f2 => (ih ((x1 + 1)) (xs_lt f1) s h0 J)))))))))))) x1 s h0 J

theorem xs_140 {m s : ps_S} {t : Int32} {d : Nat} {r0 : Nat} {f : ps_S → Prop} (h0 : ps_is r0 10 = true) (J : xJ m t s) (k : ∀ (s' : ps_S), xJ m t s' → f s') : ps_Cl (d + 2) 140 [.ref r0] s (ps_rV f) :=
  pg_140_0 (d := d + 1) (ps_nk_i h0 (xs_140_5 (d := d) (r0 := r0) (x1 := (ps_i s r0 3))  h0 J k ))

-- ProofBench$Tokens.begin([BI)V
theorem pg_139_0 {d : Nat} {r0 : Nat} {r1 : Nat} {x2 : Int32} {s : ps_S} {Q : Option Value → ps_S → Prop} (h :
  ps_nk (ps_is r0 10) (ps_nk (ps_is r0 10) (ps_nk (ps_is r0 10) (ps_nk (ps_is r0 10) (ps_Cl d 140 [.ref r0] (ps_ui (ps_ui (ps_ur s r0 1 r1) r0 2 x2) r0 3 0) (ps_rV (fun s1 =>
    Q none s1))))))) : ps_At (d + 1) 139 0 [(0, .ref r0), (1, .ref r1), (2, .int x2)] [] s Q :=
  ps_wp_at (stops := []) (n := 14) h rfl

theorem xs_139 {m s : ps_S} {t : Int32} {d : Nat} {r0 : Nat} {r1 : Nat} {x2 : Int32} {f : ps_S → Prop} (h0 : ps_is r0 10 = true) (h1 : ps_ar r1 1 = true ∧ r1 < 1131) (J : xJ m t s) (k : ∀ (s' : ps_S), xJ m t s' → f s') : ps_Cl (d + 3) 139 [.ref r0, .ref r1, .int x2] s (ps_rV f) :=
  pg_139_0 (d := d + 2) (ps_nk_i h0 (ps_nk_i h0 (ps_nk_i h0 (ps_nk_i h0 (xs_140 h0 (xw_i (c := 10) (by decide) h0 (xw_i (c := 10) (by decide) h0 (xw_10_1 h0 h1 J))) (fun s1 J1 => (k s1 J1)))))))
end
