/-! the state at the law's entry -/
def pm_fl : List Jvm.Cond := flatC (Jvm.Cond.and given_1 narrow_1)
def pm_tk (i : Nat) : Nat := cond (Nat.beq i 0) 19 (cond (Nat.beq i 1) 25 27)
def pm_tm (i : Nat) : Term := .string "ProofBench$Tokens" (pm_tk i)
def pm_el (w : Jvm.Cond) (k j : Nat) (v : Int32) : Bool := match w with
  | .eq (.elem (.field (.string c k') o n d) (.int j')) (.int v') => Nat.beq k k' && (decide (j' = Int32.ofNat j) && (decide (v' = v) && (decide (c = "ProofBench$Tokens") && (decide (o = "java/lang/String") && (decide (n = "value") && decide (d = "[B"))))))
  | _ => false
theorem pm_el_ok {w : Jvm.Cond} {k j : Nat} {v : Int32} (h : pm_el w k j v = true) : w = .eq (.elem (.field (.string "ProofBench$Tokens" k) "java/lang/String" "value" "[B") (.int (Int32.ofNat j))) (.int v) := by
  unfold pm_el at h
  split at h
  · simp only [Bool.and_eq_true, decide_eq_true_eq] at h
    obtain ⟨h1, rfl, rfl, rfl, rfl, rfl, rfl⟩ := h
    rw [Nat.eq_of_beq_eq_true h1]
  · cases h
def pm_elA (p n i : Nat) : Bool := (List.range n).all (fun j => match pm_fl[p + j]? with
  | some w => pm_el w (pm_tk i) j ((pm_byt.getD i []).getD j 0)
  | none => false)
set_option maxRecDepth 100000
theorem pm_el0 : pm_elA 13 49 0 = true := by decide +kernel
theorem pm_el1 : pm_elA 66 64 1 = true := by decide +kernel
theorem pm_el2 : pm_elA 135 50 2 = true := by decide +kernel
theorem pm_elA_ok {p n i : Nat} (h : pm_elA p n i = true) {j : Nat} (hj : j < n) : Jvm.Cond.eq (.elem (.field (pm_tm i) "java/lang/String" "value" "[B") (.int (Int32.ofNat j))) (.int ((pm_byt.getD i []).getD j 0)) ∈ pm_fl := by
  have q := List.all_eq_true.mp h j (List.mem_range.mpr hj)
  split at q
  · next w hw =>
    have e := pm_el_ok q
    rw [e] at hw
    exact List.mem_of_getElem? hw
  · cases q
theorem pm_fx0 : Jvm.Cond.exactly (pm_tm 0) "java/lang/String" ∈ pm_fl := List.mem_of_getElem? (i := 9) (by decide +kernel)
theorem pm_fc0 : Jvm.Cond.eq (.field (pm_tm 0) "java/lang/String" "coder" "B") (.int 0) ∈ pm_fl := List.mem_of_getElem? (i := 10) (by decide +kernel)
theorem pm_fa0 : Jvm.Cond.arrayOf (.field (pm_tm 0) "java/lang/String" "value" "[B") .byte ∈ pm_fl := List.mem_of_getElem? (i := 11) (by decide +kernel)
theorem pm_fn0 : Jvm.Cond.eq (.length (.field (pm_tm 0) "java/lang/String" "value" "[B")) (.int (Int32.ofNat 49)) ∈ pm_fl := List.mem_of_getElem? (i := 12) (by decide +kernel)
theorem pm_fx1 : Jvm.Cond.exactly (pm_tm 1) "java/lang/String" ∈ pm_fl := List.mem_of_getElem? (i := 62) (by decide +kernel)
theorem pm_fc1 : Jvm.Cond.eq (.field (pm_tm 1) "java/lang/String" "coder" "B") (.int 0) ∈ pm_fl := List.mem_of_getElem? (i := 63) (by decide +kernel)
theorem pm_fa1 : Jvm.Cond.arrayOf (.field (pm_tm 1) "java/lang/String" "value" "[B") .byte ∈ pm_fl := List.mem_of_getElem? (i := 64) (by decide +kernel)
theorem pm_fn1 : Jvm.Cond.eq (.length (.field (pm_tm 1) "java/lang/String" "value" "[B")) (.int (Int32.ofNat 64)) ∈ pm_fl := List.mem_of_getElem? (i := 65) (by decide +kernel)
theorem pm_fx2 : Jvm.Cond.exactly (pm_tm 2) "java/lang/String" ∈ pm_fl := List.mem_of_getElem? (i := 131) (by decide +kernel)
theorem pm_fc2 : Jvm.Cond.eq (.field (pm_tm 2) "java/lang/String" "coder" "B") (.int 0) ∈ pm_fl := List.mem_of_getElem? (i := 132) (by decide +kernel)
theorem pm_fa2 : Jvm.Cond.arrayOf (.field (pm_tm 2) "java/lang/String" "value" "[B") .byte ∈ pm_fl := List.mem_of_getElem? (i := 133) (by decide +kernel)
theorem pm_fn2 : Jvm.Cond.eq (.length (.field (pm_tm 2) "java/lang/String" "value" "[B")) (.int (Int32.ofNat 50)) ∈ pm_fl := List.mem_of_getElem? (i := 134) (by decide +kernel)
theorem pm_fe01 : Jvm.Cond.not (Jvm.Cond.eq (pm_tm 0) (pm_tm 1)) ∈ pm_fl := List.mem_of_getElem? (i := 130) (by decide +kernel)
theorem pm_fe02 : Jvm.Cond.not (Jvm.Cond.eq (pm_tm 0) (pm_tm 2)) ∈ pm_fl := List.mem_of_getElem? (i := 185) (by decide +kernel)
theorem pm_fe12 : Jvm.Cond.not (Jvm.Cond.eq (pm_tm 1) (pm_tm 2)) ∈ pm_fl := List.mem_of_getElem? (i := 186) (by decide +kernel)
theorem pm_fs1 : Jvm.Cond.eq (.static "java/lang/String" "COMPACT_STRINGS" "Z") (.int 1) ∈ pm_fl := List.mem_of_getElem? (i := 4) (by decide +kernel)
theorem pm_fs2 : Jvm.Cond.isRef (.static "jdk/internal/util/Preconditions" "SIOOBE_FORMATTER" "Ljava/util/function/BiFunction;") ∈ pm_fl := List.mem_of_getElem? (i := 5) (by decide +kernel)
theorem pm_ls1 : Jvm.Cond.laysStatic "java/lang/String" "COMPACT_STRINGS" "Z" ∈ lw_tbl := pm_blk_in (b := 2) (List.mem_of_getElem? (i := 58) (by decide +kernel))
theorem pm_ls2 : Jvm.Cond.laysStatic "jdk/internal/util/Preconditions" "SIOOBE_FORMATTER" "Ljava/util/function/BiFunction;" ∈ lw_tbl := pm_blk_in (b := 2) (List.mem_of_getElem? (i := 74) (by decide +kernel))
theorem pm_li1 : Jvm.Cond.initialized "java/lang/String" ∈ lw_tbl := pm_blk_in (b := 1) (List.mem_of_getElem? (i := 10) (by decide +kernel))
theorem pm_li2 : Jvm.Cond.initialized "jdk/internal/util/Preconditions" ∈ lw_tbl := pm_blk_in (b := 1) (List.mem_of_getElem? (i := 12) (by decide +kernel))
theorem pm_sr0 : Jvm.Cond.stringRef "ProofBench$Tokens" 19 "false and or imp all some same not rel fun axiom " ∈ lw_tbl := pm_blk_in (b := 2) (List.mem_of_getElem? (i := 44) (by decide +kernel))
theorem pm_sr1 : Jvm.Cond.stringRef "ProofBench$Tokens" 25 "assume theorem both left right orleft orright case apply deduce " ∈ lw_tbl := pm_blk_in (b := 2) (List.mem_of_getElem? (i := 102) (by decide +kernel))
theorem pm_sr2 : Jvm.Cond.stringRef "ProofBench$Tokens" 27 "general special exist open replace absurd classic " ∈ lw_tbl := pm_blk_in (b := 2) (List.mem_of_getElem? (i := 103) (by decide +kernel))
theorem pm_arr {s : State} {args : Array Value} (hts : ∀ w ∈ lw_tbl, w.before args s = true) (t : Nat) (ht : t < 8) : ∃ cA : ClassId, ArrOfT s cA (pm_ty t) ∧ va_RA s cA (pm_ty t) := by
  rcases Nat.lt_or_ge t 4 with h4 | h4
  · have key : ∀ ty : ArrayType, pm_at ty = some t → ∃ cA : ClassId, ArrOfT s cA (pm_ty t) ∧ va_RA s cA (pm_ty t) := by
      intro ty hty
      obtain ⟨-, e, w⟩ := pm_at_ok hty
      obtain ⟨c, k, comp, h1, h2, h3⟩ := Cond.arrayClass_spec (hts _ w)
      rw [e] at h1 h3
      refine ⟨c, fun n z => ⟨fun k h => (by cases h), k, h2, comp, h3⟩, ?_⟩
      rcases (show t = 0 ∨ t = 1 ∨ t = 2 ∨ t = 3 by omega) with rfl | rfl | rfl | rfl <;> exact h1
    rcases (show t = 0 ∨ t = 1 ∨ t = 2 ∨ t = 3 by omega) with rfl | rfl | rfl | rfl
    · exact key .int rfl
    · exact key .byte rfl
    · exact key .boolean rfl
    · exact key .long rfl
  · rw [pm_ty_q (by omega)]
    obtain ⟨comp, c, k, h1, h2, h3, h4, h5⟩ := Cond.arrayOver_spec (hts _ (pm_AO_in (c := t + 1) (by omega) (by omega)))
    exact ⟨c, fun n z => ⟨fun k h => (by cases h), k, h3, comp, h4⟩, k, comp, h3, h4, h1, h5⟩
theorem pm_gw_of {s : State} {args : Array Value} (hts : ∀ w ∈ lw_tbl, w.before args s = true) : ∀ w ∈ pm_gw, w.before args s = true := fun w hw => hts w (List.mem_filter.mp hw).1
theorem pm_start {s : State} {b L : Nat} {xs : Nat → Int32} (hts : ∀ w ∈ lw_tbl, w.before #[Value.ref b] s = true) (hX : va_X b L xs s s.heap) (hbl : b < s.heap.size) (hgv : (Jvm.Cond.and given_1 narrow_1).before #[Value.ref b] s = true) :
    ∃ G : pm_G, G.1 = s.heap.size ∧ G.2.1 100 = b ∧ G.2.2.2.2 = (L, xs) ∧ pm_At G s pm_w0 s.heap [] := by
  have hs : ∀ c ∈ pm_fl, c.before #[Value.ref b] s = true := flat_of_before _ hgv
  have hgw := pm_gw_of hts
  have hA : ∀ a : Nat, a < s.heap.size → ¬ (fun q : Nat => s.heap.size ≤ q) a := fun a h q => absurd h (Nat.not_lt.mpr q)
  obtain ⟨adK, adV, hS, hE⟩ := vk_Sof (args := #[Value.ref b]) (s := s) (N := 3) (tm := pm_tm) (len := [pm_len 0, pm_len 1, pm_len 2]) (byt := pm_byt) (A := fun q : Nat => s.heap.size ≤ q)
    (fun i hi => by rcases (show i = 0 ∨ i = 1 ∨ i = 2 by omega) with rfl | rfl | rfl <;> decide +kernel)
    (fun i hi => by rcases (show i = 0 ∨ i = 1 ∨ i = 2 by omega) with rfl | rfl | rfl; exact hs _ pm_fx0; exact hs _ pm_fx1; exact hs _ pm_fx2)
    (fun i hi => by rcases (show i = 0 ∨ i = 1 ∨ i = 2 by omega) with rfl | rfl | rfl; exact hs _ pm_fc0; exact hs _ pm_fc1; exact hs _ pm_fc2)
    (fun i hi => by rcases (show i = 0 ∨ i = 1 ∨ i = 2 by omega) with rfl | rfl | rfl; exact hs _ pm_fa0; exact hs _ pm_fa1; exact hs _ pm_fa2)
    (fun i hi => by rcases (show i = 0 ∨ i = 1 ∨ i = 2 by omega) with rfl | rfl | rfl; exact hs _ pm_fn0; exact hs _ pm_fn1; exact hs _ pm_fn2)
    (fun i hi j hj => by rcases (show i = 0 ∨ i = 1 ∨ i = 2 by omega) with rfl | rfl | rfl; exact hs _ (pm_elA_ok pm_el0 hj); exact hs _ (pm_elA_ok pm_el1 hj); exact hs _ (pm_elA_ok pm_el2 hj))
    (fun i j hi hj hij => by
      rcases (show i = 0 ∨ i = 1 ∨ i = 2 by omega) with rfl | rfl | rfl <;> rcases (show j = 0 ∨ j = 1 ∨ j = 2 by omega) with rfl | rfl | rfl
      · exact absurd rfl hij
      · exact Or.inl (hs _ pm_fe01)
      · exact Or.inl (hs _ pm_fe02)
      · exact Or.inr (hs _ pm_fe01)
      · exact absurd rfl hij
      · exact Or.inl (hs _ pm_fe12)
      · exact Or.inr (hs _ pm_fe02)
      · exact Or.inr (hs _ pm_fe12)
      · exact absurd rfl hij) hA
  have hk : ∀ c : Nat, ∃ q : ClassId × (Nat → Nat), c < 13 → u_Kn s (pm_nm c) (pm_clT c) (pm_Fs c).length q.1 q.2 := by
    intro c
    by_cases hc : c < 13
    · obtain ⟨cC, iS, h⟩ := u_known hgw (pm_uws hc) (hts _ (pm_O_words hc).2.2.2.2.1)
      exact ⟨(cC, iS), fun _ => h⟩
    · exact ⟨(0, fun _ => 0), fun h => absurd h hc⟩
  have hr : ∀ t : Nat, ∃ cA : ClassId, t < 8 → ArrOfT s cA (pm_ty t) ∧ va_RA s cA (pm_ty t) := by
    intro t
    by_cases ht : t < 8
    · obtain ⟨cA, h⟩ := pm_arr hts t ht
      exact ⟨cA, fun _ => h⟩
    · exact ⟨0, fun h => absurd h ht⟩
  refine ⟨(s.heap.size, (fun i => if i = 100 then b else adK i), (fun t => Classical.choose (hr t)), ((fun c => (Classical.choose (hk c)).1), (fun c => (Classical.choose (hk c)).2)), (L, xs)), rfl, (show (if (100 : Nat) = 100 then b else adK 100) = b from if_pos rfl), rfl, ⟨?_, ?_⟩, ⟨rfl, Nat.zero_le _, fun i hi => absurd hi (Nat.not_lt_zero i)⟩, va_S.rf, ?_⟩
  · intro c q hq
    have hc : c < 13 := (List.getElem?_eq_some_iff.mp hq).1
    rw [(pm_O_words hc).2.1] at hq
    cases hq
    exact Classical.choose_spec (hk c) hc
  · intro t q hq
    have ht : t < 8 := by
      have h1 := (List.getElem?_eq_some_iff.mp hq).1
      unfold pm_tys at h1
      rw [List.length_map, List.length_range] at h1
      exact h1
    rw [pm_tys_at ht] at hq
    cases hq
    exact Classical.choose_spec (hr t) ht
  · refine ⟨⟨adV, ?_⟩, va_Zof (hts _ pm_ls1) (hts _ pm_li1) (va_eqt (hs _ pm_fs1)) hA, va_Zqof (hts _ pm_ls2) (hts _ pm_li2) (hs _ pm_fs2) hA, vk_R.of (hts _ pm_sr0) (hE 0 (by omega)), vk_R.of (hts _ pm_sr1) (hE 1 (by omega)), vk_R.of (hts _ pm_sr2) (hE 2 (by omega)), ?_, ?_, hA b hbl⟩
    · have e : ∀ i : Nat, i < 3 → (if i = 100 then b else adK i) = adK i := fun i hi => if_neg (by omega)
      obtain ⟨h1, h2⟩ := hS
      refine ⟨fun i hi => ?_, fun i j hi hj hij => ?_⟩
      · have q := h1 i hi
        show va_O "java/lang/String" (if i = 100 then b else adK i) _ _ _ ∧ va_OF _ _ _ _ (if i = 100 then b else adK i) _ _ _ ∧ va_OF _ _ _ _ (if i = 100 then b else adK i) _ _ _ ∧ _
        rw [e i hi]
        exact q
      · dsimp only at hij
        rw [e i hi, e j hj] at hij
        exact h2 i j hi hj hij
    · intro w hw hn
      have q := hts w hw
      unfold pm_isN at hn
      split at hn
      · exact va_Nw.of rfl q
      · exact va_AO.of q
      · cases hn
    · exact hX
