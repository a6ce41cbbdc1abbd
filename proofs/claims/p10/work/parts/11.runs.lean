/-! calls, and the whole run -/
theorem pm_lv_args (G : pm_G) : ∀ (i : Nat) (l : List Value), lv_args i (l.map (pm_v G)) = pm_ph G (lv_args i l)
  | _, [] => rfl
  | i, v :: l => by
    show (i, pm_v G v) :: lv_args (if (pm_v G v).category = 2 then i + 2 else i + 1) (l.map (pm_v G)) = (i, pm_v G v) :: pm_ph G (lv_args (if v.category = 2 then i + 2 else i + 1) l)
    rw [pm_v_cat, pm_lv_args G _ l]
theorem pm_lg_len (G : pm_G) : ∀ (l : List Value), (lg_sl (l.map (pm_v G))).length = (lg_sl l).length
  | [] => rfl
  | v :: l => by
    show (lg_sl (pm_v G v :: l.map (pm_v G))).length = (lg_sl (v :: l)).length
    unfold lg_sl
    rw [List.flatMap_cons, List.flatMap_cons, List.length_append, List.length_append]
    have e := pm_lg_len G l
    unfold lg_sl at e
    rw [e, pm_v_cat]
    by_cases q : v.category = 2
    · rw [if_pos q, if_pos q]; rfl
    · rw [if_neg q, if_neg q]; rfl
theorem pm_cats_map (G : pm_G) (l : List Value) : ((l.map (pm_v G)).map fun v => v.category).sum = pm_cats l := by
  unfold pm_cats
  rw [List.map_map]
  congr 1
  exact List.map_congr_left (fun v _ => pm_v_cat G v)
def pm_rm (d mc ms : Nat) : Room := { frames := d + 1, cells := mc, slots := ms, locals := 30 * (d + 1) }
def pm_Pc (G : pm_G) (w : pm_W) (ar : List Value) : Array Value → State → Prop := va_Pc (ar.map (pm_v G)) (fun U => pm_K G U ∧ pm_Rel G w U.heap ∧ pm_Z G U U.heap)
def pm_Qc (G : pm_G) (o : Option Value) (w' : pm_W) : Array Value → State → Outcome → State → Prop := fun _ st oc t => oc = .returned (o.map (pm_v G)) ∧ pm_Rel G w' t.heap ∧ va_F (pm_A G) st t
theorem pm_Pc_blind (G : pm_G) (w : pm_W) (ar : List Value) : FrameBlind (pm_Pc G w ar) := by
  intro a U g mk q
  obtain ⟨q1, q2, q3, q4⟩ := q
  exact ⟨q1, va_K.moved (u := U) (U := U.calling g mk a) (Vm.Alike.refl U.vm) q2, q3, pm_Z.same (s := U) (U := U.calling g mk a) rfl q4⟩
/-- what is shown of all runs with n steps deep -/
def pm_Ok (l : Launch) (G : pm_G) (n : Nat) : Prop := ∀ (d y pc : Nat) (L : pm_L) (st : List Value) (w : pm_W) (o : Option Value) (w' : pm_W), pm_run (some G.2.2.2.2) n d y pc L st w = some (o, w') →
  ∀ (p : Program) (e : Env) (R : Room) (s : State) (m : MethodId) (args : Array Value) (below : List Frame) (meth : Method) (c : Code) (H : Heap) (locs : List Loc) (ls : Array Slot) (c0 s0 : Nat) (Q : State → Prop),
  pm_Fr y d p R s m args meth c → pm_At G s w H locs → lv_has ls (pm_ml y) (pm_ph G L) → c0 ≤ w.2.1 → s0 ≤ w.2.2 → w'.2.1 - c0 ≤ R.cells → w'.2.2 - s0 ≤ R.slots
  → (∀ (pc k : Nat) (i : Instr) (ls : Array Slot) (st : List Value) (H : Heap) (locs : List Loc), pm_code y pc = some (i, k) → pm_isR i = true → pm_rtn (pm_ret y) i st = some o → pm_At G s w' H locs → W p l e R s m args below meth c H locs (w'.2.1 - c0) (w'.2.2 - s0) Q (F0 m pc ls (st.map (pm_v G))))
  → W p l e R s m args below meth c H locs (w.2.1 - c0) (w.2.2 - s0) Q (F0 m pc ls (st.map (pm_v G)))
/-- a method's end -/
theorem pm_ret_ok {G : pm_G} {p : Program} {l : Launch} {e : Env} {R : Room} {s : State} {m : MethodId} {args : Array Value} {below : List Frame} {meth : Method} {c : Code} {H : Heap} {locs : List Loc} {ls : Array Slot} {Qc : Array Value → State → Outcome → State → Prop} {mc ms y d pc k : Nat} {i : Instr} {st : List Value} {w' : pm_W} {o : Option Value} {free : Addr → Prop}
    (F : pm_Fr y d p R s m args meth c) (hfree : ∀ q, pm_A G q → free q) (hQ : ∀ t : State, s.WarmedH t.vm → pm_Rel G w' t.heap → va_F (pm_A G) s t → Qc args s (.returned (o.map (pm_v G))) t)
    (hcd : pm_code y pc = some (i, k)) (hisR : pm_isR i = true) (hrt : pm_rtn (pm_ret y) i st = some o) (T : pm_At G s w' H locs) : W p l e R s m args below meth c H locs mc ms (MQ below Qc args s mc ms free) (F0 m pc ls (st.map (pm_v G))) := by
  obtain ⟨hx, hb, hr, hml, hown, hts, hlk, hnm, hfr, hlo, hy⟩ := F
  have hq : ∀ t : State, t.heap = H → s.WarmedH t.vm → Qc args s (.returned (o.map (pm_v G))) t := fun t ht hW => hQ t hW (by rw [ht]; exact T.2.1) (T.2.2.1.F ht)
  have hf : ∀ q ∈ locs, free q.base := fun q hq => hfree _ (T.2.2.1.2.2 q hq)
  unfold pm_rtn at hrt
  split at hrt
  · have D := pm_dec hcd 1 rfl (by decide)
    split at hrt
    · next hret =>
      cases hrt
      exact W.iret hx hb (hr.trans hret) hq hf D hlk
    · next hret =>
      obtain ⟨h1, hrt⟩ := pm_ct hrt
      cases hrt
      exact W.zret hx hb (hr.trans hret) (congrArg Value.int (of_decide_eq_true h1)) hq hf D hlk
    · cases hrt
  · have D := pm_dec hcd 1 rfl (by decide)
    split at hrt
    · next hret =>
      cases hrt
      exact W.lret hx hb (hr.trans hret) hq hf D hlk
    · cases hrt
  · have D := pm_dec hcd 1 rfl (by decide)
    split at hrt
    · next C hret =>
      cases hrt
      exact W.aret hx hb (hr.trans hret) (Or.inl ⟨C, rfl⟩) (Or.inr ⟨_, rfl⟩) hq hf D hlk
    · cases hrt
  · have D := pm_dec hcd 1 rfl (by decide)
    split at hrt
    · next hret =>
      cases hrt
      exact W.vret hx hb (hr.trans hret) hq hf D hlk
    · cases hrt
  · cases hrt
/-- a method's contract out of its run -/
theorem pm_met {l : Launch} {G : pm_G} {n d t : Nat} {ar : List Value} {w w' : pm_W} {o : Option Value} (ht : t < pm_nM) (hn : pm_Ok l G n) (h : pm_run (some G.2.2.2.2) n d t 0 (lv_args 0 ar) [] w = some (o, w')) (hlen : (lg_sl ar).length ≤ pm_ml t) :
    Met l (pm_name t) (pm_wl t) (pm_rm d (w'.2.1 - w.2.1) (w'.2.2 - w.2.2)) (pm_Pc G w ar) (pm_Qc G o w') (w'.2.1 - w.2.1) (w'.2.2 - w.2.2) (pm_A G) := by
  have MW := pm_M_words ht
  refine Met.ofW (cc := pm_bytes t) (maxL := pm_ml t) (ret := pm_ret t) MW.2.2.2.2.1 rfl ?_
  intro p e s m args below meth c s₁ B hml hv
  obtain ⟨rfl, hK, hR, hZ⟩ := hv
  have hts : ∀ w ∈ pm_gw, w.before (ar.map (pm_v G)).toArray s = true := fun w hw => atoms_spec (ws := pm_wl t) B.pre w (List.mem_cons_of_mem _ hw)
  have hown : s.vm.findClass (pm_on (pm_own t)) = some m.cls := by
    rw [← MW.2.2.2.2.2.2.2.1]
    exact findClass_of_methodNamed B.named
  have hl := lv_entry (ar.map (pm_v G)) (n := pm_ml t) (by rw [pm_lg_len]; exact hlen)
  rw [lg_entry_eq]
  rw [pm_lv_args] at hl
  have F : pm_Fr t d p (pm_rm d (w'.2.1 - w.2.1) (w'.2.2 - w.2.2)) s m (ar.map (pm_v G)).toArray meth c := ⟨B.exec, B.bytes, B.returns, hml, hown, hts, B.notSynchronized, (fun h => (name_of_methodNamed B.named B.method).1.trans (pm_ini_t h)), Nat.le_refl _, Nat.le_refl _, pm_own_lt (Nat.le_of_lt ht)⟩
  have K := hn d t 0 (lv_args 0 ar) [] w o w' h p e (pm_rm d (w'.2.1 - w.2.1) (w'.2.2 - w.2.2)) s m (ar.map (pm_v G)).toArray below meth c s.heap [] _ w.2.1 w.2.2 (MQ below (pm_Qc G o w') (ar.map (pm_v G)).toArray s (w'.2.1 - w.2.1) (w'.2.2 - w.2.2) (pm_A G))
    F ⟨hK, hR, va_S.rf, hZ⟩ hl (Nat.le_refl _) (Nat.le_refl _) (Nat.le_refl _) (Nat.le_refl _) (fun pc k i ls st H locs h1 h2 h3 h4 => pm_ret_ok F (fun q hq => hq) (fun t _ h1 h2 => ⟨rfl, h1, h2⟩) h1 h2 h3 h4)
  rw [Nat.sub_self, Nat.sub_self] at K
  exact K
section PMR
variable {p : Program} {l : Launch} {e : Env} {R : Room} {s : State} {m : MethodId} {args : Array Value} {below : List Frame} {meth : Method} {c : Code} {H : Heap} {locs : List Loc} {Q : State → Prop}
variable {G : pm_G} {cells slots : Nat} {w w1 : pm_W} {o1 : Option Value} {pc : Nat} {ls : Array Slot}
/-- behind a call -/
theorem pm_after {rest st0 : List Value} {a : Array Value} {mc1 ms1 : Nat} (hr : va_Run p l e R s m args below meth c H locs cells slots mc1 ms1 (F0 m pc ls st0) rest (pm_Qc G o1 w1 a) (pm_A G)) (T : pm_At G s w H locs)
    (kk : ∀ (H' : Heap) (locs' : List Loc), pm_At G s w1 H' locs' → W p l e R s m args below meth c H' locs' (cells + mc1) (slots + ms1) Q (F0 m (pc + 3) ls ((o1.map (pm_v G)).toList ++ rest))) : W p l e R s m args below meth c H locs cells slots Q (F0 m pc ls st0) := by
  intro U hU X
  obtain ⟨v, st₀, t, T', L, h0, X', hL, e1, e2, ⟨hv, hrel, hz, hk⟩, st⟩ := hr U hU X
  cases hv
  have hS := T.2.2.1
  rw [h0] at hz hk
  obtain ⟨t2, a1, b1⟩ := kk T'.heap (locs ++ L) ⟨T.1, by rw [e1]; exact hrel, ⟨Nat.le_trans hS.1 (by rw [e1]; exact hz), fun q h1 h2 => by rw [e1, hk q (Nat.lt_of_lt_of_le h1 hS.1) h2]; exact hS.2.1 q h1 h2, fun q hq => by
      rcases List.mem_append.mp hq with h | h
      · exact hS.2.2 q h
      · exact hL q h⟩, T.2.2.2⟩ T' rfl X'
  exact ⟨t2, st t2 a1, b1⟩
end PMR
theorem pm_nA {G : pm_G} {s : State} {w : pm_W} {H : Heap} {locs : List Loc} (T : pm_At G s w H locs) : ∀ a : Nat, a < s.heap.size → ¬ pm_A G a → H[a]? = s.heap[a]? := T.2.2.1.2.1
/-- the start of a call, seen from the caller -/
theorem pm_preS {G : pm_G} {s : State} {w : pm_W} {H : Heap} {locs : List Loc} (T : pm_At G s w H locs) (ar : List Value) : PreS s H (pm_Pc G w ar) (ar.map (pm_v G)) :=
  ⟨pm_Pc_blind G w ar, fun U hU hW => ⟨rfl, va_K.moved hW.alike T.1, by rw [hU]; exact T.2.1, by rw [hU]; exact T.2.2.2.go hW (pm_nA T)⟩⟩
theorem pm_cls_eq {w : pm_W} {v : Option Value} {k : Nat} (h : pm_cls w v = some k) : ∃ (r : Nat) (fs : List Value), v = some (.ref r) ∧ pm_get w r = some (.inr (k, fs)) := by
  unfold pm_cls at h
  split at h
  · next r =>
    split at h
    · next c fs hg =>
      cases h
      exact ⟨r, fs, rfl, hg⟩
    · cases h
  · cases h
theorem pm_sub_add {a b c : Nat} (h1 : c ≤ a) (h2 : a ≤ b) : a - c + (b - a) = b - c := by omega
set_option maxHeartbeats 4000000 in
theorem pm_run_ok (l : Launch) (G : pm_G) : ∀ n, pm_Ok l G n := by
  intro n
  induction n with
  | zero => intro d y pc L st w o w' h; cases h
  | succ n ih =>
    intro d y pc L st w o w' h p e R s m args below meth c H locs ls c0 s0 Q F T hl hc0 hs0 hR1 hR2 hret
    rw [pm_run_succ] at h
    obtain ⟨i, k, hcd, h | h | h⟩ := pm_body_eq h
    · obtain ⟨hisR, hrt, rfl⟩ := h
      exact hret pc k i ls st H locs hcd hisR hrt T
    · obtain ⟨pc', L', st', w1, hop, h⟩ := h
      have M1 := pm_op_mono hop
      have M2 := pm_run_mono _ _ _ _ _ _ _ _ _ _ h
      refine pm_op_ok hcd hop (by omega) (by omega) hc0 hs0 F T hl (fun H' locs' ls' T' hl' => ?_)
      exact ih d y pc' L' st' w1 o w' h p e R s m args below meth c H' locs' ls' c0 s0 Q F T' hl' (by omega) (by omega) hR1 hR2 hret
    · obtain ⟨kd, j, a, mm, pl, nest, hcal, hkd, hlnk, h⟩ := h
      have F' := F
      obtain ⟨hx, hb, hr, hml, hown, hts, hlk, hnm, hfr, hlo, hy⟩ := F
      obtain ⟨hw, hmm⟩ := pm_L_words hy hlnk
      rcases h with h | h | h | h
      · obtain ⟨rfl, rfl, rfl, r, rest, rfl, hrest, h⟩ := h
        have hi : i = .invokespecial j := by
          rcases pm_cal_eq hcal with q | ⟨q, -⟩ | ⟨-, q⟩ | ⟨q, -⟩
          · cases q
          · cases q
          · exact q
          · cases q
        subst hi
        have D := pm_dec hcd 3 rfl (by decide)
        have hroom0 : ∀ stx, 2 * (F0 m pc ls stx).monitorRoom + ((rest.map (pm_v G)).map fun v => v.category).sum ≤ 8 := fun stx => lv_room (by rw [pm_cats_map]; exact hrest)
        refine W.objInit hx hb hown (hts _ (pm_gw_in hw rfl)) (hts _ (pm_gw_in (pm_isAt_in pm_oi0) rfl)) (hts _ (pm_gw_in (pm_isAt_in pm_oi1) rfl)) rfl (by rw [hml]; exact hl.1) (a := pm_al G r) (rest := rest.map (pm_v G)) rfl D (by omega) ?_ ?_
        · exact Nat.le_trans (Nat.add_le_add_right (hroom0 _) 12) (by omega)
        · exact ih d y (pc + 3) L rest w o w' h p e R s m args below meth c H locs ls c0 s0 Q F' T hl hc0 hs0 hR1 hR2 hret
      · obtain ⟨hm3, rfl, rfl, hd9, v, rest, ht, h⟩ := h
        have hi : i = .invokevirtual j := by
          rcases pm_cal_eq hcal with q | ⟨-, q⟩ | ⟨q, -⟩ | ⟨q, -⟩
          · cases q
          · exact q
          · cases q
          · cases q
        subst hi
        have D := pm_dec hcd 3 rfl (by decide)
        have M := pm_run_mono _ _ _ _ _ _ _ _ _ _ h
        refine pm_txt_ok F' T hl ht hd9 D hw (by omega) (by omega) ?_
        exact ih d y (pc + 3) L (v :: rest) w o w' h p e R s m args below meth c H locs ls c0 s0 Q F' T hl hc0 hs0 hR1 hR2 hret
      · obtain ⟨hm6, rfl, rfl, v, rest, ht, hrest, h⟩ := h
        have hi : i = .invokestatic j := by
          rcases pm_cal_eq hcal with q | ⟨q, -⟩ | ⟨q, -⟩ | ⟨-, q⟩
          · cases q
          · cases q
          · cases q
          · exact q
        subst hi
        have D := pm_dec hcd 3 rfl (by decide)
        have K := ih d y (pc + 3) L (v :: rest) w o w' h p e R s m args below meth c H locs ls c0 s0 Q F' T hl hc0 hs0 hR1 hR2 hret
        have hcats : ((rest.map (pm_v G)).map fun v => v.category).sum + 15 ≤ R.locals := by rw [pm_cats_map]; omega
        have hmls : c.maxLocals = ls.size := hml.trans hl.1.symm
        have M := pm_run_mono _ _ _ _ _ _ _ _ _ _ h
        have w0 := pm_mw0
        have w1 := pm_mw1
        have w2 := pm_mw2
        simp only [Bool.and_eq_true] at w0 w1 w2
        unfold pm_mathOp at ht
        split at ht
        · next x2 x rest' =>
          cases g3 : Nat.beq mm 3 with
          | true =>
            rw [g3] at ht
            cases ht
            rw [Nat.eq_of_beq_eq_true g3] at hw
            exact va_mmax hx hb hmls hown (hts _ (pm_gw_in hw rfl)) (hts _ (pm_gw_in (pm_isAt_in w0.1) rfl)) (hts _ (pm_gw_in (pm_isAt_in w0.2.1) rfl)) (hts _ (pm_gw_in (pm_isAt_in w0.2.2) rfl)) (by omega) (by omega) (by omega) (by omega) D K
          | false =>
            rw [g3] at ht
            obtain ⟨g4, ht⟩ := pm_ct ht
            cases ht
            rw [Nat.eq_of_beq_eq_true g4] at hw
            exact va_mmin hx hb hmls hown (hts _ (pm_gw_in hw rfl)) (hts _ (pm_gw_in (pm_isAt_in w1.1) rfl)) (hts _ (pm_gw_in (pm_isAt_in w1.2.1) rfl)) (hts _ (pm_gw_in (pm_isAt_in w1.2.2) rfl)) (by omega) (by omega) (by omega) (by omega) D K
        · obtain ⟨g4, ht⟩ := pm_ct ht
          cases ht
          rw [Nat.eq_of_beq_eq_true g4] at hw
          exact va_mmin_long hx hb hmls hown (hts _ (pm_gw_in hw rfl)) (hts _ (pm_gw_in (pm_isAt_in w2.1) rfl)) (hts _ (pm_gw_in (pm_isAt_in w2.2.1) rfl)) (hts _ (pm_gw_in (pm_isAt_in w2.2.2) rfl)) (by omega) (by omega) (by omega) (by omega) D K
        · cases ht
      · obtain ⟨hm5, d', ar, rest, o1, w1, rfl, rfl, hrest, hlen, hkind, h1, h⟩ := h
        have ht : mm - 6 < pm_nM := by
          rcases hmm with q | q
          · omega
          · exact q
        have hmn : pm_mnm mm = pm_name (mm - 6) := by
          unfold pm_mnm
          rw [pm_beq_f (by omega), pm_beq_f (by omega), pm_beq_f (by omega), pm_beq_f (by omega), pm_beq_f (by omega), pm_beq_f (by omega)]
          rfl
        rw [hmn] at hw
        generalize mm - 6 = t at *
        have MW := pm_M_words ht
        have M1 := pm_run_mono _ _ _ _ _ _ _ _ _ _ h1
        have M2 := pm_run_mono _ _ _ _ _ _ _ _ _ _ h
        have hM := pm_met ht ih h1 hlen
        have hst : (ar.reverse ++ rest).map (pm_v G) = (ar.map (pm_v G)).reverse ++ rest.map (pm_v G) := by rw [List.map_append, List.map_reverse]
        have hroom := lv_room (m := m) (pc := pc) (ls := ls) (rest := (ar.reverse ++ rest).map (pm_v G)) (st := rest.map (pm_v G)) (by rw [pm_cats_map]; exact hrest)
        have hfit : w.2.1 - c0 + (w1.2.1 - w.2.1) ≤ R.cells ∧ w.2.2 - s0 + (w1.2.2 - w.2.2) ≤ R.slots := ⟨by omega, by omega⟩
        have hRm : (pm_rm d' (w1.2.1 - w.2.1) (w1.2.2 - w.2.2)).frames + 1 ≤ R.frames ∧ 8 + (pm_ml t + 11) + (pm_rm d' (w1.2.1 - w.2.1) (w1.2.2 - w.2.2)).locals ≤ R.locals := by
          have := MW.2.2.2.2.2.2.1
          exact ⟨by show d' + 1 + 1 ≤ _; omega, by show 8 + (pm_ml t + 11) + 30 * (d' + 1) ≤ _; omega⟩
        have goOn : ∀ (H' : Heap) (locs' : List Loc), pm_At G s w1 H' locs' → W p l e R s m args below meth c H' locs' (w.2.1 - c0 + (w1.2.1 - w.2.1)) (w.2.2 - s0 + (w1.2.2 - w.2.2)) Q (F0 m (pc + 3) ls ((o1.map (pm_v G)).toList ++ rest.map (pm_v G))) := by
          intro H' locs' T'
          rw [pm_sub_add hc0 M1.1, pm_sub_add hs0 M1.2]
          have K := ih (d' + 1) y (pc + 3) L (o1.toList ++ rest) w1 o w' h p e R s m args below meth c H' locs' ls c0 s0 Q F' T' hl (by omega) (by omega) hR1 hR2 hret
          have e1 : (o1.toList ++ rest).map (pm_v G) = (o1.map (pm_v G)).toList ++ rest.map (pm_v G) := by cases o1 <;> rfl
          rw [e1] at K
          exact K
        have S : CallFix p m c (pm_bytes y) (pm_ml y) s args pm_gw (pm_on (pm_own y)) := ⟨hx, hb, hml, hown, hts⟩
        have hini := hts _ (pm_gw_in MW.2.2.1 rfl)
        rw [hst]
        rcases hkind with ⟨rfl, hnp, hstat⟩ | ⟨hk3, hnp, hstat, hcls, hk2, hn2⟩
        · have hi : i = .invokestatic j := by
            rcases pm_cal_eq hcal with q | ⟨q, -⟩ | ⟨q, -⟩ | ⟨-, q⟩
            · cases q
            · cases q
            · cases q
            · exact q
          subst hi
          have D := pm_dec hcd 3 rfl (by decide)
          have hsw := MW.2.1
          rw [hstat] at hsw
          cases gn : Nat.beq nest 0 with
          | true =>
            rw [gn] at hw
            refine pm_after (va_runS (As := ar.map (pm_v G)) (rest := rest.map (pm_v G)) S hM ⟨callB_of (pm_np t) hts (pm_wl_good ht) rfl rfl rfl hini (hts _ (pm_gw_in hw rfl)) MW.2.2.2.2.2.1 hRm, hts _ (pm_gw_in hsw rfl)⟩ (pm_preS T ar) rfl (by rw [List.length_map]; exact hnp) hl.1 rfl hroom D hfit) T goOn
          | false =>
            rw [gn] at hw
            refine pm_after (va_runSN (As := ar.map (pm_v G)) (rest := rest.map (pm_v G)) S hM ⟨va_cnB (pm_np t) hts (pm_wl_good ht) rfl rfl rfl (T.2.2.2.2.2.2.2.2.2.1 _ hw rfl) hini MW.2.2.2.2.2.1 hRm, hts _ (pm_gw_in hsw rfl), trivial⟩ (pm_preS T ar) rfl (by rw [List.length_map]; exact hnp) hl.1 rfl hroom D hfit) T goOn
        · obtain ⟨r, fs, hh, hg⟩ := pm_cls_eq hcls
          have hsw := MW.2.1
          rw [hstat] at hsw
          cases ar with
          | nil => cases hh
          | cons v0 As =>
            cases hh
            have hnp' : (As.map (pm_v G)).length = pm_np t := by
              rw [List.length_map]
              exact Nat.succ.inj hnp
            have hpS := pm_preS T (.ref r :: As)
            have e2 : ((Value.ref r :: As).map (pm_v G)).reverse ++ rest.map (pm_v G) = (As.map (pm_v G)).reverse ++ .ref (pm_al G r) :: rest.map (pm_v G) := by
              show (pm_v G (.ref r) :: As.map (pm_v G)).reverse ++ _ = _
              rw [List.reverse_cons, List.append_assoc]
              rfl
            rw [e2]
            by_cases k2 : kd = 2
            · subst k2
              have hi : i = .invokespecial j := by
                rcases pm_cal_eq hcal with q | ⟨q, -⟩ | ⟨-, q⟩ | ⟨q, -⟩
                · cases q
                · cases q
                · exact q
                · cases q
              subst hi
              have D := pm_dec hcd 3 rfl (by decide)
              have hret : pm_ret t = none := MW.2.2.2.2.2.2.2.2 (pm_ini_t (hk2 rfl))
              have hwl : pm_wl t = Jvm.Cond.code (pm_name t) (pm_bytes t) (pm_ml t) none :: pm_gw := by unfold pm_wl; rw [hret]
              cases gn : Nat.beq nest 0 with
              | true =>
                rw [gn] at hw
                exact pm_after (va_runI (As := As.map (pm_v G)) (rest := rest.map (pm_v G)) S hM ⟨callB_of (pm_np t) hts (pm_wl_good ht) hwl rfl rfl hini (hts _ (pm_gw_in hw rfl)) MW.2.2.2.2.2.1 hRm, pm_ini_t (hk2 rfl), hts _ (pm_gw_in hsw rfl)⟩ hpS rfl hnp' hl.1 rfl hroom D hfit) T goOn
              | false =>
                rw [gn] at hw
                exact pm_after (va_runIN (As := As.map (pm_v G)) (rest := rest.map (pm_v G)) S hM ⟨va_cnB (pm_np t) hts (pm_wl_good ht) hwl rfl rfl (T.2.2.2.2.2.2.2.2.2.1 _ hw rfl) hini MW.2.2.2.2.2.1 hRm, pm_ini_t (hk2 rfl), hts _ (pm_gw_in hsw rfl)⟩ hpS rfl hnp' hl.1 rfl hroom D hfit) T goOn
            · have hi : i = .invokevirtual j := by
                rcases pm_cal_eq hcal with q | ⟨-, q⟩ | ⟨q, -⟩ | ⟨q, -⟩
                · exact absurd q hkd
                · exact q
                · exact absurd q k2
                · exact absurd q hk3
              subst hi
              have D := pm_dec hcd 3 rfl (by decide)
              rw [(hn2 k2).1] at hw
              have hname := pm_ini_f ht (hn2 k2).2
              have O := pm_O_words (pm_own_lt13 ht)
              have eon : pm_on (pm_own t) = pm_nm (pm_own t) := by
                have h13 := pm_own_lt13 ht
                unfold pm_on
                rw [pm_beq_f (by omega)]
                rfl
              refine pm_after (va_runV (C := pm_on (pm_own t)) (b := pm_al G r) (As := As.map (pm_v G)) (rest := rest.map (pm_v G)) S hM ⟨callB_of (pm_np t) hts (pm_wl_good ht) rfl rfl rfl hini (hts _ (pm_gw_in hw rfl)) MW.2.2.2.2.2.1 hRm, hts _ (pm_gw_in hsw rfl), ?_⟩ ⟨hpS.1, ?_, hpS.2⟩ rfl hnp' hl.1 rfl hroom D hfit) T goOn
              · have q := hts _ (pm_gw_in (MW.2.2.2.1 hstat hname) rfl)
                rw [MW.2.2.2.2.2.2.2.1] at q
                exact q
              · rw [eon]
                exact va_recv T.1 (pm_cell T.2.1 hg) (ci := pm_own t) (q0 := 0) O.2.1 rfl
