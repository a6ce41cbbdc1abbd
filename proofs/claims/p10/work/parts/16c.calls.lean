/-! the symbolic run: calls, ends, stops -/
def ps_rI (f : Int32 → ps_S → Prop) : Option Value → ps_S → Prop
  | some (.int x), s => f x s
  | _, _ => False
def ps_rJ (f : Int64 → ps_S → Prop) : Option Value → ps_S → Prop
  | some (.long x), s => f x s
  | _, _ => False
def ps_rA (f : Nat → ps_S → Prop) : Option Value → ps_S → Prop
  | some (.ref x), s => f x s
  | _, _ => False
def ps_rV (f : ps_S → Prop) : Option Value → ps_S → Prop
  | none, s => f s
  | _, _ => False
def ps_rk (ret : Option FieldType) (f : List Value → ps_S → Prop) : Option Value → ps_S → Prop := match ret with
  | none => ps_rV (fun s => f [] s)
  | some .long => ps_rJ (fun x s => f [.long x] s)
  | some (.object _) => ps_rA (fun x s => f [.ref x] s)
  | some (.array _) => ps_rA (fun x s => f [.ref x] s)
  | some _ => ps_rI (fun x s => f [.int x] s)
theorem ps_rk_ok {ret : Option FieldType} {f : List Value → ps_S → Prop} {o : Option Value} {s : ps_S} (h : ps_rk ret f o s) : f o.toList s := by
  unfold ps_rk at h
  split at h
  · unfold ps_rV at h
    split at h
    · exact h
    · exact h.elim
  · unfold ps_rJ at h
    split at h
    · exact h
    · exact h.elim
  · unfold ps_rA at h
    split at h
    · exact h
    · exact h.elim
  · unfold ps_rA at h
    split at h
    · exact h
    · exact h.elim
  · unfold ps_rI at h
    split at h
    · exact h
    · exact h.elim
def ps_ret (ret : Option FieldType) (i : Instr) (st : List Value) (s : ps_S) (Q : Option Value → ps_S → Prop) : Prop := match i, st with
  | .ireturn, [.int x] => (match ret with
    | some .int => Q (some (.int x)) s
    | some .boolean => ps_nd (decide (x &&& 1 = x)) (Q (some (.int x)) s)
    | _ => False)
  | .lreturn, [.long x] => (match ret with
    | some .long => Q (some (.long x)) s
    | _ => False)
  | .areturn, [.ref x] => (match ret with
    | some (.object _) => Q (some (.ref x)) s
    | _ => False)
  | .return_, [] => (match ret with
    | none => Q none s
    | _ => False)
  | _, _ => False
def ps_call (d kd mm nest pc : Nat) (L : pm_L) (st : List Value) (s : ps_S) (k : ps_k) : Prop := match d with
  | 0 => False
  | d' + 1 => cond (Nat.ble (pm_na kd mm) st.length && Nat.ble (pm_cats (st.drop (pm_na kd mm))) 8 && Nat.ble (lg_sl (st.take (pm_na kd mm)).reverse).length (pm_ml (mm - 6)) && Nat.blt 5 mm)
    (cond (Nat.beq kd 3) (cond (pm_st (mm - 6)) (ps_Cl d' (mm - 6) (st.take (pm_na kd mm)).reverse s (ps_rk (pm_ret (mm - 6)) (fun v s' => k (pc + 3) L (v ++ st.drop (pm_na kd mm)) s'))) False)
      (match (st.take (pm_na kd mm)).reverse.head? with
      | some (.ref r) => cond (!pm_st (mm - 6) && (cond (Nat.beq kd 2) (pm_ini (mm - 6)) (Nat.beq nest 0 && !pm_ini (mm - 6))) && Nat.blt (pm_own (mm - 6)) 13) (ps_nk (ps_is r (pm_own (mm - 6))) (ps_Cl d' (mm - 6) (st.take (pm_na kd mm)).reverse s (ps_rk (pm_ret (mm - 6)) (fun v s' => k (pc + 3) L (v ++ st.drop (pm_na kd mm)) s')))) False
      | _ => False)) False
def ps_body (k : ps_k) (d y : Nat) (Q : Option Value → ps_S → Prop) (pc : Nat) (L : pm_L) (st : List Value) (s : ps_S) : Prop := match pm_code y pc with
  | none => False
  | some (i, _) => cond (pm_isR i) (ps_ret (pm_ret y) i st s Q) (match pm_cal i with
    | (0, _) => ps_op (pm_own y) (pm_ml y) i pc L st s k
    | (kd, j) => match pm_l4 (pm_ML (pm_own y)) j with
      | none => False
      | some (_, mm, _, nest) => cond (Nat.blt mm 6) (match pm_mathOp mm st with
          | some q => cond (Nat.blt 2 mm && Nat.beq kd 3 && Nat.ble (pm_cats q.2) 8 && Nat.beq nest 0) (k (pc + 3) L (q.1 :: q.2) s) False
          | none => False) (ps_call d kd mm nest pc L st s k))
theorem pm_T.math {X : Option (Nat × (Nat → Int32))} {d y pc k j a mm pl nest : Nat} {L : pm_L} {st rest : List Value} {w : pm_W} {r : Option Value × pm_W} {i : Instr} {v : Value} (hc : pm_code y pc = some (i, k)) (hR : pm_isR i = false) (hcal : pm_cal i = (3, j)) (hl : pm_l4 (pm_ML (pm_own y)) j = some (a, mm, pl, nest)) (h2 : 2 < mm) (h6 : mm < 6) (hm : pm_mathOp mm st = some (v, rest)) (hn : (Nat.ble (pm_cats rest) 8 && Nat.beq nest 0) = true) (h : pm_T X d y (pc + 3) L (v :: rest) w r) : pm_T X d y pc L st w r := by
  obtain ⟨n, h⟩ := h
  refine ⟨n + 1, ?_⟩
  rw [pm_run_succ]
  unfold pm_body
  rw [hc]
  dsimp only
  rw [hR, hcal, cond_false]
  split
  · next z hz => cases hz
  next kd2 j2 hne hz =>
  cases hz
  rw [hl]
  dsimp only
  rw [pm_beq_f (show mm ≠ 0 by omega), show Nat.blt mm 3 = false from by rw [Bool.eq_false_iff]; intro q; have := Nat.le_of_ble_eq_true q; omega, show Nat.blt mm 6 = true from Nat.ble_eq_true_of_le h6]
  rw [cond_false, cond_false, cond_true, hm]
  dsimp only
  rw [Bool.and_eq_true] at hn
  rw [hn.1, hn.2]
  exact h
theorem ps_body_ok {k : ps_k} {d y pc : Nat} {L : pm_L} {st : List Value} {s : ps_S} {Q : Option Value → ps_S → Prop} (hn : ps_nu L) (h : ps_body k d y Q pc L st s) (hk : ∀ (pc' : Nat) (L' : pm_L) (st' : List Value) (s' : ps_S), ps_nu L' → k pc' L' st' s' → ps_At d y pc' L' st' s' Q) : ps_At d y pc L st s Q := by
  intro w Lp hw hL
  unfold ps_body at h
  split at h
  · exact h.elim
  next i n hcd =>
  cases hR : pm_isR i with
  | true =>
    rw [hR, cond_true] at h
    have key : ∃ o, pm_rtn (pm_ret y) i st = some o ∧ Q o s := by
      unfold ps_ret at h
      split at h
      · split at h
        · next e => rw [e]; exact ⟨_, rfl, h⟩
        · next e =>
          obtain ⟨h1, h⟩ := ps_nd_e h
          rw [e]
          refine ⟨_, ?_, h⟩
          unfold pm_rtn
          dsimp only
          rw [h1]
          rfl
        · exact h.elim
      · split at h
        · next e => rw [e]; exact ⟨_, rfl, h⟩
        · exact h.elim
      · split at h
        · next e => rw [e]; exact ⟨_, rfl, h⟩
        · exact h.elim
      · split at h
        · next e => rw [e]; exact ⟨_, rfl, h⟩
        · exact h.elim
      · exact h.elim
    obtain ⟨o, h1, h2⟩ := key
    exact pm_H.ret hcd hR h1 ⟨s, hw, h2⟩
  | false =>
    rw [hR, cond_false] at h
    split at h
    · next z hcal =>
      obtain ⟨pc', L', Lp', st', w', s', hop, hw', hL', hn', hk'⟩ := ps_op_ok (b := pm_ini y) hw hL hn h
      have q := hk _ _ _ _ hn' hk' w' Lp' hw' hL'
      have hcal0 : pm_cal i = (0, 0) := by
        cases i <;> first
          | rfl
          | (cases hcal; done)
      exact pm_H.go hcd hR hcal0 hop q
    · next kd j hne hcal =>
      split at h
      · exact h.elim
      next a mm pl nest hl =>
      have hkd : kd ≠ 0 := fun z => hne z
      cases g6 : Nat.blt mm 6 with
      | true =>
        rw [g6, cond_true] at h
        split at h
        · next q hq =>
          obtain ⟨h1, hq2⟩ := ps_cc h
          rw [Bool.and_eq_true, Bool.and_eq_true, Bool.and_eq_true] at h1
          obtain ⟨⟨⟨m1, m2⟩, m3⟩, m4⟩ := h1
          have e3 := Nat.eq_of_beq_eq_true m2
          subst e3
          obtain ⟨o, w', t1, t2⟩ := hk _ _ _ _ hn hq2 w Lp hw hL
          refine ⟨o, w', ?_, t2⟩
          exact pm_T.math hcd hR hcal hl (Nat.le_of_ble_eq_true m1) (Nat.le_of_ble_eq_true g6) hq (by rw [m3, m4]; rfl) t1
        · exact h.elim
      | false =>
        rw [g6, cond_false] at h
        unfold ps_call at h
        split at h
        · exact h.elim
        next d' =>
        obtain ⟨h1, h⟩ := ps_cc h
        rw [Bool.and_eq_true] at h1
        obtain ⟨h1, h5⟩ := h1
        have fin : ∀ (hck : pm_ckd kd mm nest st w = true) (hc : ps_Cl d' (mm - 6) (st.take (pm_na kd mm)).reverse s (ps_rk (pm_ret (mm - 6)) (fun v s' => k (pc + 3) L (v ++ st.drop (pm_na kd mm)) s'))), pm_H none (d' + 1) y pc Lp st w (fun o w' => ∃ s', ps_R w' s' ∧ Q o s') := by
          intro hck hc
          refine pm_H.call hcd hR hcal hkd hl (Nat.le_of_ble_eq_true h5) rfl hck (hc w _ hw (ps_le_refl _)) (fun o1 w1 q => ?_)
          obtain ⟨s1, q1, q2⟩ := q
          have q3 : k (pc + 3) L (o1.toList ++ st.drop (pm_na kd mm)) s1 := ps_rk_ok q2
          exact hk _ _ _ _ hn q3 w1 Lp q1 hL
        cases g3 : Nat.beq kd 3 with
        | true =>
          rw [g3, cond_true] at h
          obtain ⟨h7, h⟩ := ps_cc h
          refine fin ?_ h
          unfold pm_ckd
          rw [g3, h7, h1]
          rfl
        | false =>
          rw [g3, cond_false] at h
          split at h
          · next r hr =>
            obtain ⟨h7, h⟩ := ps_cc h
            obtain ⟨h8, h⟩ := ps_nk_e h
            rw [Bool.and_eq_true] at h7
            refine fin ?_ h
            obtain ⟨fs, e1, -, -⟩ := ps_get_ob hw (Nat.le_of_ble_eq_true h7.2) h8
            rw [Bool.and_eq_true] at h7
            unfold pm_ckd
            rw [hr]
            unfold pm_cls
            dsimp only
            rw [e1]
            dsimp only
            rw [g3, h1, Nat.beq_refl, h7.1.1]
            have h9 := h7.1.2
            cases g2 : Nat.beq kd 2 with
            | true => rw [g2, cond_true] at h9; rw [cond_true, h9]; rfl
            | false => rw [g2, cond_false] at h9; rw [cond_false, h9]; rfl
          · exact h.elim
def ps_sel (L : pm_L) : List Nat → Option pm_L
  | [] => some []
  | i :: l => match pm_lk L i, ps_sel L l with
    | some v, some L' => some ((i, v) :: L')
    | _, _ => none
theorem ps_sel_ok {L : pm_L} : ∀ {l : List Nat} {L' : pm_L}, ps_sel L l = some L' → ps_le L' L
  | [], L', h => by
    cases h
    intro i v hv
    cases hv
  | i :: l, L', h => by
    unfold ps_sel at h
    split at h
    · next v L2 h1 h2 =>
      cases h
      intro j u hj
      unfold pm_lk at hj
      cases e : Nat.beq i j with
      | true =>
        rw [e] at hj
        cases hj
        rw [← Nat.eq_of_beq_eq_true e]
        exact h1
      | false =>
        rw [e] at hj
        exact ps_sel_ok h2 j u hj
    · cases h
/-- a run of at most n steps; it ends at the stops, each with the locals that are named there -/
def ps_wp (stops : List (Nat × List Nat)) : Nat → Nat → Nat → (Option Value → ps_S → Prop) → Nat → pm_L → List Value → ps_S → Prop
  | 0, _, _, _, _, _, _, _ => False
  | n + 1, d, y, Q, pc, L, st, s => ps_body (fun pc L st s => match stops.find? (fun q => Nat.beq pc q.1) with
    | some q => (match ps_sel L q.2 with
      | some L' => ps_At d y pc L' st s Q
      | none => False)
    | none => ps_wp stops n d y Q pc L st s) d y Q pc L st s
theorem ps_wp_ok {stops : List (Nat × List Nat)} : ∀ {n d y : Nat} {Q : Option Value → ps_S → Prop} {pc : Nat} {L : pm_L} {st : List Value} {s : ps_S}, ps_nu L → ps_wp stops n d y Q pc L st s → ps_At d y pc L st s Q
  | 0, _, _, _, _, _, _, _, _, h => h.elim
  | n + 1, d, y, Q, pc, L, st, s, hn, h => by
    refine ps_body_ok hn h (fun pc' L' st' s' hn' h' => ?_)
    split at h'
    · next q hq =>
      split at h'
      · next L2 h2 =>
        intro w Lp hw hL
        exact h' w Lp hw (fun i v hv => hL i v (ps_sel_ok h2 i v hv))
      · exact h'.elim
    · exact ps_wp_ok hn' h'

def ps_nub : pm_L → Bool
  | [] => true
  | q :: L => (L.all (fun p => !Nat.beq p.1 q.1)) && ps_nub L
theorem ps_nu_of : ∀ {L : pm_L}, ps_nub L = true → ps_nu L
  | [], _ => List.nodup_nil
  | q :: L, h => by
    unfold ps_nub at h
    rw [Bool.and_eq_true] at h
    unfold ps_nu
    rw [List.map_cons, List.nodup_cons]
    refine ⟨fun z => ?_, ps_nu_of h.2⟩
    obtain ⟨p, hp, e⟩ := List.mem_map.mp z
    have k := List.all_eq_true.mp h.1 p hp
    rw [e, Nat.beq_refl] at k
    cases k
theorem ps_wp_at {stops : List (Nat × List Nat)} {n d y pc : Nat} {Q : Option Value → ps_S → Prop} {L : pm_L} {st : List Value} {s : ps_S} (h : ps_wp stops n d y Q pc L st s) (hn : ps_nub L = true) : ps_At d y pc L st s Q := ps_wp_ok (ps_nu_of hn) h
