/-! PARTIAL RUNS: what holds behind a run, should it end: no test is asked for, each is given -/
def pl_At (n y pc : Nat) (L : pm_L) (st : List Value) (s : ps_S) (Q : Option Value → ps_S → Prop) : Prop := ∀ (m d : Nat) (w : pm_W) (Lp : pm_L) (o : Option Value) (w' : pm_W), m < n → ps_R w s → ps_le L Lp → pm_run none m d y pc Lp st w = some (o, w') → ∃ s', ps_R w' s' ∧ Q o s'
def pl_Cl (n t : Nat) (args : List Value) (s : ps_S) (Q : Option Value → ps_S → Prop) : Prop := pl_At n t 0 (lv_args 0 args) [] s Q
theorem pl_At.mono {n y pc : Nat} {L : pm_L} {st : List Value} {s : ps_S} {Q Q' : Option Value → ps_S → Prop} (h : pl_At n y pc L st s Q) (k : ∀ o s', Q o s' → Q' o s') : pl_At n y pc L st s Q' := by
  intro m d w Lp o w' hm hR hL hr
  obtain ⟨s', h1, h2⟩ := h m d w Lp o w' hm hR hL hr
  exact ⟨s', h1, k o s' h2⟩
theorem pl_At.le {n n' y pc : Nat} {L : pm_L} {st : List Value} {s : ps_S} {Q : Option Value → ps_S → Prop} (hn : n' ≤ n) (h : pl_At n y pc L st s Q) : pl_At n' y pc L st s Q := fun m d w Lp o w' hm hR hL hr => h m d w Lp o w' (Nat.lt_of_lt_of_le hm hn) hR hL hr
theorem pl_At_0 {y pc : Nat} {L : pm_L} {st : List Value} {s : ps_S} {Q : Option Value → ps_S → Prop} : pl_At 0 y pc L st s Q := fun _ _ _ _ _ _ hm => absurd hm (Nat.not_lt_zero _)
theorem pl_get {w : pm_W} {s : ps_S} (hR : ps_R w s) {r : Nat} {e : pm_E} (h : pm_get w r = some e) : r < 1179 ∧ pm_kind e = ps_K r := by
  obtain ⟨h1, h2⟩ := pm_get_ok h
  have hr : r < 1179 := by rw [hR.1] at h1; exact h1
  exact ⟨hr, by rw [← h2]; exact (hR.2 r hr).1⟩
theorem pl_is {w : pm_W} {s : ps_S} (hR : ps_R w s) {r c : Nat} {fs : List Value} (h : pm_get w r = some (.inr (c, fs))) : ps_is r c = true := by
  have k := (pl_get hR h).2
  unfold ps_is
  rw [← k]
  exact Nat.beq_refl c
theorem pl_ar {w : pm_W} {s : ps_S} (hR : ps_R w s) {r t n : Nat} {f : pm_C} (h : pm_get w r = some (.inl (t, n, f))) : ps_ar r t = true ∧ ps_ln r = n ∧ (ps_K r).1 = 0 := by
  have k := (pl_get hR h).2
  unfold ps_ar ps_ln
  rw [← k]
  exact ⟨Nat.beq_refl t, rfl, rfl⟩
/-- what is given: where it isn't so, nothing is asked -/
def pl_nk (b : Bool) (P : Prop) : Prop := cond b P True
theorem pl_nk_i {b : Bool} {P : Prop} (h : b = true → P) : pl_nk b P := by
  cases b
  · exact trivial
  · exact h rfl
theorem pl_nk_e {b : Bool} {P : Prop} (hb : b = true) (h : pl_nk b P) : P := by rw [hb] at h; exact h
def pl_op (own nL : Nat) (i : Instr) (pc : Nat) (L : pm_L) (st : List Value) (s : ps_S) (k : ps_k) : Prop :=
  match i with
  | .idiv => match st with
    | .int y :: .int x :: rest => pl_nk (!decide (y = 0)) (k (pc + 1) L (.int (x / y) :: rest) s)
    | _ => False
  | .irem => match st with
    | .int y :: .int x :: rest => pl_nk (!decide (y = 0)) (k (pc + 1) L (.int (x - (x / y) * y) :: rest) s)
    | _ => False
  | .getfield j => match st with
    | .ref r :: rest => match pm_l4 (pm_FL own) j with
      | some (_, c, q, _) => cond (Nat.blt c 13 && Nat.blt q (pm_Ts c).length) (pl_nk (ps_is r c) (k (pc + 3) L (ps_fv s c r q :: rest) s)) False
      | none => False
    | _ => False
  | .putfield j => match st with
    | v :: .ref r :: rest => match pm_l4 (pm_FL own) j with
      | some (_, c, q, _) => cond (Nat.blt c 13 && Nat.blt q (pm_Ts c).length && !ps_fin c q) (pl_nk (ps_is r c) (match (pm_Ts c).getD q .int, v with
        | .int, .int x => k (pc + 3) L rest (ps_ui s r q x)
        | .boolean, .int x => pl_nk (decide (x &&& 1 = x)) (k (pc + 3) L rest (ps_ui s r q x))
        | .long, .long x => k (pc + 3) L rest (ps_uj s r q x)
        | .object _, .ref x => k (pc + 3) L rest (ps_ur s r q x)
        | .array _, .ref x => k (pc + 3) L rest (ps_ur s r q x)
        | _, _ => False)) False
      | none => False
    | _ => False
  | .iaload => match st with
    | .int i :: .ref r :: rest => pl_nk (ps_ar r 0) (pm_in i (ps_ln r) = true → k (pc + 1) L (.int (ps_a s r i.toNatClampNeg) :: rest) s)
    | _ => False
  | .baload => match st with
    | .int i :: .ref r :: rest => pl_nk (ps_ar r 1 || ps_ar r 2) (pm_in i (ps_ln r) = true → k (pc + 1) L (.int (ps_a s r i.toNatClampNeg) :: rest) s)
    | _ => False
  | .laload => match st with
    | .int i :: .ref r :: rest => pl_nk (ps_ar r 3) (pm_in i (ps_ln r) = true → k (pc + 1) L (.long (ps_b s r i.toNatClampNeg) :: rest) s)
    | _ => False
  | .aaload => match st with
    | .int i :: .ref r :: rest => pl_nk (ps_ar r 4 || ps_ar r 5 || ps_ar r 6 || ps_ar r 7) (pm_in i (ps_ln r) = true → k (pc + 1) L (.ref (ps_e0 r i.toNatClampNeg) :: rest) s)
    | _ => False
  | .iastore => match st with
    | .int x :: .int i :: .ref r :: rest => pl_nk (ps_ar r 0) (pm_in i (ps_ln r) = true → k (pc + 1) L rest (ps_ua s r i.toNatClampNeg x))
    | _ => False
  | .bastore => match st with
    | .int x :: .int i :: .ref r :: rest => pl_nk (ps_ar r 1 || ps_ar r 2) (pm_in i (ps_ln r) = true → k (pc + 1) L rest (ps_ua s r i.toNatClampNeg (cond (ps_ar r 1) x.toInt8.toInt32 (x &&& 1))))
    | _ => False
  | .lastore => match st with
    | .long x :: .int i :: .ref r :: rest => pl_nk (ps_ar r 3) (pm_in i (ps_ln r) = true → k (pc + 1) L rest (ps_ub s r i.toNatClampNeg x))
    | _ => False
  | .arraylength => match st with
    | .ref r :: rest => pl_nk (Nat.beq (ps_K r).1 0) (k (pc + 1) L (.int (nI (ps_ln r)) :: rest) s)
    | _ => False
  | i => ps_op own nL i pc L st s k
section PLO
variable {own nL pc : Nat} {b : Bool} {L Lp : pm_L} {st : List Value} {s : ps_S} {w : pm_W} {k : ps_k}
theorem pl_cc {b : Bool} {P : Prop} (h : cond b P False) : b = true ∧ P := ps_nd_e h
theorem pl_cb {b : Bool} {P : Prop} (h1 : b = true) (h : P) : cond b P False := by rw [h1]; exact h
set_option maxHeartbeats 4000000 in
theorem pl_op_ok {i : Instr} {q : Nat × pm_L × List Value × pm_W} (hR : ps_R w s) (ho : pm_op none own nL b i pc Lp st w = some q) (h : pl_op own nL i pc L st s k) : ps_op own nL i pc L st s k := by
  unfold pl_op at h
  split at h
  · split at h
    · next y x rest =>
      have hy : (!decide (y = 0)) = true := by
        cases e : decide (y = 0) with
        | false => rfl
        | true =>
          unfold pm_op at ho
          dsimp only at ho
          rw [e] at ho
          cases ho
      exact ps_nd_i hy (pl_nk_e hy h)
    · exact h.elim
  · split at h
    · next y x rest =>
      have hy : (!decide (y = 0)) = true := by
        cases e : decide (y = 0) with
        | false => rfl
        | true =>
          unfold pm_op at ho
          dsimp only at ho
          rw [e] at ho
          cases ho
      exact ps_nd_i hy (pl_nk_e hy h)
    · exact h.elim
  · -- getfield
    next j =>
    split at h
    · next r rest =>
      split at h
      · next a c q pl hl =>
        obtain ⟨h1, h⟩ := pl_cc h
        have e1 : ps_is r c = true := by
          unfold pm_op at ho
          dsimp only at ho
          rw [hl] at ho
          dsimp only at ho
          split at ho
          · next c' fs g =>
            obtain ⟨hc, -⟩ := pm_ct ho
            rw [Nat.eq_of_beq_eq_true hc]
            exact pl_is hR g
          · cases ho
        unfold ps_op
        dsimp only
        rw [hl]
        exact pl_cb h1 (ps_nk_i e1 (pl_nk_e e1 h))
      · exact h.elim
    · exact h.elim
  · -- putfield
    next j =>
    split at h
    · next v r rest =>
      split at h
      · next a c q pl hl =>
        obtain ⟨h1, h⟩ := pl_cc h
        have e1 : ps_is r c = true ∧ pm_okv ((pm_Ts c).getD q .int) v = true := by
          unfold pm_op at ho
          dsimp only at ho
          rw [hl] at ho
          dsimp only at ho
          split at ho
          · next c' fs g =>
            obtain ⟨hc, -⟩ := pm_ct ho
            rw [Bool.and_eq_true, Bool.and_eq_true, Bool.and_eq_true] at hc
            obtain ⟨⟨⟨hc, -⟩, hv⟩, -⟩ := hc
            have hc := Nat.eq_of_beq_eq_true hc
            subst hc
            exact ⟨pl_is hR g, hv⟩
          · cases ho
        obtain ⟨e1, e2⟩ := e1
        have h := pl_nk_e e1 h
        unfold ps_op
        dsimp only
        rw [hl]
        refine pl_cb h1 (ps_nk_i e1 ?_)
        generalize (pm_Ts c).getD q .int = ty at h e2 ⊢
        split at h
        · exact h
        · exact ps_nd_i e2 (pl_nk_e e2 h)
        · exact h
        · exact h
        · exact h
        · exact h.elim
      · exact h.elim
    · exact h.elim
  · -- iaload
    split at h
    · next i r rest =>
      have e1 : ps_ar r 0 = true ∧ pm_in i (ps_ln r) = true := by
        unfold pm_op at ho
        dsimp only at ho
        cases hb : Nat.beq r pm_SC with
        | true => rw [hb] at ho; cases ho
        | false =>
          rw [hb, cond_false] at ho
          split at ho
          · next t n f g =>
            obtain ⟨hc, -⟩ := pm_ct ho
            rw [Bool.and_eq_true] at hc
            have ht := Nat.eq_of_beq_eq_true hc.1
            subst ht
            obtain ⟨g1, g2, -⟩ := pl_ar hR g
            rw [g2]
            exact ⟨g1, hc.2⟩
          · cases ho
      exact ps_nk_i e1.1 (ps_nd_i e1.2 (pl_nk_e e1.1 h e1.2))
    · exact h.elim
  · -- baload
    split at h
    · next i r rest =>
      have e1 : (ps_ar r 1 || ps_ar r 2) = true ∧ pm_in i (ps_ln r) = true := by
        unfold pm_op at ho
        dsimp only at ho
        split at ho
        · next t n f g =>
          obtain ⟨hc, -⟩ := pm_ct ho
          rw [Bool.and_eq_true, Bool.or_eq_true] at hc
          obtain ⟨g1, g2, -⟩ := pl_ar hR g
          rw [g2]
          refine ⟨?_, hc.2⟩
          rcases hc.1 with ht | ht
          · rw [Nat.eq_of_beq_eq_true ht] at g1; rw [g1]; rfl
          · rw [Nat.eq_of_beq_eq_true ht] at g1; rw [g1, Bool.or_true]
        · cases ho
      exact ps_nk_i e1.1 (ps_nd_i e1.2 (pl_nk_e e1.1 h e1.2))
    · exact h.elim
  · -- laload
    split at h
    · next i r rest =>
      have e1 : ps_ar r 3 = true ∧ pm_in i (ps_ln r) = true := by
        unfold pm_op at ho
        dsimp only at ho
        split at ho
        · next t n f g =>
          obtain ⟨hc, -⟩ := pm_ct ho
          rw [Bool.and_eq_true] at hc
          obtain ⟨g1, g2, -⟩ := pl_ar hR g
          rw [g2]
          rw [Nat.eq_of_beq_eq_true hc.1] at g1
          exact ⟨g1, hc.2⟩
        · cases ho
      exact ps_nk_i e1.1 (ps_nd_i e1.2 (pl_nk_e e1.1 h e1.2))
    · exact h.elim
  · -- aaload
    split at h
    · next i r rest =>
      have e1 : (ps_ar r 4 || ps_ar r 5 || ps_ar r 6 || ps_ar r 7) = true ∧ pm_in i (ps_ln r) = true := by
        unfold pm_op at ho
        dsimp only at ho
        split at ho
        · next t n f g =>
          obtain ⟨hc, -⟩ := pm_ct ho
          rw [Bool.and_eq_true, Bool.and_eq_true] at hc
          obtain ⟨g1, g2, -⟩ := pl_ar hR g
          rw [g2]
          refine ⟨?_, hc.2⟩
          have t1 := Nat.le_of_ble_eq_true hc.1.1
          have t2 := Nat.le_of_ble_eq_true hc.1.2
          rcases (show t = 4 ∨ t = 5 ∨ t = 6 ∨ t = 7 from by omega) with rfl | rfl | rfl | rfl
          · rw [g1]; rfl
          · rw [g1]; simp
          · rw [g1]; simp
          · rw [g1]; simp
        · cases ho
      exact ps_nk_i e1.1 (ps_nd_i e1.2 (pl_nk_e e1.1 h e1.2))
    · exact h.elim
  · -- iastore
    split at h
    · next x i r rest =>
      have e1 : ps_ar r 0 = true ∧ pm_in i (ps_ln r) = true := by
        unfold pm_op at ho
        dsimp only at ho
        split at ho
        · next t n f g =>
          obtain ⟨hc, -⟩ := pm_ct ho
          rw [Bool.and_eq_true] at hc
          obtain ⟨g1, g2, -⟩ := pl_ar hR g
          rw [g2]
          rw [Nat.eq_of_beq_eq_true hc.1] at g1
          exact ⟨g1, hc.2⟩
        · cases ho
      exact ps_nk_i e1.1 (ps_nd_i e1.2 (pl_nk_e e1.1 h e1.2))
    · exact h.elim
  · -- bastore
    split at h
    · next x i r rest =>
      have e1 : (ps_ar r 1 || ps_ar r 2) = true ∧ pm_in i (ps_ln r) = true := by
        unfold pm_op at ho
        dsimp only at ho
        split at ho
        · next t n f g =>
          obtain ⟨hc, -⟩ := pm_ct ho
          rw [Bool.and_eq_true, Bool.or_eq_true] at hc
          obtain ⟨g1, g2, -⟩ := pl_ar hR g
          rw [g2]
          refine ⟨?_, hc.2⟩
          rcases hc.1 with ht | ht
          · rw [Nat.eq_of_beq_eq_true ht] at g1; rw [g1]; rfl
          · rw [Nat.eq_of_beq_eq_true ht] at g1; rw [g1, Bool.or_true]
        · cases ho
      exact ps_nk_i e1.1 (ps_nd_i e1.2 (pl_nk_e e1.1 h e1.2))
    · exact h.elim
  · -- lastore
    split at h
    · next x i r rest =>
      have e1 : ps_ar r 3 = true ∧ pm_in i (ps_ln r) = true := by
        unfold pm_op at ho
        dsimp only at ho
        split at ho
        · next t n f g =>
          obtain ⟨hc, -⟩ := pm_ct ho
          rw [Bool.and_eq_true] at hc
          obtain ⟨g1, g2, -⟩ := pl_ar hR g
          rw [g2]
          rw [Nat.eq_of_beq_eq_true hc.1] at g1
          exact ⟨g1, hc.2⟩
        · cases ho
      exact ps_nk_i e1.1 (ps_nd_i e1.2 (pl_nk_e e1.1 h e1.2))
    · exact h.elim
  · -- arraylength
    split at h
    · next r rest =>
      have e1 : Nat.beq (ps_K r).1 0 = true := by
        unfold pm_op at ho
        dsimp only at ho
        cases hb : Nat.beq r pm_SC with
        | true => rw [hb] at ho; cases ho
        | false =>
          rw [hb, cond_false] at ho
          split at ho
          · next t a g =>
            obtain ⟨n, f⟩ := a
            rw [(pl_ar hR g).2.2]
            rfl
          · cases ho
      exact ps_nk_i e1 (pl_nk_e e1 h)
    · exact h.elim
  · exact h
end PLO
def pl_ret (ret : Option FieldType) (i : Instr) (st : List Value) (s : ps_S) (Q : Option Value → ps_S → Prop) : Prop := match i, st with
  | .ireturn, [.int x] => (match ret with
    | some .int => Q (some (.int x)) s
    | some .boolean => pl_nk (decide (x &&& 1 = x)) (Q (some (.int x)) s)
    | _ => False)
  | .lreturn, [.long x] => (match ret with
    | some .long => Q (some (.long x)) s
    | _ => False)
  | .areturn, [.ref x] => (match ret with
    | some (.object _) => Q (some (.ref x)) s
    | _ => False)
  | .return_, [] => (match ret with
    | none => Q none s
    | _ => False)
  | _, _ => False
def pl_body (n : Nat) (k : ps_k) (y : Nat) (Q : Option Value → ps_S → Prop) (pc : Nat) (L : pm_L) (st : List Value) (s : ps_S) : Prop := match pm_code y pc with
  | none => False
  | some (i, _) => cond (pm_isR i) (pl_ret (pm_ret y) i st s Q) (match pm_cal i with
    | (0, _) => pl_op (pm_own y) (pm_ml y) i pc L st s k
    | (kd, j) => match pm_l4 (pm_ML (pm_own y)) j with
      | none => False
      | some (_, mm, _, _) => cond (Nat.blt mm 6) (cond (Nat.blt 2 mm) (match pm_mathOp mm st with
          | some q => k (pc + 3) L (q.1 :: q.2) s
          | none => False) False) (pl_Cl n (mm - 6) (st.take (pm_na kd mm)).reverse s (ps_rk (pm_ret (mm - 6)) (fun v s' => k (pc + 3) L (v ++ st.drop (pm_na kd mm)) s'))))
theorem pl_body_ok {k : ps_k} {n m d y pc : Nat} {L Lp : pm_L} {st : List Value} {s : ps_S} {w w' : pm_W} {o : Option Value} {Q : Option Value → ps_S → Prop} (hn : ps_nu L) (hR : ps_R w s) (hL : ps_le L Lp) (h : pl_body n k y Q pc L st s) (hm : m < n) (hr : pm_run none (m + 1) d y pc Lp st w = some (o, w')) (hk : ∀ (pc' : Nat) (L' Lp' : pm_L) (st' : List Value) (s' : ps_S) (w2 : pm_W), ps_nu L' → k pc' L' st' s' → ps_R w2 s' → ps_le L' Lp' → pm_run none m d y pc' Lp' st' w2 = some (o, w') → ∃ s', ps_R w' s' ∧ Q o s') : ∃ s', ps_R w' s' ∧ Q o s' := by
  rw [pm_run_succ] at hr
  unfold pm_body at hr
  unfold pl_body at h
  split at h
  · exact h.elim
  next i z hcd =>
  rw [hcd] at hr
  (try dsimp only at hr)
  cases hRt : pm_isR i with
  | true =>
    rw [hRt, cond_true] at h hr
    unfold pl_ret at h
    split at h
    · next x =>
      unfold pm_rtn at hr
      split at h
      · next e => rw [e] at hr; (try dsimp only at hr); cases hr; exact ⟨s, hR, h⟩
      · next e =>
        rw [e] at hr
        (try dsimp only at hr)
        cases e2 : decide (x &&& 1 = x) with
        | true => rw [e2] at hr; cases hr; exact ⟨s, hR, pl_nk_e e2 h⟩
        | false => rw [e2] at hr; cases hr
      · exact h.elim
    · split at h
      · next e => rw [e] at hr; cases hr; exact ⟨s, hR, h⟩
      · exact h.elim
    · split at h
      · next e => rw [e] at hr; cases hr; exact ⟨s, hR, h⟩
      · exact h.elim
    · split at h
      · next e => rw [e] at hr; cases hr; exact ⟨s, hR, h⟩
      · exact h.elim
    · exact h.elim
  | false =>
    rw [hRt, cond_false] at h hr
    split at h
    · next z hcal =>
      rw [hcal] at hr
      split at hr
      · next z2 hz =>
        split at hr
        · next pc' L' st' c n' k' hop =>
          have hp := pl_op_ok hR hop h
          obtain ⟨pc2, L2, Lp2, st2, w2, s2, hop2, hw2, hL2, hn2, hk2⟩ := ps_op_ok (b := pm_ini y) hR hL hn hp
          rw [hop] at hop2
          cases hop2
          exact hk _ _ _ _ _ _ hn2 hk2 hw2 hL2 hr
        · cases hr
      · next kd2 j2 hne2 hz =>
        cases hz
        exact (hne2 rfl).elim
    · next kd j hne hcal =>
      rw [hcal] at hr
      split at hr
      · next z hz => cases hz; exact (hne rfl).elim
      next kd2 j2 hne2 hz =>
      cases hz
      split at h
      · exact h.elim
      next a mm pl nest hl =>
      rw [hl] at hr
      (try dsimp only at hr)
      cases g6 : Nat.blt mm 6 with
      | true =>
        rw [g6, cond_true] at h
        obtain ⟨g2, h⟩ := pl_cc h
        have t2 : 2 < mm := Nat.le_of_ble_eq_true g2
        have t6 : mm < 6 := Nat.le_of_ble_eq_true g6
        split at h
        · next q hq =>
          rw [pm_beq_f (show mm ≠ 0 by omega), show Nat.blt mm 3 = false from by rw [Bool.eq_false_iff]; intro q; have := Nat.le_of_ble_eq_true q; omega, g6, cond_false, cond_false, cond_true, hq] at hr
          dsimp only at hr
          obtain ⟨-, hr⟩ := pm_ct hr
          exact hk _ _ _ _ _ _ hn h hR hL hr
        · exact h.elim
      | false =>
        rw [g6, cond_false] at h
        have t6 : 6 ≤ mm := by
          refine Nat.le_of_not_lt (fun q => ?_)
          rw [show Nat.blt mm 6 = true from Nat.ble_eq_true_of_le q] at g6
          cases g6
        rw [pm_beq_f (show mm ≠ 0 by omega), show Nat.blt mm 3 = false from by rw [Bool.eq_false_iff]; intro q; have := Nat.le_of_ble_eq_true q; omega, g6, cond_false, cond_false, cond_false] at hr
        split at hr
        · cases hr
        next d' =>
        obtain ⟨-, hr⟩ := pm_ct hr
        split at hr
        · next o1 c n1 k1 hc =>
          obtain ⟨s1, r1, r2⟩ := h m d' w _ o1 (c, (n1, k1)) hm hR (ps_le_refl _) hc
          have r3 : k (pc + 3) L (o1.toList ++ st.drop (pm_na kd mm)) s1 := ps_rk_ok r2
          exact hk _ _ _ _ _ _ hn r3 r1 hL hr
        · cases hr
/-- a run of at most f steps; it ends at the stops -/
def pl_wp (stops : List (Nat × List Nat)) : Nat → Nat → Nat → (Option Value → ps_S → Prop) → Nat → pm_L → List Value → ps_S → Prop
  | 0, _, _, _, _, _, _, _ => False
  | f + 1, n, y, Q, pc, L, st, s => pl_body n (fun pc L st s => match stops.find? (fun q => Nat.beq pc q.1) with
    | some q => (match ps_sel L q.2 with
      | some L' => pl_At n y pc L' st s Q
      | none => False)
    | none => pl_wp stops f n y Q pc L st s) y Q pc L st s
theorem pl_wp_ok {stops : List (Nat × List Nat)} : ∀ {f n y : Nat} {Q : Option Value → ps_S → Prop} {pc : Nat} {L : pm_L} {st : List Value} {s : ps_S}, ps_nu L → pl_wp stops f n y Q pc L st s → pl_At (n + 1) y pc L st s Q
  | 0, _, _, _, _, _, _, _, _, h => h.elim
  | f + 1, n, y, Q, pc, L, st, s, hn, h => by
    intro m d w Lp o w' hm hR hL hr
    cases m with
    | zero => cases hr
    | succ m =>
      refine pl_body_ok (n := n) hn hR hL h (by omega) hr (fun pc' L' Lp' st' s' w2 hn' h' hR' hL' hr' => ?_)
      split at h'
      · next q hq =>
        split at h'
        · next L2 h2 => exact h' m d w2 Lp' o w' (by omega) hR' (fun i v hv => hL' i v (ps_sel_ok h2 i v hv)) hr'
        · exact h'.elim
      · exact pl_wp_ok hn' h' m d w2 Lp' o w' (by omega) hR' hL' hr'
theorem pl_wp_at {stops : List (Nat × List Nat)} {f n y pc : Nat} {Q : Option Value → ps_S → Prop} {L : pm_L} {st : List Value} {s : ps_S} (h : pl_wp stops f n y Q pc L st s) (hn : ps_nub L = true) : pl_At (n + 1) y pc L st s Q := pl_wp_ok (ps_nu_of hn) h
