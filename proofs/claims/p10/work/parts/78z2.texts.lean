set_option maxRecDepth 100000
/-! calls that read a text, with their faults and all that they leave; facts of theorems and proofs -/
-- ProofBench.end(I)I
theorem pl_150_0 {n : Nat} {x1 : Int32} {s : ps_S} {Q : Option Value → ps_S → Prop} (h :
  (x1 < 0 →
    Q (some (.int (-1))) s) ∧
  (0 ≤ x1 →
    (x1 ≤ (ps_i s 0 1) →
      Q (some (.int x1)) (ps_ui s 0 1 x1)) ∧
    ((ps_i s 0 1) < x1 →
      Q (some (.int (-1))) s))) : pl_At (n + 1) 150 0 [(0, .ref 0), (1, .int x1)] [] s Q :=
  pl_wp_at (stops := []) (f := 17) h rfl

/-- a proof leans on theorems that there are -/
theorem bt_or_i {a b : Int32} {j : Nat} (ha : bt a j = false) (hb : bt b j = false) : bt (a ||| b) j = false := by
  rw [bt_or, ha, hb]
  rfl
theorem tq_or_bt {D : List tq_R} {z : Int32} {st : tp_P} {j : Nat} (hj : j < 12) (hz : bt z j = false) (hD : ∀ (k : Nat) (R : tq_R), D[k]? = some R → bt R.2.2.2.1 j = false) : bt (tq_or D (fun q => q.2.2.2.1) z st) j = false := by
  have hg : ∀ k, bt (D.getD k ([], [], 0, 0, 0)).2.2.2.1 j = false := fun k => by
    rw [List.getD_eq_getElem?_getD]
    cases e : D[k]? with
    | none => exact bt_0 j (by omega)
    | some R => exact hD k R e
  unfold tq_or
  dsimp only
  split
  · refine bt_or_i ?_ (hg _)
    split
    · refine bt_or_i ?_ (hg _)
      split
      · exact bt_or_i hz (hg _)
      · exact hz
    · split
      · exact bt_or_i hz (hg _)
      · exact hz
  · split
    · refine bt_or_i ?_ (hg _)
      split
      · exact bt_or_i hz (hg _)
      · exact hz
    · split
      · exact bt_or_i hz (hg _)
      · exact hz
theorem tq_run_bt {h : tx_H} {Θ : List tq_H} (h12 : Θ.length ≤ 12) {j : Nat} (hj : Θ.length ≤ j) (hj12 : j < 12) : ∀ {L : List tp_P} {D0 D : List tq_R} {c : Nat}, tq_run h Θ L D0 = (D, c) → (∀ (k : Nat) (R : tq_R), D0[k]? = some R → bt R.2.2.2.1 j = false) → ∀ (k : Nat) (R : tq_R), D[k]? = some R → bt R.2.2.2.1 j = false
  | [], D0, D, c, e, hD => by
    have e : (D0, 0) = (D, c) := e
    cases e
    exact hD
  | st :: L, D0, D, c, e, hD => by
    by_cases hc : tq_cs h Θ D0 st = 0
    · rw [tq_run_0 hc] at e
      obtain ⟨hp, -, -⟩ := tq_cs_is hc
      refine tq_run_bt h12 hj hj12 e (fun k R hk => ?_)
      rcases snoc_at hk with ⟨-, hk⟩ | ⟨-, rfl⟩
      · exact hD k R hk
      · show bt (tq_or D0 (fun q => q.2.2.2.1) (if st.1.1 = 12 then tq_b st.1.2.1 else 0) st) j = false
        refine tq_or_bt hj12 ?_ hD
        split
        · next e12 =>
          unfold tq_pr at hp
          rw [if_pos e12] at hp
          rw [bt_b (by omega) (by omega)]
          exact decide_eq_false (by omega)
        · exact bt_0 j (by omega)
    · rw [tq_run_c hc] at e
      cases e
      exact hD
theorem tq_h_l {Θ : List tq_H} {q : tq_H} {k : Nat} (hk : k < Θ.length) : tq_hA (Θ ++ [q]) k = tq_hA Θ k ∧ tq_hU (Θ ++ [q]) k = tq_hU Θ k ∧ tq_hT (Θ ++ [q]) k = tq_hT Θ k := by
  unfold tq_hA tq_hU tq_hT
  rw [List.getD_eq_getElem?_getD, List.getD_eq_getElem?_getD, List.getElem?_append_left hk]
  exact ⟨rfl, rfl, rfl⟩
theorem tq_h_r {Θ : List tq_H} {q : tq_H} : tq_hA (Θ ++ [q]) Θ.length = q.2.1 ∧ tq_hU (Θ ++ [q]) Θ.length = q.2.2.1 ∧ tq_hT (Θ ++ [q]) Θ.length = q.2.2.2 := tq_h_at (by rw [List.getElem?_append_right (Nat.le_refl _), Nat.sub_self]; rfl)
theorem THI_add {Θ : List tq_H} {q : tq_H} (H : THI Θ) (h1 : q.2.2.2 = q.2.1 ||| orb (tq_hT Θ) q.2.2.1 Θ.length) (h2 : ∀ j, Θ.length ≤ j → j < 12 → bt q.2.2.1 j = false) : THI (Θ ++ [q]) := fun k hk => by
  have hlen : (Θ ++ [q]).length = Θ.length + 1 := List.length_append
  by_cases e : k < Θ.length
  · obtain ⟨a, b, d⟩ := tq_h_l (q := q) e
    obtain ⟨x, y⟩ := H k e
    rw [a, b, d, orb_congr k (fun j hj => (tq_h_l (q := q) (show j < Θ.length by omega)).2.2)]
    exact ⟨x, y⟩
  · have e : k = Θ.length := by omega
    subst e
    obtain ⟨a, b, d⟩ := tq_h_r (Θ := Θ) (q := q)
    rw [a, b, d, orb_congr Θ.length (fun j hj => (tq_h_l (q := q) hj).2.2)]
    exact ⟨h1, h2⟩
theorem tq_h_t {Θ : List tq_H} {m k : Nat} (hk : k < m) : tq_hA (Θ.take m) k = tq_hA Θ k ∧ tq_hU (Θ.take m) k = tq_hU Θ k ∧ tq_hT (Θ.take m) k = tq_hT Θ k := by
  unfold tq_hA tq_hU tq_hT
  rw [List.getD_eq_getElem?_getD, List.getD_eq_getElem?_getD, List.getElem?_take, if_pos hk]
  exact ⟨rfl, rfl, rfl⟩
theorem THI_take {Θ : List tq_H} {m : Nat} (H : THI Θ) (hm : m ≤ Θ.length) : THI (Θ.take m) := fun k hk => by
  have hlen : (Θ.take m).length = m := by rw [List.length_take]; omega
  obtain ⟨a, b, d⟩ := tq_h_t (Θ := Θ) (show k < m by omega)
  obtain ⟨x, y⟩ := H k (by omega)
  rw [a, b, d, orb_congr k (fun j hj => (tq_h_t (Θ := Θ) (show j < m by omega)).2.2)]
  exact ⟨x, y⟩
theorem GT_take {g : tx_g} {Θ : List tq_H} {m : Nat} (H : tq_GT g Θ) : tq_GT g (Θ.take m) := by
  refine ⟨by have := H.1; rw [List.length_take]; omega, fun k q hk => ?_⟩
  rw [List.getElem?_take] at hk
  split at hk
  · exact H.2 k q hk
  · cases hk
theorem GT_add {g : tx_g} {Θ : List tq_H} {q : tq_H} (H : tq_GT g Θ) (h12 : Θ.length < 12) (hq : ws (sg g) q.1 [true] ∧ q.1.length ≤ 40) : tq_GT g (Θ ++ [q]) := by
  have hlen : (Θ ++ [q]).length = Θ.length + 1 := List.length_append
  refine ⟨by omega, fun k x hk => ?_⟩
  rcases snoc_at hk with ⟨-, hk⟩ | ⟨-, rfl⟩
  · exact H.2 k x hk
  · exact hq
theorem EXp_keep {h : tx_H} {D : List tq_R} {c : Nat} {Θ Θ' : List tq_H} {B : bx_T} {v : Int32} (E : EXp h D Θ B) (K : kp_is D c Θ v Θ') : EXp h D Θ' B := by
  rcases K with ⟨R, ⟨-, k2, k3, -, k5⟩, -, rfl⟩ | ⟨-, -, rfl⟩
  · obtain ⟨⟨a, b, d, e⟩, f⟩ := E
    have hlen : (Θ ++ [kp_q Θ R]).length = Θ.length + 1 := List.length_append
    obtain ⟨⟨w1, w2, -⟩, -⟩ := a _ R k2
    exact ⟨⟨a, GT_add b k5 ⟨w1, w2⟩, THI_add d rfl (fun j hj hj2 => e _ R k2 j hj hj2), fun k R' hk j hj hj2 => e k R' hk j (by omega) hj2⟩, f⟩
  · exact E
theorem EXp_drop {h : tx_H} {D : List tq_R} {Θ : List tq_H} {B : bx_T} {m : Nat} (E : EXp h D Θ B) (hm : m ≤ Θ.length) : EXp h [] (Θ.take m) B := by
  obtain ⟨⟨a, b, d, e⟩, f⟩ := E
  exact ⟨⟨(fun k R hk => by cases hk), GT_take b, THI_take d hm, (fun k R hk => by cases hk)⟩, f⟩
theorem EXp_image {h : tx_H} {D : List tq_R} {Θ : List tq_H} {B B' : bx_T} {x v : Int32} (E : EXp h D Θ B) (I : im_is x Θ B v B') : EXp h D Θ B' := by
  rcases I with ⟨j, hj, -, -, rfl⟩ | ⟨-, -, rfl⟩
  · obtain ⟨⟨a, b, d, e⟩, f⟩ := E
    refine ⟨⟨a, b, d, e⟩, fun k Θb hk hb => ?_⟩
    unfold bx_up at hb
    split at hb
    · cases hb
      exact ⟨b, d⟩
    · exact f k Θb hk hb
  · exact E
theorem EXp_back {h : tx_H} {D : List tq_R} {Θ Θ' : List tq_H} {B : bx_T} {x v : Int32} (E : EXp h D Θ B) (I : bk_is x Θ B v Θ' True) : EXp h [] Θ' B := by
  rcases I with ⟨j, Θb, hj, -, hb, -, rfl, -⟩ | ⟨-, -, -, z⟩
  · obtain ⟨-, f⟩ := E
    obtain ⟨a, b⟩ := f j _ hj hb
    exact ⟨⟨(fun k R hk => by cases hk), a, b, (fun k R hk => by cases hk)⟩, f⟩
  · exact absurd trivial z
/-- rewrite(): its answer, the row behind it, its fault -/
def RWF (h : tx_H) (T : Nat → Nat) (N : Nat) (v : Int32) (nl : List Nat) (f g : Int) : Prop := (∃ l, rd_ok T N (h.1, false) 0 l ∧ rw_A h l v.toInt nl ∧ f = 0 ∧ g = -1) ∨ ∃ k pl : Nat, rd_bad T N (h.1, false) 0 k pl ∧ v.toInt = -1 ∧ nl = [] ∧ f = k ∧ g = pl
theorem RWF_eq {h : tx_H} {T : Nat → Nat} {N : Nat} {v v' : Int32} {nl nl' : List Nat} {f g f' g' : Int} (a : RWF h T N v nl f g) (b : RWF h T N v' nl' f' g') : v = v' ∧ nl = nl' ∧ f = f' ∧ g = g' := by
  rcases a with ⟨l, a1, a2, a3, a4⟩ | ⟨k, pl, a1, a2, a3, a4, a5⟩ <;> rcases b with ⟨l', b1, b2, b3, b4⟩ | ⟨k', pl', b1, b2, b3, b4, b5⟩
  · have e := rd_oo a1 b1
    subst e
    obtain ⟨e1, e2⟩ := rw_A_det a2 b2
    exact ⟨Int32.toInt_inj.mp e1, e2, a3.trans b3.symm, a4.trans b4.symm⟩
  · exact (rd_ob a1 b1).elim
  · exact (rd_ob b1 a1).elim
  · obtain ⟨e1, e2⟩ := rd_bb a1 b1
    exact ⟨Int32.toInt_inj.mp (a2.trans b2.symm), a3.trans b3.symm, by rw [a4, b4, e1], by rw [a5, b5, e2]⟩

theorem fs_169f {n : Nat} {s : ps_S} {T : Nat → Nat} {N : Nat} {h : tx_H} {l0 : List Nat} {R : Int32 → ps_S → Prop} (c : TRc s h l0) (hw : WFt h) (hb : ∀ (k : Nat) (w r : List Nat), h.2[k]? = some (w, r) → ∀ c, c ∈ r → 40 ≤ c → c < 45) (hx : (ps_i s 0 1).toInt = N) (hN : N ≤ 1600) (hT : ∀ k, k < N → (ps_a s 1 k &&& 255).toInt = T k) (hkw : ∀ (k : Nat) (w : List Nat), tx_keys[k]? = some w → ps_b s 904 k = tx_x w) (k : ∀ (v : Int32) s' nl, RWF h T N v nl (ps_i s' 902 9).toInt (ps_i s' 902 10).toInt → cv_W s' 1022 nl → (ps_r s' 0 4 = ps_r s 0 4 ∧ ps_r s' 0 5 = ps_r s 0 5) → cfr (fun q => q = 0 ∨ cWr 1022 q ∨ CMN q) s s' → R v s') : pl_Cl n 169 [.ref 0] s (ps_rI R) := by
  cases n with
  | zero => exact pl_At_0
  | succ n =>
  show pl_At (n + 1) 169 0 [(0, .ref 0)] [] s (ps_rI R)
  have hth : ps_r s 0 2 = 2 ∨ ps_r s 0 2 = 26 := by have := c.2.1; omega
  refine pl_169_0 ?_
  refine fs_60u (th := ps_r s 0 2) (r := 1022) (ph := 0) (gg := h.1) (T := T) (N := N) (Or.inr ⟨by decide, rfl⟩) hth rfl c.1.1 hx hN hT hkw (fun s1 q => ⟨fun _ => ?_, fun z => absurd z (by decide)⟩) (fun s1 q => ⟨fun z => absurd rfl z, fun _ => ?_⟩)
  · obtain ⟨l, q1, q2, ⟨f9, f10⟩, F⟩ := q
    have F' : cfr (fun q => q = 0 ∨ cWr 1022 q) s (ps_ui s1 0 1 0) := cfr_i (cfr_mono F (fun q z => Or.inr z)) (Or.inl rfl)
    have hr : ps_r (ps_ui s1 0 1 0) 0 2 = ps_r s 0 2 := (F 0 (by unfold cWr; omega)).2.2.1 2
    rw [hr]
    have hl : ws (sg h.1) l [false] := by
      obtain ⟨p, fr, g, -⟩ := q1
      exact (tx_WQ_end hw.2.1 (Or.inl rfl) (Nat.zero_le _) g).1
    refine fs_85 hth (cv_H_cfr c.1 F' (fun q a b => by have := c.1.2.2.1; unfold cWr; omega)) hw hb hl (cv_W_cfr (cv_W_cfr q2 (cfr_i cfr_refl rfl : cfr (fun q => q = 0) s1 (ps_ui s1 0 1 0)) (by decide) (by decide)) cfr_refl (C := fun _ => False) (fun z => z) (fun z => z)) (fun v s' nl hA W F2 => ?_)
    have e9 : ∀ f, ps_i s' 902 f = ps_i s1 902 f := fun f => by rw [(F2 902 (by unfold CMN; omega)).1, ps_i_ui, if_neg (by omega)]
    have e0 : ∀ f, ps_r s' 0 f = ps_r s 0 f := fun f => by
      rw [(F2 0 (by unfold CMN; omega)).2.2.1]
      exact (F 0 (by unfold cWr; omega)).2.2.1 f
    exact k v s' nl (Or.inl ⟨l, q1, hA, by rw [e9]; exact f9, by rw [e9]; exact f10⟩) W ⟨e0 4, e0 5⟩ (cfr_tr (cfr_mono F' (fun q z => z.elim Or.inl (fun y => Or.inr (Or.inl y)))) (cfr_mono F2 (fun q z => Or.inr (Or.inr z))))
  · obtain ⟨kk, pl, q1, f9, f10, F⟩ := q
    have e0 : ∀ f, ps_r s1 0 f = ps_r s 0 f := (F 0 (by unfold cWr; omega)).2.2.1
    cases n with
    | zero => exact pl_At_0
    | succ n =>
    show pl_At (n + 1) 81 0 [(0, .ref 1021)] [] _ _
    refine pl_81_0 (fs_91 ?_)
    refine k _ _ [] (Or.inr ⟨kk, pl, q1, by decide, rfl, f9, f10⟩) CW_0 ⟨e0 4, e0 5⟩ (cfr_i (cfr_i (cfr_i (cfr_mono F (fun q z => Or.inr (Or.inl z))) (Or.inl rfl)) (Or.inr (Or.inr (by unfold CMN; omega)))) (Or.inr (Or.inr (by unfold CMN; omega))))

theorem fm_288f_31 {n b : Nat} {s0 s : ps_S} {T : Nat → Nat} {N : Nat} {h : tx_H} {R : Int32 → ps_S → Prop} (hb : b < 2) (h21 : (ps_i s 1131 21).toInt = b) (H : mv_H s b h) (hw : WFt h) (m : mq_ok 25789 0 b h.1 T N s0 s ∨ mq_bad 25789 0 b h.1 T N s0 s) (k : ∀ (v : Int32) s' nl, RWF h T N v nl (ps_i s' 1131 5).toInt (ps_i s' 1131 6).toInt → mv_W s' 25789 nl → mr_p s0 s' → R v s') : pl_At n 288 31 [(0, .ref 1131)] [] s (ps_rI R) := by
  cases n with
  | zero => exact pl_At_0
  | succ n =>
  refine pl_288_31 ?_
  rcases m with ⟨⟨l, z, W, G⟩, K, P, h3⟩ | ⟨⟨kk, pl, z, hk, e5, e6⟩, K, P, h3⟩
  · refine fm_192 (fun _ => ⟨fun _ => ?_, fun z => absurd z (by decide)⟩) (fun z => absurd G.1 z)
    have hl : ws (sg h.1) l [false] := by
      obtain ⟨p, fr, g, -⟩ := z
      exact (tx_WQ_end hw.2.1 (Or.inl rfl) (Nat.zero_le _) g).1
    refine fm_288_51 (l0 := l) hb h21 H hw (fun v s' nl hA W' K' => ?_) n (m := 0) rfl (Nat.zero_le _) rfl hl W ⟨kq_refl, fun q hq => rfl⟩
    exact k v s' nl (Or.inl ⟨l, z, hA, by rw [kq_i K'.1 5 (by decide)]; exact G.1, by rw [kq_i K'.1 6 (by decide)]; exact G.2⟩) W' ⟨kqt (kqt kq_refl K (by decide) (by decide)) K'.1 (by decide) (by decide), fun q hq => (K'.2 q hq).trans (P q hq)⟩
  · refine fm_192 (fun z => absurd (z.symm.trans e5) (by omega)) (fun _ => ⟨fun z => absurd rfl z, fun _ => ?_⟩)
    intro b1
    rw [xtn (a := 25789) (by decide)]
    refine k _ _ [] (Or.inr ⟨kk, pl, z, by decide, rfl, e5, e6⟩) ⟨?_, Nat.zero_le _, fun k c hk => by cases hk⟩ ⟨kqa (kqt kq_refl K (by decide) (by decide)) rfl, fun q hq => ?_⟩
    · rw [ps_a_ua, if_pos ⟨rfl, rfl⟩]
      rfl
    · rw [ps_a_ua, if_neg (by omega)]
      exact P q hq
theorem fm_288f {n b : Nat} {s : ps_S} {T : Nat → Nat} {N : Nat} {h : tx_H} {R : Int32 → ps_S → Prop} (hb : b < 2) (h21 : (ps_i s 1131 21).toInt = b) (H : mv_H s b h) (hw : WFt h) (h3 : (ps_i s 1131 3).toInt = N) (hN : N ≤ 1600) (hT : ∀ k, k < N → (ps_a s 1132 k &&& 255).toInt = T k) (k : ∀ (v : Int32) s' nl, RWF h T N v nl (ps_i s' 1131 5).toInt (ps_i s' 1131 6).toInt → mv_W s' 25789 nl → mr_p s s' → R v s') : pl_Cl n 288 [.ref 1131] s (ps_rI R) := by
  cases n with
  | zero => exact pl_At_0
  | succ n =>
  show pl_At (n + 1) 288 0 [(0, .ref 1131)] [] s (ps_rI R)
  refine pl_288_0 ?_
  refine fm_198 h21 h3 hN hT (fun s1 q1 => ?_)
  obtain ⟨K1, t1, t2, t3, t4, t5, t6⟩ := q1
  have Hk : ∀ {A F : List Nat} {s' : ps_S}, kq A F s s' → mv_po 25789 s s' → A.all (fun a => ![1135, 1136, 1137, 1138, 1139, 1140, 1141, 1142].contains a) = true → mv_H s' b h := fun {A F s'} K P hA => by
    rw [List.all_eq_true] at hA
    have hn : ∀ r, r ∈ [1135, 1136, 1137, 1138, 1139, 1140, 1141, 1142] → A.contains r = false := fun r hr => by
      cases e : A.contains r with
      | false => rfl
      | true =>
        have z := hA r (List.contains_iff_mem.mp e)
        rw [List.contains_iff_mem.mpr hr] at z
        exact absurd z (by decide)
    refine mv_H_V hb H (fun r hr => kq_a K r (hn r ?_)) (fun r hr => kq_b K r (hn r ?_)) (fun q h1 h2 => P q (by omega))
    · exact (show ∀ r, r ∈ [1135, 1136, 1137, 1138, 1139] → r ∈ [1135, 1136, 1137, 1138, 1139, 1140, 1141, 1142] by decide) r hr
    · exact (show ∀ r, r ∈ [1140, 1141, 1142] → r ∈ [1135, 1136, 1137, 1138, 1139, 1140, 1141, 1142] by decide) r hr
  refine fm_209u (to := 25789) (rb := b) (ph := 0) (E := (h.1, false)) (p := 0) (fr := []) (by decide) (Or.inl ⟨by decide, rfl⟩) rfl hb t5 t1 (mv_E_kq H.1 K1 (by decide)) (Nat.zero_le _) t2 ⟨t4, Nat.zero_le _, fun k w z => by cases z⟩ t3 (fun s10 q10 => ?_)
  have fin : ∀ {s' : ps_S}, (mq_ok 25789 0 b h.1 T N s s' ∨ mq_bad 25789 0 b h.1 T N s s') → pl_At n 288 31 [(0, .ref 1131)] [] s' (ps_rI R) := fun {s'} m => by
    have hK : kq [1133, 1134, 1143, 1144, 1145, 1146, 1147, 1148] [3, 4, 5, 6, 7, 8, 9, 10, 11, 22, 23, 29, 30, 31, 32] s s' ∧ mv_po 25789 s s' := by
      rcases m with ⟨-, K, P, -⟩ | ⟨-, K, P, -⟩
      · exact ⟨K, P⟩
      · exact ⟨K, P⟩
    exact fm_288f_31 hb (by rw [kq_i hK.1 21 rfl]; exact h21) (Hk hK.1 hK.2 (by decide)) hw m k
  refine fm_192 (fun q14 => ?_) (fun q14 => ?_)
  · refine ⟨fun h17 => absurd h17 (by decide), fun h17 => ⟨fun h24 => ?_, fun h24 => ?_⟩⟩
    · have h24 : (ps_i s10 1131 9).toInt = (0 : Int) := xeq h24
      rcases q10 with ⟨p', l', fr', g1, g2, g3, g4⟩ | ⟨S', pl, l', fr', k, g1, g2, g3, g4, g5⟩
      · have h0 : (tx_tok T N p').1 = 0 := by have := g3.2.2.1.1; omega
        exact fin (Or.inl ⟨⟨l', ⟨p', fr', g1, h0⟩, g3.2.2.2.2.2.2.1, g3.2.2.2.2.2.2.2.2⟩, kqt (kqt kq_refl K1 (by decide) (by decide)) g4.1 (by decide) (by decide), fun i hi => (g4.2 i hi).trans (by rw [kq_a K1 1134 (by decide)]), by rw [kq_i g4.1 3 (by decide)]; exact t6⟩)
      · exfalso; omega
    · have h24 : (ps_i s10 1131 9).toInt ≠ (0 : Int) := xne h24
      refine fm_196v q14 (fun s28 q28 => ?_)
      rcases q10 with ⟨p', l', fr', g1, g2, g3, g4⟩ | ⟨S', pl, l', fr', k, g1, g2, g3, g4, g5⟩
      · have h0 : (tx_tok T N p').1 ≠ 0 := by have := g3.2.2.1.1; omega
        have J := q28 _ g3.2.2.1
        exact fin (Or.inr ⟨⟨_, _, Or.inr ⟨p', l', fr', g1, h0, rfl, rfl⟩, (by unfold tx_bk; split <;> decide), J.1, J.2.1⟩, kqt (kqt (kqt kq_refl K1 (by decide) (by decide)) g4.1 (by decide) (by decide)) J.2.2 (by decide) (by decide), fun i hi => (by rw [kq_a J.2.2 1134 (by decide), g4.2 i hi, kq_a K1 1134 (by decide)]), by rw [kq_i J.2.2 3 (by decide), kq_i g4.1 3 (by decide)]; exact t6⟩)
      · exfalso; omega
  · refine ⟨fun h17 => ?_, fun h17 => absurd h17 (by decide)⟩
    rcases q10 with ⟨p', l', fr', g1, g2, g3, g4⟩ | ⟨S', pl, l', fr', k, g1, g2, g3, g4, g5⟩
    · exact absurd g3.2.2.2.2.2.2.2.2.1 q14
    · exact fin (Or.inr ⟨⟨k, pl, Or.inl ⟨S', l', fr', g1⟩, g2, g3, g4⟩, kqt (kqt kq_refl K1 (by decide) (by decide)) g5.1 (by decide) (by decide), fun i hi => (g5.2 i hi).trans (by rw [kq_a K1 1134 (by decide)]), by rw [kq_i g5.1 3 (by decide)]; exact t6⟩)

def mt_fz (b : Nat) (s s' : ps_S) : Prop := mt_fs b s s' ∧ kq [1133, 1134, 1135, 1136, 1137, 1138, 1139, 1140, 1141, 1142, 1143, 1144, 1145, 1146, 1147, 1148] [3, 4, 22, 32, 5, 6, 7, 8, 9, 10, 11, 23, 29, 30, 31] s s' ∧ ∀ i, i < 21812 → ps_a s' 1134 i = ps_a s 1134 i
def mt_badz (b : Nat) (T : Nat → Nat) (N : Nat) (s s' : ps_S) (v : Int32) : Prop := mt_badx b T N s s' v ∧ kq [1133, 1134, 1135, 1136, 1137, 1138, 1139, 1140, 1141, 1142, 1143, 1144, 1145, 1146, 1147, 1148] [3, 4, 22, 32, 5, 6, 7, 8, 9, 10, 11, 23, 29, 30, 31] s s' ∧ ∀ i, i < 21812 → ps_a s' 1134 i = ps_a s 1134 i
theorem mt_fz_bk {rb b : Nat} {s s1 s2 : ps_S} (hrb : rb < 2) (hb : b < 2) (hne : b ≠ rb) (F : mt_fz b s s1) (B : mv_bk rb s1 s2) : mt_fz b s s2 := ⟨mt_fs_bk hrb hb hne F.1 B, kqt F.2.1 B.1 (by decide) (by decide), fun i hi => (B.2.2.2.2.2 i (by omega)).trans (F.2.2 i hi)⟩

theorem fm_201z_65b {b : Nat} {s0 : ps_S} {T : Nat → Nat} {N : Nat} {R : Int32 → ps_S → Prop} (hb : b < 2) (k1 : ∀ v s', mt_okx b T N s0 s' v → R v s') (k0 : ∀ v s', mt_badz b T N s0 s' v → R v s') {n : Nat} {s : ps_S} {h : tx_H} {pl kk : Nat} (g : gt_go (tx_ln T N) (0, (([], []), []), 0, 0) (4, h, pl, kk)) (hk : kk ≠ 0) (h5 : (ps_i s 1131 5).toInt = kk) (h6 : (ps_i s 1131 6).toInt = pl) (h21 : (ps_i s 1131 21).toInt = b) (F : mt_fz b s0 s) : pl_At n 201 65 [(0, .ref 1131)] [] s (ps_rI R) := by
  cases n with
  | zero => exact pl_At_0
  | succ n =>
  refine pl_201_65 ?_
  exact fm_192 (fun z => by omega) (fun _ => ⟨fun z => absurd rfl z, fun _ => k0 _ _ ⟨⟨⟨h, pl, kk, g, rfl, hk, h5, h6, h21, F.1.1⟩, F.1.2⟩, F.2⟩⟩)
theorem fm_201z_44b {b : Nat} {s0 : ps_S} {T : Nat → Nat} {N : Nat} {R : Int32 → ps_S → Prop} (hb : b < 2) (k1 : ∀ v s', mt_okx b T N s0 s' v → R v s') (k0 : ∀ v s', mt_badz b T N s0 s' v → R v s') {n : Nat} {s : ps_S} {h : tx_H} {pl kk : Nat} (g : gt_go (tx_ln T N) (0, (([], []), []), 0, 0) (4, h, pl, kk)) (hk : kk ≠ 0) (h5 : (ps_i s 1131 5).toInt = kk) (h6 : (ps_i s 1131 6).toInt = pl) (h21 : (ps_i s 1131 21).toInt = b) (F : mt_fz b s0 s) : pl_At n 201 44 [(0, .ref 1131)] [] s (ps_rI R) := by
  cases n with
  | zero => exact pl_At_0
  | succ n =>
  refine pl_201_44 ?_
  exact fm_192 (fun z => by omega) (fun _ => ⟨fun _ => fm_201z_65b hb k1 k0 g hk h5 h6 h21 F, fun z => absurd rfl z⟩)
theorem fm_201z_88 {b : Nat} {s0 : ps_S} {T : Nat → Nat} {N : Nat} {R : Int32 → ps_S → Prop} (hb : b < 2) (k1 : ∀ v s', mt_okx b T N s0 s' v → R v s') (k0 : ∀ v s', mt_badz b T N s0 s' v → R v s') {h : tx_H} {p : Nat} (g : gt_go (tx_ln T N) (0, (([], []), []), 0, 0) (3, h, p, 0)) : ∀ (n : Nat) {s : ps_S} {x1 : Int32} {i : Nat}, x1.toInt = i → i ≤ 3 → mv_H s (1 - b) h → (ps_i s 1131 21).toInt = (1 - b : Nat) → mv_G s → mt_fo b s0 s → ((ps_i s 1131 47).toInt = 0 ∧ (ps_i s 1131 48).toInt = -1 ∧ (ps_i s 1131 49).toInt = -1 ∧ (ps_i s 1131 54).toInt = 0 ∧ ps_a s 1134 25748 = 0 ∧ ps_a s 1134 25789 = 0 ∧ ∀ j, j < i → ps_a s 1176 j = -1) → pl_At n 201 88 [(0, .ref 1131), (1, .int x1)] [] s (ps_rI R)
  | 0, _, _, _, _, _, _, _, _, _, _ => pl_At_0
  | n + 1, s, x1, i, hx, hi, H, h21, hG, F, ⟨c1, c2, c3, c4, c5, c6, c7⟩ => by
    refine pl_201_88 ?_
    refine ⟨fun h90 => ?_, fun h90 => ?_⟩
    · have h90 : (3 : Int) ≤ x1.toInt := xle h90
      intro b114
      obtain ⟨b114, c114⟩ := pl_in b114
      rw [xtn h21]
      exact k1 _ _ ⟨⟨h, p, g, H.2.1, H, h21, hG, F.1, c1, c2, c3, c4, c5, c6, fun j hj => c7 j (by omega)⟩, F.2⟩
    · have h90 : x1.toInt < (3 : Int) := xlt h90
      intro b99
      obtain ⟨b99, c99⟩ := pl_in b99
      rw [xtn hx]
      have K : kq [1176] [] s (ps_ua s 1176 i (-1)) := kqa kq_refl rfl
      refine fm_201z_88 hb k1 k0 g n (xj1 hx (by omega)) (by omega) (mv_H_kq H K (by decide)) h21 hG ⟨⟨kqt F.1.1 K (by decide) (by decide), fun hb' z => mv_H_kq (F.1.2.1 hb' z) K (by decide), F.1.2.2⟩, fun i a b c => by rw [kq_a K 1134 (by decide)]; exact F.2 i a b c⟩ ⟨c1, c2, c3, c4, c5, c6, fun j hj => ?_⟩
      rw [ps_a_ua]
      by_cases e : j = i
      · rw [if_pos ⟨rfl, e⟩]
      · rw [if_neg (fun z => e z.2)]
        exact c7 j (by omega)
theorem fm_201z_65 {b : Nat} {s0 : ps_S} {T : Nat → Nat} {N : Nat} {R : Int32 → ps_S → Prop} (hb : b < 2) (k1 : ∀ v s', mt_okx b T N s0 s' v → R v s') (k0 : ∀ v s', mt_badz b T N s0 s' v → R v s') {n : Nat} {s : ps_S} {h : tx_H} {p : Nat} (g : gt_go (tx_ln T N) (0, (([], []), []), 0, 0) (3, h, p, 0)) (L : mv_L s (1 - b) T N h p) (F : mt_fz b s0 s) : pl_At n 201 65 [(0, .ref 1131)] [] s (ps_rI R) := by
  cases n with
  | zero => exact pl_At_0
  | succ n =>
  obtain ⟨F, -⟩ := F
  obtain ⟨hrb, h22, hT, hH, hp, hK, h23, hG⟩ := id L
  refine pl_201_65 ?_
  refine fm_192 (fun _ => ⟨fun _ => ?_, fun z => absurd z (by decide)⟩) (fun z => absurd hG.1 z)
  refine fm_202 ?_
  have K1 : kq [] [21, 47, 48, 49, 54] s (ps_ui (ps_ui (ps_ui (ps_ui (ps_ui s 1131 21 (ps_i s 1131 22)) 1131 47 0) 1131 48 (-1)) 1131 49 (-1)) 1131 54 0) := kqi (kqi (kqi (kqi (kqi kq_refl rfl) rfl) rfl) rfl) rfl
  generalize hq : (ps_ui (ps_ui (ps_ui (ps_ui (ps_ui s 1131 21 (ps_i s 1131 22)) 1131 47 0) 1131 48 (-1)) 1131 49 (-1)) 1131 54 0) = s1 at K1 ⊢
  have K2 : kq [1134] [] s1 (ps_ua (ps_ua s1 1134 25748 0) 1134 25789 0) := kqa (kqa kq_refl rfl) rfl
  have P2 : ∀ i, i < 25748 → ps_a (ps_ua (ps_ua s1 1134 25748 0) 1134 25789 0) 1134 i = ps_a s1 1134 i := fun i hi => by rw [ps_a_ua, if_neg (by omega), ps_a_ua, if_neg (by omega)]
  have HH : ∀ (c : Nat) (h' : tx_H), c < 2 → mv_H s1 c h' → mv_H (ps_ua (ps_ua s1 1134 25748 0) 1134 25789 0) c h' := fun c h' hc H => by
    obtain ⟨f1, f2, f3, f4⟩ := H
    refine ⟨mv_E_kq f1 K2 (by decide), by rw [kq_a K2 1137 (by decide)]; exact f2, f3, fun k w l hk => ?_⟩
    obtain ⟨y1, y2, y3, y4, y5⟩ := f4 k w l hk
    have hl := (List.getElem?_eq_some_iff.mp hk).1
    refine ⟨y1, y2, by rw [P2 _ (by omega)]; exact y3, y4, fun q c hq => ?_⟩
    have hq2 := (List.getElem?_eq_some_iff.mp hq).1
    rw [P2 _ (by omega)]
    exact y5 q c hq
  refine fm_201z_88 hb k1 k0 g n (i := 0) rfl (Nat.zero_le _) (HH _ _ hrb (mv_H_kq hH K1 (by decide))) (by rw [kq_i K2 21 (by decide), ← hq]; exact h22) (mv_G_kq (mv_G_kq hG K1 (by decide) (by decide)) K2 (by decide) (by decide)) ⟨⟨kqt (kqt F.1.1 K1 (by decide) (by decide)) K2 (by decide) (by decide), fun hb' z => HH b hb' hb (mv_H_kq (F.1.2.1 hb' z) K1 (by decide)), by rw [kq_i K2 3 (by decide), kq_i K1 3 (by decide)]; exact F.1.2.2⟩, fun i a b c => by rw [ps_a_ua, if_neg (by omega), ps_a_ua, if_neg (by omega), kq_a K1 1134 (by decide)]; exact F.2 i a⟩ ⟨?_, ?_, ?_, ?_, ?_, ?_, fun j hj => absurd hj (Nat.not_lt_zero _)⟩
  · rw [kq_i K2 47 (by decide), ← hq]; rfl
  · rw [kq_i K2 48 (by decide), ← hq]; rfl
  · rw [kq_i K2 49 (by decide), ← hq]; rfl
  · rw [kq_i K2 54 (by decide), ← hq]; rfl
  · rw [ps_a_ua, if_neg (by decide), ps_a_ua, if_pos ⟨rfl, rfl⟩]
  · rw [ps_a_ua, if_pos ⟨rfl, rfl⟩]
theorem fm_201z_44 {b : Nat} {s0 : ps_S} {T : Nat → Nat} {N : Nat} {R : Int32 → ps_S → Prop} (hb : b < 2) (k1 : ∀ v s', mt_okx b T N s0 s' v → R v s') (k0 : ∀ v s', mt_badz b T N s0 s' v → R v s') : ∀ (n : Nat) {s : ps_S} {h : tx_H} {p : Nat}, gt_go (tx_ln T N) (0, (([], []), []), 0, 0) (0, h, p, 0) → mv_L s (1 - b) T N h p → (ps_i s 1131 21).toInt = b → mt_fz b s0 s → pl_At n 201 44 [(0, .ref 1131)] [] s (ps_rI R)
  | 0, _, _, _, _, _, _, _ => pl_At_0
  | n + 1, s, h, p, g, L, h21, F => by
    obtain ⟨hrb, h22, hT, hH, hp, hK, h23, hG⟩ := id L
    have h9 := hK.1
    have hne : b ≠ 1 - b := by omega
    refine pl_201_44 ?_
    refine fm_192 (fun q45 => ?_) (fun q45 => ?_)
    · refine ⟨fun h48 => ?_, fun h48 => ?_⟩
      · exact absurd h48 (by decide)
      · refine ⟨fun h55 => ?_, fun h55 => ?_⟩
        · have h55 : (ps_i s 1131 9).toInt = (0 : Int) := xeq h55
          exact fm_201z_65 hb k1 k0 (gt_trans g (gt_one (tx_l_end (by omega)))) L F
        · have h55 : (ps_i s 1131 9).toInt ≠ (0 : Int) := xne h55
          refine fm_204u L (by omega) (fun s59 q59 => ?_)
          rcases q59 with ⟨h2, p2, e, L2, B⟩ | ⟨h2, pl, kk, e, e1, e2, e3, B⟩
          · exact fm_201z_44 hb k1 k0 n (gt_trans g (gt_one e)) L2 (by rw [kq_i B.1 21 (by decide)]; exact h21) (mt_fz_bk hrb hb hne F B)
          · exact fm_201z_44b hb k1 k0 (gt_trans g (gt_one e)) e1 e2 e3 (by rw [kq_i B.1 21 (by decide)]; exact h21) (mt_fz_bk hrb hb hne F B)
    · refine ⟨fun h48 => ?_, fun h48 => ?_⟩
      · exact absurd hG.1 q45
      · exact absurd h48 (by decide)
theorem fm_201z {n b : Nat} {s : ps_S} {T : Nat → Nat} {N : Nat} {R : Int32 → ps_S → Prop} (hb : b < 2) (h21 : (ps_i s 1131 21).toInt = b) (h3 : (ps_i s 1131 3).toInt = N) (hN : N ≤ 1600) (hT : ∀ k, k < N → (ps_a s 1132 k &&& 255).toInt = T k) (k1 : ∀ v s', mt_okx b T N s s' v → R v s') (k0 : ∀ v s', mt_badz b T N s s' v → R v s') : pl_Cl n 201 [.ref 1131] s (ps_rI R) := by
  cases n with
  | zero => exact pl_At_0
  | succ n =>
  show pl_At (n + 1) 201 0 [(0, .ref 1131)] [] s (ps_rI R)
  refine pl_201_0 ?_
  refine fm_198 h21 h3 hN hT (fun s1 q1 => ?_)
  intro b23
  obtain ⟨b23, c23⟩ := pl_in b23
  intro b33
  obtain ⟨b33, c33⟩ := pl_in b33
  intro b43
  obtain ⟨b43, c43⟩ := pl_in b43
  have c1 : (1 : Int32).toInt = 1 := by decide
  obtain ⟨K1, t1, t2, t3, t4, t5, t6⟩ := q1
  have j21 : (ps_i s1 1131 21).toInt = b := by rw [kq_i K1 21 (by decide)]; exact h21
  have e22 : ((1 : Int32) - (ps_i s1 1131 21)).toInt = (1 - b : Nat) := by rw [xIs (by omega) (by omega)]; omega
  show pl_At _ 201 44 [(0, .ref 1131)] [] (ps_ua (ps_ua (ps_ua (ps_ui s1 1131 22 ((1 : Int32) - (ps_i s1 1131 21))) 1135 (Int32.toNatClampNeg ((1 : Int32) - (ps_i s1 1131 21))) 0) 1136 (Int32.toNatClampNeg ((1 : Int32) - (ps_i s1 1131 21))) 0) 1137 (Int32.toNatClampNeg ((1 : Int32) - (ps_i s1 1131 21))) 0) _
  rw [xtn e22]
  generalize ((1 : Int32) - (ps_i s1 1131 21)) = v22 at e22 ⊢
  have K2 : kq [] [22] s1 (ps_ui s1 1131 22 v22) := kqi kq_refl rfl
  have B2 : mv_bk (1 - b) (ps_ui s1 1131 22 v22) (ps_ua (ps_ua (ps_ua (ps_ui s1 1131 22 v22) 1135 (1 - b) 0) 1136 (1 - b) 0) 1137 (1 - b) 0) := mv_bk_tr (mv_bk_tr (mv_bk_a (Or.inl ⟨rfl, rfl⟩)) (mv_bk_a (Or.inr (Or.inl ⟨rfl, rfl⟩)))) (mv_bk_a (Or.inr (Or.inr (Or.inl ⟨rfl, rfl⟩))))
  have F1 : mt_fz b s (ps_ui s1 1131 22 v22) := ⟨⟨⟨kqt (kqt kq_refl K1 (by decide) (by decide)) K2 (by decide) (by decide), fun hb' z => mv_H_kq (mv_H_kq z K1 (by decide)) K2 (by decide), t6⟩, fun i _ => by rw [kq_a K2 1134 (by decide), kq_a K1 1134 (by decide)]⟩, kqt (kqt kq_refl K1 (by decide) (by decide)) K2 (by decide) (by decide), fun i _ => by rw [kq_a K2 1134 (by decide), kq_a K1 1134 (by decide)]⟩
  have K3 : kq [1135, 1136, 1137] [] (ps_ui s1 1131 22 v22) (ps_ua (ps_ua (ps_ua (ps_ui s1 1131 22 v22) 1135 (1 - b) 0) 1136 (1 - b) 0) 1137 (1 - b) 0) := kqa (kqa (kqa kq_refl rfl) rfl) rfl
  have K4 := kqt (A := [1135, 1136, 1137]) (F := [22]) (kqt kq_refl K2 (by decide) (by decide)) K3 (by decide) (by decide)
  exact fm_201z_44 hb k1 k0 n gt_refl ⟨by omega, e22, mv_T_kq t1 K4 (by decide) (by decide), mv_H_nil, Nat.zero_le _, mv_K_kq t2 K4 (by decide), t4, mv_G_kq t3 K4 (by decide) (by decide)⟩ j21 (mt_fz_bk (by omega) hb (by omega) F1 B2)


/-! the class: theory(), read(), end(), rules() with all that they leave -/
theorem fs_108e {n r0 : Nat} {s : ps_S} {R : ps_S → Prop} (k : R (ps_ui (ps_ui s r0 5 0) r0 6 0)) : pl_Cl n 108 [.ref r0] s (ps_rV R) := by
  cases n with
  | zero => exact pl_At_0
  | succ n =>
  show pl_At (n + 1) 108 0 [(0, .ref r0)] [] s (ps_rV R)
  exact pl_108_0 (pl_nk_i (fun _ => pl_nk_i (fun _ => k)))
theorem fs_81e {n : Nat} {s : ps_S} {R : ps_S → Prop} (k : R (ps_ui (ps_ui s 1022 1 0) 1022 2 0)) : pl_Cl n 81 [.ref 1021] s (ps_rV R) := by
  cases n with
  | zero => exact pl_At_0
  | succ n =>
  show pl_At (n + 1) 81 0 [(0, .ref 1021)] [] s (ps_rV R)
  exact pl_81_0 (fs_91 k)
/-- cells that are cleared behind a theory taken -/
def CTH (p q : Nat) : Prop := q = p ∨ q = 870 ∨ q = 1038 ∨ q = 1069 ∨ q = 1100 ∨ q = 934 ∨ q = 1022 ∨ q = 957
theorem cSh_0 {s : ps_S} {q : Nat} (h : (ps_i s q 5).toInt = 0) : cSh s q [] := ⟨h, Nat.zero_le _, (fun k x hk => by cases hk)⟩
section T151
variable {p th : Nat} {s0 : ps_S} {R : Int32 → ps_S → Prop}
theorem fs_151f_65 (hp : p = 50 ∨ p = 460) (h2 : ps_r s0 0 2 = th) (hth : th = 2 ∨ th = 26) (k : ∀ s', cfr (CTH p) s0 s' → cv_W s' 934 [] → cv_W s' 1022 [] → cBx s' (fun _ => none) → ps_i s' 870 5 = ps_i s0 870 5 → (ps_i s' p 8 = ps_i s0 p 8 ∧ ps_i s' p 9 = ps_i s0 p 9) → R (ps_i s' th 8) s') : ∀ (n : Nat) {s : ps_S} {x3 : Int32} {i : Nat}, x3.toInt = i → i ≤ 3 → cfr (fun q => q = 1038 ∨ q = 1069 ∨ q = 1100) s0 s → (∀ j, j < i → ps_i s (1038 + 31 * j) 6 = 0) → pl_At n 151 65 [(0, .ref 0), (3, .int x3)] [] s (ps_rI R)
  | 0, _, _, _, _, _, _, _ => pl_At_0
  | n + 1, s, x3, i, h3, hi, F, hz => by
    have c3 : (nI 3).toInt = 3 := by decide
    refine pl_151_65 ⟨fun w => ?_, fun w => ?_⟩
    · have w := xle w
      refine fs_91 (fs_81e (fs_1d (fun s1 F1 => pl_nk_i (fun _ => ?_))))
      have Fa : cfr (fun q => q = 934 ∨ q = 1022) s (ps_ui (ps_ui (ps_ui (ps_ui s 934 1 0) 934 2 0) 1022 1 0) 1022 2 0) := cfr_i (cfr_i (cfr_i (cfr_i cfr_refl (Or.inl rfl)) (Or.inl rfl)) (Or.inr rfl)) (Or.inr rfl)
      have Wa : cv_W (ps_ui (ps_ui (ps_ui (ps_ui s 934 1 0) 934 2 0) 1022 1 0) 1022 2 0) 934 [] := ⟨rfl, rfl, Nat.zero_le _, (fun k c z => by cases z)⟩
      have Wb : cv_W (ps_ui (ps_ui (ps_ui (ps_ui s 934 1 0) 934 2 0) 1022 1 0) 1022 2 0) 1022 [] := ⟨rfl, rfl, Nat.zero_le _, (fun k c z => by cases z)⟩
      generalize ps_ui (ps_ui (ps_ui (ps_ui s 934 1 0) 934 2 0) 1022 1 0) 1022 2 0 = s2 at F1 Fa Wa Wb ⊢
      have na : ∀ q, q ≠ 934 → q ≠ 1022 → ¬ (fun q => q = 934 ∨ q = 1022) q := fun q a b z => z.elim a b
      have nb : ∀ q, q ≠ 957 → ¬ (fun q => q = 957) q := fun q a z => a z
      have n0 : ∀ q, q < 1000 → ¬ (fun q => q = 1038 ∨ q = 1069 ∨ q = 1100) q := fun q a z => by
        have z : q = 1038 ∨ q = 1069 ∨ q = 1100 := z
        omega
      have FF : cfr (CTH p) s0 s1 := cfr_tr (cfr_mono F (fun q z => by
        have z : q = 1038 ∨ q = 1069 ∨ q = 1100 := z
        unfold CTH
        omega)) (cfr_tr (cfr_mono Fa (fun q z => by
        have z : q = 934 ∨ q = 1022 := z
        unfold CTH
        omega)) (cfr_mono F1 (fun q z => by
        have z : q = 957 := z
        unfold CTH
        omega)))
      have nth : ∀ q, q < 50 → ¬ CTH p q := fun q a z => by unfold CTH at z; omega
      have e2 : ps_r s1 0 2 = th := by rw [(FF 0 (nth _ (by decide))).2.2.1]; exact h2
      rw [e2]
      refine k _ FF (cv_W_cfr Wa F1 (nb _ (by decide)) (nb _ (by decide))) (cv_W_cfr Wb F1 (nb _ (by decide)) (nb _ (by decide))) (fun j hj => ⟨(fun Θ z => by cases z), fun _ => ?_⟩) ?_ ⟨?_, ?_⟩
      · rw [(F1 _ (nb _ (by omega))).1, (Fa _ (na _ (by omega) (by omega))).1]
        exact hz j (by omega)
      · rw [(F1 870 (nb _ (by decide))).1, (Fa 870 (na _ (by decide) (by decide))).1, (F 870 (n0 _ (by decide))).1]
      · rw [(F1 p (nb _ (by omega))).1, (Fa p (na _ (by omega) (by omega))).1, (F p (n0 _ (by omega))).1]
      · rw [(F1 p (nb _ (by omega))).1, (Fa p (na _ (by omega) (by omega))).1, (F p (n0 _ (by omega))).1]
    · have w := xlt w
      refine fs_180e h3 (by omega) (fs_108e ?_)
      refine fs_151f_65 hp h2 hth k n (i := i + 1) (xj1 h3 (by omega)) (by omega) (cfr_i (cfr_i F (by omega)) (by omega)) (fun j hj => ?_)
      by_cases e : j = i
      · rw [e, ps_i_ui, if_pos ⟨rfl, rfl⟩]
      · rw [ps_i_ui, if_neg (by omega), ps_i_ui, if_neg (by omega)]
        exact hz j (by omega)
end T151
/-- theory(), of the class: th is the one that is read into, th2 the other -/
theorem fs_151f {n th th2 p p' : Nat} {s : ps_S} {T : Nat → Nat} {N : Nat} {R : Int32 → ps_S → Prop} (hp : (p = 50 ∧ p' = 460) ∨ (p = 460 ∧ p' = 50)) (r4 : ps_r s 0 4 = p) (r5 : ps_r s 0 5 = p') (hth : th = 2 ∨ th = 26) (h3 : ps_r s 0 3 = th) (h2 : ps_r s 0 2 = th2) (hb : cv_base s th) (hx : (ps_i s 0 1).toInt = N) (hN : N ≤ 1600) (hT : ∀ k, k < N → (ps_a s 1 k &&& 255).toInt = T k) (hkw : ∀ (k : Nat) (w : List Nat), tx_keys[k]? = some w → ps_b s 904 k = tx_x w) (W1 : cv_W s 62 []) (W2 : cv_W s 472 []) (k1 : ∀ (v : Int32) (s' : ps_S) (h : tx_H) (pp : Nat), gt_go (tx_ln T N) (0, (([], []), []), 0, 0) (3, h, pp, 0) → v.toInt = h.2.length → cv_H s' th h → ps_r s' 0 2 = th ∧ ps_r s' 0 3 = th2 → cv_W s' 934 [] → (ps_i s' 902 9).toInt = 0 ∧ (ps_i s' 902 10).toInt = -1 → EXc s' p p' [] 0 [] (fun _ => none) [] → R v s') (k0 : ∀ (s' : ps_S) (h : tx_H) (pl k : Nat), gt_go (tx_ln T N) (0, (([], []), []), 0, 0) (4, h, pl, k) → (ps_i s' 902 9).toInt = k → (ps_i s' 902 10).toInt = pl → cfr (fun q => q = 0 ∨ cv_HC th q) s s' → (∀ f, ps_r s' 0 f = ps_r s 0 f) → R (-1) s') : pl_Cl n 151 [.ref 0] s (ps_rI R) := by
  cases n with
  | zero => exact pl_At_0
  | succ n =>
  show pl_At (n + 1) 151 0 [(0, .ref 0)] [] s (ps_rI R)
  refine pl_151_0 ?_
  rw [h3]
  have n0 : ∀ q, (q = 0 ∨ (50 ≤ q ∧ q < 902) ∨ 907 < q) → ¬ cv_HC th q := fun q a z => by unfold cv_HC at z; omega
  refine fs_58 hth hb hx hN hT hkw (fun s1 q1 => ⟨fun _ => ?_, fun w => absurd w (by decide)⟩) (fun s1 q1 => ⟨fun w => absurd rfl w, fun _ => ?_⟩)
  · obtain ⟨h, pp, g, L, F⟩ := q1
    have er : ∀ f, ps_r s1 0 f = ps_r s 0 f := (F 0 (n0 _ (Or.inl rfl))).2.2.1
    rw [show ps_r (ps_ui s1 0 1 0) 0 3 = th from (er 3).trans h3, show ps_r (ps_ui s1 0 1 0) 0 2 = th2 from (er 2).trans h2]
    have x4 : ps_r (ps_ur (ps_ur (ps_ui s1 0 1 0) 0 2 th) 0 3 th2) 0 4 = p := by
      rw [ps_r_ur, if_neg (by omega), ps_r_ur, if_neg (by omega)]
      exact (er 4).trans r4
    have x5 : ps_r (ps_ur (ps_ur (ps_ui s1 0 1 0) 0 2 th) 0 3 th2) 0 5 = p' := by
      rw [ps_r_ur, if_neg (by omega), ps_r_ur, if_neg (by omega)]
      exact (er 5).trans r5
    have x2 : ps_r (ps_ur (ps_ur (ps_ui s1 0 1 0) 0 2 th) 0 3 th2) 0 2 = th := by rw [ps_r_ur, if_neg (by omega), ps_r_ur, if_pos ⟨rfl, rfl⟩]
    have x3 : ps_r (ps_ur (ps_ur (ps_ui s1 0 1 0) 0 2 th) 0 3 th2) 0 3 = th2 := by rw [ps_r_ur, if_pos ⟨rfl, rfl⟩]
    rw [x4]
    have F0 : cfr (fun q => q = 0) s1 (ps_ur (ps_ur (ps_ui s1 0 1 0) 0 2 th) 0 3 th2) := cfr_r (cfr_r (cfr_i cfr_refl rfl) rfl) rfl
    generalize ps_ur (ps_ur (ps_ui s1 0 1 0) 0 2 th) 0 3 th2 = s2 at F0 x4 x5 x2 x3 ⊢
    refine fs_31f (fs_108e ?_)
    have F3 : cfr (fun q => q = p ∨ q = 870) s2 (ps_ui (ps_ui (ps_ui (ps_ui (ps_ui s2 p 7 0) p 8 0) p 9 0) 870 5 0) 870 6 0) := cfr_i (cfr_i (cfr_i (cfr_i (cfr_i cfr_refl (Or.inl rfl)) (Or.inl rfl)) (Or.inl rfl)) (Or.inr rfl)) (Or.inr rfl)
    have y8 : ps_i (ps_ui (ps_ui (ps_ui (ps_ui (ps_ui s2 p 7 0) p 8 0) p 9 0) 870 5 0) 870 6 0) p 8 = 0 := by rw [ps_i_ui, if_neg (by omega), ps_i_ui, if_neg (by omega), ps_i_ui, if_neg (by omega), ps_i_ui, if_pos ⟨rfl, rfl⟩]
    have y9 : ps_i (ps_ui (ps_ui (ps_ui (ps_ui (ps_ui s2 p 7 0) p 8 0) p 9 0) 870 5 0) 870 6 0) p 9 = 0 := by rw [ps_i_ui, if_neg (by omega), ps_i_ui, if_neg (by omega), ps_i_ui, if_pos ⟨rfl, rfl⟩]
    have y5 : ps_i (ps_ui (ps_ui (ps_ui (ps_ui (ps_ui s2 p 7 0) p 8 0) p 9 0) 870 5 0) 870 6 0) 870 5 = 0 := by rw [ps_i_ui, if_neg (by omega), ps_i_ui, if_pos ⟨rfl, rfl⟩]
    generalize ps_ui (ps_ui (ps_ui (ps_ui (ps_ui s2 p 7 0) p 8 0) p 9 0) 870 5 0) 870 6 0 = s3 at F3 y8 y9 y5 ⊢
    have m0 : ∀ q, 0 < q → ¬ (fun q => q = 0) q := fun q a z => by
      have z : q = 0 := z
      omega
    have m3 : ∀ q, q ≠ p → q ≠ 870 → ¬ (fun q => q = p ∨ q = 870) q := fun q a b z => z.elim a b
    have hp' : p = 50 ∨ p = 460 := by omega
    have z2 : ps_r s3 0 2 = th := by rw [(F3 0 (m3 _ (by omega) (by omega))).2.2.1]; exact x2
    refine fs_151f_65 (p := p) (s0 := s3) hp' z2 hth (fun s4 F4 Wf Wn hB h870 h89 => ?_) n (i := 0) rfl (Nat.zero_le _) cfr_refl (fun j hj => absurd hj (Nat.not_lt_zero _))
    have n4 : ∀ q, q ≠ p → (q < 870 ∨ (870 < q ∧ q < 934) ∨ q = 935) → ¬ CTH p q := fun q a b z => by unfold CTH at z; omega
    have l8 := L.2.2.2.1.2.2.1
    have H4 : cv_H s4 th h := cv_H_cfr (cv_H_cfr (cv_H_cfr L.2.2.2.1 F0 (fun q a b => m0 _ (by omega))) F3 (fun q a b => m3 _ (by omega) (by omega))) F4 (fun q a b => n4 _ (by omega) (by omega))
    have e902 : ∀ f, ps_i s4 902 f = ps_i s1 902 f := fun f => by rw [(F4 902 (n4 _ (by omega) (by omega))).1, (F3 902 (m3 _ (by omega) (by omega))).1, (F0 902 (m0 _ (by omega))).1]
    have er4 : ∀ f, ps_r s4 0 f = ps_r s2 0 f := fun f => by rw [(F4 0 (n4 _ (by omega) (by omega))).2.2.1, (F3 0 (m3 _ (by omega) (by omega))).2.2.1]
    have Wx : ∀ {r : Nat}, (r = 62 ∨ r = 472) → cv_W s r [] → cv_W s4 r [] := fun {r} hr W => cv_W_cfr (cv_W_cfr (cv_W_cfr (cv_W_cfr W F (n0 _ (by omega)) (n0 _ (by omega))) F0 (m0 _ (by omega)) (m0 _ (by omega))) F3 (m3 _ (by omega) (by omega)) (m3 _ (by omega) (by omega))) F4 (n4 _ (by omega) (by omega)) (n4 _ (by omega) (by omega))
    refine k1 _ _ h pp g H4.2.1 H4 ⟨(er4 2).trans x2, (er4 3).trans x3⟩ Wf ⟨by rw [e902]; exact L.2.2.2.2.2.2.2.2.1, by rw [e902]; exact L.2.2.2.2.2.2.2.2.2⟩ ⟨⟨(er4 4).trans x4, (er4 5).trans x5, hp⟩, ⟨⟨Nat.zero_le _, (fun k R hk => by cases hk)⟩, by rw [h89.1, y8]; rfl, by rw [h89.2, y9]; rfl⟩, cSh_0 (by rw [h870, y5]; rfl), hB, Wn, Wx (Or.inl rfl) W1, Wx (Or.inr rfl) W2⟩
  · obtain ⟨h, pl, kk, g, f9, f10, F⟩ := q1
    refine k0 _ h pl kk g f9 f10 (cfr_i (cfr_mono F (fun q z => Or.inr z)) (Or.inl rfl)) (fun f => ?_)
    exact (F 0 (n0 _ (Or.inl rfl))).2.2.1 f
theorem fs_162f {n th : Nat} {s : ps_S} {T : Nat → Nat} {N : Nat} {gg : tx_g} {R : Int32 → ps_S → Prop} (hth : th = 2 ∨ th = 26) (h2 : ps_r s 0 2 = th) (hE : cv_E s th gg) (hx : (ps_i s 0 1).toInt = N) (hN : N ≤ 1600) (hT : ∀ k, k < N → (ps_a s 1 k &&& 255).toInt = T k) (hkw : ∀ (k : Nat) (w : List Nat), tx_keys[k]? = some w → ps_b s 904 k = tx_x w) (k1 : ∀ (v : Int32) (s' : ps_S) (l : List Nat), rd_ok T N (gg, false) 1 l → v.toInt = l.length → cv_W s' 934 l → (ps_i s' 902 9).toInt = 0 ∧ (ps_i s' 902 10).toInt = -1 → cfr (fun q => q = 0 ∨ cWr 934 q) s s' → (∀ f, ps_r s' 0 f = ps_r s 0 f) → R v s') (k0 : ∀ (s' : ps_S) (k pl : Nat), rd_bad T N (gg, false) 1 k pl → cv_W s' 934 [] → (ps_i s' 902 9).toInt = k → (ps_i s' 902 10).toInt = pl → cfr (fun q => q = 0 ∨ cWr 934 q) s s' → (∀ f, ps_r s' 0 f = ps_r s 0 f) → R (-1) s') : pl_Cl n 162 [.ref 0] s (ps_rI R) := by
  cases n with
  | zero => exact pl_At_0
  | succ n =>
  show pl_At (n + 1) 162 0 [(0, .ref 0)] [] s (ps_rI R)
  refine pl_162_0 ?_
  rw [h2]
  have n0 : ¬ cWr 934 0 := fun z => by unfold cWr at z; omega
  refine fs_60u (th := th) (r := 934) (ph := 1) (gg := gg) (T := T) (N := N) (Or.inl ⟨rfl, rfl⟩) hth rfl hE hx hN hT hkw (fun s21 q21 => ?_) (fun s21 q21 => ?_)
  · refine ⟨fun h31 => ?_, fun h31 => ?_⟩
    · obtain ⟨l, z, W, G, F⟩ := q21
      exact k1 _ _ l z W.1 W G (cfr_i (cfr_mono F (fun q z => Or.inr z)) (Or.inl rfl)) (fun f => (F 0 n0).2.2.1 f)
    · exact absurd h31 (by decide)
  · refine ⟨fun h31 => ?_, fun h31 => ?_⟩
    · exact absurd h31 (by decide)
    · refine fs_91 ?_
      obtain ⟨k, pl, z, e1, e2, F⟩ := q21
      exact k0 _ k pl z ⟨rfl, rfl, Nat.zero_le _, fun k c z => by cases z⟩ e1 e2 (cfr_i (cfr_i (cfr_i (cfr_mono F (fun q z => Or.inr z)) (Or.inl rfl)) (Or.inr (Or.inr (Or.inr (Or.inl rfl))))) (Or.inr (Or.inr (Or.inr (Or.inl rfl))))) (fun f => (F 0 n0).2.2.1 f)
theorem fs_150r {n : Nat} {x1 : Int32} {s : ps_S} {R : Int32 → ps_S → Prop} (k : ∀ (v : Int32) s', ps_r s' = ps_r s → R v s') : pl_Cl n 150 [.ref 0, .int x1] s (ps_rI R) := by
  cases n with
  | zero => exact pl_At_0
  | succ n =>
  show pl_At (n + 1) 150 0 [(0, .ref 0), (1, .int x1)] [] s (ps_rI R)
  refine pl_150_0 ⟨fun _ => k _ _ rfl, fun _ => ⟨fun _ => k _ _ rfl, fun _ => k _ _ rfl⟩⟩

