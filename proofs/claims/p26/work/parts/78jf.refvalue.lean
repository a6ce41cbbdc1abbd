set_option maxRecDepth 100000
/-! the reference: isSo, doesHold, hold(), counter() -/
theorem bc_le {ar : Nat → Nat} : ∀ {t : List Nat} {S : List (Nat × Nat)}, bc ar S t → S.length ≤ t.length
  | [], [], _ => Nat.le_refl _
  | [], _ :: _, h => h.elim
  | c :: t, [], h => by cases h
  | c :: t, d :: S, h => by
    have := bc_le h.2
    rw [List.length_append, List.length_replicate] at this
    rw [List.length_cons, List.length_cons]
    omega
theorem pl_Cl_297 {n c f m : Nat} {fv : Nat → Nat} {x1 x2 x3 : Int32} {s : ps_S} {R : Int32 → ps_S → Prop} (h1 : x1.toInt = c) (h2 : x2.toInt = f) (hf : f < 10206) (h3 : x3.toInt = m) (hm : m ≤ 3) (hv : ∀ x, x < m → (ps_a s 1174 (f + x)).toInt = fv x ∧ fv x ≤ 1) (hc : c = 4 ∨ c = 5) (k : ∀ v : Int32, v.toInt = (sv_q c ((List.range m).map fv) : Nat) → R v s) : pl_Cl n 297 [.ref 1131, .int x1, .int x2, .int x3] s (ps_rI R) := by
  cases n with
  | zero => exact pl_At_0
  | succ n =>
  show pl_At (n + 1) 297 0 [(0, .ref 1131), (1, .int x1), (2, .int x2), (3, .int x3)] [] s (ps_rI R)
  exact pl_297_0 (fm_297_3 h1 h2 hf h3 hm hv hc k n (j := 0) rfl (fun x hx => absurd hx (Nat.not_lt_zero _)))
theorem svi_lt' {m : Nat} {g : tx_g} {D fr : Nat → Nat} {p c : Nat} {b : Bool} {t env : List Nat} {q : Nat} (g1 : g.1.length ≤ 6) (g2 : g.2.length ≤ 4) (hA : ArW (sg g) (arh g)) (hD : dgo m g D) (hr2 : ∀ p, p < g.1.length → (g.1.getD p ([], 0)).2 ≤ 2) (hf2 : ∀ p, p < g.2.length → (g.2.getD p ([], 0)).2 ≤ 2) (hm3 : 1 ≤ m ∧ m ≤ 3) (h : pt g b p env.length (c :: t)) (hc10 : 10 ≤ c) (hc40 : c < 40) (hsub : ∀ v, 60 + v ∈ t → fr v < m) (he : ∀ x, x ∈ env → x < m) : svi m g D fr q env c t < m ^ arh g c := by
  obtain ⟨hp, hq, hb, ks, hk⟩ := pt_c h
  have ha := hA b c ks hk
  have ht := kS_tms hk hc10
  have ha2 : arh g c ≤ 2 := by
    rcases kS_num hk with ⟨a, e⟩ | ⟨a, a2, e⟩ | ⟨a, e⟩ | ⟨a, e⟩ | ⟨a, a2, e⟩ | ⟨a, a2, e⟩ | ⟨a, a2, e⟩
    · omega
    · omega
    · omega
    · omega
    · have a2 : c < 10 + g.1.length := a2
      have e : ks.length = (g.1.getD (c - 10) ([], 0)).2 := e
      have := hr2 (c - 10) (by omega)
      omega
    · have a2 : c < 20 + g.2.length := a2
      have e : ks.length = (g.2.getD (c - 20) ([], 0)).2 := e
      have := hf2 (c - 20) (by omega)
      omega
    · omega
  unfold svi sv_i
  rw [← ha] at ht
  rcases (show arh g c = 0 ∨ arh g c = 1 ∨ arh g c = 2 by omega) with e | e | e
  · rw [if_pos e, e, Nat.pow_zero]
    exact Nat.one_pos
  · rw [if_neg (by omega), if_pos e, e, Nat.pow_one]
    rw [e] at ht
    rw [ht] at hk
    have k1 := pt_1 hA h hk
    rw [qb_0 (by omega), Nat.add_zero] at k1
    exact (sv_lt g1 g2 hm3.1 hD hr2 hf2 k1 hsub he).2 rfl
  · rw [if_neg (by omega), if_neg (by omega), e]
    rw [e] at ht
    rw [ht] at hk
    have k1 := pt_1 hA h hk
    rw [qb_0 (by omega), Nat.add_zero] at k1
    have k2 := pt_2 hA h hk (qb_0 (by omega))
    rw [Nat.pow_succ, Nat.pow_one]
    exact pr_lt ((sv_lt g1 g2 hm3.1 hD hr2 hf2 k1 hsub he).2 rfl) ((sv_lt g1 g2 hm3.1 hD hr2 hf2 k2 (fun v hv => hsub v (List.mem_of_mem_drop hv)) he).2 rfl)
/-- what is set: bank, row, tables, digits, free things -/
def ME (s : ps_S) (b to m : Nat) (g : tx_g) (l : List Nat) (D fr : Nat → Nat) : Prop := (b < 2 ∧ (ps_i s 1131 21).toInt = b ∧ mv_E s b g) ∧ (to < 27400 ∧ mv_W s to l) ∧ ML s m g ∧ (∀ (j x : Nat), (md_B m (md_sy m g))[j]? = some x → (ps_a s 1169 j).toInt = D j ∧ D j < x) ∧ ∀ v, 60 + v ∈ l → v < 12 ∧ (ps_a s 1175 v).toInt = fr v ∧ fr v < m
theorem ME_kq {s s' : ps_S} {b to m : Nat} {g : tx_g} {l : List Nat} {D fr : Nat → Nat} (H : ME s b to m g l D fr) (K : kq [1150, 1173, 1174] [] s s') : ME s' b to m g l D fr := by
  obtain ⟨⟨h1, h2, h3⟩, ⟨h4, h5⟩, ⟨⟨j1, j2⟩, j3, j4⟩, h7, h8⟩ := H
  refine ⟨⟨h1, by rw [kq_i K 21 rfl]; exact h2, mv_E_kq h3 K (by decide)⟩, ⟨h4, ?_⟩, ⟨⟨by rw [kq_i K 73 rfl]; exact j1, ?_⟩, by rw [kq_a K 1171 (by decide)]; exact j3, by rw [kq_a K 1172 (by decide)]; exact j4⟩, by rw [kq_a K 1169 (by decide)]; exact h7, by rw [kq_a K 1175 (by decide)]; exact h8⟩
  · unfold mv_W at *
    rw [kq_a K 1134 (by decide)]
    exact h5
  · unfold ar_L at *
    rw [kq_a K 1170 (by decide)]
    exact j2
section M296
variable {b to m : Nat} {g : tx_g} {l : List Nat} {D fr : Nat → Nat}
theorem ME_ok {s : ps_S} (hm : 1 ≤ m ∧ m ≤ 3) (H : ME s b to m g l D fr) : g.1.length ≤ 6 ∧ g.2.length ≤ 4 ∧ ArW (sg g) (arh g) ∧ dgo m g D ∧ (∀ p, p < g.1.length → (g.1.getD p ([], 0)).2 ≤ 2) ∧ (∀ p, p < g.2.length → (g.2.getD p ([], 0)).2 ≤ 2) ∧ (∀ (i v : Nat), 60 + v ∈ l.drop i → fr v < m) ∧ (md_B m (md_sy m g)).length ≤ 90 := by
  obtain ⟨⟨h1, h2, h5⟩, h4, h6, h7, h8⟩ := H
  have hl := md_o_le hm.2 (mv_E_ar (m := m) h5) (md_sy m g).length (Nat.le_refl _)
  unfold md_o at hl
  rw [List.take_length, md_sy_len] at hl
  have g1 := h5.2.2.1
  have g2 := h5.2.2.2.1
  refine ⟨g1, g2, arh_k g1 g2, fun j x hx => (h7 j x hx).2, fun p hp => ?_, fun p hp => ?_, fun i v hv => (h8 v (List.mem_of_mem_drop hv)).2.2, by omega⟩
  · obtain ⟨w, hw⟩ := getD_2 (α := Nat) hp
    exact (h5.2.2.2.2.1 _ _ _ hw).2.1
  · obtain ⟨w, hw⟩ := getD_2 (α := Nat) hp
    exact (h5.2.2.2.2.2 _ _ _ hw).2.1
/-- a value, its parts' tables standing -/
theorem fm_296 {n i c e : Nat} {d : Nat × Nat} {S : List (Nat × Nat)} {gv0 : Nat → Int32} {x1 x2 x3 x4 x5 : Int32} {s : ps_S} {R : Int32 → ps_S → Prop} (hm : 1 ≤ m ∧ m ≤ 3) (H : ME s b to m g l D fr) (hS : SKI g l i) (es : sk (arh g) l i = d :: S) (hc : l[i]? = some c) (hV : VT gv0 m g D fr (sk (arh g) l (i + 1)) (l.drop (i + 1))) (hg : ∀ j, ¬ (243 * S.length ≤ j ∧ j < 243 * S.length + e) → ps_a s 1174 j = gv0 j) (he : e < m ^ d.2) (h1 : x1.toInt = c) (h2 : x2.toInt = (arh g c : Nat)) (h3 : x3.toInt = (S.length + 1 : Nat)) (h4 : x4.toInt = e) (h5 : x5.toInt = m) (k : ∀ v : Int32, v.toInt = (svg m g D fr (13 - d.1) (evl m d.2 e) (l.drop i) : Nat) → R v s) : pl_Cl n 296 [.ref 1131, .int x1, .int x2, .int x3, .int x4, .int x5] s (ps_rI R) := by
  cases n with
  | zero => exact pl_At_0
  | succ n =>
  show pl_At (n + 1) 296 0 [(0, .ref 1131), (1, .int x1), (2, .int x2), (3, .int x3), (4, .int x4), (5, .int x5)] [] s (ps_rI R)
  obtain ⟨g1, g2, hA, hD, hr2, hf2, hfr, h90⟩ := ME_ok hm H
  have h40 : l.length ≤ 40 := H.2.1.2.2.1
  have hil := (List.getElem?_eq_some_iff.mp hc).1
  obtain ⟨bb, hpt⟩ := SKI_pt hS es
  rw [drop_c hc] at hpt k
  obtain ⟨hp, hq5, hb40, ks, hk⟩ := pt_c hpt
  have ha := hA bb c ks hk
  have hS1 := SKI_s hA hS hil
  have esk := sk_c es hc
  rw [esk] at hV
  have hlen : arh g c + S.length ≤ 39 := by
    have := bc_le hS1.1
    rw [esk, List.length_append, List.length_replicate, List.length_drop] at this
    omega
  have he243 : e < 243 := Nat.lt_of_lt_of_le he (md_243 hm.2 hq5)
  have hgap := kS_gap hk
  have ks2 := ar2 H.1.2.2 hk
  obtain ⟨q13, eq13⟩ : ∃ q, 13 - d.1 = q + 1 := ⟨12 - d.1, by omega⟩
  have eqq : 13 - (d.1 + 1) = q13 := by omega
  have hel : (evl m d.2 e).length = d.2 := evl_len
  have hev := evl_lt (m := m) (q := d.2) (e := e) hm.1
  rw [eq13] at k
  have c243 : (243 : Int32).toInt = 243 := by decide
  have c2 : (2 : Int32).toInt = 2 := by decide
  have c1 : (1 : Int32).toInt = 1 := by decide
  have c0 : (0 : Int32).toInt = 0 := by decide
  have c3 : (3 : Int32).toInt = 3 := by decide
  have c4 : (4 : Int32).toInt = 4 := by decide
  have c5 : (5 : Int32).toInt = 5 := by decide
  have c6 : (6 : Int32).toInt = 6 := by decide
  have c10 : (10 : Int32).toInt = 10 := by decide
  have c20 : (20 : Int32).toInt = 20 := by decide
  have c60 : (60 : Int32).toInt = 60 := by decide
  have c40' : (40 : Int32).toInt = 40 := by decide
  have t1 : (x3 - 1).toInt = (S.length : Nat) := by rw [xIs (by omega) (by omega), h3, c1]; omega
  have two : ((243 : Int32) * (x3 - 1)).toInt = (243 * S.length : Nat) := by rw [xIm (by rw [c243, t1]; omega) (by rw [c243, t1]; omega), c243, t1]; omega
  -- what follows is the same for both places of the first part
  have main : ∀ (n : Nat) (x6 x7 : Int32), (1 ≤ arh g c → x6.toInt = (243 * (S.length + arh g c - 1) : Nat)) → x7.toInt = (243 * S.length : Nat) → pl_At n 296 28 [(0, .ref 1131), (1, .int x1), (2, .int x2), (4, .int x4), (5, .int x5), (6, .int x6), (7, .int x7)] [] s (ps_rI R) := fun n x6 x7 h6 h7 => by
    -- the second part's value, and the first's where there are two
    have v2 : arh g c = 2 → qb c = 0 → (ps_a s 1174 (243 * (S.length + 1) + e)).toInt = (svg m g D fr q13 (evl m d.2 e) (l.drop (i + 1)) : Nat) ∧ (ps_a s 1174 (243 * S.length + e)).toInt = (svg m g D fr q13 (evl m d.2 e) ((l.drop (i + 1)).drop (en (arh g) (l.drop (i + 1)) 1)) : Nat) := fun ha2 hqb => by
      rw [ha2, hqb] at hV
      obtain ⟨w1, w2, -⟩ := hV
      have w1 : (gv0 (243 * (S.length + 1) + e)).toInt = (svg m g D fr q13 (evl m d.2 e) (l.drop (i + 1)) : Nat) := by
        rw [← eqq]
        exact w1 e he
      have w2 : (gv0 (243 * S.length + e)).toInt = (svg m g D fr q13 (evl m d.2 e) ((l.drop (i + 1)).drop (en (arh g) (l.drop (i + 1)) 1)) : Nat) := by
        rw [← eqq]
        exact w2 e he
      rw [hg _ (by omega), hg _ (by omega)]
      exact ⟨w1, w2⟩
    have v1 : arh g c = 1 → qb c = 0 → (ps_a s 1174 (243 * S.length + e)).toInt = (svg m g D fr q13 (evl m d.2 e) (l.drop (i + 1)) : Nat) := fun ha1 hqb => by
      rw [ha1, hqb] at hV
      obtain ⟨w1, -⟩ := hV
      have w1 : (gv0 (243 * S.length + e)).toInt = (svg m g D fr q13 (evl m d.2 e) (l.drop (i + 1)) : Nat) := by
        rw [← eqq]
        exact w1 e he
      rw [hg _ (by omega)]
      exact w1
    have i6 : arh g c = 2 → (x6 + x4).toInt = (243 * (S.length + 1) + e : Nat) := fun ha2 => by
      have := h6 (by omega)
      rw [ha2, show S.length + 2 - 1 = S.length + 1 from by omega] at this
      rw [xIa (by omega) (by omega), this, h4]
      rfl
    have i6' : arh g c = 1 → (x6 + x4).toInt = (243 * S.length + e : Nat) := fun ha1 => by
      have := h6 (by omega)
      rw [ha1, show S.length + 1 - 1 = S.length from by omega] at this
      rw [xIa (by omega) (by omega), this, h4]
      rfl
    have i7 : (x7 + x4).toInt = (243 * S.length + e : Nat) := by rw [xIa (by omega) (by omega), h7, h4]; rfl
    have bit : 1 ≤ c → c < 4 → (svg m g D fr q13 (evl m d.2 e) (l.drop (i + 1)) ≤ 1 ∧ svg m g D fr q13 (evl m d.2 e) ((l.drop (i + 1)).drop (en (arh g) (l.drop (i + 1)) 1)) ≤ 1) ∧ arh g c = 2 := fun a1 a2 => by
      have hbt : bb = true := by
        rcases kS_cases hk with ⟨z, -⟩ | ⟨z, -⟩ | ⟨z, -⟩ | ⟨z, -⟩ | ⟨z, -⟩ | ⟨-, a, -⟩ | ⟨-, a, -⟩
        · exact z
        · exact z
        · exact z
        · exact z
        · exact z
        · omega
        · omega
      subst hbt
      have hks := ((kS_t g1 g2 hk).1 rfl).2.2.1 a1 a2
      subst hks
      have k1 := pt_1 hA hpt hk
      rw [qb_0 (by omega), Nat.add_zero] at k1
      have k2 := pt_2 hA hpt hk (qb_0 (by omega))
      refine ⟨⟨?_, ?_⟩, ha⟩
      · exact (sv_lt g1 g2 hm.1 hD hr2 hf2 (by rw [hel]; exact k1) (hfr _) hev).1 rfl
      · exact (sv_lt g1 g2 hm.1 hD hr2 hf2 (by rw [hel]; exact k2) (fun v hv => hfr (i + 1) v (List.mem_of_mem_drop hv)) hev).1 rfl
    cases n with
    | zero => exact pl_At_0
    | succ n =>
    refine pl_296_28 ⟨fun z0 => ⟨fun z1 => ⟨fun z2 => ?_, fun z2 => ?_⟩, fun z1 => ?_⟩, fun z0 => ?_⟩
    · have z0 := xne z0
      have z1 := xne z1
      have z2 := xne z2
      cases n with
      | zero => exact pl_At_0
      | succ n =>
      have quant : (c = 4 ∨ c = 5) → pl_At n 296 127 [(0, .ref 1131), (1, .int x1), (4, .int x4), (5, .int x5), (6, .int x6)] [] s (ps_rI R) := fun h45 => by
        cases n with
        | zero => exact pl_At_0
        | succ n =>
        have ha1 : arh g c = 1 := (arh_lo (g := g) (c := c)).2.2.1 h45
        have hbt : bb = true := by
          rcases kS_cases hk with ⟨z, -⟩ | ⟨z, -⟩ | ⟨z, -⟩ | ⟨z, -⟩ | ⟨z, -⟩ | ⟨-, a, -⟩ | ⟨-, a, -⟩
          · exact z
          · exact z
          · exact z
          · exact z
          · exact z
          · omega
          · omega
        subst hbt
        have hks := ((kS_t g1 g2 hk).1 rfl).2.2.2.1 h45
        subst hks
        have k1 := pt_1 hA hpt hk
        rw [qb_1 h45] at k1
        rw [ha1, qb_1 h45] at hV
        obtain ⟨w1, -⟩ := hV
        have h66 := h6 (by omega)
        rw [ha1, show S.length + 1 - 1 = S.length from by omega] at h66
        have hem : e * m + m ≤ m ^ (d.2 + 1) := by
          have : (e + 1) * m ≤ m ^ d.2 * m := Nat.mul_le_mul_right m he
          rw [Nat.add_mul, Nat.one_mul] at this
          rw [Nat.pow_succ]
          exact this
        have hq5' : d.2 + 1 ≤ 5 := by
          obtain ⟨c', t', hd'⟩ := pt_ne k1
          rw [hd'] at k1
          exact (pt_c k1).2.1
        have h243 := md_243 (q := d.2 + 1) hm.2 hq5'
        have h243' : m ^ (d.2 + 1) ≤ 243 := h243
        have e1 : (x4 * x5).toInt = (e * m : Nat) := by exact xImN h4 h5 (by omega)
        have e2 : (x6 + (x4 * x5)).toInt = (243 * S.length + e * m : Nat) := by rw [xIa (by omega) (by omega), h66, e1]; rfl
        have hee : e ≤ e * m := Nat.le_mul_of_pos_right e hm.1
        refine pl_296_127 ?_
        refine pl_Cl_297 (c := c) (f := 243 * S.length + e * m) (m := m) (fv := fun x => svg m g D fr q13 (x :: evl m d.2 e) (l.drop (i + 1))) h1 e2 (by omega) h5 hm.2 (fun x hx => ?_) h45 (fun v q => ?_)
        · have w : (gv0 (243 * S.length + (e * m + x))).toInt = (svg m g D fr q13 (x :: evl m d.2 e) (l.drop (i + 1)) : Nat) := by
            rw [← evl_c hx, ← eqq]
            exact w1 (e * m + x) (by show e * m + x < m ^ (d.2 + 1); omega)
          rw [Nat.add_assoc, hg _ (by omega)]
          refine ⟨w, ?_⟩
          have hx2 := sv_lt (k := q13) (env := x :: evl m d.2 e) g1 g2 hm.1 hD hr2 hf2 (by rw [List.length_cons, hel]; exact k1) (hfr _) (fun y hy => by
            rcases List.mem_cons.mp hy with hy | hy
            · rw [hy]; exact hx
            · exact hev y hy)
          exact hx2.1 rfl
        · refine k _ ?_
          rw [svg, sv_4 h45]
          exact q
      refine pl_296_88 ⟨fun z3 => ⟨fun z4 => ?_, fun z4 => ⟨fun z5 => ?_, fun z5 => ?_⟩⟩, fun z3 => ?_⟩
      · have z4 := xeq z4
        exact quant (by omega)
      · have z3 := xne z3
        have z4 := xne z4
        have z5 := xne z5
        cases n with
        | zero => exact pl_At_0
        | succ n =>
        refine pl_296_143 ⟨fun z6 => ?_, fun z6 => ?_⟩
        · have z6 := xne z6
          have hc10 : 10 ≤ c := by omega
          cases n with
          | zero => exact pl_At_0
          | succ n =>
          refine pl_296_178 ⟨fun y60 => ⟨fun y40 => ?_, fun y40 => ?_⟩, fun y60 => ?_⟩
          · have y40 := xlt y40
            cases n with
            | zero => exact pl_At_0
            | succ n =>
            have hi := svi_lt' (q := q13) (env := evl m d.2 e) g1 g2 hA hD hr2 hf2 hm (by rw [hel]; exact hpt) hc10 (by omega) (hfr (i + 1)) hev
            have tb := tb_at g1 g2 hk hc10 (by omega) hi
            obtain ⟨⟨-, -, hE⟩, -, hML, hDg, -⟩ := H
            -- the digit read
            have fin : ∀ (idx : Int32), idx.toInt = (svi m g D fr q13 (evl m d.2 e) c (l.drop (i + 1)) : Nat) → (20 ≤ x1 → pm_in (x1 - 20) 4 = true → pm_in ((ps_a s 1172 (Int32.toNatClampNeg (x1 - 20))) + idx) 96 = true → R (ps_a s 1169 (Int32.toNatClampNeg ((ps_a s 1172 (Int32.toNatClampNeg (x1 - 20))) + idx))) s) ∧ (x1 < 20 → pm_in (x1 - 10) 6 = true → pm_in ((ps_a s 1171 (Int32.toNatClampNeg (x1 - 10))) + idx) 96 = true → R (ps_a s 1169 (Int32.toNatClampNeg ((ps_a s 1171 (Int32.toNatClampNeg (x1 - 10))) + idx))) s) := fun idx hidx => by
              refine ⟨fun w _ _ => ?_, fun w _ _ => ?_⟩
              · have w := xle w
                rcases tb with ⟨-, w2, -⟩ | ⟨-, w2, w3, w4⟩
                · omega
                have hlt := (List.getElem?_eq_some_iff.mp w4).1
                have ei : (x1 - 20).toInt = (c - 20 : Nat) := by rw [xIs (by omega) (by omega), h1, c20]; omega
                have e3 : (ps_a s 1172 (c - 20)).toInt = (tfa m g (c - 20) : Nat) := hML.2.2 (c - 20) w3
                rw [xtn ei]
                rw [xtn (a := tfa m g (c - 20) + svi m g D fr q13 (evl m d.2 e) c (l.drop (i + 1))) (by rw [xIa (by omega) (by omega), e3, hidx]; rfl)]
                refine k _ ?_
                rw [(hDg _ _ w4).1, svg, sv_f hc10 (by omega), if_neg (by omega)]
              · have w := xlt w
                rcases tb with ⟨-, w2, w3, w4⟩ | ⟨-, w2, -⟩
                · have hlt := (List.getElem?_eq_some_iff.mp w4).1
                  have ei : (x1 - 10).toInt = (c - 10 : Nat) := by rw [xIs (by omega) (by omega), h1, c10]; omega
                  have e3 : (ps_a s 1171 (c - 10)).toInt = (tra m g (c - 10) : Nat) := hML.2.1 (c - 10) w3
                  rw [xtn ei]
                  rw [xtn (a := tra m g (c - 10) + svi m g D fr q13 (evl m d.2 e) c (l.drop (i + 1))) (by rw [xIa (by omega) (by omega), e3, hidx]; rfl)]
                  refine k _ ?_
                  rw [(hDg _ _ w4).1, svg, sv_f hc10 (by omega), if_pos w2]
                · omega
            refine pl_296_216 ⟨fun a0 => ⟨fun a1 => ?_, fun a1 => ?_⟩, fun a0 => ?_⟩
            · have a0 := xne a0
              have a1 := xne a1
              have ha2 : arh g c = 2 := by omega
              obtain ⟨y1, y2⟩ := v2 ha2 (qb_0 (by omega))
              intro _ _
              rw [xtn (i6 ha2), xtn i7]
              have hsv : svi m g D fr q13 (evl m d.2 e) c (l.drop (i + 1)) = svg m g D fr q13 (evl m d.2 e) (l.drop (i + 1)) * m + svg m g D fr q13 (evl m d.2 e) ((l.drop (i + 1)).drop (en (arh g) (l.drop (i + 1)) 1)) := by
                unfold svi sv_i
                rw [if_neg (by omega), if_neg (by omega)]
              have hi9 := md_pow9 (a := arh g c) hm.2 (by omega)
              have em : ((ps_a s 1174 (243 * (S.length + 1) + e)) * x5).toInt = (svg m g D fr q13 (evl m d.2 e) (l.drop (i + 1)) * m : Nat) := by
                exact xImN y1 h5 (by omega)
              exact fin _ (by rw [xIa (by omega) (by omega), em, y2, hsv]; rfl)
            · have a1 := xeq a1
              have ha1 : arh g c = 1 := by omega
              have y1 := v1 ha1 (qb_0 (by omega))
              intro _
              rw [xtn (i6' ha1)]
              refine fin _ ?_
              rw [y1]
              unfold svi sv_i
              rw [if_neg (by omega), if_pos ha1]
            · have a0 := xeq a0
              refine fin 0 ?_
              unfold svi sv_i
              rw [if_pos (by omega)]
              rfl
          · have y60 := xlt y60
            have y40 := xle y40
            have hlt := hb40 (by omega) (by omega)
            refine fm_290 (m := m) (a := c - 40) h5 (by rw [xIs (by omega) (by omega), h1, c40']; omega) hm.2 (by omega) (fun v q => pl_nk_i (fun _ => pl_nk_i (fun _ => ?_)))
            have hpp : 0 < m ^ (c - 40) := Nat.pow_pos hm.1
            have ed : (x4 / v).toInt = (e / m ^ (c - 40) : Nat) := by rw [xdivr (by omega) (by omega), h4, q, ← Int.natCast_ediv]
            refine k _ ?_
            rw [xmodr (by rw [ed]; exact Int.natCast_nonneg _) (by omega), ed, h5, ← Int.natCast_emod, svg, sv_y (by omega) (by omega), List.getD_eq_getElem?_getD, evl_at hlt]
            rfl
          · have y60 := xle y60
            have hv : 60 + (c - 60) ∈ l := by
              rw [show 60 + (c - 60) = c from by omega]
              exact List.mem_of_getElem? hc
            obtain ⟨w1, w2, w3⟩ := H.2.2.2.2 _ hv
            intro _
            rw [xtn (a := c - 60) (by rw [xIs (by omega) (by omega), h1, c60]; omega)]
            refine k _ ?_
            rw [svg, sv_x (by omega)]
            exact w2
        · have z6 := xeq z6
          have e6 : c = 6 := by omega
          have ha2 : arh g c = 2 := (arh_lo (g := g) (c := c)).2.2.2.1 e6
          obtain ⟨y1, y2⟩ := v2 ha2 (qb_0 (by omega))
          intro _ _
          rw [xtn (i6 ha2), xtn i7]
          subst e6
          rw [svg, sv_6] at k
          refine ⟨fun a => ?_, fun a => ?_⟩
          · have a := xne a
            rw [y1, y2] at a
            refine k _ ?_
            rw [if_neg (fun w => a (by rw [svg, w]))]
            rfl
          · have a := xeq a
            rw [y1, y2] at a
            refine k _ ?_
            rw [if_pos (Int.ofNat.inj a)]
            rfl
      · have z5 := xeq z5
        exact quant (by omega)
      · have z3 := xeq z3
        have e3 : c = 3 := by omega
        obtain ⟨⟨b1, b2⟩, ha2⟩ := bit (by omega) (by omega)
        obtain ⟨y1, y2⟩ := v2 ha2 (qb_0 (by omega))
        intro _ _
        rw [xtn (i6 ha2), xtn i7]
        refine k _ ?_
        rw [svg, sv_2 (by omega) (by omega), e3]
        exact (bit_and y1 y2 b1 b2).2.2
    · have z2 := xeq z2
      have e2 : c = 2 := by omega
      obtain ⟨⟨b1, b2⟩, ha2⟩ := bit (by omega) (by omega)
      obtain ⟨y1, y2⟩ := v2 ha2 (qb_0 (by omega))
      intro _ _
      rw [xtn (i6 ha2), xtn i7]
      refine k _ ?_
      rw [svg, sv_2 (by omega) (by omega), e2]
      exact (bit_and y1 y2 b1 b2).2.1
    · have z1 := xeq z1
      have e1 : c = 1 := by omega
      obtain ⟨⟨b1, b2⟩, ha2⟩ := bit (by omega) (by omega)
      obtain ⟨y1, y2⟩ := v2 ha2 (qb_0 (by omega))
      intro _ _
      rw [xtn (i6 ha2), xtn i7]
      refine k _ ?_
      rw [svg, sv_2 (by omega) (by omega), e1]
      exact (bit_and y1 y2 b1 b2).1
    · have z0 := xeq z0
      have e0 : c = 0 := by omega
      subst e0
      exact k _ rfl
  refine pl_296_0 ⟨fun z => ?_, fun z => ?_⟩
  · have z := xne z
    refine main n _ _ (fun _ => ?_) two
    have a1 : (x3 + x2).toInt = (S.length + 1 + arh g c : Nat) := by rw [xIa (by omega) (by omega), h3, h2]; rfl
    have a2 : ((x3 + x2) - 2).toInt = (S.length + arh g c - 1 : Nat) := by rw [xIs (by omega) (by omega), a1, c2]; omega
    rw [xIm (by rw [c243, a2]; omega) (by rw [c243, a2]; omega), c243, a2]
    omega
  · have z := xeq z
    exact main n _ _ (fun w => by omega) two
end M296

