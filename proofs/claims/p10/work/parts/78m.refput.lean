set_option maxRecDepth 100000
/-! the reference: a term put into a row; what is assumed, gathered -/
def skE (s : ps_S) : List Nat → Prop
  | [] => True
  | e :: E => (ps_a s 1150 E.length).toInt = e ∧ skE s E
theorem skE_ext {s s' : ps_S} : ∀ {E : List Nat}, skE s E → (∀ i, i < E.length → ps_a s' 1150 i = ps_a s 1150 i) → skE s' E
  | [], _, _ => trivial
  | e :: E, h, q => by
    refine ⟨?_, skE_ext h.2 (fun i hi => q i (by rw [List.length_cons]; omega))⟩
    rw [q E.length (by rw [List.length_cons]; omega)]
    exact h.1
def KP (s0 s : ps_S) : Prop := kq [1149, 1150] [34] s0 s
theorem en_mono {σ : mSig} {ar : Nat → Nat} (hA : ArW σ ar) {t : List Nat} {W : List Bool} (h : ws σ t W) {a j : Nat} (hj : j < a) (ha : a ≤ W.length) : en ar t j < en ar t a := by
  obtain ⟨q, rfl⟩ : ∃ q, a = j + (q + 1) := ⟨a - j - 1, by omega⟩
  rw [en_add]
  have hr := (en_rest hA (k := j) h (by omega)).1
  have hl := en_lt hA h (k := j) (by omega)
  have := en_pos (ar := ar) (t := t.drop (en ar t j)) (p := q + 1) (by rw [List.length_drop]; omega) (Nat.succ_pos _)
  omega
theorem fm_231_16 {n0 i : Nat} {Pq : List Nat → Prop} {s : ps_S} {R : ps_S → Prop} {x1 x2 x3 x5 : Int32} (hpop : ∀ e E, Pq (e :: E) → e ≤ i → Pq E) (h5 : x5.toInt = i) (kk : ∀ {x4 : Int32} {E : List Nat}, x4.toInt = E.length → E.length ≤ 100 → skE s E → Pq E → (E = [] ∨ ∃ e E', E = e :: E' ∧ i < e) → pl_At n0 231 41 [(0, .ref 1131), (1, .int x1), (2, .int x2), (3, .int x3), (4, .int x4), (5, .int x5)] [] s (ps_rV R)) : ∀ (n : Nat) {x4 : Int32} {E : List Nat}, n ≤ n0 → x4.toInt = E.length → E.length ≤ 100 → skE s E → Pq E → pl_At n 231 16 [(0, .ref 1131), (1, .int x1), (2, .int x2), (3, .int x3), (4, .int x4), (5, .int x5)] [] s (ps_rV R)
  | 0, _, _, _, _, _, _, _ => pl_At_0
  | n + 1, x4, E, hn, h4, hE, hS, hP => by
    have c0 : (0 : Int32).toInt = 0 := Int32.toInt_zero
    have c1 : (1 : Int32).toInt = 1 := by decide
    refine pl_231_16 ⟨fun z => ?_, fun z => ?_⟩
    · have z := xle z
      have e : E = [] := by
        cases E with
        | nil => rfl
        | cons a G => rw [List.length_cons] at h4; omega
      exact (kk h4 hE hS hP (Or.inl e)).le (by omega)
    · have z := xlt z
      cases E with
      | nil =>
        rw [List.length_nil] at h4
        omega
      | cons e E' =>
        rw [List.length_cons] at h4 hE
        have e1 : (x4 - 1).toInt = (E'.length : Nat) := by rw [xIs (by omega) (by omega), h4, c1]; omega
        obtain ⟨s1, s2⟩ := id hS
        intro b1
        rw [xtn e1]
        refine ⟨fun y => ?_, fun y => ?_⟩
        · have y := xlt y
          exact (kk (E := e :: E') (by rw [List.length_cons]; exact h4) (by rw [List.length_cons]; exact hE) hS hP (Or.inr ⟨e, E', rfl, by omega⟩)).le (by omega)
        · have y := xle y
          clear e1 b1
          have e2 : (x4 + Int32.ofInt (-1)).toInt = (E'.length : Nat) := by
            rw [xof1 (b := E'.length + 1) h4 (by omega)]
            omega
          generalize x4 + Int32.ofInt (-1) = x9 at e2 ⊢
          exact fm_231_16 hpop h5 kk n (by omega) e2 (by omega) s2 (hpop e E' hP (by omega))

theorem fm_232_20 {n0 i : Nat} {Pq : List Nat → Prop} {s : ps_S} {R : ps_S → Prop} {x1 x2 x5 : Int32} (hpop : ∀ e E, Pq (e :: E) → e ≤ i → Pq E) (h5 : x5.toInt = i) (kk : ∀ {x4 : Int32} {E : List Nat}, x4.toInt = E.length → E.length ≤ 100 → skE s E → Pq E → (E = [] ∨ ∃ e E', E = e :: E' ∧ i < e) → pl_At n0 232 43 [(0, .ref 1131), (1, .int x1), (2, .int x2), (3, .int x4), (4, .int x5)] [] s (ps_rV R)) : ∀ (n : Nat) {x4 : Int32} {E : List Nat}, n ≤ n0 → x4.toInt = E.length → E.length ≤ 100 → skE s E → Pq E → pl_At n 232 20 [(0, .ref 1131), (1, .int x1), (2, .int x2), (3, .int x4), (4, .int x5)] [] s (ps_rV R)
  | 0, _, _, _, _, _, _, _ => pl_At_0
  | n + 1, x4, E, hn, h4, hE, hS, hP => by
    have c0 : (0 : Int32).toInt = 0 := Int32.toInt_zero
    have c1 : (1 : Int32).toInt = 1 := by decide
    refine pl_232_20 ⟨fun z => ?_, fun z => ?_⟩
    · have z := xle z
      have e : E = [] := by
        cases E with
        | nil => rfl
        | cons a G => rw [List.length_cons] at h4; omega
      exact (kk h4 hE hS hP (Or.inl e)).le (by omega)
    · have z := xlt z
      cases E with
      | nil =>
        rw [List.length_nil] at h4
        omega
      | cons e E' =>
        rw [List.length_cons] at h4 hE
        have e1 : (x4 - 1).toInt = (E'.length : Nat) := by rw [xIs (by omega) (by omega), h4, c1]; omega
        obtain ⟨s1, s2⟩ := id hS
        intro b1
        rw [xtn e1]
        refine ⟨fun y => ?_, fun y => ?_⟩
        · have y := xlt y
          exact (kk (E := e :: E') (by rw [List.length_cons]; exact h4) (by rw [List.length_cons]; exact hE) hS hP (Or.inr ⟨e, E', rfl, by omega⟩)).le (by omega)
        · have y := xle y
          clear e1 b1
          have e2 : (x4 + Int32.ofInt (-1)).toInt = (E'.length : Nat) := by
            rw [xof1 (b := E'.length + 1) h4 (by omega)]
            omega
          generalize x4 + Int32.ofInt (-1) = x9 at e2 ⊢
          exact fm_232_20 hpop h5 kk n (by omega) e2 (by omega) s2 (hpop e E' hP (by omega))

theorem fm_231_6 {b to : Nat} {g : tx_g} {l L0 tt : List Nat} {x1 x2 x3 : Int32} {s0 : ps_S} {R : ps_S → Prop} (hb : b < 2) (h21 : (ps_i s0 1131 21).toInt = b) (H0 : mv_E s0 b g) (hA : ArW (sg g) (arh g)) (h1 : x1.toInt = to) (hto : to < 27400) (W0 : mv_W s0 to l) (ht : L0.length ≤ 1000 ∧ tt.length ≤ 40 ∧ ((x2.toInt < 0 ∧ ∃ x : Nat, x3.toInt = x ∧ x < 100 ∧ tt = [60 + x]) ∨ ∃ q : Nat, x2.toInt = q ∧ q < 27400 ∧ mv_W s0 q tt)) (k : ∀ s', mk_M s' (L0 ++ tq_in (arh g) l tt) → KP s0 s' → R s') : ∀ (n : Nat) {s : ps_S} {x4 x5 : Int32} {i : Nat} {L E : List Nat} {D1 S : List (Nat × Nat)} {W : List Bool}, x5.toInt = i → 1 ≤ i → i ≤ l.length → x4.toInt = E.length → E.length ≤ i → skE s E → enI (arh g) l 1 E i S → ly (arh g) [(0, 0)] l = D1 ++ ly (arh g) S (l.drop i) → D1.length = i → ws (sg g) (l.drop i) W → S.length = W.length → mk_M s (L0 ++ L) → L.length ≤ 40 * i → tq_in (arh g) l tt = L ++ tq_pi tt ((ly (arh g) [(0, 0)] l).drop i) (l.drop i) → KP s0 s → pl_At n 231 6 [(0, .ref 1131), (1, .int x1), (2, .int x2), (3, .int x3), (4, .int x4), (5, .int x5)] [] s (ps_rV R)
  | 0, _, _, _, _, _, _, _, _, _, _, _, _, _, _, _, _, _, _, _, _, _, _, _, _ => pl_At_0
  | n + 1, s, x4, x5, i, L, E, D1, S, W, h5, hi1, hi, h4, hE, hSk, hI, hD, hD1, hw, hSW, M, hL, hsp, K => by
    have h40 := W0.2.1
    have c40 : (40 : Int32).toInt = 40 := by decide
    have c60 : (60 : Int32).toInt = 60 := by decide
    have Wr := mv_W_kq W0 K (by decide)
    have H := mv_E_kq H0 K (by decide)
    have h21' : (ps_i s 1131 21).toInt = b := by rw [kq_i K 21 rfl]; exact h21
    have hlen : (L0 ++ L).length < 50000 := by rw [List.length_append]; omega
    refine pl_231_6 (fm_219c h1 Wr (fun v1 q1 => ⟨fun z => ?_, fun z => ?_⟩))
    · have z := xle z
      have ei : i = l.length := by omega
      rw [ei, List.drop_length] at hsp
      have e0 : tq_pi tt ((ly (arh g) [(0, 0)] l).drop l.length) [] = [] := by
        cases (ly (arh g) [(0, 0)] l).drop l.length <;> rfl
      rw [e0, List.append_nil] at hsp
      exact k s (by rw [hsp]; exact M) K
    · have z := xlt z
      obtain ⟨c, hc⟩ : ∃ c, l[i]? = some c := ⟨_, List.getElem?_eq_getElem (by omega)⟩
      rw [drop_c hc] at hw hD
      obtain ⟨bb, W', ks, rfl, hk, hw'⟩ := ws_cons.mp hw
      have ha := hA bb c ks hk
      obtain ⟨d, S', rfl⟩ : ∃ d S', S = d :: S' := by
        cases S with
        | nil => cases hSW
        | cons d S' => exact ⟨d, S', rfl⟩
      have hly : ly (arh g) (d :: S') (c :: l.drop (i + 1)) = d :: ly (arh g) (List.replicate (arh g c) (d.1 + 1, d.2 + qb c) ++ S') (l.drop (i + 1)) := rfl
      rw [hly] at hD
      have hDi : (ly (arh g) [(0, 0)] l)[i]? = some d := by
        rw [hD, List.getElem?_append_right (by omega), hD1, Nat.sub_self]
        rfl
      have hD2 : ly (arh g) [(0, 0)] l = (D1 ++ [d]) ++ ly (arh g) (List.replicate (arh g c) (d.1 + 1, d.2 + qb c) ++ S') (l.drop (i + 1)) := by
        rw [hD, List.append_assoc]
        rfl
      have hD12 : (D1 ++ [d]).length = i + 1 := by rw [List.length_append, hD1]; rfl
      have hSW2 : (List.replicate (arh g c) (d.1 + 1, d.2 + qb c) ++ S').length = (ks ++ W').length := by
        rw [List.length_append, List.length_append, List.length_replicate, ha]
        rw [List.length_cons, List.length_cons] at hSW
        omega
      rw [drop_c hc, drop_g hDi] at hsp
      refine fm_231_16 (n0 := n) (i := i) (Pq := fun E => enI (arh g) l 1 E i (d :: S') ∧ E.length ≤ i) (fun e E2 hP he => ⟨enI_pop hP.1 he, by have := hP.2; rw [List.length_cons] at this; omega⟩) h5 (fun {y4 E2} g4 gE gS gP gt => ?_) n (Nat.le_refl _) h4 (by omega) hSk ⟨hI, hE⟩
      obtain ⟨gI, gE⟩ := gP
      have ed := (enI_at gI gt).1
      have hlt : ∀ j, j < arh g c → en (arh g) (l.drop (i + 1)) j < en (arh g) (l.drop (i + 1)) (arh g c) := fun j hj => en_mono hA hw' hj (by rw [List.length_append]; omega)
      have hq1 : qb c = 1 → arh g c = 1 := fun q => by
        have h45 : c = 4 ∨ c = 5 := by
          unfold qb at q
          split at q
          · assumption
          · cases q
        exact (arh_lo (g := g) (c := c)).2.2.1 h45
      have st2 := enI_step gI gt hc hq1 hlt
      -- behind the piece
      have after : ∀ {s5 : ps_S} {L5 : List Nat}, mk_M s5 (L0 ++ L5) → L5.length ≤ 40 * (i + 1) → tq_in (arh g) l tt = L5 ++ tq_pi tt ((ly (arh g) [(0, 0)] l).drop (i + 1)) (l.drop (i + 1)) → KP s s5 → skE s5 E2 → ∀ {n' : Nat}, n' ≤ n → ((c = 4 ∨ c = 5) → pl_At n' 231 101 [(0, .ref 1131), (1, .int x1), (2, .int x2), (3, .int x3), (4, .int y4), (5, .int x5)] [] s5 (ps_rV R)) ∧ (¬ (c = 4 ∨ c = 5) → pl_At n' 231 6 [(0, .ref 1131), (1, .int x1), (2, .int x2), (3, .int x3), (4, .int y4), (5, .int (x5 + 1))] [] s5 (ps_rV R)) := fun {s5 L5} M5 hL5 hsp5 K5 hS5 {n'} hn' => by
        have K5' : KP s0 s5 := kqt K K5 (by decide) (by decide)
        refine ⟨fun h45 => ?_, fun h45 => ?_⟩
        · rw [if_pos (qb_1 h45)] at st2
          cases n' with
          | zero => exact pl_At_0
          | succ n' =>
          have W5 := mv_W_kq W0 K5' (by decide)
          have H5 := mv_E_kq H0 K5' (by decide)
          have h215 : (ps_i s5 1131 21).toInt = b := by rw [kq_i K5' 21 rfl]; exact h21
          refine pl_231_101 (fm_221 hb h215 H5 h1 hto W5 h5 (by rw [drop_c hc]; exact hw) (fun v2 q2 => ?_))
          intro b2
          rw [xtn g4]
          refine (fm_231_6 hb h21 H0 hA h1 hto W0 ht k n (E := (i + en (arh g) (l.drop i) 1) :: E2) (L := L5) (xj1 h5 (by omega)) (by omega) (by omega) (by rw [List.length_cons]; exact xj1 g4 (by omega)) (by rw [List.length_cons]; omega) ⟨?_, skE_ext hS5 (fun j hj => ?_)⟩ st2 hD2 hD12 hw' hSW2 (mk_M_kq M5 (kqa kq_refl rfl : kq [1150] [] _ _) (by decide) (by decide)) hL5 hsp5 (kqa K5' rfl)).le (by omega)
          · rw [ps_a_ua, if_pos ⟨rfl, rfl⟩]
            exact q2
          · rw [ps_a_ua, if_neg (by omega)]
        · rw [if_neg (by rw [qb_0 h45]; decide)] at st2
          exact (fm_231_6 hb h21 H0 hA h1 hto W0 ht k n (E := E2) (L := L5) (xj1 h5 (by omega)) (by omega) (by omega) g4 (by omega) hS5 st2 hD2 hD12 hw' hSW2 M5 hL5 hsp5 K5').le (by omega)
      have e40 : ((40 : Int32) + y4).toInt = (40 + E2.length : Nat) := by rw [xIa (by omega) (by omega), c40, g4]; omega
      have at89 : ∀ {s5 : ps_S} {v : Int32} {L5 : List Nat}, v.toInt = c → mk_M s5 (L0 ++ L5) → L5.length ≤ 40 * (i + 1) → tq_in (arh g) l tt = L5 ++ tq_pi tt ((ly (arh g) [(0, 0)] l).drop (i + 1)) (l.drop (i + 1)) → KP s s5 → skE s5 E2 → ∀ {n' : Nat}, n' ≤ n → pl_At n' 231 89 [(0, .ref 1131), (1, .int x1), (2, .int x2), (3, .int x3), (4, .int y4), (5, .int x5), (6, .int v)] [] s5 (ps_rV R) := fun {s5 v L5} hv M5 hL5 hsp5 K5 hS5 {n'} hn' => by
        cases n' with
        | zero => exact pl_At_0
        | succ n' =>
        obtain ⟨a1, a2⟩ := after M5 hL5 hsp5 K5 hS5 (n' := n') (by omega)
        refine pl_231_89 ⟨fun y => a1 (Or.inl ?_), fun y => ⟨fun y2 => a2 ?_, fun y2 => a1 (Or.inr ?_)⟩⟩
        · have y : v.toInt = (4 : Int) := xeq y
          omega
        · have y : v.toInt ≠ (4 : Int) := xne y
          have y2 : v.toInt ≠ (5 : Int) := xne y2
          omega
        · have y2 : v.toInt = (5 : Int) := xeq y2
          omega
      have hsp : tq_in (arh g) l tt = L ++ ((if c + 1 = 40 + d.2 then tt else [c]) ++ tq_pi tt ((ly (arh g) [(0, 0)] l).drop (i + 1)) (l.drop (i + 1))) := hsp
      cases n with
      | zero => exact pl_At_0
      | succ n =>
      refine pl_231_41 (fm_220c h1 hto Wr h5 hc (fun v1 q1 => ⟨fun y => ?_, fun y => ⟨fun y2 => ?_, fun y2 => ?_⟩⟩))
      · have y := xne y
        rw [if_neg (by omega), ← List.append_assoc] at hsp
        refine fm_225 M q1 (by omega) (fun s2 M2 K2 => ?_)
        rw [List.append_assoc] at M2
        exact at89 q1 M2 (by rw [List.length_append, List.length_singleton]; omega) hsp (kqt kq_refl K2 (by decide) (by decide)) (skE_ext gS (fun j _ => by rw [kq_a K2 1150 (by decide)])) (Nat.le_succ _)
      · have y := xeq y
        have y2 := xlt y2
        rw [if_pos (by omega), ← List.append_assoc] at hsp
        rcases ht.2.2 with ⟨-, x, hx, hx1, htt⟩ | ⟨q, hq, -⟩
        · have e60 : ((60 : Int32) + x3).toInt = (60 + x : Nat) := by rw [xIa (by omega) (by omega), c60, hx]; omega
          refine fm_225 M e60 (by omega) (fun s2 M2 K2 => ?_)
          rw [List.append_assoc, ← htt] at M2
          exact at89 q1 M2 (by rw [List.length_append]; omega) hsp (kqt kq_refl K2 (by decide) (by decide)) (skE_ext gS (fun j _ => by rw [kq_a K2 1150 (by decide)])) (Nat.le_succ _)
        · have c0 : (0 : Int32).toInt = 0 := Int32.toInt_zero
          omega
      · have y := xeq y
        have y2 := xle y2
        have c0 : (0 : Int32).toInt = 0 := Int32.toInt_zero
        rw [if_pos (by omega), ← List.append_assoc] at hsp
        rcases ht.2.2 with ⟨hn, -⟩ | ⟨q, hq, hq1, Wt⟩
        · omega
        · refine fm_227 hq hq1 (mv_W_kq Wt K (by decide)) M (by omega) (fun s2 M2 K2 => ?_)
          rw [List.append_assoc] at M2
          exact at89 q1 M2 (by rw [List.length_append]; omega) hsp (kqt kq_refl K2 (by decide) (by decide)) (skE_ext gS (fun j _ => by rw [kq_a K2 1150 (by decide)])) (Nat.le_succ _)

theorem fm_231 {n b to : Nat} {g : tx_g} {l L0 tt : List Nat} {x1 x2 x3 : Int32} {s0 : ps_S} {R : ps_S → Prop} (hb : b < 2) (h21 : (ps_i s0 1131 21).toInt = b) (H0 : mv_E s0 b g) (h1 : x1.toInt = to) (hto : to < 27400) (W0 : mv_W s0 to l) (hw : ws (sg g) l [true]) (hc : l.head? = some 4 ∨ l.head? = some 5) (M : mk_M s0 L0) (ht : L0.length ≤ 1000 ∧ tt.length ≤ 40 ∧ ((x2.toInt < 0 ∧ ∃ x : Nat, x3.toInt = x ∧ x < 100 ∧ tt = [60 + x]) ∨ ∃ q : Nat, x2.toInt = q ∧ q < 27400 ∧ mv_W s0 q tt)) (k : ∀ s', mk_M s' (L0 ++ tq_in (arh g) l tt) → KP s0 s' → R s') : pl_Cl n 231 [.ref 1131, .int x1, .int x2, .int x3] s0 (ps_rV R) := by
  cases n with
  | zero => exact pl_At_0
  | succ n =>
  show pl_At (n + 1) 231 0 [(0, .ref 1131), (1, .int x1), (2, .int x2), (3, .int x3)] [] s0 (ps_rV R)
  have hA := arh_k H0.2.2.1 H0.2.2.2.1
  cases l with
  | nil => rcases hc with hc | hc <;> cases hc
  | cons c t =>
    have hc : c = 4 ∨ c = 5 := by
      rcases hc with hc | hc
      · exact Or.inl (Option.some.inj hc)
      · exact Or.inr (Option.some.inj hc)
    obtain ⟨bb, W', ks, e, hk, h2⟩ := ws_cons.mp hw
    cases e
    rw [kS_f1 hc] at hk
    cases hk
    have ha := (arh_lo (g := g) (c := c)).2.2.1 hc
    refine pl_231_0 (fm_231_6 hb h21 H0 hA h1 hto W0 ht k n (i := 1) (L := []) (E := []) (D1 := [(0, 0)]) (S := [(1, 1)]) rfl (Nat.le_refl _) (by rw [List.length_cons]; omega) rfl (Nat.zero_le _) trivial ⟨fun j d hd => ?_, fun e he => (by cases he), List.Pairwise.nil⟩ ?_ rfl h2 rfl (by rw [List.append_nil]; exact M) (Nat.zero_le _) rfl kq_refl)
    · cases j with
      | zero => cases hd; rfl
      | succ j => cases hd
    · show (0, 0) :: ly (arh g) (List.replicate (arh g c) (0 + 1, 0 + qb c) ++ []) t = [(0, 0)] ++ ly (arh g) [(1, 1)] t
      rw [ha, qb_1 hc]
      rfl

theorem fm_232_10 {b to x : Nat} {g : tx_g} {l L0 : List Nat} {x1 x2 : Int32} {s0 : ps_S} {R : ps_S → Prop} (hb : b < 2) (h21 : (ps_i s0 1131 21).toInt = b) (H0 : mv_E s0 b g) (hA : ArW (sg g) (arh g)) (h1 : x1.toInt = to) (hto : to < 27400) (W0 : mv_W s0 to l) (hx : x2.toInt = x) (hx1 : x < 100) (hL0 : L0.length ≤ 1000) (k : ∀ s', mk_M s' (L0 ++ tq_gi x (ly (arh g) [(0, 0)] l) l) → KP s0 s' → R s') : ∀ (n : Nat) {s : ps_S} {x4 x5 : Int32} {i : Nat} {L E : List Nat} {D1 S : List (Nat × Nat)} {W : List Bool}, x5.toInt = i → i ≤ l.length → x4.toInt = E.length → E.length ≤ i → skE s E → enI (arh g) l 0 E i S → ly (arh g) [(0, 0)] l = D1 ++ ly (arh g) S (l.drop i) → D1.length = i → ws (sg g) (l.drop i) W → S.length = W.length → mk_M s (L0 ++ L) → L.length ≤ i → tq_gi x (ly (arh g) [(0, 0)] l) l = L ++ tq_gi x ((ly (arh g) [(0, 0)] l).drop i) (l.drop i) → KP s0 s → pl_At n 232 10 [(0, .ref 1131), (1, .int x1), (2, .int x2), (3, .int x4), (4, .int x5)] [] s (ps_rV R)
  | 0, _, _, _, _, _, _, _, _, _, _, _, _, _, _, _, _, _, _, _, _, _, _, _ => pl_At_0
  | n + 1, s, x4, x5, i, L, E, D1, S, W, h5, hi, h4, hE, hSk, hI, hD, hD1, hw, hSW, M, hL, hsp, K => by
    have h40 := W0.2.1
    have c40 : (40 : Int32).toInt = 40 := by decide
    have c60 : (60 : Int32).toInt = 60 := by decide
    have Wr := mv_W_kq W0 K (by decide)
    have H := mv_E_kq H0 K (by decide)
    have h21' : (ps_i s 1131 21).toInt = b := by rw [kq_i K 21 rfl]; exact h21
    have hlen : (L0 ++ L).length < 50000 := by rw [List.length_append]; omega
    refine pl_232_10 (fm_219c h1 Wr (fun v1 q1 => ⟨fun z => ?_, fun z => ?_⟩))
    · have z := xle z
      have ei : i = l.length := by omega
      rw [ei, List.drop_length] at hsp
      have e0 : tq_gi x ((ly (arh g) [(0, 0)] l).drop l.length) [] = [] := by
        cases (ly (arh g) [(0, 0)] l).drop l.length <;> rfl
      rw [e0, List.append_nil] at hsp
      exact k s (by rw [hsp]; exact M) K
    · have z := xlt z
      obtain ⟨c, hc⟩ : ∃ c, l[i]? = some c := ⟨_, List.getElem?_eq_getElem (by omega)⟩
      rw [drop_c hc] at hw hD
      obtain ⟨bb, W', ks, rfl, hk, hw'⟩ := ws_cons.mp hw
      have ha := hA bb c ks hk
      obtain ⟨d, S', rfl⟩ : ∃ d S', S = d :: S' := by
        cases S with
        | nil => cases hSW
        | cons d S' => exact ⟨d, S', rfl⟩
      have hly : ly (arh g) (d :: S') (c :: l.drop (i + 1)) = d :: ly (arh g) (List.replicate (arh g c) (d.1 + 1, d.2 + qb c) ++ S') (l.drop (i + 1)) := rfl
      rw [hly] at hD
      have hDi : (ly (arh g) [(0, 0)] l)[i]? = some d := by
        rw [hD, List.getElem?_append_right (by omega), hD1, Nat.sub_self]
        rfl
      have hD2 : ly (arh g) [(0, 0)] l = (D1 ++ [d]) ++ ly (arh g) (List.replicate (arh g c) (d.1 + 1, d.2 + qb c) ++ S') (l.drop (i + 1)) := by
        rw [hD, List.append_assoc]
        rfl
      have hD12 : (D1 ++ [d]).length = i + 1 := by rw [List.length_append, hD1]; rfl
      have hSW2 : (List.replicate (arh g c) (d.1 + 1, d.2 + qb c) ++ S').length = (ks ++ W').length := by
        rw [List.length_append, List.length_append, List.length_replicate, ha]
        rw [List.length_cons, List.length_cons] at hSW
        omega
      rw [drop_c hc, drop_g hDi] at hsp
      refine fm_232_20 (n0 := n) (i := i) (Pq := fun E => enI (arh g) l 0 E i (d :: S') ∧ E.length ≤ i) (fun e E2 hP he => ⟨enI_pop hP.1 he, by have := hP.2; rw [List.length_cons] at this; omega⟩) h5 (fun {y4 E2} g4 gE gS gP gt => ?_) n (Nat.le_refl _) h4 (by omega) hSk ⟨hI, hE⟩
      obtain ⟨gI, gE⟩ := gP
      have ed := (enI_at gI gt).1
      have hlt : ∀ j, j < arh g c → en (arh g) (l.drop (i + 1)) j < en (arh g) (l.drop (i + 1)) (arh g c) := fun j hj => en_mono hA hw' hj (by rw [List.length_append]; omega)
      have hq1 : qb c = 1 → arh g c = 1 := fun q => by
        have h45 : c = 4 ∨ c = 5 := by
          unfold qb at q
          split at q
          · assumption
          · cases q
        exact (arh_lo (g := g) (c := c)).2.2.1 h45
      have st2 := enI_step gI gt hc hq1 hlt
      -- behind the piece
      have after : ∀ {s5 : ps_S} {L5 : List Nat}, mk_M s5 (L0 ++ L5) → L5.length ≤ (i + 1) → tq_gi x (ly (arh g) [(0, 0)] l) l = L5 ++ tq_gi x ((ly (arh g) [(0, 0)] l).drop (i + 1)) (l.drop (i + 1)) → KP s s5 → skE s5 E2 → ∀ {n' : Nat}, n' ≤ n → ((c = 4 ∨ c = 5) → pl_At n' 232 86 [(0, .ref 1131), (1, .int x1), (2, .int x2), (3, .int y4), (4, .int x5)] [] s5 (ps_rV R)) ∧ (¬ (c = 4 ∨ c = 5) → pl_At n' 232 10 [(0, .ref 1131), (1, .int x1), (2, .int x2), (3, .int y4), (4, .int (x5 + 1))] [] s5 (ps_rV R)) := fun {s5 L5} M5 hL5 hsp5 K5 hS5 {n'} hn' => by
        have K5' : KP s0 s5 := kqt K K5 (by decide) (by decide)
        refine ⟨fun h45 => ?_, fun h45 => ?_⟩
        · rw [if_pos (qb_1 h45)] at st2
          cases n' with
          | zero => exact pl_At_0
          | succ n' =>
          have W5 := mv_W_kq W0 K5' (by decide)
          have H5 := mv_E_kq H0 K5' (by decide)
          have h215 : (ps_i s5 1131 21).toInt = b := by rw [kq_i K5' 21 rfl]; exact h21
          refine pl_232_86 (fm_221 hb h215 H5 h1 hto W5 h5 (by rw [drop_c hc]; exact hw) (fun v2 q2 => ?_))
          intro b2
          rw [xtn g4]
          refine (fm_232_10 hb h21 H0 hA h1 hto W0 hx hx1 hL0 k n (E := (i + en (arh g) (l.drop i) 1) :: E2) (L := L5) (xj1 h5 (by omega)) (by omega) (by rw [List.length_cons]; exact xj1 g4 (by omega)) (by rw [List.length_cons]; omega) ⟨?_, skE_ext hS5 (fun j hj => ?_)⟩ st2 hD2 hD12 hw' hSW2 (mk_M_kq M5 (kqa kq_refl rfl : kq [1150] [] _ _) (by decide) (by decide)) hL5 hsp5 (kqa K5' rfl)).le (by omega)
          · rw [ps_a_ua, if_pos ⟨rfl, rfl⟩]
            exact q2
          · rw [ps_a_ua, if_neg (by omega)]
        · rw [if_neg (by rw [qb_0 h45]; decide)] at st2
          exact (fm_232_10 hb h21 H0 hA h1 hto W0 hx hx1 hL0 k n (E := E2) (L := L5) (xj1 h5 (by omega)) (by omega) g4 (by omega) hS5 st2 hD2 hD12 hw' hSW2 M5 hL5 hsp5 K5').le (by omega)
      have e40 : ((40 : Int32) + y4).toInt = (40 + E2.length : Nat) := by rw [xIa (by omega) (by omega), c40, g4]; omega
      have e60 : ((60 : Int32) + x2).toInt = (60 + x : Nat) := by rw [xIa (by omega) (by omega), c60, hx]; omega
      have hsp : tq_gi x (ly (arh g) [(0, 0)] l) l = L ++ ([if c = 60 + x then 40 + d.2 else c] ++ tq_gi x ((ly (arh g) [(0, 0)] l).drop (i + 1)) (l.drop (i + 1))) := hsp
      cases n with
      | zero => exact pl_At_0
      | succ n =>
      refine pl_232_43 (fm_220c h1 hto Wr h5 hc (fun v1 q1 => ⟨fun y => ?_, fun y => ?_⟩))
      · have y := xne y
        rw [if_neg (by omega), ← List.append_assoc] at hsp
        refine fm_225 M q1 (by omega) (fun s2 M2 K2 => ?_)
        rw [List.append_assoc] at M2
        obtain ⟨a1, a2⟩ := after M2 (by rw [List.length_append, List.length_singleton]; omega) hsp (kqt kq_refl K2 (by decide) (by decide)) (skE_ext gS (fun j _ => by rw [kq_a K2 1150 (by decide)])) (n' := n) (Nat.le_succ _)
        refine ⟨fun y => a1 (Or.inl ?_), fun y => ⟨fun y2 => a2 ?_, fun y2 => a1 (Or.inr ?_)⟩⟩
        · have y : v1.toInt = (4 : Int) := xeq y
          omega
        · have y : v1.toInt ≠ (4 : Int) := xne y
          have y2 : v1.toInt ≠ (5 : Int) := xne y2
          omega
        · have y2 : v1.toInt = (5 : Int) := xeq y2
          omega
      · have y := xeq y
        rw [if_pos (by omega), ← List.append_assoc] at hsp
        refine fm_225 M e40 (by omega) (fun s2 M2 K2 => ?_)
        rw [List.append_assoc, show 40 + E2.length = 40 + d.2 from by omega] at M2
        obtain ⟨a1, a2⟩ := after M2 (by rw [List.length_append, List.length_singleton]; omega) hsp (kqt kq_refl K2 (by decide) (by decide)) (skE_ext gS (fun j _ => by rw [kq_a K2 1150 (by decide)])) (n' := n) (Nat.le_succ _)
        refine ⟨fun y => a1 (Or.inl ?_), fun y => ⟨fun y2 => a2 ?_, fun y2 => a1 (Or.inr ?_)⟩⟩
        · have y : v1.toInt = (4 : Int) := xeq y
          omega
        · have y : v1.toInt ≠ (4 : Int) := xne y
          have y2 : v1.toInt ≠ (5 : Int) := xne y2
          omega
        · have y2 : v1.toInt = (5 : Int) := xeq y2
          omega

theorem fm_232 {n b to x : Nat} {g : tx_g} {l L0 : List Nat} {x1 x2 : Int32} {s0 : ps_S} {R : ps_S → Prop} (hb : b < 2) (h21 : (ps_i s0 1131 21).toInt = b) (H0 : mv_E s0 b g) (h1 : x1.toInt = to) (hto : to < 27400) (W0 : mv_W s0 to l) (hw : ws (sg g) l [true]) (M : mk_M s0 L0) (hx : x2.toInt = x) (hx1 : x < 100) (hL0 : L0.length ≤ 999) (k : ∀ s', mk_M s' (L0 ++ tq_ge (arh g) l x) → KP s0 s' → R s') : pl_Cl n 232 [.ref 1131, .int x1, .int x2] s0 (ps_rV R) := by
  cases n with
  | zero => exact pl_At_0
  | succ n =>
  show pl_At (n + 1) 232 0 [(0, .ref 1131), (1, .int x1), (2, .int x2)] [] s0 (ps_rV R)
  have hA := arh_k H0.2.2.1 H0.2.2.2.1
  refine pl_232_0 (fm_225 (c := 4) M rfl (by omega) (fun s1 M1 K1 => ?_))
  refine fm_232_10 (s0 := s1) (L0 := L0 ++ [4]) hb (by rw [kq_i K1 21 rfl]; exact h21) (mv_E_kq H0 K1 (by decide)) hA h1 hto (mv_W_kq W0 K1 (by decide)) hx hx1 (by rw [List.length_append, List.length_singleton]; omega) (fun s' M' K' => k s' ?_ (kqt (kqt kq_refl K1 (by decide) (by decide)) K' (by decide) (by decide))) n (i := 0) (L := []) (E := []) (D1 := []) (S := [(0, 0)]) rfl (Nat.zero_le _) rfl (Nat.zero_le _) trivial ⟨fun j d hd => ?_, fun e he => (by cases he), List.Pairwise.nil⟩ rfl rfl hw rfl (by rw [List.append_nil]; exact M1) (Nat.zero_le _) rfl kq_refl
  · rw [List.append_assoc] at M'
    exact M'
  · cases j with
    | zero => cases hd; rfl
    | succ j => cases hd

/-- what the i-th step assumes, as it is gathered; at most b rows were tried -/
def PAm (s : ps_S) (i : Nat) (A : List (List Nat)) (b : Nat) : Prop := (∃ c : Nat, (ps_i s 1131 51).toInt = c ∧ c ≤ b ∧ (A.length ≤ 12 → c = A.length) ∧ (12 < A.length → 12 < c)) ∧ A.length ≤ 13 ∧ ∀ (n : Nat) (y : List Nat), n < 12 → A[n]? = some y → mv_W s (1640 + 41 * (12 * i + n)) y
/-- the pool but for what the i-th step assumes -/
def mpA (i : Nat) (s s' : ps_S) : Prop := ∀ q, (q < 1640 + 492 * i ∨ 1640 + 492 * i + 492 ≤ q) → ps_a s' 1134 q = ps_a s 1134 q
def KA (i : Nat) (s0 s : ps_S) : Prop := kq [1134] [51] s0 s ∧ mpA i s0 s
theorem KA_refl {i : Nat} {s : ps_S} : KA i s s := ⟨kq_refl, fun _ _ => rfl⟩
theorem KA_tr {i : Nat} {s s1 s2 : ps_S} (h : KA i s s1) (h' : KA i s1 s2) : KA i s s2 := ⟨kqt h.1 h'.1 (by decide) (by decide), fun q hq => (h'.2 q hq).trans (h.2 q hq)⟩
theorem PAm_kq {A F : List Nat} {s s' : ps_S} {i b : Nat} {L : List (List Nat)} (h : PAm s i L b) (K : kq A F s s') (hA : A.contains 1134 = false) (hF : F.contains 51 = false) : PAm s' i L b := by
  obtain ⟨⟨c, h1, h2⟩, h3, h4⟩ := h
  exact ⟨⟨c, by rw [kq_i K 51 hF]; exact h1, h2⟩, h3, fun n y hn hy => mv_W_kq (h4 n y hn hy) K hA⟩
/-- one row more that is assumed -/
theorem PAm_add {A : List (List Nat)} {s : ps_S} {i b : Nat} {y : List Nat} (h : PAm s i A b) (h12 : 12 ≤ A.length) (hb : b < 10000) : PAm (ps_ui s 1131 51 ((ps_i s 1131 51) + 1)) i (if 12 < A.length then A else A ++ [y]) (b + 1) := by
  obtain ⟨⟨c, h1, h2, h3, h4⟩, h5, h6⟩ := h
  have hlen : (A ++ [y]).length = A.length + 1 := List.length_append
  refine ⟨⟨c + 1, by rw [ps_i_ui, if_pos ⟨rfl, rfl⟩]; exact xj1 h1 (by omega), by omega, fun z => ?_, fun _ => ?_⟩, ?_, fun n w hn hw => ?_⟩
  · split at z <;> omega
  · omega
  · split <;> omega
  · refine h6 n w hn ?_
    split at hw
    · exact hw
    · rw [List.getElem?_append_left (by omega)] at hw
      exact hw
section A248
variable {i tr : Nat} {A : List (List Nat)} {y : List Nat} {bd : Nat} {x1 x2 : Int32} {s0 : ps_S} {R : ps_S → Prop}
theorem fm_248_36 {n : Nat} {s : ps_S} (h1 : x1.toInt = i) (hi : i < 40) (h2 : x2.toInt = tr) (htr : tr + 41 ≤ 27400) (hds : tr + 41 ≤ 1640 + 492 * i ∨ 1640 + 492 * i + 492 ≤ tr) (W : mv_W s tr y) (hA : PAm s i A bd) (hbd : bd < 10000) (hn : ¬ y ∈ A.take 12) (k : ∀ s', PAm s' i (if 12 < A.length ∨ y ∈ A then A else A ++ [y]) (bd + 1) → KA i s s' → R s') : pl_At n 248 36 [(0, .ref 1131), (1, .int x1), (2, .int x2)] [] s (ps_rV R) := by
  cases n with
  | zero => exact pl_At_0
  | succ n =>
  have c12 : (12 : Int32).toInt = 12 := by decide
  obtain ⟨⟨c, e1, e2, e3, e4⟩, e5, e6⟩ := id hA
  refine pl_248_36 ⟨fun z => ?_, fun z => ?_⟩
  · have z := xle z
    have h12 : 12 ≤ A.length := by
      rcases Nat.lt_or_ge A.length 12 with u | u
      · have := e3 (by omega)
        omega
      · exact u
    have hm : (if 12 < A.length ∨ y ∈ A then A else A ++ [y]) = (if 12 < A.length then A else A ++ [y]) := by
      by_cases u : 12 < A.length
      · rw [if_pos (Or.inl u), if_pos u]
      · rw [if_neg (fun w => w.elim u (fun w => hn (by rw [List.take_of_length_le (by omega)]; exact w))), if_neg u]
    refine k _ ?_ ⟨kqi kq_refl rfl, fun _ _ => rfl⟩
    rw [hm]
    exact PAm_add hA h12 hbd
  · have z := xlt z
    have h12 : A.length < 12 := by
      rcases Nat.lt_or_ge A.length 12 with u | u
      · exact u
      · rcases Nat.lt_or_ge 12 A.length with v | v
        · have := e4 v
          omega
        · have := e3 v
          omega
    have ec := e3 (by omega)
    have hm : (if 12 < A.length ∨ y ∈ A then A else A ++ [y]) = A ++ [y] := by
      rw [if_neg (fun w => w.elim (by omega) (fun w => hn (by rw [List.take_of_length_le (by omega)]; exact w)))]
    rw [hm] at k
    refine fm_243 (i := i) (m := c) h1 (by omega) e1 (by omega) (fun v1 q1 => ?_)
    refine fm_224 (ta := tr) (tb := 1640 + 41 * (12 * i + c)) h2 q1 htr (by omega) (by omega) W (fun s2 W2 K2 P2 => ?_)
    have e12 : (ps_i s2 1131 51).toInt = c := by rw [kq_i K2 51 rfl]; exact e1
    have K3 : kq [] [51] s2 (ps_ui s2 1131 51 ((ps_i s2 1131 51) + 1)) := kqi kq_refl rfl
    have hlen : (A ++ [y]).length = A.length + 1 := List.length_append
    refine k _ ⟨⟨c + 1, by rw [ps_i_ui, if_pos ⟨rfl, rfl⟩]; exact xj1 e12 (by omega), by omega, fun _ => by omega, fun w => by omega⟩, by omega, fun m w hm2 hw => ?_⟩ ⟨kqt (kqt kq_refl K2 (by decide) (by decide)) K3 (by decide) (by decide), fun q hq => P2 q (by omega)⟩
    refine mv_W_kq (A := []) (F := [51]) ?_ K3 (by decide)
    rcases Nat.lt_or_ge m A.length with u | u
    · rw [List.getElem?_append_left u] at hw
      exact mv_W_po (e6 m w hm2 hw) P2 (by omega)
    · have hml := (List.getElem?_eq_some_iff.mp hw).1
      have em : m = c := by omega
      subst em
      rw [List.getElem?_append_right (by omega), show m - A.length = 0 from by omega] at hw
      cases hw
      exact W2
theorem fm_248 {n : Nat} (h1 : x1.toInt = i) (hi : i < 40) (h2 : x2.toInt = tr) (htr : tr + 41 ≤ 27400) (hds : tr + 41 ≤ 1640 + 492 * i ∨ 1640 + 492 * i + 492 ≤ tr) (W : mv_W s0 tr y) (hA : PAm s0 i A bd) (hbd : bd < 10000) (k : ∀ s', PAm s' i (if 12 < A.length ∨ y ∈ A then A else A ++ [y]) (bd + 1) → KA i s0 s' → R s') : pl_Cl n 248 [.ref 1131, .int x1, .int x2] s0 (ps_rV R) := by
  cases n with
  | zero => exact pl_At_0
  | succ n =>
  show pl_At (n + 1) 248 0 [(0, .ref 1131), (1, .int x1), (2, .int x2)] [] s0 (ps_rV R)
  have c12 : (12 : Int32).toInt = 12 := by decide
  obtain ⟨⟨c, e1, e2, e3, e4⟩, e5, e6⟩ := id hA
  have key : ∀ (n : Nat) {x3 : Int32} {m : Nat}, x3.toInt = m → (∀ j, j < m → (A.take 12)[j]? ≠ some y) → pl_At n 248 2 [(0, .ref 1131), (1, .int x1), (2, .int x2), (3, .int x3)] [] s0 (ps_rV R) := by
    intro n
    induction n with
    | zero => exact fun _ _ => pl_At_0
    | succ n ih =>
      intro x3 m h3 hj
      have out : (A.take 12).length ≤ m → pl_At n 248 36 [(0, .ref 1131), (1, .int x1), (2, .int x2)] [] s0 (ps_rV R) := fun hm => fm_248_36 h1 hi h2 htr hds W hA hbd (fun w => by
        obtain ⟨j, hj2⟩ := List.mem_iff_getElem?.mp w
        have := (List.getElem?_eq_some_iff.mp hj2).1
        exact hj j (by omega) hj2) k
      have hlt : (A.take 12).length = min 12 A.length := List.length_take
      refine pl_248_2 ⟨fun z => out ?_, fun z => ⟨fun z2 => out ?_, fun z2 => ?_⟩⟩
      · have z := xle z
        rcases Nat.lt_or_ge 12 A.length with u | u
        · have := e4 u
          omega
        · have := e3 u
          omega
      · have z2 := xle z2
        omega
      · have z := xlt z
        have z2 := xlt z2
        have hmA : m < A.length := by
          rcases Nat.lt_or_ge 12 A.length with u | u
          · omega
          · have := e3 u
            omega
        obtain ⟨w, hw⟩ : ∃ w, A[m]? = some w := ⟨_, List.getElem?_eq_getElem hmA⟩
        have W1 := e6 m w (by omega) hw
        refine fm_243 (i := i) (m := m) h1 (by omega) h3 (by omega) (fun v1 q1 => ?_)
        refine fm_222 (ta := 1640 + 41 * (12 * i + m)) (tb := tr) q1 (by omega) W1 h2 (by omega) W (fun e => ⟨fun u => absurd u (by decide), fun _ => ?_⟩) (fun e => ⟨fun _ => ?_, fun u => absurd rfl u⟩)
        · have hy : y ∈ A := by
            rw [← e]
            exact List.mem_of_getElem? hw
          rw [if_pos (Or.inr hy)] at k
          exact k s0 ⟨⟨c, e1, by omega, e3, e4⟩, e5, e6⟩ KA_refl
        · refine ih (xj1 h3 (by omega)) (fun j hj2 => ?_)
          rcases Nat.lt_or_ge j m with u | u
          · exact hj j u
          · rw [show j = m from by omega, List.getElem?_take, if_pos (by omega), hw]
            intro e2
            cases e2
            exact e rfl
  exact pl_248_0 (key n (m := 0) rfl (fun j hj => absurd hj (Nat.not_lt_zero _)))
end A248
section A249
variable {i j : Nat} {As : List (List Nat)} {oo L : List Nat} {x1 x2 x3 : Int32} {s0 : ps_S} {R : ps_S → Prop}
theorem fm_249_3 {A0 : List (List Nat)} {bd0 : Nat} (h1 : x1.toInt = i) (hi : i < 40) (h2 : x2.toInt = j) (hji : j < i) (hAs : As.length ≤ 12) (h57 : (ps_a s0 1157 j).toInt = As.length) (hrows : ∀ (n : Nat) (y : List Nat), As[n]? = some y → mv_W s0 (1640 + 41 * (12 * j + n)) y ∧ y ≠ []) (M0 : mk_M s0 L) (h3 : (x3.toInt = 0 ∧ oo = []) ∨ (x3.toInt ≠ 0 ∧ oo = L)) (hbd0 : bd0 < 5000) (k : ∀ s', PAm s' i (tq_ga oo A0 As) (bd0 + 12) → KA i s0 s' → R s') : ∀ (n : Nat) {s : ps_S} {x4 : Int32} {m : Nat} {A : List (List Nat)}, x4.toInt = m → m ≤ As.length → PAm s i A (bd0 + m) → tq_ga oo A0 As = tq_ga oo A (As.drop m) → KA i s0 s → pl_At n 249 3 [(0, .ref 1131), (1, .int x1), (2, .int x2), (3, .int x3), (4, .int x4)] [] s (ps_rV R)
  | 0, _, _, _, _, _, _, _, _, _ => pl_At_0
  | n + 1, s, x4, m, A, h4, hm, hA, hga, K => by
    have c0 : (0 : Int32).toInt = 0 := Int32.toInt_zero
    refine pl_249_3 ?_
    rw [xtn h2]
    intro b1
    have e57 : (ps_a s 1157 j).toInt = As.length := by rw [kq_a K.1 1157 (by decide)]; exact h57
    refine ⟨fun z => ?_, fun z => ?_⟩
    · have z := xle z
      rw [List.drop_of_length_le (by omega)] at hga
      obtain ⟨⟨c, p1, p2, p3⟩, p4⟩ := hA
      refine k s ?_ K
      rw [hga]
      exact ⟨⟨c, p1, by omega, p3⟩, p4⟩
    · have z := xlt z
      obtain ⟨y, hy⟩ : ∃ y, As[m]? = some y := ⟨_, List.getElem?_eq_getElem (by omega)⟩
      obtain ⟨Wy0, hyn⟩ := hrows m y hy
      have Wy : mv_W s (1640 + 41 * (12 * j + m)) y := mv_W_V Wy0 (fun q a b => K.2 q (by omega))
      have M : mk_M s L := mk_M_kq M0 K.1 (by decide) (by decide)
      rw [drop_g hy] at hga
      have hga : tq_ga oo A0 As = tq_ga oo (if 12 < A.length ∨ y = oo ∨ y ∈ A then A else A ++ [y]) (As.drop (m + 1)) := hga
      have at31 : y ≠ oo → ∀ {n' : Nat}, n' ≤ n → pl_At n' 249 31 [(0, .ref 1131), (1, .int x1), (2, .int x2), (3, .int x3), (4, .int x4)] [] s (ps_rV R) := fun hne {n'} hn' => by
        cases n' with
        | zero => exact pl_At_0
        | succ n' =>
        refine pl_249_31 (fm_243 (i := j) (m := m) h2 (by omega) h4 (by omega) (fun v1 q1 => ?_))
        refine fm_248 (i := i) (tr := 1640 + 41 * (12 * j + m)) h1 hi q1 (by omega) (by omega) Wy hA (by omega) (fun s2 P2 K2 => ?_)
        refine (fm_249_3 h1 hi h2 hji hAs h57 hrows M0 h3 hbd0 k n (xj1 h4 (by omega)) (by omega) (by rw [show bd0 + (m + 1) = bd0 + m + 1 from by omega]; exact P2) ?_ (KA_tr K K2)).le (by omega)
        rw [hga]
        by_cases u : 12 < A.length ∨ y ∈ A
        · rw [if_pos u, if_pos (u.elim Or.inl (fun u => Or.inr (Or.inr u)))]
        · rw [if_neg u, if_neg (fun v => v.elim (fun v => u (Or.inl v)) (fun v => v.elim hne (fun v => u (Or.inr v))))]
      refine ⟨fun z1 => at31 ?_ (Nat.le_refl _), fun z1 => ?_⟩
      · have z1 := xeq z1
        rcases h3 with ⟨-, e⟩ | ⟨e, -⟩
        · rw [e]
          exact hyn
        · omega
      · have z1 := xne z1
        rcases id h3 with ⟨e, -⟩ | ⟨-, e⟩
        · omega
        · refine fm_243 (i := j) (m := m) h2 (by omega) h4 (by omega) (fun v1 q1 => ?_)
          refine fm_230 (to := 1640 + 41 * (12 * j + m)) q1 (by omega) Wy M (fun u => ⟨fun _ => ?_, fun v => absurd v (by decide)⟩) (fun u => ⟨fun v => absurd rfl v, fun _ => at31 (by rw [e]; exact u) (Nat.le_refl _)⟩)
          rw [if_pos (Or.inr (Or.inl (by rw [e]; exact u)))] at hga
          obtain ⟨⟨c, p1, p2, p3⟩, p4⟩ := hA
          exact fm_249_3 h1 hi h2 hji hAs h57 hrows M0 h3 hbd0 k n (xj1 h4 (by omega)) (by omega) ⟨⟨c, p1, by omega, p3⟩, p4⟩ hga K
theorem fm_249 {n : Nat} {A : List (List Nat)} {bd : Nat} (h1 : x1.toInt = i) (hi : i < 40) (h2 : x2.toInt = j) (hji : j < i) (hAs : As.length ≤ 12) (h57 : (ps_a s0 1157 j).toInt = As.length) (hrows : ∀ (n : Nat) (y : List Nat), As[n]? = some y → mv_W s0 (1640 + 41 * (12 * j + n)) y ∧ y ≠ []) (M0 : mk_M s0 L) (h3 : (x3.toInt = 0 ∧ oo = []) ∨ (x3.toInt ≠ 0 ∧ oo = L)) (hbd : bd < 5000) (hA : PAm s0 i A bd) (k : ∀ s', PAm s' i (tq_ga oo A As) (bd + 12) → KA i s0 s' → R s') : pl_Cl n 249 [.ref 1131, .int x1, .int x2, .int x3] s0 (ps_rV R) := by
  cases n with
  | zero => exact pl_At_0
  | succ n =>
  show pl_At (n + 1) 249 0 [(0, .ref 1131), (1, .int x1), (2, .int x2), (3, .int x3)] [] s0 (ps_rV R)
  exact pl_249_0 (fm_249_3 h1 hi h2 hji hAs h57 hrows M0 h3 hbd k n (m := 0) rfl (Nat.zero_le _) hA rfl KA_refl)
end A249

