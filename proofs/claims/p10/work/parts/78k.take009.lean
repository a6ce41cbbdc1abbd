set_option maxRecDepth 100000
section
variable {p th : Nat} {h : tx_H} {Θ : List tq_H} {D : List tq_R} {st : tp_P} {s0 : ps_S} {R : Int32 → ps_S → Prop}
theorem fs_35_73 (hp : p = 50 ∨ p = 460) (hi : D.length < 40) (X : cpX s0 p th h Θ D st) (hD : tq_GD h.1 D) (hG : tp_G h.1 h.2.length st) (hpr : tq_pr Θ D st) (hw : (tq_mk h Θ D st).2.1.length ≤ 40 → ws (sg h.1) (tq_mk h Θ D st).2.1 [true]) (hm0 : (tq_mk h Θ D st).1 = 0) (k : ∀ (v : Int32) s', (v.toInt = tq_cs h Θ D st ∧ (tq_cs h Θ D st = 0 → cpD s' p (D ++ [tq_res h Θ D st])) ∧ cfr (CTO p D.length) s0 s') → R v s') : ∀ (n : Nat) {s : ps_S} {x5 : Int32} {m : Nat}, x5.toInt = m → m ≤ tq_np st.1.1 → cpI s p h Θ D st m → cfr (CTO p D.length) s0 s → pl_At n 35 73 [(0, .ref p), (3, .ref (stc p D.length)), (5, .int x5)] [] s (ps_rI R)
  | 0, _, _, _, _, _, _, _ => pl_At_0
  | n + 1, s, x5, m, hx, hm, I, F => by
    have hl := stc_lt hp hi
    have h3 := tq_np_le (r := st.1.1)
    obtain ⟨⟨y1, y2⟩, y4, y5, y7⟩ := CTO_X hp hi X F
    obtain ⟨⟨i1, i2⟩, ⟨i3, i4, i5⟩, i6, i7, i8⟩ := id I
    have hth := X.1.2.2
    refine pl_35_73 (pl_nk_i (fun _ => fs_116 i8.1 hG.1 (fun v1 q1 => ⟨fun z => ?_, fun z => ?_⟩)))
    · have z := xle z
      have em : m = tq_np st.1.1 := by omega
      subst em
      have eres : tq_res h Θ D st = ((tq_mk h Θ D st).2.1, tq_as D st (tq_mk h Θ D st).2.2, ps_i s (stc p D.length) 10, ps_i s (stc p D.length) 11, ps_j s (stc p D.length) 12) := by
        unfold tq_res
        rw [tq_zi_is, tq_zi_is, tq_zj_is, ← i3, ← i4, ← i5]
      have hb : ps_i s (stc p D.length) 9 = 0 ↔ (tq_as D st (tq_mk h Θ D st).2.2).length ≤ 12 := by
        by_cases e11 : st.1.1 = 11
        · have ea : tq_as D st (tq_mk h Θ D st).2.2 = [st.2.2.2] := by unfold tq_as; rw [if_pos e11]
          rw [ea]
          exact ⟨fun _ => (show 1 ≤ 12 from by decide), fun _ => (i7 e11).2.1⟩
        · have P := i6 e11
          rw [← tq_za_is e11] at P
          constructor
          · intro e
            rcases Nat.lt_or_ge 12 (tq_as D st (tq_mk h Θ D st).2.2).length with u | u
            · exact absurd e (P.2.2.2.1 u)
            · exact u
          · exact P.2.2.1
      refine fs_41 hp hi hth y2 y1.1 hw i1 hb (fun s2 q => ⟨fun u => absurd u (by decide), fun _ => ?_⟩) (fun s2 q => ⟨fun _ => ?_, fun u => absurd rfl u⟩)
      · obtain ⟨q, F2⟩ := q
        have hc := tq_cs_5 (h := h) hpr hm0 (fun w : tq_fit h (tq_res h Θ D st) => q ⟨w.1, w.2.1, w.2.2⟩)
        refine k _ _ ⟨by rw [hc]; rfl, fun e => absurd e (by rw [hc]; decide), cfr_tr F (cfr_mono F2 CSh_CTO)⟩
      · obtain ⟨q, F2⟩ := q
        have hfit : tq_fit h (tq_res h Θ D st) := ⟨q.1, q.2.1, q.2.2⟩
        have hc := tq_cs_0 hpr hm0 hfit
        refine k _ _ ⟨by rw [hc]; rfl, fun _ => ?_, cfr_tr F (cfr_mono F2 CSh_CTO)⟩
        have hlen : (D ++ [tq_res h Θ D st]).length = D.length + 1 := List.length_append
        refine ⟨by omega, fun kk Rk hk => ?_⟩
        have y52 := cpD_cfr y5 F2 (fun q a b => by unfold CSh; unfold stc at *; omega)
        have ext : ∀ {o : Nat} {q : tq_R}, D[o]? = some q → (D ++ [tq_res h Θ D st])[o]? = some q := fun {o q} e => by
          rw [List.getElem?_append_left (List.getElem?_eq_some_iff.mp e).1]
          exact e
        rcases Nat.lt_or_ge kk D.length with u | u
        · rw [List.getElem?_append_left u] at hk
          obtain ⟨a1, a2, a3, a4, a5⟩ := y52.2 kk Rk hk
          refine ⟨a1, a2, a3, fun n' y hy => ?_, a5⟩
          obtain ⟨o, q, e1, e2, e3⟩ := a4 n' y hy
          exact ⟨o, q, e1, ext e2, e3⟩
        · have hkl := (List.getElem?_eq_some_iff.mp hk).1
          have ek : kk = D.length := by omega
          subst ek
          rw [List.getElem?_append_right (Nat.le_refl _), Nat.sub_self] at hk
          have eR : tq_res h Θ D st = Rk := Option.some.inj hk
          rw [← eR, eres]
          have f0 := F2 (stc p D.length) (by unfold CSh; omega)
          have f8 := F2 (stc p D.length + 8) (by unfold CSh; omega)
          refine ⟨cv_W_cfr (i1.2.1 q.1) F2 (by unfold CSh; omega) (by unfold CSh; omega), ?_, q.2.1, fun n' y hy => ?_, by rw [f0.1], by rw [f0.1], by rw [f0.2.1]⟩
          · rw [f0.1]
            by_cases e11 : st.1.1 = 11
            · have ea : tq_as D st (tq_mk h Θ D st).2.2 = [st.2.2.2] := by unfold tq_as; rw [if_pos e11]
              show _ = ((tq_as D st (tq_mk h Θ D st).2.2).length : Int)
              rw [ea]
              exact (i7 e11).1
            · have P := i6 e11
              rw [← tq_za_is e11] at P
              show _ = ((tq_as D st (tq_mk h Θ D st).2.2).length : Int)
              have := P.1
              have q21 : (tq_as D st (tq_mk h Θ D st).2.2).length ≤ 12 := q.2.1
              omega
          · rw [f8.2.2.2.1]
            have hy : (tq_as D st (tq_mk h Θ D st).2.2)[n']? = some y := hy
            by_cases e11 : st.1.1 = 11
            · have ea : tq_as D st (tq_mk h Θ D st).2.2 = [st.2.2.2] := by unfold tq_as; rw [if_pos e11]
              rw [ea] at hy
              have hn := (List.getElem?_eq_some_iff.mp hy).1
              have en : n' = 0 := by rw [List.length_singleton] at hn; omega
              subst en
              cases hy
              refine ⟨D.length, tq_res h Θ D st, (i7 e11).2.2, by rw [List.getElem?_append_right (Nat.le_refl _), Nat.sub_self, ← eres]; rfl, ?_⟩
              obtain ⟨⟨r, n1, n2, n3⟩, ⟨ax, x⟩, tt, f⟩ := st
              have e11 : r = 11 := e11
              subst e11
              rfl
            · have P := i6 e11
              rw [← tq_za_is e11] at P
              have hn := (List.getElem?_eq_some_iff.mp hy).1
              have q21 : (tq_as D st (tq_mk h Θ D st).2.2).length ≤ 12 := q.2.1
              obtain ⟨o, q', e1, e2, e3⟩ := P.2.2.2.2 n' y (by omega) hy
              exact ⟨o, q', e1, by rw [← eres]; exact ext e2, e3⟩
    · have z := xlt z
      have hmn : m < tq_np st.1.1 := by omega
      obtain ⟨hlt, hnn⟩ := pr_lt_k hpr hmn
      obtain ⟨en, hm3⟩ := cpN_k i8 hnn
      obtain ⟨Rm, e1, e2, e3, e4⟩ := tq_at hlt
      have hRm := y5.2 (pr_k st m) Rm e1
      have hne : stc p (pr_k st m) ≠ stc p D.length := by unfold stc; omega
      have hne8 : stc p (pr_k st m) + 9 ≤ stc p D.length := by unfold stc; omega
      have e11 : st.1.1 ≠ 11 := fun e => by
        rw [e] at hmn
        exact absurd hmn (Nat.not_lt_zero _)
      have P := i6 e11
      refine fs_37 (j := m) (i := pr_k st m) hp (stc_is hp hi) hl.2.1 hx hm3 en (by omega) ?_
      refine fs_124 hne ?_
      have G : ∀ q, q ≠ stc p D.length → (∀ f, ps_i (ps_uj (ps_ui (ps_ui s (stc p D.length) 10 (ps_i s (stc p D.length) 10 ||| ps_i s (stc p (pr_k st m)) 10)) (stc p D.length) 11 (ps_i s (stc p D.length) 11 ||| ps_i s (stc p (pr_k st m)) 11)) (stc p D.length) 12 (ps_j s (stc p D.length) 12 ||| ps_j s (stc p (pr_k st m)) 12)) q f = ps_i s q f) := fun q hq f => by
        show ps_i (ps_ui (ps_ui s _ 10 _) _ 11 _) q f = _
        rw [ps_i_ui, if_neg (by omega), ps_i_ui, if_neg (by omega)]
      generalize hs3 : (ps_uj (ps_ui (ps_ui s (stc p D.length) 10 (ps_i s (stc p D.length) 10 ||| ps_i s (stc p (pr_k st m)) 10)) (stc p D.length) 11 (ps_i s (stc p D.length) 11 ||| ps_i s (stc p (pr_k st m)) 11)) (stc p D.length) 12 (ps_j s (stc p D.length) 12 ||| ps_j s (stc p (pr_k st m)) 12)) = s3
      have F3 : cfr (fun q => q = stc p D.length) s s3 := by
        rw [← hs3]
        exact cfr_j (cfr_i (cfr_i cfr_refl rfl) rfl) rfl
      have g10 : ps_i s3 (stc p D.length) 10 = ps_i s (stc p D.length) 10 ||| Rm.2.2.1 := by
        rw [← hs3, ← hRm.2.2.2.2.1]
        show ps_i (ps_ui (ps_ui s _ 10 _) _ 11 _) _ 10 = _
        rw [ps_i_ui, if_neg (by omega), ps_i_ui, if_pos ⟨rfl, rfl⟩]
      have g11 : ps_i s3 (stc p D.length) 11 = ps_i s (stc p D.length) 11 ||| Rm.2.2.2.1 := by
        rw [← hs3, ← hRm.2.2.2.2.2.1]
        show ps_i (ps_ui (ps_ui s _ 10 _) _ 11 _) _ 11 = _
        rw [ps_i_ui, if_pos ⟨rfl, rfl⟩]
      have g12 : ps_j s3 (stc p D.length) 12 = ps_j s (stc p D.length) 12 ||| Rm.2.2.2.2 := by
        rw [← hs3, ← hRm.2.2.2.2.2.2, ps_j_uj, if_pos ⟨rfl, rfl⟩]
      have gf : ∀ f, f ≠ 10 → f ≠ 11 → ps_i s3 (stc p D.length) f = ps_i s (stc p D.length) f := fun f h10 h11 => by
        rw [← hs3]
        show ps_i (ps_ui (ps_ui s _ 10 _) _ 11 _) _ f = _
        rw [ps_i_ui, if_neg (by omega), ps_i_ui, if_neg (by omega)]
      clear hs3 G
      have y53 := cpD_cfr y5 F3 (fun q a b => by unfold stc at *; omega)
      have P3 : PA s3 (stc p D.length) D (tq_za D st (tq_mk h Θ D st).2.2 m) := by
        obtain ⟨p1, p2, p3, p4, p5⟩ := P
        refine ⟨by rw [gf 8 (by decide) (by decide)]; exact p1, p2, fun u => by rw [gf 9 (by decide) (by decide)]; exact p3 u, fun u => by rw [gf 9 (by decide) (by decide)]; exact p4 u, fun n' y hn hy => ?_⟩
        rw [(F3 (stc p D.length + 8) (by omega)).2.2.2.1]
        exact p5 n' y hn hy
      have N3 : cpN s3 (stc p D.length) st := cpN_eq i8 (gf 0 (by decide) (by decide)) (F3 (stc p D.length + 1) (by omega)).2.2.2.1
      obtain ⟨en3, -⟩ := cpN_k N3 hnn
      refine fs_37 (j := m) (i := pr_k st m) hp (stc_is hp hi) hl.2.1 hx hm3 en3 (by omega) ?_
      refine fs_38 (i := m) hp hx hm3 ?_
      refine fs_39 (j := pr_k st m) (Rj := Rm) (oo := ou_k (tq_mk h Θ D st).2.2 m) hp hi y53 (Nat.le_refl _) e1 ((prf hp).2.1 m hm3).2 (CW_cfr (i2 m hm3) F3 (by unfold otc; omega) (by unfold otc; omega)) (by unfold otc; omega) P3 (fun s7 P7 Q7 => ?_)
      have F7 : cfr (CST p D.length) s s7 := cfr_tr (cfr_mono F3 (fun q z => Or.inl z)) Q7.1
      refine fs_35_73 hp hi X hD hG hpr hw hm0 k n (xj1 hx (by omega)) (by omega) ⟨⟨CW_cfr i1 F7 (by unfold CST; omega) (by unfold CST; omega), fun j hj => CW_cfr (i2 j hj) F7 (by unfold CST otc; omega) (by unfold CST otc; omega)⟩, ⟨?_, ?_, ?_⟩, fun _ => ?_, fun e => absurd e e11, cpN_eq N3 (Q7.2.1 0 (by decide) (by decide)) (Q7.1 (stc p D.length + 1) (by unfold CST; omega)).2.2.2.1⟩ (cfr_tr F (cfr_mono F7 (fun q z => by unfold CST at z; unfold CTO; omega)))
      · rw [Q7.2.1 10 (by decide) (by decide), g10, i3]
        show _ = tq_zi D _ _ st m ||| (D.getD (pr_k st m) ([], [], 0, 0, 0)).2.2.1
        rw [e4]
      · rw [Q7.2.1 11 (by decide) (by decide), g11, i4]
        show _ = tq_zi D _ _ st m ||| (D.getD (pr_k st m) ([], [], 0, 0, 0)).2.2.2.1
        rw [e4]
      · rw [Q7.2.2, g12, i5]
        show _ = tq_zj D _ _ st m ||| (D.getD (pr_k st m) ([], [], 0, 0, 0)).2.2.2.2
        rw [e4]
      · show PA s7 _ D (tq_ga _ _ (tq_a D (pr_k st m)))
        rw [e3]
        exact P7

end
