set_option maxRecDepth 100000
section
variable {T : Nat → Nat} {N : Nat} {h : tx_H} {s0 s : ps_S} {b i : Nat} {P : List tp_P} {c : tp_P} {fr : List (List Nat)} {q : Nat} {C0 : pv_C} {R : ps_S → Prop}
theorem fm_217p_2 {R : Int32 → ps_S → Prop} (L : rv_L s b T N h fr q) (h2 : (tx_tok T N q).1 = 2) (k : ∀ v s', rv_F s b T N h fr q v s' → R v s') : ∀ (n : Nat) {x1 : Int32} {j : Nat}, x1.toInt = j → j ≤ fr.length → (∀ m, m < j → fr[m]? ≠ some (tx_tok T N q).2.2.2.1) → pl_At n 217 2 [(0, .ref 1131), (1, .int x1)] [] s (ps_rI R)
  | 0, _, _, _, _, _ => pl_At_0
  | n + 1, x1, j, hx, hi, hj => by
    obtain ⟨⟨hrb, h22, hH, hp, HK⟩, lT, lP, hG⟩ := id L
    have hw := (tx_tok_ok (T := T) hp).2.2.2.1 h2
    have h8 := HK.2.2.2.1 (Or.inl h2)
    obtain ⟨f1, f2, f3⟩ := lP
    have no : j = fr.length → tx_at fr (tx_tok T N q).2.2.2.1 = none := fun z => tx_at_no (fun m hm => hj m (by omega))
    refine pl_217_2 ⟨fun h7 => ⟨fun h38 => fun _ => ?_, fun h38 => ?_⟩, fun h7 => fun _ => ⟨fun h21 => ?_, fun h21 => ?_⟩⟩
    · have h7 : (ps_i s 1131 23).toInt ≤ x1.toInt := xle h7
      have h38 : (ps_i s 1131 23).toInt ≠ (12 : Int) := xne h38
      have e : tx_fi fr (tx_tok T N q).2.2.2.1 = some (fr.length, fr ++ [(tx_tok T N q).2.2.2.1]) := by
        unfold tx_fi
        rw [no (by omega)]
        dsimp only
        rw [if_pos (by omega)]
      rw [xtn f1]
      have K : kq [1143] [23] s (ps_ui (ps_ub s 1143 fr.length (ps_j s 1131 11)) 1131 23 (ps_i (ps_ub s 1143 fr.length (ps_j s 1131 11)) 1131 23 + 1)) := kqi (kqb kq_refl (by decide)) (by decide)
      refine k _ _ (Or.inl ⟨_, _, e, ?_, ⟨⟨hrb, by rw [kq_i K 22 (by decide)]; exact h22, mv_H_kq hH K (by decide), hp, mv_K_kq HK K (by decide)⟩, mv_T_kq lT K (by decide) (by decide), mv_P_add ⟨f1, f2, f3⟩ (by omega) hw ?_ (fun m hm => ?_) ?_, mv_G_kq hG K (by decide) (by decide)⟩, K⟩)
      · show ((ps_i s 1131 23 + 1) - 1 : Int32).toInt = _
        have h1 : (1 : Int32).toInt = 1 := by decide
        have e1 := xj1 f1 (by omega)
        rw [xIs (by omega) (by omega)]
        omega
      · show (ps_i s 1131 23 + 1 : Int32).toInt = _
        have e1 := xj1 f1 (by omega)
        omega
      · rw [ps_b_ui, ps_b_ub, if_neg (by omega)]
      · rw [ps_b_ui, ps_b_ub, if_pos ⟨rfl, rfl⟩]
        exact h8
    · have h7 : (ps_i s 1131 23).toInt ≤ x1.toInt := xle h7
      have h38 : (ps_i s 1131 23).toInt = (12 : Int) := xeq h38
      refine fm_196 hG.1 HK (fun s1 q1 => ?_)
      have e : tx_fi fr (tx_tok T N q).2.2.2.1 = none := by
        unfold tx_fi
        rw [no (by omega)]
        dsimp only
        rw [if_neg (by omega)]
      have z := q1.1
      unfold tx_bk at z
      rw [if_neg (by omega)] at z
      exact k _ _ (Or.inr ⟨e, z, q1.2.1, q1.2.2⟩)
    · have h7 : x1.toInt < (ps_i s 1131 23).toInt := xlt h7
      obtain ⟨w0, hg1⟩ : ∃ w0, fr[j]? = some w0 := ⟨fr[j]'(by omega), List.getElem?_eq_getElem _⟩
      obtain ⟨hg2, hg3⟩ := f3 j w0 hg1
      have h21 := lg_nz h21
      refine fm_217p_2 L h2 k n (xj1 hx (by omega)) (by omega) (fun m hm => ?_)
      by_cases ej : m = j
      · rw [ej, hg1]
        intro z
        cases z
        exact h21 (by rw [xtn hx, hg3, h8])
      · exact hj m (by omega)
    · have h7 : x1.toInt < (ps_i s 1131 23).toInt := xlt h7
      obtain ⟨w0, hg1⟩ : ∃ w0, fr[j]? = some w0 := ⟨fr[j]'(by omega), List.getElem?_eq_getElem _⟩
      obtain ⟨hg2, hg3⟩ := f3 j w0 hg1
      have h21 := lg_z h21
      rw [xtn hx, hg3] at h21
      have e : tx_fi fr (tx_tok T N q).2.2.2.1 = some (j, fr) := by
        unfold tx_fi
        rw [tx_at_is (by rw [hg1, tx_m_inj hg2 hw (h21.trans h8)]) hj]
      exact k _ _ (Or.inl ⟨_, _, e, hx, L, kq_refl⟩)

end
