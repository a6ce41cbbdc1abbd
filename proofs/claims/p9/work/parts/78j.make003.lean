set_option maxRecDepth 100000
section
variable {p th n1 n2 n3 ax x : Nat} {tt f : List Nat} {h : tx_H} {Θ : List tq_H} {D : List tq_R} {s : ps_S} {R : Int32 → ps_S → Prop}
theorem fs_43_r10 {n : Nat} {y2 : Int32} (hp : p = 50 ∨ p = 460) (hi : D.length < 40) (X : cpX s p th h Θ D ((10, n1, n2, n3), (ax, x), tt, f)) (hD : tq_GD h.1 D) (hG : tp_G h.1 h.2.length ((10, n1, n2, n3), (ax, x), tt, f)) (B : cpB s p (stc p D.length)) (k : ∀ v s', cpK s p h Θ D ((10, n1, n2, n3), (ax, x), tt, f) v s' → R v s') : pl_Cl n 43 [.ref p, .ref (stc p D.length), .int y2, .ref 870] s (ps_rI R) := by
  cases n with
  | zero => exact pl_At_0
  | succ n =>
  show pl_At (n + 1) 43 0 [(0, .ref p), (1, .ref (stc p D.length)), (2, .int y2), (3, .ref 870)] [] s (ps_rI R)
  obtain ⟨⟨x1, x2', x3⟩, x4, x5, x6, x7⟩ := id X
  have hN := cpN_of x6
  obtain ⟨t0, t1, t2, t3, t4, t5, t6, t7⟩ := x6
  have hl := stc_lt hp hi
  obtain ⟨cc1, cc4, cc5, cc6, cc8⟩ := stc_c hp hi
  obtain ⟨rr2, rr4, rr6⟩ := stc_row hp hi
  have hA := arh_k x1.1.2.2.1 x1.1.2.2.2.1
  have er : (ps_i s (stc p D.length) 0).toInt = (10 : Int) := t0
  have hax : ax < h.2.length := hG.2.2.2.2.1 rfl
  have h8 := x1.2.2.1
  obtain ⟨⟨w, l⟩, hk⟩ : ∃ q, h.2[ax]? = some q := ⟨_, List.getElem?_eq_getElem hax⟩
  obtain ⟨-, -, W⟩ := x1.2.2.2 ax w l hk
  have Kk := th_K x3 (k := ax) (by omega)
  have em : (h.2.getD ax ([], [])).2 = l := by rw [List.getD_eq_getElem?_getD, hk]; rfl
  refine pl_43_0 (pl_nk_i (fun _ => ?_))
  refine ⟨fun _ => ?_, fun z => absurd (show (ps_i s (stc p D.length) 0).toInt = (10 : Int) from er) (xne z)⟩
  refine pl_nk_i (fun _ => pl_nk_i (fun _ => pl_nk_i (fun _ => ?_)))
  rw [x2', cc6]
  have t4 : (ps_i s (stc p D.length) 2).toInt = ax := t4 rfl
  refine fs_135 x3 t4 (by omega) ?_
  refine fs_95 rr6 (ps_is5 Kk.2.2.2.2.2.1) (by omega) W (fun s2 W2 F2 => pl_nk_i (fun _ => pl_nk_i (fun _ => ?_)))
  have f0 := F2 (stc p D.length) (by unfold C2; omega)
  obtain ⟨b1, b2, b3, b4, b5⟩ := B
  have F3 : cfr (CTO p D.length) s (ps_ui s2 (stc p D.length) 10 ((1 : Int32) <<< ((ps_i s2 (stc p D.length) 2) &&& 31))) := cfr_i (cfr_mono F2 C2_CTO) (Or.inl ⟨Nat.le_refl _, by omega⟩)
  have e2 : ps_i s2 (stc p D.length) 2 = nI ax := by rw [f0.1]; exact xnI t4
  have ou : ∀ k, k < 3 → CW (ps_ui s2 (stc p D.length) 10 ((1 : Int32) <<< ((ps_i s2 (stc p D.length) 2) &&& 31))) (otc p k) [] := fun k hk => CW_cfr (CW_cfr (b1 k hk) F2 (by unfold C2 otc; omega) (by unfold C2 otc; omega)) (cfr_i cfr_refl rfl : cfr (fun q => q = stc p D.length) _ _) (by unfold otc; omega) (by unfold otc; omega)
  refine k _ _ ⟨rfl, fun _ => ⟨?_, ⟨ou 0 (by decide), ou 1 (by decide), ou 2 (by decide)⟩, ⟨?_, ?_⟩, fun _ => PA_0 ?_ ?_, fun z => absurd z (of_decide_eq_true rfl), cpN_eq hN ?_ ?_⟩, F3⟩
  · rw [tq_mk_10]
    show CW _ _ (h.2.getD ax ([], [])).2
    rw [em]
    exact CW_cfr (CW_of W2) (cfr_i cfr_refl rfl : cfr (fun q => q = stc p D.length) _ _) (by omega) (by omega)
  · rw [ps_i_ui, if_pos ⟨rfl, rfl⟩, e2]
    rfl
  · rw [ps_i_ui, if_neg (by omega), f0.1]
    exact b5
  · rw [ps_i_ui, if_neg (by omega), f0.1]
    exact b2
  · rw [ps_i_ui, if_neg (by omega), f0.1]
    exact b3
  · rw [ps_i_ui, if_neg (by omega), f0.1]
  · exact (F2 (stc p D.length + 1) (by unfold C2; omega)).2.2.2.1


end
