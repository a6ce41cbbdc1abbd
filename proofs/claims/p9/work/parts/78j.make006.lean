set_option maxRecDepth 100000
section
variable {p th n1 n2 n3 ax x : Nat} {tt f : List Nat} {h : tx_H} {Θ : List tq_H} {D : List tq_R} {s : ps_S} {R : Int32 → ps_S → Prop}
theorem fs_43_r12 {n : Nat} {y2 : Int32} (hn : n1 < Θ.length) (hp : p = 50 ∨ p = 460) (hi : D.length < 40) (X : cpX s p th h Θ D ((12, n1, n2, n3), (ax, x), tt, f)) (hD : tq_GD h.1 D) (hG : tp_G h.1 h.2.length ((12, n1, n2, n3), (ax, x), tt, f)) (B : cpB s p (stc p D.length)) (k : ∀ v s', cpK s p h Θ D ((12, n1, n2, n3), (ax, x), tt, f) v s' → R v s') : pl_Cl n 43 [.ref p, .ref (stc p D.length), .int y2, .ref 870] s (ps_rI R) := by
  cases n with
  | zero => exact pl_At_0
  | succ n =>
  show pl_At (n + 1) 43 0 [(0, .ref p), (1, .ref (stc p D.length)), (2, .int y2), (3, .ref 870)] [] s (ps_rI R)
  obtain ⟨⟨x1, x2', x3⟩, x4, x5, x6, x7⟩ := id X
  have hN := cpN_of x6
  obtain ⟨t0, t1, t2, t3, t4, t5, t6, t7⟩ := x6
  have hl := stc_lt hp hi
  obtain ⟨cc1, cc4, cc5, cc6, cc8⟩ := stc_c hp hi
  obtain ⟨rr2, rr4, rr6⟩ := stc_row hp hi
  have hA := arh_k x1.1.2.2.1 x1.1.2.2.2.1
  have er : (ps_i s (stc p D.length) 0).toInt = (12 : Int) := t0
  obtain ⟨z1, z2, z3⟩ := x4
  obtain ⟨q, hk⟩ : ∃ q, Θ[n1]? = some q := ⟨_, List.getElem?_eq_getElem hn⟩
  have W := (z3 n1 q hk).1
  have em : (Θ.getD n1 ([], 0, 0, 0)).1 = q.1 := by rw [List.getD_eq_getElem?_getD, hk]; rfl
  have tn : (ps_a s (stc p D.length + 1) 0).toInt = n1 := t1 (of_decide_eq_true rfl)
  refine pl_43_0 (pl_nk_i (fun _ => ?_))
  refine ⟨fun z => absurd (show (ps_i s (stc p D.length) 0).toInt = (10 : Int) from xeq z) (by omega), fun _ => ?_⟩
  refine ⟨fun z => absurd (show (ps_i s (stc p D.length) 0).toInt = (11 : Int) from xeq z) (by omega), fun _ => ?_⟩
  refine ⟨fun _ => ?_, fun z => absurd (show (ps_i s (stc p D.length) 0).toInt = (12 : Int) from er) (xne z)⟩
  refine pl_nk_i (fun _ => ?_)
  rw [cc6]
  refine fs_121 (j := 0) (stc_is hp hi) hl.2.1 rfl (by decide) ?_
  have h12 : n1 < 12 := Nat.lt_of_lt_of_le hn z2
  refine fs_110 (q := 870) (Or.inl rfl) tn h12 ?_
  refine fs_95 rr6 (r12_is h12) (r12_ne hp hi) W (fun s2 W2 F2 => ?_)
  refine fs_121 (j := 0) (stc_is hp hi) hl.2.1 rfl (by decide) (pl_nk_i (fun _ => ?_))
  have f0 := F2 (stc p D.length) (by unfold C2; omega)
  have f1 := F2 (stc p D.length + 1) (by unfold C2; omega)
  obtain ⟨b1, b2, b3, b4, b5⟩ := B
  have e2 : ps_a s2 (stc p D.length + 1) 0 = nI n1 := by rw [f1.2.2.2.1]; exact xnI tn
  rw [e2]
  have F3 : cfr (CTO p D.length) s (ps_ui s2 (stc p D.length) 11 ((1 : Int32) <<< (nI n1 &&& 31))) := cfr_i (cfr_mono F2 C2_CTO) (Or.inl ⟨Nat.le_refl _, by omega⟩)
  have ou : ∀ k, k < 3 → CW (ps_ui s2 (stc p D.length) 11 ((1 : Int32) <<< (nI n1 &&& 31))) (otc p k) [] := fun k hk => CW_cfr (CW_cfr (b1 k hk) F2 (by unfold C2 otc; omega) (by unfold C2 otc; omega)) (cfr_i cfr_refl rfl : cfr (fun q => q = stc p D.length) _ _) (by unfold otc; omega) (by unfold otc; omega)
  refine k _ _ ⟨rfl, fun _ => ⟨?_, ⟨ou 0 (by decide), ou 1 (by decide), ou 2 (by decide)⟩, ⟨?_, ?_⟩, fun _ => PA_0 ?_ ?_, fun z => absurd z (of_decide_eq_true rfl), cpN_eq hN ?_ ?_⟩, F3⟩
  · rw [tq_mk_12]
    show CW _ _ (Θ.getD n1 ([], 0, 0, 0)).1
    rw [em]
    exact CW_cfr (CW_of W2) (cfr_i cfr_refl rfl : cfr (fun q => q = stc p D.length) _ _) (by omega) (by omega)
  · rw [ps_i_ui, if_neg (by omega), f0.1]
    exact b4
  · rw [ps_i_ui, if_pos ⟨rfl, rfl⟩]
    rfl
  · rw [ps_i_ui, if_neg (by omega), f0.1]
    exact b2
  · rw [ps_i_ui, if_neg (by omega), f0.1]
    exact b3
  · rw [ps_i_ui, if_neg (by omega), f0.1]
  · exact (F2 (stc p D.length + 1) (by unfold C2; omega)).2.2.2.1


end
