set_option maxRecDepth 100000
section
variable {T : Nat → Nat} {N : Nat} {h : tx_H} {s0 s : ps_S} {b i : Nat} {P : List tp_P} {c : tp_P} {fr : List (List Nat)} {q : Nat} {C0 : pv_C} {R : ps_S → Prop}
theorem fm_238_216 {n : Nat} (X : rv_X T N h s0 s b i P c fr q 11 C0) (M : rkT s i c) (hi : i < 40) (k1 : ∀ s', rv_ok T N h s0 s' b i P C0 → R s') (k0 : ∀ s', rv_B T N h s0 s' i C0 → R s') : pl_At n 238 216 [(0, .ref 1131)] [] s (ps_rV R) := by
  cases n with
  | zero => exact pl_At_0
  | succ n =>
  obtain ⟨⟨⟨l1, l2, l3, l4, l5⟩, l6, l7, l8⟩, g, K, e42⟩ := id X
  have h9 := l5.1
  refine pl_238_216 ⟨fun w => ?_, fun w => ?_⟩
  · have w : (ps_i s 1131 9).toInt ≠ 5 := xne w
    refine fm_197g (rb := b) l8 l6 l4 l5 (fun z => absurd (by decide) z) (fun _ s1 q1 => ?_)
    refine k0 _ (rv_B_i (rv_X_no (Y := (P, c)) (fr' := fr) X q1.2.2 (gt_one ?_) tx_bk_0 q1.1 q1.2.1))
    rw [pv_st_11]
    unfold pv_11
    rw [if_neg (by omega)]
  · have w : (ps_i s 1131 9).toInt = 5 := xeq w
    refine fm_197g (rb := b) l8 l6 l4 l5 (fun _ s1 q1 => ?_) (fun z => absurd z (by decide))
    have K2 : kq [] [42] s1 (ps_ui s1 1131 42 (ps_i s1 1131 42 + 1)) := kqi kq_refl (by decide)
    have hb := (tx_tok_ok (T := T) l4).2.1
    have M1 : rkT s1 i c := by
      obtain ⟨t1, t2, t3, t4, t5, t6, t7, t8⟩ := M
      have e : ∀ r, ps_a s1 r = ps_a s r := fun r => kq_a q1.1 r rfl
      exact ⟨by rw [e]; exact t1, by rw [e]; exact t2, by rw [e]; exact t3, by rw [e]; exact t4, by rw [e]; exact t5, by rw [e]; exact t6, fun z => mv_W_kq (t7 z) q1.1 (by decide), fun z => mv_W_kq (t8 z) q1.1 (by decide)⟩
    refine k1 _ ⟨c, fr, _, ⟨rv_L_q (rv_L_adv X.1 hb q1) K2 (by decide) (by decide), gt_trans g (gt_one ?_), KRd_q (KRd_q K q1.1 (by decide) (by decide)) K2 (by decide) (by decide), ?_⟩, rkT_q M1 K2⟩
    · rw [pv_st_11]
      unfold pv_11
      rw [if_pos (by omega)]
    · rw [ps_i_ui, if_pos ⟨rfl, rfl⟩]
      exact xj1 (by rw [kq_i q1.1 42 (by decide)]; exact e42) (by omega)

end
