set_option maxRecDepth 100000
section
variable {T : Nat → Nat} {N : Nat} {h : tx_H} {s0 s : ps_S} {b i : Nat} {P : List tp_P} {c : tp_P} {fr : List (List Nat)} {q : Nat} {C0 : pv_C} {R : ps_S → Prop}
theorem fm_238_216b {n : Nat} (B : rv_B T N h s0 s i C0) (k0 : ∀ s', rv_B T N h s0 s' i C0 → R s') : pl_At n 238 216 [(0, .ref 1131)] [] s (ps_rV R) := by
  cases n with
  | zero => exact pl_At_0
  | succ n =>
  have hb := rv_B_5 B
  exact pl_238_216 ⟨fun _ => fm_197b hb (k0 _ (rv_B_i B)), fun _ => fm_197b hb (k0 _ (rv_B_i B))⟩

theorem fm_238_205b {n : Nat} (B : rv_B T N h s0 s i C0) (k0 : ∀ s', rv_B T N h s0 s' i C0 → R s') : pl_At n 238 205 [(0, .ref 1131)] [] s (ps_rV R) := by
  cases n with
  | zero => exact pl_At_0
  | succ n =>
  exact pl_238_205 (fm_192 (fun z => absurd z (rv_B_5 B)) (fun _ => ⟨fun _ => fm_238_216b B k0, fun w => absurd rfl w⟩))

theorem fm_238_205 {n : Nat} (X : rv_L s b T N h fr q ∧ gt_go (pv_st T N h) C0 (11, (P, c), fr, (tx_tok T N q).2.2.1, 0) ∧ KRd i s0 s ∧ (ps_i s 1131 42).toInt = i) (M : rkT s i c) (hi : i < 40) (k1 : ∀ s', rv_ok T N h s0 s' b i P C0 → R s') (k0 : ∀ s', rv_B T N h s0 s' i C0 → R s') : pl_At n 238 205 [(0, .ref 1131)] [] s (ps_rV R) := by
  cases n with
  | zero => exact pl_At_0
  | succ n =>
  obtain ⟨⟨⟨l1, l2, l3, l4, l5⟩, l6, l7, l8⟩, g, K, e42⟩ := id X
  have hb := (tx_tok_ok (T := T) l4).2.1
  refine pl_238_205 (fm_192 (fun _ => ⟨fun w => absurd w (by decide), fun _ => ?_⟩) (fun z => absurd l8.1 z))
  refine fs_194 l6 l5.2.2.1 hb (fun s1 q1 => ?_)
  have M1 : rkT s1 i c := by
    obtain ⟨t1, t2, t3, t4, t5, t6, t7, t8⟩ := M
    have e : ∀ r, ps_a s1 r = ps_a s r := fun r => kq_a q1.1 r rfl
    exact ⟨by rw [e]; exact t1, by rw [e]; exact t2, by rw [e]; exact t3, by rw [e]; exact t4, by rw [e]; exact t5, by rw [e]; exact t6, fun z => mv_W_kq (t7 z) q1.1 (by decide), fun z => mv_W_kq (t8 z) q1.1 (by decide)⟩
  exact fm_238_216 ⟨rv_L_adv X.1 hb q1, g, KRd_q K q1.1 (by decide) (by decide), by rw [kq_i q1.1 42 (by decide)]; exact e42⟩ M1 hi k1 k0

end
