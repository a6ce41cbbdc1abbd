set_option maxRecDepth 100000
section
variable {b n1 n2 n3 ax x : Nat} {h : tx_H} {Θ : List tq_H} {D : List tq_R} {t f : List Nat} {x1 : Int32} {s0 : ps_S} {R : ps_S → Prop}
theorem fm_257_r6 {n : Nat} (h1 : x1.toInt = D.length) (hi : D.length < 40) (X : mpX s0 b h Θ D ((6, n1, n2, n3), (ax, x), t, f)) (B : mpB s0 D.length) (hD : tq_GD h.1 D) (hG : tp_G h.1 h.2.length ((6, n1, n2, n3), (ax, x), t, f)) (hpr : tq_pr Θ D ((6, n1, n2, n3), (ax, x), t, f)) (k : ∀ s', TKm s0 s' h Θ D ((6, n1, n2, n3), (ax, x), t, f) → R s') : pl_Cl n 257 [.ref 1131, .int x1] s0 (ps_rV R) := by
  cases n with
  | zero => exact pl_At_0
  | succ n =>
  show pl_At (n + 1) 257 0 [(0, .ref 1131), (1, .int x1)] [] s0 (ps_rV R)
  obtain ⟨b1, b2, b3⟩ := B
  have hA := arh_k (g := h.1) X.1.2.2.1.2.2.1 X.1.2.2.1.2.2.2.1
  have er : (ps_a s0 1152 D.length).toInt = (15 : Int) := X.2.2.2.1.trans rfl
  obtain ⟨wt, lt⟩ : ws (sg h.1) t [false] ∧ t.length ≤ 40 := hG.2.1 (of_decide_eq_true rfl)
  have Wt : mv_W s0 (24108 + 41 * D.length) t := X.2.2.2.2.2.2.2.2.2.1 (of_decide_eq_true rfl)
  refine pl_257_0 ?_
  rw [xtn h1]
  refine fm_244o (i := D.length) (fun v1 => ?_)
  intro _
  refine ⟨fun z => absurd (show (ps_a _ 1152 D.length).toInt = (11 : Int) from xeq z) (by omega), fun _ => ?_⟩
  refine ⟨fun z => absurd (show (ps_a _ 1152 D.length).toInt = (12 : Int) from xeq z) (by omega), fun _ => ?_⟩
  refine ⟨fun z => absurd (show (ps_a _ 1152 D.length).toInt = (13 : Int) from xeq z) (by omega), fun _ => ?_⟩
  refine ⟨fun z => absurd (show (ps_a _ 1152 D.length).toInt = (14 : Int) from xeq z) (by omega), fun _ => ?_⟩
  refine ⟨fun _ => ?_, fun z => absurd (show (ps_a _ 1152 D.length).toInt = (15 : Int) from er) (xne z)⟩
  refine fm_225 (c := 6) b2 rfl (by decide) (fun s2 M2 K2 => ?_)
  refine fm_227 (l := t) (rowT h1 hi) (by omega) (mv_W_kq Wt K2 (by decide)) M2 (by decide) (fun s3 M3 K3 => ?_)
  refine fm_227 (l := t) (rowT h1 hi) (by omega) (mv_W_kq (mv_W_kq Wt K2 (by decide)) K3 (by decide)) M3 (by rw [List.length_append]; show 1 + t.length < 50000; omega) (fun s4 M4 K4 => ?_)
  refine k s4 (TKm_mk tq_mk_6 ?_ M4 (Or.inr ?_) ?_ (PAm_kq (PAm_kq (PAm_kq b3 K2 (by decide) (by decide)) K3 (by decide) (by decide)) K4 (by decide) (by decide)) (by decide) (fun _ => ⟨?_, rfl⟩) (TKf_q (TKf_q (TKf_q TKf_refl K2 (by decide) (by decide) (by decide)) K3 (by decide) (by decide) (by decide)) K4 (by decide) (by decide) (by decide)))
  · rw [kq_i K4 50 (by decide), kq_i K3 50 (by decide), kq_i K2 50 (by decide)]
    exact b1
  · show ws (sg h.1) (6 :: (t ++ t)) [true]
    exact ws_c kS_f6 (ws_app (W1 := [false]) wt wt)
  · show (6 :: (t ++ t)).length ≤ 2000
    rw [List.length_cons, List.length_append]
    omega
  · rfl


end
