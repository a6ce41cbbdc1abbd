set_option maxRecDepth 100000
section
variable {b n1 n2 n3 ax x : Nat} {h : tx_H} {Θ : List tq_H} {D : List tq_R} {t f : List Nat} {x1 : Int32} {s0 : ps_S} {R : ps_S → Prop}
theorem fm_255_r20 {n : Nat} (h1 : x1.toInt = D.length) (hi : D.length < 40) (X : mpX s0 b h Θ D ((20, n1, n2, n3), (ax, x), t, f)) (B : mpB s0 D.length) (hD : tq_GD h.1 D) (hG : tp_G h.1 h.2.length ((20, n1, n2, n3), (ax, x), t, f)) (hpr : tq_pr Θ D ((20, n1, n2, n3), (ax, x), t, f)) (k : ∀ s', TKm s0 s' h Θ D ((20, n1, n2, n3), (ax, x), t, f) → R s') : pl_Cl n 255 [.ref 1131, .int x1] s0 (ps_rV R) := by
  cases n with
  | zero => exact pl_At_0
  | succ n =>
  show pl_At (n + 1) 255 0 [(0, .ref 1131), (1, .int x1)] [] s0 (ps_rV R)
  obtain ⟨b1, b2, b3⟩ := B
  have hA := arh_k (g := h.1) X.1.2.2.1.2.2.1 X.1.2.2.1.2.2.2.1
  have er : (ps_a s0 1152 D.length).toInt = (10 : Int) := X.2.2.2.1.trans rfl
  have p1 : n1 < D.length := hpr.1 (of_decide_eq_true rfl)
  have e1 : (ps_a s0 1153 D.length).toInt = n1 := X.2.2.2.2.1 (of_decide_eq_true rfl)
  obtain ⟨⟨W1, w1, ne1, l1⟩, -⟩ := mprem X hD p1
  obtain ⟨wf, lf⟩ : ws (sg h.1) f [true] ∧ f.length ≤ 40 := hG.2.2.1 (of_decide_eq_true rfl)
  have Wf : mv_W s0 (22468 + 41 * D.length) f := X.2.2.2.2.2.2.2.2.2.2 (of_decide_eq_true rfl)
  refine pl_255_0 ?_
  rw [xtn h1]
  refine fm_244 (i := D.length) (m := n1) h1 e1 (by omega) (fun v1 q1 => ?_)
  intro _
  refine ⟨fun _ => ?_, fun z => absurd (show (ps_a _ 1152 D.length).toInt = (8 : Int) from xeq z) (by omega)⟩
  intro _
  refine ⟨fun _ => ?_, fun z => absurd (show (ps_a _ 1152 D.length).toInt = (9 : Int) from xeq z) (by omega)⟩
  intro _
  refine ⟨fun _ => ?_, fun z => absurd (show (ps_a _ 1152 D.length).toInt = (10 : Int) from er) (xne z)⟩
  cases n with
  | zero => exact pl_At_0
  | succ n =>
  refine pl_255_165 ?_
  rw [xtn h1]
  intro _
  refine ⟨fun z => absurd (show (ps_a _ 1152 D.length).toInt = (10 : Int) from er) (xne z), fun _ => ?_⟩
  refine fm_227 (l := f) (rowF h1 hi) (by omega) Wf b2 (by decide) (fun s2 M2 K2 => ?_)
  have T2 : TKf D.length s0 s2 := TKf_q TKf_refl K2 (by decide) (by decide) (by decide)
  have P2 := PAm_kq b3 K2 (by decide) (by decide)
  clear er
  have er : (ps_a s2 1152 D.length).toInt = (10 : Int) := (mpX_TKf X hi T2).2.2.2.1.trans rfl
  cases n with
  | zero => exact pl_At_0
  | succ n =>
  refine pl_255_181 ?_
  rw [xtn h1]
  intro _
  refine ⟨fun _ => ?_, fun z => absurd (show (ps_a _ 1152 D.length).toInt = (18 : Int) from xeq z) (by omega)⟩
  cases n with
  | zero => exact pl_At_0
  | succ n =>
  refine pl_255_207 ?_
  rw [xtn h1]
  intro _
  intro _
  refine ⟨fun z => absurd (show (ps_a _ 1152 D.length).toInt = (17 : Int) from xeq z) (by omega), fun _ => ?_⟩
  refine fm_249k X hD hi T2 h1 p1 (show (ps_a _ 1153 D.length).toInt = n1 from (mpX_TKf X hi T2).2.2.2.2.1 (of_decide_eq_true rfl)) M2 (Or.inr ⟨by decide, rfl⟩) (by decide) P2 (fun s5 P5 K5 => ?_)
  have T5 := TKf_A T2 K5
  have M5 := mk_M_kq M2 K5.1 (by decide) (by decide)
  have er5 := (kq_a T5.1 1152 (by decide))
  intro _
  clear er
  have er : (ps_a s5 1152 D.length).toInt = (10 : Int) := (mpX_TKf X hi T5).2.2.2.1.trans rfl
  refine ⟨fun z => absurd (show (ps_a _ 1152 D.length).toInt = (10 : Int) from er) (xne z), fun _ => ?_⟩
  refine fm_225 (c := 3) mk_M_0 rfl (by decide) (fun s6 M6 K6 => ?_)
  have T6 := TKf_q (TKf_0 T5) K6 (by decide) (by decide) (by decide)
  cases n with
  | zero => exact pl_At_0
  | succ n =>
  refine pl_255_255 ?_
  rw [xtn h1]
  refine fm_227 (l := f) (rowF h1 hi) (by omega) ((mpX_TKf X hi T6).2.2.2.2.2.2.2.2.2.2 (of_decide_eq_true rfl)) M6 (by decide) (fun s7 M7 K7 => ?_)
  have T7 := TKf_q T6 K7 (by decide) (by decide) (by decide)
  have X7 := mpX_TKf X hi T7
  intro _
  clear er
  have er : (ps_a s7 1152 D.length).toInt = (10 : Int) := X7.2.2.2.1.trans rfl
  refine ⟨fun z => absurd (show (ps_a _ 1152 D.length).toInt = (10 : Int) from er) (xne z), fun _ => ?_⟩
  refine fm_227 (l := tq_r D n1) q1 (by omega) (mprem X7 hD p1).1.1 M7 (by rw [List.length_append]; show 1 + f.length < 50000; omega) (fun s8 M8 K8 => ?_)
  refine k s8 (TKm_mk tq_mk_20 ?_ M8 (Or.inr ?_) ?_ (PAm_kq (PAm_kq (PAm_kq (PAm_0 P5) K6 (by decide) (by decide)) K7 (by decide) (by decide)) K8 (by decide) (by decide)) (by decide) (fun _ => ⟨?_, rfl⟩) (TKf_q T7 K8 (by decide) (by decide) (by decide)))
  · rw [kq_i K8 50 (by decide), kq_i K7 50 (by decide), kq_i K6 50 (by decide)]
    show (ps_i s5 1131 50).toInt = 0
    rw [kq_i K5.1 50 (by decide), kq_i K2 50 (by decide)]
    exact b1
  · show ws (sg h.1) (3 :: (f ++ tq_r D n1)) [true]
    exact ws_c (kS_2 (by decide) (by decide)) (ws_app (W1 := [true]) wf w1)
  · show (3 :: (f ++ tq_r D n1)).length ≤ 2000
    rw [List.length_cons, List.length_append]
    omega
  · rfl


end
