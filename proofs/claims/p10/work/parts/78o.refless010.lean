set_option maxRecDepth 100000
section
variable {b n1 n2 n3 ax x : Nat} {h : tx_H} {Θ : List tq_H} {D : List tq_R} {t f : List Nat} {x1 : Int32} {s0 : ps_S} {R : ps_S → Prop}
theorem fm_255_r26 {n : Nat} (h1 : x1.toInt = D.length) (hi : D.length < 40) (X : mpX s0 b h Θ D ((26, n1, n2, n3), (ax, x), t, f)) (B : mpB s0 D.length) (hD : tq_GD h.1 D) (hG : tp_G h.1 h.2.length ((26, n1, n2, n3), (ax, x), t, f)) (hpr : tq_pr Θ D ((26, n1, n2, n3), (ax, x), t, f)) (k : ∀ s', TKm s0 s' h Θ D ((26, n1, n2, n3), (ax, x), t, f) → R s') : pl_Cl n 255 [.ref 1131, .int x1] s0 (ps_rV R) := by
  cases n with
  | zero => exact pl_At_0
  | succ n =>
  show pl_At (n + 1) 255 0 [(0, .ref 1131), (1, .int x1)] [] s0 (ps_rV R)
  obtain ⟨b1, b2, b3⟩ := B
  have hA := arh_k (g := h.1) X.1.2.2.1.2.2.1 X.1.2.2.1.2.2.2.1
  have er : (ps_a s0 1152 D.length).toInt = (17 : Int) := X.2.2.2.1.trans rfl
  have p1 : n1 < D.length := hpr.1 (of_decide_eq_true rfl)
  have e1 : (ps_a s0 1153 D.length).toInt = n1 := X.2.2.2.2.1 (of_decide_eq_true rfl)
  obtain ⟨⟨W1, w1, ne1, l1⟩, -⟩ := mprem X hD p1
  obtain ⟨wf, lf⟩ : ws (sg h.1) f [true] ∧ f.length ≤ 40 := hG.2.2.1 (of_decide_eq_true rfl)
  have Wf : mv_W s0 (22468 + 41 * D.length) f := X.2.2.2.2.2.2.2.2.2.2 (of_decide_eq_true rfl)
  have hm := tq_mk_26 (h := h) (Θ := Θ) (D := D) (n1 := n1) (n2 := n2) (n3 := n3) (ax := ax) (x := x) (t := t) (f := f)
  have at165 : ∀ {n' c : Nat} {L' oo : List Nat} {s1 : ps_S} {v1 : Int32}, tq_mk h Θ D ((26, n1, n2, n3), (ax, x), t, f) = (c, L', oo, [], []) → (c = 0 → L' = f ∧ oo = []) → (ps_i s1 1131 50).toInt = c → mk_M s1 [] → PAm s1 D.length [] 0 → TKf D.length s0 s1 → pl_At n' 255 165 [(0, .ref 1131), (1, .int x1), (2, .int v1), (3, .int ((22468 : Int32) + ((41 : Int32) * x1)))] [] s1 (ps_rV R) := fun {n' c L' oo s1 v1} hm hL h50 M1 P1 T1 => by
    clear er
    have er : (ps_a s1 1152 D.length).toInt = (17 : Int) := (mpX_TKf X hi T1).2.2.2.1.trans rfl
    cases n' with
    | zero => exact pl_At_0
    | succ n' =>
    refine pl_255_165 ?_
    rw [xtn h1]
    intro _
    refine ⟨fun _ => ?_, fun z => absurd (show (ps_a _ 1152 D.length).toInt = (10 : Int) from xeq z) (by omega)⟩
    cases n' with
    | zero => exact pl_At_0
    | succ n' =>
    refine pl_255_181 ?_
    rw [xtn h1]
    intro _
    refine ⟨fun _ => ?_, fun z => absurd (show (ps_a _ 1152 D.length).toInt = (18 : Int) from xeq z) (by omega)⟩
    obtain ⟨s2, es2⟩ : ∃ s2, s2 = s1 := ⟨s1, rfl⟩
    rw [← es2] at h50 M1 P1 T1 er ⊢
    have M2 := M1
    have T2 := T1
    have P2 := P1
    have h52 := h50
    cases n' with
    | zero => exact pl_At_0
    | succ n' =>
    refine pl_255_207 ?_
    rw [xtn h1]
    intro _
    intro _
    refine ⟨fun _ => ?_, fun z => absurd (show (ps_a _ 1152 D.length).toInt = (17 : Int) from er) (xne z)⟩
    refine fm_249k X hD hi T2 h1 p1 (show (ps_a _ 1153 D.length).toInt = n1 from (mpX_TKf X hi T2).2.2.2.2.1 (of_decide_eq_true rfl)) M2 (Or.inl ⟨rfl, rfl⟩) (by decide) P2 (fun s5 P5 K5 => ?_)
    have T5 := TKf_A T2 K5
    have M5 := mk_M_kq M2 K5.1 (by decide) (by decide)
    have er5 := (kq_a T5.1 1152 (by decide))
    intro _
    clear er
    have er : (ps_a s5 1152 D.length).toInt = (17 : Int) := (mpX_TKf X hi T5).2.2.2.1.trans rfl
    refine ⟨fun _ => ?_, fun z => absurd (show (ps_a s5 1152 D.length).toInt = (10 : Int) from xeq z) (by omega)⟩
    cases n' with
    | zero => exact pl_At_0
    | succ n' =>
    refine pl_255_255 ?_
    rw [xtn h1]
    refine fm_227 (l := f) (rowF h1 hi) (by omega) ((mpX_TKf X hi (TKf_0 T5)).2.2.2.2.2.2.2.2.2.2 (of_decide_eq_true rfl)) mk_M_0 (by decide) (fun s7 M7 K7 => ?_)
    have T7 := TKf_q (TKf_0 T5) K7 (by decide) (by decide) (by decide)
    intro _
    clear er
    have er : (ps_a s7 1152 D.length).toInt = (17 : Int) := (mpX_TKf X hi T7).2.2.2.1.trans rfl
    refine ⟨fun _ => ?_, fun z => absurd (show (ps_a _ 1152 D.length).toInt = (10 : Int) from xeq z) (by omega)⟩
    refine k s7 (TKm_mk hm ?_ M7 (Or.inr wf) (by show f.length ≤ 2000; omega) (PAm_kq (PAm_0 P5) K7 (by decide) (by decide)) (by decide) (fun w => ⟨(hL w).1.symm, by rw [(hL w).2]; rfl⟩) T7)
    rw [kq_i K7 50 (by decide)]
    show (ps_i s5 1131 50).toInt = c
    rw [kq_i K5.1 50 (by decide)]
    exact h52
  refine pl_255_0 ?_
  rw [xtn h1]
  refine fm_244 (i := D.length) (m := n1) h1 e1 (by omega) (fun v1 q1 => ?_)
  intro _
  refine ⟨fun _ => ?_, fun z => absurd (show (ps_a _ 1152 D.length).toInt = (8 : Int) from xeq z) (by omega)⟩
  intro _
  refine ⟨fun _ => ?_, fun z => absurd (show (ps_a _ 1152 D.length).toInt = (9 : Int) from xeq z) (by omega)⟩
  intro _
  refine ⟨fun z => absurd (show (ps_a _ 1152 D.length).toInt = (10 : Int) from xeq z) (by omega), fun _ => ?_⟩
  refine fm_247 q1 (by omega) W1 ne1 (fun v2 c hc q2 => ⟨fun z => ?_, fun z => ?_⟩)
  · have z := xeq z
    have hh : (tq_r D n1).head? = some 0 := by
      rw [hc]
      congr 1
      have c0 : (0 : Int32).toInt = 0 := Int32.toInt_zero
      omega
    rw [if_pos hh] at hm
    exact at165 hm (fun _ => ⟨rfl, rfl⟩) b1 b2 b3 TKf_refl
  · have z := xne z
    rw [if_neg (fun w => by rw [hc] at w; cases w; exact z q2)] at hm
    refine fm_241 (z := 0) (c := 2) b1 rfl (fun s4 h50 K4 => ?_)
    exact at165 hm (fun w => by cases w) h50 (mk_M_kq b2 K4 (by decide) (by decide)) (PAm_kq b3 K4 (by decide) (by decide)) (TKf_q TKf_refl K4 (by decide) (by decide) (by decide))


end
