set_option maxRecDepth 100000
section
variable {b n1 n2 n3 ax x : Nat} {h : tx_H} {Θ : List tq_H} {D : List tq_R} {t f : List Nat} {x1 : Int32} {s0 : ps_S} {R : ps_S → Prop}
theorem fm_257_r25 {n : Nat} (h1 : x1.toInt = D.length) (hi : D.length < 40) (X : mpX s0 b h Θ D ((25, n1, n2, n3), (ax, x), t, f)) (B : mpB s0 D.length) (hD : tq_GD h.1 D) (hG : tp_G h.1 h.2.length ((25, n1, n2, n3), (ax, x), t, f)) (hpr : tq_pr Θ D ((25, n1, n2, n3), (ax, x), t, f)) (k : ∀ s', TKm s0 s' h Θ D ((25, n1, n2, n3), (ax, x), t, f) → R s') : pl_Cl n 257 [.ref 1131, .int x1] s0 (ps_rV R) := by
  cases n with
  | zero => exact pl_At_0
  | succ n =>
  show pl_At (n + 1) 257 0 [(0, .ref 1131), (1, .int x1)] [] s0 (ps_rV R)
  obtain ⟨b1, b2, b3⟩ := B
  have hA := arh_k (g := h.1) X.1.2.2.1.2.2.1 X.1.2.2.1.2.2.2.1
  have er : (ps_a s0 1152 D.length).toInt = (16 : Int) := X.2.2.2.1.trans rfl
  have p1 : n1 < D.length := hpr.1 (of_decide_eq_true rfl)
  have e1 : (ps_a s0 1153 D.length).toInt = n1 := X.2.2.2.2.1 (of_decide_eq_true rfl)
  obtain ⟨⟨W1, w1, ne1, l1⟩, -⟩ := mprem X hD p1
  have p2 : n2 < D.length := hpr.2.1 (of_decide_eq_true rfl)
  have e2 : (ps_a s0 1154 D.length).toInt = n2 := X.2.2.2.2.2.1 (of_decide_eq_true rfl)
  obtain ⟨⟨W2, w2, ne2, l2⟩, -⟩ := mprem X hD p2
  obtain ⟨wf, lf⟩ : ws (sg h.1) f [true] ∧ f.length ≤ 40 := hG.2.2.1 (of_decide_eq_true rfl)
  have Wf : mv_W s0 (22468 + 41 * D.length) f := X.2.2.2.2.2.2.2.2.2.2 (of_decide_eq_true rfl)
  have at281 : ∀ {n' c : Nat} {L L' : List Nat} {s4 : ps_S}, tq_mk h Θ D ((25, n1, n2, n3), (ax, x), t, f) = (c, L', [], [], []) → (ps_i s4 1131 50).toInt = c → mk_M s4 L → (L = [] ∨ ws (sg h.1) L [true]) → L.length ≤ 2000 → PAm s4 D.length [] 0 → TKf D.length s0 s4 → (c = 0 → L = L') → pl_At n' 257 281 [(0, .ref 1131), (1, .int x1)] [] s4 (ps_rV R) := fun {n' c L L' s4} hm h50 M4 hw hl P4 T4 hL => by
    cases n' with
    | zero => exact pl_At_0
    | succ n' =>
    refine pl_257_281 ?_
    rw [xtn h1]
    intro _
    refine fm_249k X hD hi T4 h1 p1 (show (ps_a _ 1153 D.length).toInt = n1 from (mpX_TKf X hi T4).2.2.2.2.1 (of_decide_eq_true rfl)) M4 (Or.inl ⟨rfl, rfl⟩) (by decide) P4 (fun s5 P5 K5 => ?_)
    have T5 := TKf_A T4 K5
    have M5 := mk_M_kq M4 K5.1 (by decide) (by decide)
    have er5 := (kq_a T5.1 1152 (by decide))
    intro _
    clear er
    have er : (ps_a s5 1152 D.length).toInt = (16 : Int) := (mpX_TKf X hi T5).2.2.2.1.trans rfl
    refine ⟨fun z => absurd (show (ps_a _ 1152 D.length).toInt = (16 : Int) from er) (xne z), fun _ => ?_⟩
    intro _
    refine fm_249k X hD hi T5 h1 p2 (show (ps_a _ 1154 D.length).toInt = n2 from (mpX_TKf X hi T5).2.2.2.2.2.1 (of_decide_eq_true rfl)) M5 (Or.inl ⟨rfl, rfl⟩) (by decide) P5 (fun s6 P6 K6 => ?_)
    have T6 := TKf_A T5 K6
    have M6 := mk_M_kq M5 K6.1 (by decide) (by decide)
    have er6 := (kq_a T6.1 1152 (by decide))
    refine k s6 (TKm_mk hm ?_ M6 hw hl P6 (by decide) (fun w => ⟨hL w, rfl⟩) T6)
    rw [kq_i K6.1 50 (by decide), kq_i K5.1 50 (by decide)]
    exact h50
  have hm := tq_mk_25 (h := h) (Θ := Θ) (D := D) (n1 := n1) (n2 := n2) (n3 := n3) (ax := ax) (x := x) (t := t) (f := f)
  have at275 : ∀ {n' c : Nat} {L' : List Nat} {s1 : ps_S}, tq_mk h Θ D ((25, n1, n2, n3), (ax, x), t, f) = (c, L', [], [], []) → (c = 0 → f = L') → (ps_i s1 1131 50).toInt = c → mk_M s1 [] → PAm s1 D.length [] 0 → TKf D.length s0 s1 → pl_At n' 257 275 [(0, .ref 1131), (1, .int x1), (4, .int ((22468 : Int32) + ((41 : Int32) * x1)))] [] s1 (ps_rV R) := fun {n' c L' s1} hm hL h50 M1 P1 T1 => by
    cases n' with
    | zero => exact pl_At_0
    | succ n' =>
    refine pl_257_275 (fm_227 (l := f) (rowF h1 hi) (by omega) ((mpX_TKf X hi T1).2.2.2.2.2.2.2.2.2.2 (of_decide_eq_true rfl)) M1 (by decide) (fun s2 M2 K2 => ?_))
    exact at281 hm (by rw [kq_i K2 50 (by decide)]; exact h50) M2 (Or.inr wf) (by show f.length ≤ 2000; omega) (PAm_kq P1 K2 (by decide) (by decide)) (TKf_q T1 K2 (by decide) (by decide) (by decide)) hL
  refine pl_257_0 ?_
  rw [xtn h1]
  refine fm_244 (i := D.length) (m := n1) h1 e1 (by omega) (fun v1 q1 => ?_)
  intro _
  refine ⟨fun z => absurd (show (ps_a _ 1152 D.length).toInt = (11 : Int) from xeq z) (by omega), fun _ => ?_⟩
  refine ⟨fun z => absurd (show (ps_a _ 1152 D.length).toInt = (12 : Int) from xeq z) (by omega), fun _ => ?_⟩
  refine ⟨fun z => absurd (show (ps_a _ 1152 D.length).toInt = (13 : Int) from xeq z) (by omega), fun _ => ?_⟩
  refine ⟨fun z => absurd (show (ps_a _ 1152 D.length).toInt = (14 : Int) from xeq z) (by omega), fun _ => ?_⟩
  refine ⟨fun z => absurd (show (ps_a _ 1152 D.length).toInt = (15 : Int) from xeq z) (by omega), fun _ => ?_⟩
  refine fm_247 q1 (by omega) W1 ne1 (fun v2 c hc q2 => ⟨fun z => ?_, fun z => ?_⟩)
  · have z : v2.toInt = (6 : Int) := xeq z
    have hh : (tq_r D n1).head? = some 6 := by rw [hc]; congr 1; omega
    rw [if_pos hh] at hm
    obtain ⟨g1, g2, g3, g4⟩ := tq_half hA w1 hh (b0 := false) kS_f6
    have Wa : mv_W s0 (41 * n1) (6 :: (tq_1 (arh h.1) (tq_r D n1) ++ tq_2 (arh h.1) (tq_r D n1))) := by
      rw [← g4]
      exact W1
    refine fm_245 (i := D.length) (m := n2) h1 e2 (by omega) (fun v3 q3 => ?_)
    refine fm_260 X.1.1 X.1.2.1 X.1.2.2.1 g1 g2 q1 (by omega) Wa q3 (by omega) W2 (rowF h1 hi) (by omega) Wf (fun e => ⟨fun _ => ?_, fun w => absurd w (by decide)⟩) (fun e => ⟨fun w => absurd rfl w, fun _ => ?_⟩)
    · rw [if_pos e] at hm
      exact at275 hm (fun _ => rfl) b1 b2 b3 TKf_refl
    · rw [if_neg e] at hm
      refine fm_241 (z := 0) (c := 4) b1 rfl (fun s4 h50 K4 => ?_)
      exact at275 hm (fun w => by cases w) h50 (mk_M_kq b2 K4 (by decide) (by decide)) (PAm_kq b3 K4 (by decide) (by decide)) (TKf_q TKf_refl K4 (by decide) (by decide) (by decide))
  · have z : v2.toInt ≠ (6 : Int) := xne z
    rw [if_neg (fun w => by rw [hc] at w; cases w; exact z q2)] at hm
    refine fm_241 (z := 0) (c := 2) b1 rfl (fun s4 h50 K4 => ?_)
    exact at275 hm (fun w => by cases w) h50 (mk_M_kq b2 K4 (by decide) (by decide)) (PAm_kq b3 K4 (by decide) (by decide)) (TKf_q TKf_refl K4 (by decide) (by decide) (by decide))


end
