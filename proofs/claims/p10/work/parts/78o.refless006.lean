set_option maxRecDepth 100000
section
variable {b n1 n2 n3 ax x : Nat} {h : tx_H} {Θ : List tq_H} {D : List tq_R} {t f : List Nat} {x1 : Int32} {s0 : ps_S} {R : ps_S → Prop}

theorem fm_256_r18 {n : Nat} (h1 : x1.toInt = D.length) (hi : D.length < 40) (X : mpX s0 b h Θ D ((18, n1, n2, n3), (ax, x), t, f)) (B : mpB s0 D.length) (hD : tq_GD h.1 D) (hG : tp_G h.1 h.2.length ((18, n1, n2, n3), (ax, x), t, f)) (hpr : tq_pr Θ D ((18, n1, n2, n3), (ax, x), t, f)) (k : ∀ s', TKm s0 s' h Θ D ((18, n1, n2, n3), (ax, x), t, f) → R s') : pl_Cl n 256 [.ref 1131, .int x1] s0 (ps_rV R) := by
  cases n with
  | zero => exact pl_At_0
  | succ n =>
  show pl_At (n + 1) 256 0 [(0, .ref 1131), (1, .int x1)] [] s0 (ps_rV R)
  obtain ⟨b1, b2, b3⟩ := B
  have hA := arh_k (g := h.1) X.1.2.2.1.2.2.1 X.1.2.2.1.2.2.2.1
  have er : (ps_a s0 1152 D.length).toInt = (8 : Int) := X.2.2.2.1.trans rfl
  have p1 : n1 < D.length := hpr.1 (of_decide_eq_true rfl)
  have e1 : (ps_a s0 1153 D.length).toInt = n1 := X.2.2.2.2.1 (of_decide_eq_true rfl)
  obtain ⟨⟨W1, w1, ne1, l1⟩, -⟩ := mprem X hD p1
  have p2 : n2 < D.length := hpr.2.1 (of_decide_eq_true rfl)
  have e2 : (ps_a s0 1154 D.length).toInt = n2 := X.2.2.2.2.2.1 (of_decide_eq_true rfl)
  obtain ⟨⟨W2, w2, ne2, l2⟩, -⟩ := mprem X hD p2
  have p3 : n3 < D.length := hpr.2.2 (of_decide_eq_true rfl)
  have e3 : (ps_a s0 1155 D.length).toInt = n3 := X.2.2.2.2.2.2.1 (of_decide_eq_true rfl)
  obtain ⟨⟨W3, w3, ne3, l3⟩, -⟩ := mprem X hD p3
  have hm := tq_mk_18 (h := h) (Θ := Θ) (D := D) (n1 := n1) (n2 := n2) (n3 := n3) (ax := ax) (x := x) (t := t) (f := f)
  have at47 : (tq_r D n1).head? = some 2 → ∀ {n' c : Nat} {s1 : ps_S} {v1 : Int32}, v1.toInt = (41 * n1 : Nat) → (ps_i s1 1131 50).toInt = c → mk_M s1 [] → PAm s1 D.length [] 0 → TKf D.length s0 s1 → (c = 0 → tq_r D n2 = tq_r D n3) → ((¬ tq_r D n2 = tq_r D n3) → c = 2) → (tq_r D n2 = tq_r D n3 → c = 0) → pl_At n' 256 47 [(0, .ref 1131), (1, .int x1), (2, .int v1), (3, .int 1)] [] s1 (ps_rV R) := fun hh {n' c s1 v1} q1 h50 M1 P1 T1 hc0 hc2 hc3 => by
    cases n' with
    | zero => exact pl_At_0
    | succ n' =>
    have X1 := mpX_TKf X hi T1
    obtain ⟨g1, g2, g3, g4⟩ := tq_half hA w1 hh (kS_2 (by decide) (by decide))
    have hle := en_le hA g3 (k := 1) (by decide)
    rw [List.length_drop] at hle
    have hl1 : 1 ≤ (tq_r D n1).length := by
      cases e : tq_r D n1 with
      | nil => exact absurd e ne1
      | cons c l => rw [List.length_cons]; omega
    have W1' := (mprem X1 hD p1).1.1
    refine pl_256_47 ⟨fun _ => ?_, fun z => absurd z (by decide)⟩
    rw [xtn h1]
    refine fm_221 (i := 1) X1.1.1 X1.1.2.1 X1.1.2.2.1 q1 (by omega) W1' rfl g3 (fun v3 q3 => ?_)
    intro _
    refine fm_249k X hD hi T1 h1 p1 (show (ps_a _ 1153 D.length).toInt = n1 from (mpX_TKf X hi T1).2.2.2.2.1 (of_decide_eq_true rfl)) M1 (Or.inl ⟨rfl, rfl⟩) (by decide) P1 (fun s2 P2 K2 => ?_)
    have T2 := TKf_A T1 K2
    have M2 := mk_M_kq M1 K2.1 (by decide) (by decide)
    have er2 := (kq_a T2.1 1152 (by decide))
    refine fm_226 (a := 1) (b := 1 + en (arh h.1) ((tq_r D n1).drop 1) 1) q1 (by omega) (mprem (mpX_TKf X hi T2) hD p1).1.1 M2 rfl q3 (by omega) (by decide) (fun s3 M3 K3 => ?_)
    rw [t1_is] at M3
    have T3 := TKf_q T2 K3 (by decide) (by decide) (by decide)
    have P3 := PAm_kq P2 K3 (by decide) (by decide)
    intro _
    refine fm_249k X hD hi T3 h1 p2 (show (ps_a _ 1154 D.length).toInt = n2 from (mpX_TKf X hi T3).2.2.2.2.2.1 (of_decide_eq_true rfl)) M3 (Or.inr ⟨by decide, rfl⟩) (by decide) P3 (fun s4 P4 K4 => ?_)
    have T4 := TKf_A T3 K4
    have M4 := mk_M_kq M3 K4.1 (by decide) (by decide)
    have er4 := (kq_a T4.1 1152 (by decide))
    refine fm_219c q1 (mprem (mpX_TKf X hi (TKf_0 T4)) hD p1).1.1 (fun v5 q5 => ?_)
    refine fm_226 (a := 1 + en (arh h.1) ((tq_r D n1).drop 1) 1) (b := (tq_r D n1).length) q1 (by omega) (mprem (mpX_TKf X hi (TKf_0 T4)) hD p1).1.1 mk_M_0 q3 q5 (Nat.le_refl _) (by decide) (fun s6 M6 K6 => ?_)
    rw [t2_is] at M6
    have T6 := TKf_q (TKf_0 T4) K6 (by decide) (by decide) (by decide)
    have P6 := PAm_kq (PAm_0 P4) K6 (by decide) (by decide)
    intro _
    refine fm_249k X hD hi T6 h1 p3 (show (ps_a _ 1155 D.length).toInt = n3 from (mpX_TKf X hi T6).2.2.2.2.2.2.1 (of_decide_eq_true rfl)) M6 (Or.inr ⟨by decide, rfl⟩) (by decide) P6 (fun s7 P7 K7 => ?_)
    have T7 := TKf_A T6 K7
    have M7 := mk_M_kq M6 K7.1 (by decide) (by decide)
    have er7 := (kq_a T7.1 1152 (by decide))
    have X7 := mpX_TKf X hi (TKf_0 T7)
    refine fm_245 (i := D.length) (m := n2) h1 (X7.2.2.2.2.2.1 (of_decide_eq_true rfl)) (by omega) (fun v8 q8 => ?_)
    refine fm_227 (l := tq_r D n2) q8 (by omega) (mprem X7 hD p2).1.1 mk_M_0 (by decide) (fun s9 M9 K9 => ?_)
    have h9 : (ps_i s9 1131 50).toInt = c := by
      rw [kq_i K9 50 (by decide)]
      show (ps_i s7 1131 50).toInt = c
      rw [kq_i K7.1 50 (by decide), kq_i K6 50 (by decide)]
      show (ps_i s4 1131 50).toInt = c
      rw [kq_i K4.1 50 (by decide), kq_i K3 50 (by decide), kq_i K2.1 50 (by decide)]
      exact h50
    by_cases hal : tq_r D n2 = tq_r D n3
    · have ec := hc3 hal
      rw [if_pos ⟨hh, hal⟩] at hm
      refine k s9 (TKm_mk hm (by rw [h9, ec]) M9 (Or.inr w2) (by show (tq_r D n2).length ≤ 2000; omega) (PAm_kq (PAm_0 P7) K9 (by decide) (by decide)) (by decide) (fun _ => ⟨rfl, rfl⟩) (TKf_q (TKf_0 T7) K9 (by decide) (by decide) (by decide)))
    · have ec := hc2 hal
      rw [if_neg (fun w => hal w.2)] at hm
      refine k s9 (TKm_mk hm (by rw [h9, ec]) M9 (Or.inr w2) (by show (tq_r D n2).length ≤ 2000; omega) (PAm_kq (PAm_0 P7) K9 (by decide) (by decide)) (by decide) (fun w => by cases w) (TKf_q (TKf_0 T7) K9 (by decide) (by decide) (by decide)))
  refine pl_256_0 (fm_244 (i := D.length) (m := n1) h1 e1 (by omega) (fun v1 q1 => fm_247 q1 (by omega) W1 ne1 (fun v2 c hc q2 => ⟨fun z => ⟨fun _ => ?_, fun w => absurd rfl w⟩, fun z => ⟨fun w => absurd w (by decide), fun _ => ?_⟩⟩)))
  · have z : v2.toInt ≠ (2 : Int) := xne z
    rw [if_neg (fun w => by rw [hc] at w; cases w.1; exact z q2)] at hm
    cases n with
    | zero => exact pl_At_0
    | succ n =>
    refine pl_256_42 (fm_241 (z := 0) (c := 2) b1 rfl (fun s4 h50 K4 => ?_))
    cases n with
    | zero => exact pl_At_0
    | succ n =>
    exact pl_256_47 ⟨fun w => absurd rfl w, fun _ => k s4 (TKm_mk hm h50 (mk_M_kq b2 K4 (by decide) (by decide)) (Or.inl rfl) (Nat.zero_le _) (PAm_kq b3 K4 (by decide) (by decide)) (by decide) (fun w => by cases w) (TKf_q TKf_refl K4 (by decide) (by decide) (by decide)))⟩
  · have z : v2.toInt = (2 : Int) := xeq z
    have hh : (tq_r D n1).head? = some 2 := by rw [hc]; congr 1; omega
    refine fm_245 (i := D.length) (m := n2) h1 e2 (by omega) (fun v3 q3 => fm_246 (i := D.length) (m := n3) h1 e3 (by omega) (fun v4 q4 => ?_))
    refine fm_222 q3 (by omega) W2 q4 (by omega) W3 (fun e => ⟨fun _ => at47 hh q1 b1 b2 b3 TKf_refl (fun _ => e) (fun w => absurd e w) (fun _ => rfl), fun w => absurd w (by decide)⟩) (fun e => ⟨fun w => absurd rfl w, fun _ => ?_⟩)
    cases n with
    | zero => exact pl_At_0
    | succ n =>
    refine pl_256_42 (fm_241 (z := 0) (c := 2) b1 rfl (fun s4 h50 K4 => ?_))
    exact at47 hh q1 h50 (mk_M_kq b2 K4 (by decide) (by decide)) (PAm_kq b3 K4 (by decide) (by decide)) (TKf_q TKf_refl K4 (by decide) (by decide) (by decide)) (fun w => by cases w) (fun _ => rfl) (fun w => absurd w e)


end
