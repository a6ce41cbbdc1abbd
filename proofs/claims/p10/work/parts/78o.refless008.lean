set_option maxRecDepth 100000
section
variable {b n1 n2 n3 ax x : Nat} {h : tx_H} {Θ : List tq_H} {D : List tq_R} {t f : List Nat} {x1 : Int32} {s0 : ps_S} {R : ps_S → Prop}
theorem fm_255_r19 {n : Nat} (h1 : x1.toInt = D.length) (hi : D.length < 40) (X : mpX s0 b h Θ D ((19, n1, n2, n3), (ax, x), t, f)) (B : mpB s0 D.length) (hD : tq_GD h.1 D) (hG : tp_G h.1 h.2.length ((19, n1, n2, n3), (ax, x), t, f)) (hpr : tq_pr Θ D ((19, n1, n2, n3), (ax, x), t, f)) (k : ∀ s', TKm s0 s' h Θ D ((19, n1, n2, n3), (ax, x), t, f) → R s') : pl_Cl n 255 [.ref 1131, .int x1] s0 (ps_rV R) := by
  cases n with
  | zero => exact pl_At_0
  | succ n =>
  show pl_At (n + 1) 255 0 [(0, .ref 1131), (1, .int x1)] [] s0 (ps_rV R)
  obtain ⟨b1, b2, b3⟩ := B
  have hA := arh_k (g := h.1) X.1.2.2.1.2.2.1 X.1.2.2.1.2.2.2.1
  have er : (ps_a s0 1152 D.length).toInt = (9 : Int) := X.2.2.2.1.trans rfl
  have p1 : n1 < D.length := hpr.1 (of_decide_eq_true rfl)
  have e1 : (ps_a s0 1153 D.length).toInt = n1 := X.2.2.2.2.1 (of_decide_eq_true rfl)
  obtain ⟨⟨W1, w1, ne1, l1⟩, -⟩ := mprem X hD p1
  have p2 : n2 < D.length := hpr.2.1 (of_decide_eq_true rfl)
  have e2 : (ps_a s0 1154 D.length).toInt = n2 := X.2.2.2.2.2.1 (of_decide_eq_true rfl)
  obtain ⟨⟨W2, w2, ne2, l2⟩, -⟩ := mprem X hD p2
  have hm := tq_mk_19 (h := h) (Θ := Θ) (D := D) (n1 := n1) (n2 := n2) (n3 := n3) (ax := ax) (x := x) (t := t) (f := f)
  have at116 : ∀ {n' c : Nat} {L L' : List Nat} {s4 : ps_S}, tq_mk h Θ D ((19, n1, n2, n3), (ax, x), t, f) = (c, L', [], [], []) → (ps_i s4 1131 50).toInt = c → mk_M s4 L → (L = [] ∨ ws (sg h.1) L [true]) → L.length ≤ 2000 → PAm s4 D.length [] 0 → TKf D.length s0 s4 → (c = 0 → L = L') → pl_At n' 255 116 [(0, .ref 1131), (1, .int x1)] [] s4 (ps_rV R) := fun {n' c L L' s4} hm h50 M4 hw hl P4 T4 hL => by
    cases n' with
    | zero => exact pl_At_0
    | succ n' =>
    refine pl_255_116 ?_
    rw [xtn h1]
    intro _
    refine fm_249k X hD hi T4 h1 p1 (show (ps_a _ 1153 D.length).toInt = n1 from (mpX_TKf X hi T4).2.2.2.2.1 (of_decide_eq_true rfl)) M4 (Or.inl ⟨rfl, rfl⟩) (by decide) P4 (fun s5 P5 K5 => ?_)
    have T5 := TKf_A T4 K5
    have M5 := mk_M_kq M4 K5.1 (by decide) (by decide)
    have er5 := (kq_a T5.1 1152 (by decide))
    intro _
    refine fm_249k X hD hi T5 h1 p2 (show (ps_a _ 1154 D.length).toInt = n2 from (mpX_TKf X hi T5).2.2.2.2.2.1 (of_decide_eq_true rfl)) M5 (Or.inl ⟨rfl, rfl⟩) (by decide) P5 (fun s6 P6 K6 => ?_)
    have T6 := TKf_A T5 K6
    have M6 := mk_M_kq M5 K6.1 (by decide) (by decide)
    have er6 := (kq_a T6.1 1152 (by decide))
    refine k s6 (TKm_mk hm ?_ M6 hw hl P6 (by decide) (fun w => ⟨hL w, rfl⟩) T6)
    rw [kq_i K6.1 50 (by decide), kq_i K5.1 50 (by decide)]
    exact h50
  refine pl_255_0 ?_
  rw [xtn h1]
  refine fm_244 (i := D.length) (m := n1) h1 e1 (by omega) (fun v1 q1 => ?_)
  intro _
  refine ⟨fun _ => ?_, fun z => absurd (show (ps_a _ 1152 D.length).toInt = (8 : Int) from xeq z) (by omega)⟩
  intro _
  refine ⟨fun z => absurd (show (ps_a _ 1152 D.length).toInt = (9 : Int) from er) (xne z), fun _ => ?_⟩
  refine fm_247 q1 (by omega) W1 ne1 (fun v4 c hc q4 => ⟨fun z => ?_, fun z => ?_⟩)
  · have z : v4.toInt ≠ (3 : Int) := xne z
    rw [if_neg (fun w => by rw [hc] at w; cases w.1; exact z q4)] at hm
    refine fm_226 (a := 1) (b := 0) q1 (by omega) W1 b2 rfl rfl (Nat.zero_le _) (by decide) (fun s5 M5 K5 => ⟨fun _ => ?_, fun w => absurd rfl w⟩)
    have T5 : TKf D.length s0 s5 := TKf_q TKf_refl K5 (by decide) (by decide) (by decide)
    cases n with
    | zero => exact pl_At_0
    | succ n =>
    refine pl_255_89 (fm_241 (z := 0) (c := 2) (by rw [kq_i K5 50 (by decide)]; exact b1) rfl (fun s6 h50 K6 => ?_))
    cases n with
    | zero => exact pl_At_0
    | succ n =>
    refine pl_255_94 ⟨fun _ => ?_, fun w => absurd w (by decide)⟩
    exact at116 hm h50 mk_M_0 (Or.inl rfl) (Nat.zero_le _) (PAm_0 (PAm_kq (PAm_kq b3 K5 (by decide) (by decide)) K6 (by decide) (by decide))) (TKf_0 (TKf_q T5 K6 (by decide) (by decide) (by decide))) (fun w => by cases w)
  · have z : v4.toInt = (3 : Int) := xeq z
    have hh : (tq_r D n1).head? = some 3 := by rw [hc]; congr 1; omega
    obtain ⟨g1, g2, g3, g4⟩ := tq_half hA w1 hh (kS_2 (by decide) (by decide))
    have hle := en_le hA g3 (k := 1) (by decide)
    rw [List.length_drop] at hle
    have hl1 : 1 ≤ (tq_r D n1).length := by
      cases e : tq_r D n1 with
      | nil => exact absurd e ne1
      | cons c l => rw [List.length_cons]; omega
    have l2 : (tq_2 (arh h.1) (tq_r D n1)).length ≤ 2000 := by
      unfold tq_2
      rw [List.length_drop, List.length_drop]
      omega
    refine fm_221 (i := 1) X.1.1 X.1.2.1 X.1.2.2.1 q1 (by omega) W1 rfl g3 (fun v8 q8 => ?_)
    refine fm_226 (a := 1) (b := 1 + en (arh h.1) ((tq_r D n1).drop 1) 1) q1 (by omega) W1 b2 rfl q8 (by omega) (by decide) (fun s5 M5 K5 => ⟨fun w => ?_, fun _ => ?_⟩)
    · have w := xeq w
      have c0 : (0 : Int32).toInt = 0 := Int32.toInt_zero
      omega
    rw [t1_is] at M5
    have T5 : TKf D.length s0 s5 := TKf_q TKf_refl K5 (by decide) (by decide) (by decide)
    have X5 := mpX_TKf X hi T5
    have P5 := PAm_kq b3 K5 (by decide) (by decide)
    have at94 : ∀ {n' c : Nat} {L' : List Nat} {s6 : ps_S}, tq_mk h Θ D ((19, n1, n2, n3), (ax, x), t, f) = (c, L', [], [], []) → (ps_i s6 1131 50).toInt = c → PAm s6 D.length [] 0 → TKf D.length s0 s6 → (c = 0 → L' = tq_2 (arh h.1) (tq_r D n1)) → pl_At n' 255 94 [(0, .ref 1131), (1, .int x1), (2, .int v1), (4, .int v8)] [] s6 (ps_rV R) := fun {n' c L' s6} hm h50 P6 T6 hL => by
      cases n' with
      | zero => exact pl_At_0
      | succ n' =>
      refine pl_255_94 ⟨fun w => ?_, fun _ => ?_⟩
      · have w := xle w
        have c0 : (0 : Int32).toInt = 0 := Int32.toInt_zero
        omega
      have W6 := (mprem (mpX_TKf X hi (TKf_0 T6)) hD p1).1.1
      refine fm_219c q1 W6 (fun v9 q9 => ?_)
      refine fm_226 (a := 1 + en (arh h.1) ((tq_r D n1).drop 1) 1) (b := (tq_r D n1).length) q1 (by omega) W6 mk_M_0 q8 q9 (Nat.le_refl _) (by decide) (fun s7 M7 K7 => ?_)
      rw [t2_is] at M7
      exact at116 hm (by rw [kq_i K7 50 (by decide)]; exact h50) M7 (Or.inr g2) l2 (PAm_kq (PAm_0 P6) K7 (by decide) (by decide)) (TKf_q (TKf_0 T6) K7 (by decide) (by decide) (by decide)) (fun w => (hL w).symm)
    refine fm_245 (i := D.length) (m := n2) h1 (X5.2.2.2.2.2.1 (of_decide_eq_true rfl)) (by omega) (fun v10 q10 => ?_)
    have b15 : (ps_i s5 1131 50).toInt = (0 : Nat) := by rw [kq_i K5 50 (by decide)]; exact b1
    refine fm_230 q10 (by omega) (mprem X5 hD p2).1.1 M5 (fun e => ⟨fun _ => ?_, fun w => absurd w (by decide)⟩) (fun e => ⟨fun w => absurd rfl w, fun _ => ?_⟩)
    · rw [if_pos ⟨hh, e.symm⟩] at hm
      exact at94 hm b15 P5 T5 (fun _ => rfl)
    · rw [if_neg (fun w => e w.2.symm)] at hm
      cases n with
      | zero => exact pl_At_0
      | succ n =>
      refine pl_255_89 (fm_241 (z := 0) (c := 2) b15 rfl (fun s6 h50 K6 => ?_))
      exact at94 hm h50 (PAm_kq P5 K6 (by decide) (by decide)) (TKf_q T5 K6 (by decide) (by decide) (by decide)) (fun w => by cases w)


end
