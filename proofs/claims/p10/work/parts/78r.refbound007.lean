set_option maxRecDepth 100000
section
variable {b n1 n2 n3 ax x : Nat} {h : tx_H} {Θ : List tq_H} {D : List tq_R} {t f : List Nat} {x1 : Int32} {s0 : ps_S} {R : ps_S → Prop}
theorem fm_257_r22 {n : Nat} (h1 : x1.toInt = D.length) (hi : D.length < 40) (X : mpX s0 b h Θ D ((22, n1, n2, n3), (ax, x), t, f)) (B : mpB s0 D.length) (hD : tq_GD h.1 D) (hG : tp_G h.1 h.2.length ((22, n1, n2, n3), (ax, x), t, f)) (hpr : tq_pr Θ D ((22, n1, n2, n3), (ax, x), t, f)) (k : ∀ s', TKm s0 s' h Θ D ((22, n1, n2, n3), (ax, x), t, f) → R s') : pl_Cl n 257 [.ref 1131, .int x1] s0 (ps_rV R) := by
  cases n with
  | zero => exact pl_At_0
  | succ n =>
  show pl_At (n + 1) 257 0 [(0, .ref 1131), (1, .int x1)] [] s0 (ps_rV R)
  obtain ⟨b1, b2, b3⟩ := B
  have hA := arh_k (g := h.1) X.1.2.2.1.2.2.1 X.1.2.2.1.2.2.2.1
  have er : (ps_a s0 1152 D.length).toInt = (12 : Int) := X.2.2.2.1.trans rfl
  have p1 : n1 < D.length := hpr.1 (of_decide_eq_true rfl)
  have e1 : (ps_a s0 1153 D.length).toInt = n1 := X.2.2.2.2.1 (of_decide_eq_true rfl)
  obtain ⟨⟨W1, w1, ne1, l1⟩, -⟩ := mprem X hD p1
  obtain ⟨wt, lt⟩ : ws (sg h.1) t [false] ∧ t.length ≤ 40 := hG.2.1 (of_decide_eq_true rfl)
  have Wt : mv_W s0 (24108 + 41 * D.length) t := X.2.2.2.2.2.2.2.2.2.1 (of_decide_eq_true rfl)
  have at281 : ∀ {n' c : Nat} {L L' : List Nat} {s4 : ps_S}, tq_mk h Θ D ((22, n1, n2, n3), (ax, x), t, f) = (c, L', [], [], []) → (ps_i s4 1131 50).toInt = c → mk_M s4 L → (L = [] ∨ ws (sg h.1) L [true]) → L.length ≤ 2000 → PAm s4 D.length [] 0 → TKf D.length s0 s4 → (c = 0 → L = L') → pl_At n' 257 281 [(0, .ref 1131), (1, .int x1)] [] s4 (ps_rV R) := fun {n' c L L' s4} hm h50 M4 hw hl P4 T4 hL => by
    cases n' with
    | zero => exact pl_At_0
    | succ n' =>
    refine pl_257_281 ?_
    rw [xtn h1]
    intro _
    refine fm_249k X hD hi T4 h1 p1 (show (ps_a _ 1153 D.length).toInt = n1 from (mpX_TKf X hi T4).2.2.2.2.1 (of_decide_eq_true rfl)) M4 (Or.inl ⟨rfl, rfl⟩) (by decide) P4 (fun s5 P5 K5 => ?_)
    have T5 := TKf_A T4 K5
    have M5 := mk_M_kq M4 K5.1 (by decide) (by decide)
    have er5 := (kq_a T5.1 1152 (by decide))
    intro _
    clear er
    have er : (ps_a s5 1152 D.length).toInt = (12 : Int) := (mpX_TKf X hi T5).2.2.2.1.trans rfl
    refine ⟨fun _ => ?_, fun z => absurd (show (ps_a _ 1152 D.length).toInt = (16 : Int) from xeq z) (by omega)⟩
    refine k s5 (TKm_mk hm ?_ M5 hw hl P5 (by decide) (fun w => ⟨hL w, rfl⟩) T5)
    rw [kq_i K5.1 50 (by decide)]
    exact h50
  have hm := tq_mk_22 (h := h) (Θ := Θ) (D := D) (n1 := n1) (n2 := n2) (n3 := n3) (ax := ax) (x := x) (t := t) (f := f)
  refine pl_257_0 ?_
  rw [xtn h1]
  refine fm_244 (i := D.length) (m := n1) h1 e1 (by omega) (fun v1 q1 => ?_)
  intro _
  refine ⟨fun z => absurd (show (ps_a _ 1152 D.length).toInt = (11 : Int) from xeq z) (by omega), fun _ => ?_⟩
  refine ⟨fun _ => ?_, fun z => absurd (show (ps_a _ 1152 D.length).toInt = (12 : Int) from er) (xne z)⟩
  refine fm_247 q1 (by omega) W1 ne1 (fun v2 c hc q2 => ⟨fun z => ?_, fun z => ?_⟩)
  · have z : v2.toInt = (4 : Int) := xeq z
    have hh : (tq_r D n1).head? = some 4 := by rw [hc]; congr 1; omega
    rw [if_pos hh] at hm
    refine fm_231 (L0 := []) (tt := t) X.1.1 X.1.2.1 X.1.2.2.1 q1 (by omega) W1 w1 (Or.inl hh) b2 ⟨Nat.zero_le _, lt, Or.inr ⟨_, rowT h1 hi, by omega, Wt⟩⟩ (fun s2 M2 K2 => ?_)
    exact at281 hm (by rw [kq_i K2 50 (by decide)]; exact b1) M2 (Or.inr (tq_in_ws ⟨X.1.2.2.1.2.2.1, X.1.2.2.1.2.2.2.1⟩ hA w1 (Or.inl hh) wt)) (by have := tq_in_len (ar := arh h.1) lt l1; show (tq_in (arh h.1) (tq_r D n1) t).length ≤ 2000; omega) (PAm_kq b3 K2 (by decide) (by decide)) (TKf_q TKf_refl K2 (by decide) (by decide) (by decide)) (fun _ => rfl)
  · have z : v2.toInt ≠ (4 : Int) := xne z
    rw [if_neg (fun w => by rw [hc] at w; cases w; exact z q2)] at hm
    refine fm_241 (z := 0) (c := 2) b1 rfl (fun s4 h50 K4 => ?_)
    exact at281 hm h50 (mk_M_kq b2 K4 (by decide) (by decide)) (Or.inl rfl) (Nat.zero_le _) (PAm_kq b3 K4 (by decide) (by decide)) (TKf_q TKf_refl K4 (by decide) (by decide) (by decide)) (fun w => by cases w)


end
