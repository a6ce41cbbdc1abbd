set_option maxRecDepth 100000
section
variable {b n1 n2 n3 ax x : Nat} {h : tx_H} {Θ : List tq_H} {D : List tq_R} {t f : List Nat} {x1 : Int32} {s0 : ps_S} {R : ps_S → Prop}
theorem fm_257_r23 {n : Nat} (h1 : x1.toInt = D.length) (hi : D.length < 40) (X : mpX s0 b h Θ D ((23, n1, n2, n3), (ax, x), t, f)) (B : mpB s0 D.length) (hD : tq_GD h.1 D) (hG : tp_G h.1 h.2.length ((23, n1, n2, n3), (ax, x), t, f)) (hpr : tq_pr Θ D ((23, n1, n2, n3), (ax, x), t, f)) (k : ∀ s', TKm s0 s' h Θ D ((23, n1, n2, n3), (ax, x), t, f) → R s') : pl_Cl n 257 [.ref 1131, .int x1] s0 (ps_rV R) := by
  cases n with
  | zero => exact pl_At_0
  | succ n =>
  show pl_At (n + 1) 257 0 [(0, .ref 1131), (1, .int x1)] [] s0 (ps_rV R)
  obtain ⟨b1, b2, b3⟩ := B
  have hA := arh_k (g := h.1) X.1.2.2.1.2.2.1 X.1.2.2.1.2.2.2.1
  have er : (ps_a s0 1152 D.length).toInt = (13 : Int) := X.2.2.2.1.trans rfl
  have p1 : n1 < D.length := hpr.1 (of_decide_eq_true rfl)
  have e1 : (ps_a s0 1153 D.length).toInt = n1 := X.2.2.2.2.1 (of_decide_eq_true rfl)
  obtain ⟨⟨W1, w1, ne1, l1⟩, -⟩ := mprem X hD p1
  obtain ⟨wt, lt⟩ : ws (sg h.1) t [false] ∧ t.length ≤ 40 := hG.2.1 (of_decide_eq_true rfl)
  have Wt : mv_W s0 (24108 + 41 * D.length) t := X.2.2.2.2.2.2.2.2.2.1 (of_decide_eq_true rfl)
  obtain ⟨wf, lf⟩ : ws (sg h.1) f [true] ∧ f.length ≤ 40 := hG.2.2.1 (of_decide_eq_true rfl)
  have Wf : mv_W s0 (22468 + 41 * D.length) f := X.2.2.2.2.2.2.2.2.2.2 (of_decide_eq_true rfl)
  have at281 : ∀ {n' c : Nat} {L L' : List Nat} {s4 : ps_S}, tq_mk h Θ D ((23, n1, n2, n3), (ax, x), t, f) = (c, L', [], [], []) → (ps_i s4 1131 50).toInt = c → mk_M s4 L → (L = [] ∨ ws (sg h.1) L [true]) → L.length ≤ 2000 → PAm s4 D.length [] 0 → TKf D.length s0 s4 → (c = 0 → L = L') → pl_At n' 257 281 [(0, .ref 1131), (1, .int x1)] [] s4 (ps_rV R) := fun {n' c L L' s4} hm h50 M4 hw hl P4 T4 hL => by
    cases n' with
    | zero => exact pl_At_0
    | succ n' =>
    refine pl_257_281 ?_
    rw [xtn h1]
    intro _
    refine fm_249k X hD hi T4 h1 p1 (show (ps_a _ 1153 D.length).toInt = n1 from (mpX_TKf X hi T4).2.2.2.2.1 (of_decide_eq_true rfl)) M4 (Or.inl ⟨rfl, rfl⟩) (by decide) P4 (fun s5 P5 K5 => ?_)
    have T5 := TKf_A T4 K5
    have M5 := mk_M_kq M4 K5.1 (by decide) (by decide)
    have er5 := (kq_a T5.1 1152 (by decide))
    intro _
    clear er
    have er : (ps_a s5 1152 D.length).toInt = (13 : Int) := (mpX_TKf X hi T5).2.2.2.1.trans rfl
    refine ⟨fun _ => ?_, fun z => absurd (show (ps_a _ 1152 D.length).toInt = (16 : Int) from xeq z) (by omega)⟩
    refine k s5 (TKm_mk hm ?_ M5 hw hl P5 (by decide) (fun w => ⟨hL w, rfl⟩) T5)
    rw [kq_i K5.1 50 (by decide)]
    exact h50
  have hm := tq_mk_23 (h := h) (Θ := Θ) (D := D) (n1 := n1) (n2 := n2) (n3 := n3) (ax := ax) (x := x) (t := t) (f := f)
  have nef : f ≠ [] := fun z => by
    obtain ⟨c, l, e⟩ := ws_ne wf
    rw [z] at e
    cases e
  have at200 : ∀ {n' c : Nat} {L' L : List Nat} {s1 : ps_S}, tq_mk h Θ D ((23, n1, n2, n3), (ax, x), t, f) = (c, L', [], [], []) → (c = 0 → f = L') → (ps_i s1 1131 50).toInt = c → PAm s1 D.length [] 0 → TKf D.length s0 s1 → pl_At n' 257 200 [(0, .ref 1131), (1, .int x1), (4, .int ((22468 : Int32) + ((41 : Int32) * x1)))] [] s1 (ps_rV R) := fun {n' c L' L s1} hm hL h50 P1 T1 => by
    cases n' with
    | zero => exact pl_At_0
    | succ n' =>
    refine pl_257_200 (fm_227 (l := f) (rowF h1 hi) (by omega) ((mpX_TKf X hi (TKf_0 T1)).2.2.2.2.2.2.2.2.2.2 (of_decide_eq_true rfl)) mk_M_0 (by decide) (fun s2 M2 K2 => ?_))
    exact at281 hm (by rw [kq_i K2 50 (by decide)]; exact h50) M2 (Or.inr wf) (by show f.length ≤ 2000; omega) (PAm_kq (PAm_0 P1) K2 (by decide) (by decide)) (TKf_q (TKf_0 T1) K2 (by decide) (by decide) (by decide)) hL
  have at195 : tq_mk h Θ D ((23, n1, n2, n3), (ax, x), t, f) = (4, [], [], [], []) → ∀ {n' : Nat} {s1 : ps_S}, (ps_i s1 1131 50).toInt = (0 : Nat) → PAm s1 D.length [] 0 → TKf D.length s0 s1 → pl_At n' 257 195 [(0, .ref 1131), (1, .int x1), (4, .int ((22468 : Int32) + ((41 : Int32) * x1)))] [] s1 (ps_rV R) := fun hm {n' s1} h50 P1 T1 => by
    cases n' with
    | zero => exact pl_At_0
    | succ n' =>
    refine pl_257_195 (fm_241 (z := 0) (c := 4) h50 rfl (fun s4 h54 K4 => ?_))
    exact at200 (L := []) hm (fun w => by cases w) h54 (PAm_kq P1 K4 (by decide) (by decide)) (TKf_q T1 K4 (by decide) (by decide) (by decide))
  refine pl_257_0 ?_
  rw [xtn h1]
  refine fm_244 (i := D.length) (m := n1) h1 e1 (by omega) (fun v1 q1 => ?_)
  intro _
  refine ⟨fun z => absurd (show (ps_a _ 1152 D.length).toInt = (11 : Int) from xeq z) (by omega), fun _ => ?_⟩
  refine ⟨fun z => absurd (show (ps_a _ 1152 D.length).toInt = (12 : Int) from xeq z) (by omega), fun _ => ?_⟩
  refine ⟨fun _ => ?_, fun z => absurd (show (ps_a _ 1152 D.length).toInt = (13 : Int) from er) (xne z)⟩
  refine fm_247 (rowF h1 hi) (by omega) Wf nef (fun v2 c hc q2 => ⟨fun z => ?_, fun z => ?_⟩)
  · have z : v2.toInt ≠ (5 : Int) := xne z
    rw [if_neg (fun w => by rw [hc] at w; cases w.1; exact z q2)] at hm
    cases n with
    | zero => exact pl_At_0
    | succ n =>
    refine pl_257_177 (fm_247 (rowF h1 hi) (by omega) Wf nef (fun v3 c' hc' q3 => ⟨fun _ => at195 hm b1 b3 TKf_refl, fun z2 => ?_⟩))
    have z2 : v3.toInt = (5 : Int) := xeq z2
    rw [hc] at hc'
    cases hc'
    omega
  · have z : v2.toInt = (5 : Int) := xeq z
    have hh : f.head? = some 5 := by rw [hc]; congr 1; omega
    refine fm_231 (L0 := []) (tt := t) X.1.1 X.1.2.1 X.1.2.2.1 (rowF h1 hi) (by omega) Wf wf (Or.inr hh) b2 ⟨Nat.zero_le _, lt, Or.inr ⟨_, rowT h1 hi, by omega, Wt⟩⟩ (fun s2 M2 K2 => ?_)
    have T2 : TKf D.length s0 s2 := TKf_q TKf_refl K2 (by decide) (by decide) (by decide)
    have X2 := mpX_TKf X hi T2
    have P2 := PAm_kq b3 K2 (by decide) (by decide)
    have h52 : (ps_i s2 1131 50).toInt = (0 : Nat) := by rw [kq_i K2 50 (by decide)]; exact b1
    cases n with
    | zero => exact pl_At_0
    | succ n =>
    refine pl_257_177 (fm_247 (rowF h1 hi) (by omega) (X2.2.2.2.2.2.2.2.2.2.2 (of_decide_eq_true rfl)) nef (fun v3 c' hc' q3 => ⟨fun z2 => ?_, fun z2 => ?_⟩))
    · have z2 : v3.toInt ≠ (5 : Int) := xne z2
      have hc' : f.head? = some c' := hc'
      rw [hc] at hc'
      cases hc'
      omega
    · refine fm_230 q1 (by omega) (mprem X2 hD p1).1.1 M2 (fun e => ⟨fun _ => ?_, fun w => absurd w (by decide)⟩) (fun e => ⟨fun w => absurd rfl w, fun _ => ?_⟩)
      · rw [if_pos ⟨hh, e.symm⟩] at hm
        exact at200 (L := []) hm (fun _ => rfl) h52 P2 T2
      · rw [if_neg (fun w => e w.2.symm)] at hm
        exact at195 hm h52 P2 T2


end
