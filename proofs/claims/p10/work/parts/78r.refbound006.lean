set_option maxRecDepth 100000
section
variable {b n1 n2 n3 ax x : Nat} {h : tx_H} {Θ : List tq_H} {D : List tq_R} {t f : List Nat} {x1 : Int32} {s0 : ps_S} {R : ps_S → Prop}

theorem fm_257_r21 {n : Nat} (h1 : x1.toInt = D.length) (hi : D.length < 40) (X : mpX s0 b h Θ D ((21, n1, n2, n3), (ax, x), t, f)) (B : mpB s0 D.length) (hD : tq_GD h.1 D) (hG : tp_G h.1 h.2.length ((21, n1, n2, n3), (ax, x), t, f)) (hpr : tq_pr Θ D ((21, n1, n2, n3), (ax, x), t, f)) (k : ∀ s', TKm s0 s' h Θ D ((21, n1, n2, n3), (ax, x), t, f) → R s') : pl_Cl n 257 [.ref 1131, .int x1] s0 (ps_rV R) := by
  cases n with
  | zero => exact pl_At_0
  | succ n =>
  show pl_At (n + 1) 257 0 [(0, .ref 1131), (1, .int x1)] [] s0 (ps_rV R)
  obtain ⟨b1, b2, b3⟩ := B
  have hA := arh_k (g := h.1) X.1.2.2.1.2.2.1 X.1.2.2.1.2.2.2.1
  have er : (ps_a s0 1152 D.length).toInt = (11 : Int) := X.2.2.2.1.trans rfl
  have p1 : n1 < D.length := hpr.1 (of_decide_eq_true rfl)
  have e1 : (ps_a s0 1153 D.length).toInt = n1 := X.2.2.2.2.1 (of_decide_eq_true rfl)
  obtain ⟨⟨W1, w1, ne1, l1⟩, -⟩ := mprem X hD p1
  have hx12 : x < 12 := hG.2.2.2.1 (of_decide_eq_true rfl)
  have ex : (ps_a s0 1156 D.length).toInt = x := X.2.2.2.2.2.2.2.2.1 (of_decide_eq_true rfl)
  have at281 : ∀ {n' c : Nat} {L L' : List Nat} {s4 : ps_S}, tq_mk h Θ D ((21, n1, n2, n3), (ax, x), t, f) = (c, L', [], [], []) → (ps_i s4 1131 50).toInt = c → mk_M s4 L → (L = [] ∨ ws (sg h.1) L [true]) → L.length ≤ 2000 → PAm s4 D.length [] 0 → TKf D.length s0 s4 → (c = 0 → L = L') → pl_At n' 257 281 [(0, .ref 1131), (1, .int x1)] [] s4 (ps_rV R) := fun {n' c L L' s4} hm h50 M4 hw hl P4 T4 hL => by
    cases n' with
    | zero => exact pl_At_0
    | succ n' =>
    refine pl_257_281 ?_
    rw [xtn h1]
    intro _
    refine fm_249k X hD hi T4 h1 p1 (show (ps_a _ 1153 D.length).toInt = n1 from (mpX_TKf X hi T4).2.2.2.2.1 (of_decide_eq_true rfl)) M4 (Or.inl ⟨rfl, rfl⟩) (by decide) P4 (fun s5 P5 K5 => ?_)
    have T5 := TKf_A T4 K5
    have M5 := mk_M_kq M4 K5.1 (by decide) (by decide)
    have er5 := (kq_a T5.1 1152 (by decide))
    intro _
    clear er
    have er : (ps_a s5 1152 D.length).toInt = (11 : Int) := (mpX_TKf X hi T5).2.2.2.1.trans rfl
    refine ⟨fun _ => ?_, fun z => absurd (show (ps_a _ 1152 D.length).toInt = (16 : Int) from xeq z) (by omega)⟩
    refine k s5 (TKm_mk hm ?_ M5 hw hl P5 (by decide) (fun w => ⟨hL w, rfl⟩) T5)
    rw [kq_i K5.1 50 (by decide)]
    exact h50
  have hm := tq_mk_21 (h := h) (Θ := Θ) (D := D) (n1 := n1) (n2 := n2) (n3 := n3) (ax := ax) (x := x) (t := t) (f := f)
  obtain ⟨-, hAs, -, -⟩ := mprem X hD p1
  have at67 : ∀ (n' : Nat) {m : Nat} {x5 v1 : Int32} {s1 : ps_S}, v1.toInt = (41 * n1 : Nat) → x5.toInt = m → m ≤ (tq_a D n1).length → (ps_i s1 1131 50).toInt = (c3 (((tq_a D n1).take m).any (fun y => y.contains (60 + x))) : Nat) → mk_M s1 [] → PAm s1 D.length [] 0 → TKf D.length s0 s1 → pl_At n' 257 67 [(0, .ref 1131), (1, .int x1), (2, .int v1), (5, .int x5)] [] s1 (ps_rV R) := by
    intro n'
    induction n' with
    | zero => exact fun _ _ _ _ _ _ _ => pl_At_0
    | succ n' ih =>
      intro m x5 v1 s1 q1 h5 hm5 h50 M1 P1 T1
      have X1 := mpX_TKf X hi T1
      obtain ⟨⟨W1', -⟩, a1, a2, a3⟩ := mprem X1 hD p1
      have e1' : (ps_a s1 1153 D.length).toInt = n1 := X1.2.2.2.2.1 (of_decide_eq_true rfl)
      have ex' : (ps_a s1 1156 D.length).toInt = x := X1.2.2.2.2.2.2.2.2.1 (of_decide_eq_true rfl)
      refine pl_257_67 ?_
      rw [xtn h1, xtn e1']
      intro _
      intro _
      refine ⟨fun z => ?_, fun z => ?_⟩
      · have z := xle z
        intro _
        rw [List.take_of_length_le (by omega)] at h50
        refine fm_232 (L0 := []) X1.1.1 X1.1.2.1 X1.1.2.2.1 q1 (by omega) W1' w1 M1 ex' (by omega) (by decide) (fun s2 M2 K2 => ?_)
        have T2 := TKf_q T1 K2 (by decide) (by decide) (by decide)
        have h52 : (ps_i s2 1131 50).toInt = _ := (congrArg Int32.toInt (kq_i K2 50 (by decide))).trans h50
        have lg : (tq_ge (arh h.1) (tq_r D n1) x).length ≤ 2000 := by
          have := tq_gi_len (x := x) (D := ly (arh h.1) [(0, 0)] (tq_r D n1)) (l := tq_r D n1)
          unfold tq_ge
          rw [List.length_cons]
          omega
        have hlen := ly_len hA w1 (S := [(0, 0)]) rfl
        have wg : ws (sg h.1) (tq_ge (arh h.1) (tq_r D n1) x) [true] := by
          obtain ⟨Rk, r1, r2, -⟩ := tq_at p1
          have d1 := (hD n1 Rk r1).1.2.2
          rw [← r2] at d1
          exact ws_c (kS_f1 (Or.inl rfl)) (tq_gi_ws ⟨X.1.2.2.1.2.2.1, X.1.2.2.1.2.2.2.1⟩ w1 hlen (dp_lt d1 hlen))
        by_cases hc : (tq_a D n1).any (fun y => y.contains (60 + x)) = true
        · rw [if_pos hc] at hm
          rw [hc] at h52
          exact at281 hm h52 M2 (Or.inr wg) lg (PAm_kq P1 K2 (by decide) (by decide)) T2 (fun w => by cases w)
        · rw [if_neg hc] at hm
          rw [Bool.eq_false_iff.mpr hc] at h52
          exact at281 hm h52 M2 (Or.inr wg) lg (PAm_kq P1 K2 (by decide) (by decide)) T2 (fun _ => rfl)
      · have z := xlt z
        intro _
        obtain ⟨y, hy⟩ : ∃ y, (tq_a D n1)[m]? = some y := ⟨_, List.getElem?_eq_getElem (by omega)⟩
        obtain ⟨Wy, -⟩ := a3 m y hy
        have hts := any_ts (p := fun y => y.contains (60 + x)) hy
        refine fm_243 (i := n1) (m := m) e1' (by omega) h5 (by omega) (fun v2 q2 => ?_)
        intro _
        refine fm_223c q2 (by omega) Wy ex' (by omega) (fun e => ⟨fun w => absurd w (by decide), fun _ => ?_⟩) (fun e => ⟨fun _ => ?_, fun w => absurd rfl w⟩)
        · refine fm_241 (c := 3) h50 rfl (fun s2 h52 K2 => ?_)
          refine ih (m := m + 1) q1 (xj1 h5 (by omega)) (by omega) ?_ (mk_M_kq M1 K2 (by decide) (by decide)) (PAm_kq P1 K2 (by decide) (by decide)) (TKf_q T1 K2 (by decide) (by decide) (by decide))
          rw [h52, hts, c3_or e]
        · refine ih (m := m + 1) q1 (xj1 h5 (by omega)) (by omega) ?_ M1 P1 T1
          rw [h50, hts, ← c3_no (Bool.eq_false_iff.mpr e)]
  refine pl_257_0 ?_
  rw [xtn h1]
  refine fm_244 (i := D.length) (m := n1) h1 e1 (by omega) (fun v1 q1 => ?_)
  intro _
  refine ⟨fun _ => ?_, fun z => absurd (show (ps_a _ 1152 D.length).toInt = (11 : Int) from er) (xne z)⟩
  exact at67 n (m := 0) q1 rfl (Nat.zero_le _) (by rw [List.take_zero]; exact b1) b2 b3 TKf_refl


end
