set_option maxRecDepth 100000
section
variable {b n1 n2 n3 ax x : Nat} {h : tx_H} {Θ : List tq_H} {D : List tq_R} {t f : List Nat} {x1 : Int32} {s0 : ps_S} {R : ps_S → Prop}
theorem fm_258_r24 {n : Nat} (h1 : x1.toInt = D.length) (hi : D.length < 40) (X : mpX s0 b h Θ D ((24, n1, n2, n3), (ax, x), t, f)) (B : mpB s0 D.length) (hD : tq_GD h.1 D) (hG : tp_G h.1 h.2.length ((24, n1, n2, n3), (ax, x), t, f)) (hpr : tq_pr Θ D ((24, n1, n2, n3), (ax, x), t, f)) (k : ∀ s', TKm s0 s' h Θ D ((24, n1, n2, n3), (ax, x), t, f) → R s') : pl_Cl n 258 [.ref 1131, .int x1] s0 (ps_rV R) := by
  cases n with
  | zero => exact pl_At_0
  | succ n =>
  show pl_At (n + 1) 258 0 [(0, .ref 1131), (1, .int x1)] [] s0 (ps_rV R)
  obtain ⟨b1, b2, b3⟩ := B
  have hA := arh_k (g := h.1) X.1.2.2.1.2.2.1 X.1.2.2.1.2.2.2.1
  have er : (ps_a s0 1152 D.length).toInt = (14 : Int) := X.2.2.2.1.trans rfl
  have p1 : n1 < D.length := hpr.1 (of_decide_eq_true rfl)
  have e1 : (ps_a s0 1153 D.length).toInt = n1 := X.2.2.2.2.1 (of_decide_eq_true rfl)
  obtain ⟨⟨W1, w1, ne1, l1⟩, -⟩ := mprem X hD p1
  have p2 : n2 < D.length := hpr.2.1 (of_decide_eq_true rfl)
  have e2 : (ps_a s0 1154 D.length).toInt = n2 := X.2.2.2.2.2.1 (of_decide_eq_true rfl)
  obtain ⟨⟨W2, w2, ne2, l2⟩, -⟩ := mprem X hD p2
  have hx12 : x < 12 := hG.2.2.2.1 (of_decide_eq_true rfl)
  have ex : (ps_a s0 1156 D.length).toInt = x := X.2.2.2.2.2.2.2.2.1 (of_decide_eq_true rfl)
  have hm := tq_mk_24 (h := h) (Θ := Θ) (D := D) (n1 := n1) (n2 := n2) (n3 := n3) (ax := ax) (x := x) (t := t) (f := f)
  have wx : ws (sg h.1) [60 + x] [false] := ws_60 X.1.2.2.1.2.2.2.1 hx12
  have at72 : (tq_r D n1).head? = some 5 → ∀ (n' : Nat) {m : Nat} {x3 : Int32} {s1 : ps_S}, x3.toInt = m → m ≤ (tq_a D n2).length → (ps_i s1 1131 50).toInt = (c3 (((tq_r D n1).contains (60 + x) || (tq_r D n2).contains (60 + x)) || ((tq_a D n2).take m).any (fun y => !decide (y = tq_in (arh h.1) (tq_r D n1) [60 + x]) && y.contains (60 + x))) : Nat) → mk_M s1 (tq_in (arh h.1) (tq_r D n1) [60 + x]) → PAm s1 D.length [] 0 → TKf D.length s0 s1 → pl_At n' 258 72 [(0, .ref 1131), (1, .int x1), (3, .int x3)] [] s1 (ps_rV R) := by
    intro hh n'
    rw [if_pos hh] at hm
    induction n' with
    | zero => exact fun _ _ _ _ _ _ => pl_At_0
    | succ n' ih =>
      intro m x3 s1 h5 hm5 h50 M1 P1 T1
      have X1 := mpX_TKf X hi T1
      obtain ⟨⟨W2', -⟩, a1, a2, a3⟩ := mprem X1 hD p2
      have e2' : (ps_a s1 1154 D.length).toInt = n2 := X1.2.2.2.2.2.1 (of_decide_eq_true rfl)
      have ex' : (ps_a s1 1156 D.length).toInt = x := X1.2.2.2.2.2.2.2.2.1 (of_decide_eq_true rfl)
      refine pl_258_72 ?_
      rw [xtn h1, xtn e2']
      intro _
      intro _
      refine ⟨fun z => ?_, fun z => ?_⟩
      · have z := xle z
        intro _
        rw [List.take_of_length_le (by omega)] at h50
        refine fm_249k X hD hi T1 h1 p1 (show (ps_a _ 1153 D.length).toInt = n1 from (mpX_TKf X hi T1).2.2.2.2.1 (of_decide_eq_true rfl)) M1 (Or.inl ⟨rfl, rfl⟩) (by decide) P1 (fun s2 P2 K2 => ?_)
        have T2 := TKf_A T1 K2
        have M2 := mk_M_kq M1 K2.1 (by decide) (by decide)
        have er2 := (kq_a T2.1 1152 (by decide))
        intro _
        refine fm_249k X hD hi T2 h1 p2 (show (ps_a _ 1154 D.length).toInt = n2 from (mpX_TKf X hi T2).2.2.2.2.2.1 (of_decide_eq_true rfl)) M2 (Or.inr ⟨by decide, rfl⟩) (by decide) P2 (fun s3 P3 K3 => ?_)
        have T3 := TKf_A T2 K3
        have M3 := mk_M_kq M2 K3.1 (by decide) (by decide)
        have er3 := (kq_a T3.1 1152 (by decide))
        have X3 := mpX_TKf X hi (TKf_0 T3)
        refine fm_245 (i := D.length) (m := n2) h1 (X3.2.2.2.2.2.1 (of_decide_eq_true rfl)) (by omega) (fun v8 q8 => ?_)
        refine fm_227 (l := tq_r D n2) q8 (by omega) (mprem X3 hD p2).1.1 mk_M_0 (by decide) (fun s9 M9 K9 => ?_)
        have h9 : ps_i s9 1131 50 = ps_i s1 1131 50 := by
          rw [kq_i K9 50 (by decide)]
          show ps_i s3 1131 50 = _
          rw [kq_i K3.1 50 (by decide), kq_i K2.1 50 (by decide)]
        rw [← h9] at h50
        by_cases hc : (tq_r D n1).contains (60 + x) = true ∨ (tq_r D n2).contains (60 + x) = true ∨ (tq_a D n2).any (fun y => !decide (y = tq_in (arh h.1) (tq_r D n1) [60 + x]) && y.contains (60 + x)) = true
        · rw [if_pos hc] at hm
          have e : (((tq_r D n1).contains (60 + x) || (tq_r D n2).contains (60 + x)) || (tq_a D n2).any (fun y => !decide (y = tq_in (arh h.1) (tq_r D n1) [60 + x]) && y.contains (60 + x))) = true := by
            rcases hc with hc | hc | hc
            · rw [hc]
              rfl
            · rw [hc, Bool.or_true]
              rfl
            · rw [hc, Bool.or_true]
          rw [e] at h50
          exact k s9 (TKm_mk hm h50 M9 (Or.inr w2) (by show (tq_r D n2).length ≤ 2000; omega) (PAm_kq (PAm_0 P3) K9 (by decide) (by decide)) (by decide) (fun w => by cases w) (TKf_q (TKf_0 T3) K9 (by decide) (by decide) (by decide)))
        · rw [if_neg hc] at hm
          have e : (((tq_r D n1).contains (60 + x) || (tq_r D n2).contains (60 + x)) || (tq_a D n2).any (fun y => !decide (y = tq_in (arh h.1) (tq_r D n1) [60 + x]) && y.contains (60 + x))) = false := by
            rw [Bool.eq_false_iff.mpr (fun w => hc (Or.inl w)), Bool.eq_false_iff.mpr (fun w => hc (Or.inr (Or.inl w))), Bool.eq_false_iff.mpr (fun w => hc (Or.inr (Or.inr w)))]
            rfl
          rw [e] at h50
          exact k s9 (TKm_mk hm h50 M9 (Or.inr w2) (by show (tq_r D n2).length ≤ 2000; omega) (PAm_kq (PAm_0 P3) K9 (by decide) (by decide)) (by decide) (fun _ => ⟨rfl, rfl⟩) (TKf_q (TKf_0 T3) K9 (by decide) (by decide) (by decide)))
      · have z := xlt z
        intro _
        obtain ⟨y, hy⟩ : ∃ y, (tq_a D n2)[m]? = some y := ⟨_, List.getElem?_eq_getElem (by omega)⟩
        obtain ⟨Wy, -⟩ := a3 m y hy
        have hts := any_ts (p := (fun y => !decide (y = tq_in (arh h.1) (tq_r D n1) [60 + x]) && y.contains (60 + x))) hy
        refine fm_243 (i := n2) (m := m) e2' (by omega) h5 (by omega) (fun v2 q2 => ?_)
        refine fm_230 q2 (by omega) Wy M1 (fun e => ⟨fun _ => ?_, fun w => absurd w (by decide)⟩) (fun e => ⟨fun w => absurd rfl w, fun _ => ?_⟩)
        · refine ih (m := m + 1) (xj1 h5 (by omega)) (by omega) ?_ M1 P1 T1
          have e0 : (fun y => !decide (y = tq_in (arh h.1) (tq_r D n1) [60 + x]) && y.contains (60 + x)) y = false := by
            show (!decide (y = tq_in (arh h.1) (tq_r D n1) [60 + x]) && y.contains (60 + x)) = false
            rw [decide_eq_true e]
            rfl
          rw [h50, hts, ← Bool.or_assoc, ← c3_no e0]
        · intro _
          have e1' : (!decide (y = tq_in (arh h.1) (tq_r D n1) [60 + x])) = true := by
            rw [decide_eq_false e]
            rfl
          refine fm_223c q2 (by omega) Wy ex' (by omega) (fun e2 => ⟨fun w => absurd w (by decide), fun _ => ?_⟩) (fun e2 => ⟨fun _ => ?_, fun w => absurd rfl w⟩)
          · refine fm_241 (c := 3) h50 rfl (fun s2 h52 K2 => ?_)
            refine ih (m := m + 1) (xj1 h5 (by omega)) (by omega) ?_ (mk_M_kq M1 K2 (by decide) (by decide)) (PAm_kq P1 K2 (by decide) (by decide)) (TKf_q T1 K2 (by decide) (by decide) (by decide))
            have e0 : (fun y => !decide (y = tq_in (arh h.1) (tq_r D n1) [60 + x]) && y.contains (60 + x)) y = true := by
              show (!decide (y = tq_in (arh h.1) (tq_r D n1) [60 + x]) && y.contains (60 + x)) = true
              rw [e1', e2]
              rfl
            rw [h52, hts, ← Bool.or_assoc, c3_or e0]
          · refine ih (m := m + 1) (xj1 h5 (by omega)) (by omega) ?_ M1 P1 T1
            have e0 : (fun y => !decide (y = tq_in (arh h.1) (tq_r D n1) [60 + x]) && y.contains (60 + x)) y = false := by
              show (!decide (y = tq_in (arh h.1) (tq_r D n1) [60 + x]) && y.contains (60 + x)) = false
              rw [Bool.eq_false_iff.mpr e2, Bool.and_false]
            rw [h50, hts, ← Bool.or_assoc, ← c3_no e0]
  have at58 : (tq_r D n1).head? = some 5 → ∀ {n' : Nat} {s1 : ps_S} {v1 : Int32}, v1.toInt = (41 * n1 : Nat) → (ps_i s1 1131 50).toInt = (c3 ((tq_r D n1).contains (60 + x) || (tq_r D n2).contains (60 + x)) : Nat) → mk_M s1 [] → PAm s1 D.length [] 0 → TKf D.length s0 s1 → pl_At n' 258 58 [(0, .ref 1131), (1, .int x1), (2, .int v1)] [] s1 (ps_rV R) := fun hh {n' s1 v1} q1 h50 M1 P1 T1 => by
    cases n' with
    | zero => exact pl_At_0
    | succ n' =>
    have X1 := mpX_TKf X hi T1
    refine pl_258_58 ?_
    rw [xtn h1]
    intro _
    refine fm_231 (L0 := []) (tt := [60 + x]) X1.1.1 X1.1.2.1 X1.1.2.2.1 q1 (by omega) (mprem X1 hD p1).1.1 w1 (Or.inr hh) M1 ⟨Nat.zero_le _, (by decide : 1 ≤ 40), Or.inl ⟨by decide, x, X1.2.2.2.2.2.2.2.2.1 (of_decide_eq_true rfl), by omega, rfl⟩⟩ (fun s2 M2 K2 => ?_)
    refine at72 hh n' (m := 0) rfl (Nat.zero_le _) ?_ M2 (PAm_kq P1 K2 (by decide) (by decide)) (TKf_q T1 K2 (by decide) (by decide) (by decide))
    rw [kq_i K2 50 (by decide), h50, List.take_zero]
    show _ = ((c3 (_ || false) : Nat) : Int)
    rw [Bool.or_false]
  have at53 : (tq_r D n1).head? = some 5 → ((tq_r D n1).contains (60 + x) || (tq_r D n2).contains (60 + x)) = true → ∀ {n' : Nat} {v1 : Int32}, v1.toInt = (41 * n1 : Nat) → pl_At n' 258 53 [(0, .ref 1131), (1, .int x1), (2, .int v1)] [] s0 (ps_rV R) := fun hh hc {n' v1} q1 => by
    cases n' with
    | zero => exact pl_At_0
    | succ n' =>
    refine pl_258_53 (fm_241 (z := 0) (c := 3) b1 rfl (fun s4 h50 K4 => ?_))
    refine at58 hh q1 ?_ (mk_M_kq b2 K4 (by decide) (by decide)) (PAm_kq b3 K4 (by decide) (by decide)) (TKf_q TKf_refl K4 (by decide) (by decide) (by decide))
    rw [h50, hc]
    rfl
  refine pl_258_0 ?_
  rw [xtn h1]
  refine fm_244 (i := D.length) (m := n1) h1 e1 (by omega) (fun v1 q1 => ?_)
  refine fm_247 q1 (by omega) W1 ne1 (fun v2 c hc q2 => ⟨fun z => ?_, fun z => ?_⟩)
  · have z : v2.toInt = (5 : Int) := xeq z
    have hh : (tq_r D n1).head? = some 5 := by rw [hc]; congr 1; omega
    intro _
    refine fm_223c q1 (by omega) W1 ex (by omega) (fun e => ⟨fun _ => at53 hh (by rw [e]; rfl) q1, fun w => absurd w (by decide)⟩) (fun e => ⟨fun w => absurd rfl w, fun _ => ?_⟩)
    refine fm_245 (i := D.length) (m := n2) h1 e2 (by omega) (fun v3 q3 => ?_)
    intro _
    refine fm_223c q3 (by omega) W2 ex (by omega) (fun e3 => ⟨fun w => absurd w (by decide), fun _ => at53 hh (by rw [e3, Bool.or_true]) q1⟩) (fun e3 => ⟨fun _ => ?_, fun w => absurd rfl w⟩)
    refine at58 hh q1 ?_ b2 b3 TKf_refl
    rw [b1, Bool.eq_false_iff.mpr e, Bool.eq_false_iff.mpr e3]
    rfl
  · have z : v2.toInt ≠ (5 : Int) := xne z
    rw [if_neg (fun w => by rw [hc] at w; cases w; exact z q2)] at hm
    refine fm_241 (z := 0) (c := 2) b1 rfl (fun s4 h50 K4 => ?_)
    exact k s4 (TKm_mk hm h50 (mk_M_kq b2 K4 (by decide) (by decide)) (Or.inl rfl) (Nat.zero_le _) (PAm_kq b3 K4 (by decide) (by decide)) (by decide) (fun w => by cases w) (TKf_q TKf_refl K4 (by decide) (by decide) (by decide)))


end
