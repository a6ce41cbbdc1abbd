set_option maxRecDepth 100000
/-! the class: the single rules -/
theorem drop_g {α : Type} {l : List α} {i : Nat} {c : α} (h : l[i]? = some c) : l.drop i = c :: l.drop (i + 1) := by
  obtain ⟨hh, ee⟩ := List.getElem?_eq_some_iff.mp h
  rw [List.drop_eq_getElem_cons hh, ee]
section M51
variable {p j r3 c : Nat} {D : List tq_R} {Rj : tq_R} {oo : List Nat} {s : ps_S} {R : Int32 → ps_S → Prop} {x2 : Int32}
theorem fs_51_3 (hp : p = 50 ∨ p = 460) (hD : cpD s p D) (hj : D[j]? = some Rj) (h5 : ps_is r3 5 = true) (W : CW s r3 oo) (h2 : x2.toInt = c) (k1 : Rj.2.1.any (fun y => !decide (y = oo) && y.contains c) = true → R 1 s) (k0 : ¬ Rj.2.1.any (fun y => !decide (y = oo) && y.contains c) = true → R 0 s) : ∀ (n : Nat) {x4 : Int32} {m : Nat}, x4.toInt = m → (∀ (q : Nat) (y : List Nat), q < m → Rj.2.1[q]? = some y → ¬ (y ≠ oo ∧ y.contains c = true)) → pl_At n 51 3 [(0, .ref p), (1, .ref (stc p j)), (2, .int x2), (3, .ref r3), (4, .int x4)] [] s (ps_rI R)
  | 0, _, _, _, _ => pl_At_0
  | n + 1, x4, m, hx, hm => by
    have hjl := (List.getElem?_eq_some_iff.mp hj).1
    have h40 := hD.1
    have hRj := hD.2 j Rj hj
    have h12 := hRj.2.2.1
    have hsz := hRj.2.1
    refine pl_51_3 (pl_nk_i (fun _ => ⟨fun z => k0 (fun w => ?_), fun z => ?_⟩))
    · have z := xle z
      obtain ⟨y, hy, w⟩ := List.any_eq_true.mp w
      obtain ⟨q, hq⟩ := List.mem_iff_getElem?.mp hy
      have := (List.getElem?_eq_some_iff.mp hq).1
      rw [Bool.and_eq_true] at w
      refine hm q y (by omega) hq ⟨fun e => ?_, w.2⟩
      rw [decide_eq_true e] at w
      exact absurd w.1 (by decide)
    · have z := xlt z
      obtain ⟨y, hy⟩ : ∃ y, Rj.2.1[m]? = some y := ⟨_, List.getElem?_eq_getElem (by omega)⟩
      obtain ⟨o2, q, e1, e2, e3⟩ := hRj.2.2.2.1 m y hy
      have hol := (List.getElem?_eq_some_iff.mp e2).1
      have ho := hD.2 o2 q e2
      have W1 : cv_W s (stc p o2 + 6) y := by rw [← e3]; exact ho.1
      have next : ¬ (y ≠ oo ∧ y.contains c = true) → pl_At n 51 3 [(0, .ref p), (1, .ref (stc p j)), (2, .int x2), (3, .ref r3), (4, .int (x4 + 1))] [] s (ps_rI R) := fun hn => fs_51_3 hp hD hj h5 W h2 k1 k0 n (xj1 hx (by omega)) (fun q2 y2 hq2 hy2 => by
        rcases Nat.lt_or_ge q2 m with u | u
        · exact hm q2 y2 u hy2
        · rw [show q2 = m from by omega, hy] at hy2
          cases hy2
          exact hn)
      refine fs_122 (stc_is hp (i := j) (by omega)) (stc_lt hp (i := j) (by omega)).2.1 hx (by omega) (by rw [hsz]; omega) ?_
      refine fs_33 hp e1 (by omega) (pl_nk_i (fun _ => ?_))
      rw [(stc_c hp (i := o2) (by omega)).2.2.2.1]
      refine fs_98 (stc_row hp (i := o2) (by omega)).2.2 h5 (CW_of W1) W (Or.inl W1.2.2.1) (fun e => ⟨fun _ => next (fun w => w.1 e), fun u => absurd u (by decide)⟩) (fun e => ⟨fun u => absurd rfl u, fun _ => ?_⟩)
      refine fs_100 (stc_row hp (i := o2) (by omega)).2.2 W1 h2 (fun w => ⟨fun u => absurd u (by decide), fun _ => k1 ?_⟩) (fun w => ⟨fun _ => next (fun w2 => w w2.2), fun u => absurd rfl u⟩)
      refine List.any_eq_true.mpr ⟨y, List.mem_of_getElem? hy, ?_⟩
      rw [w, decide_eq_false e]
      rfl
theorem fs_51 {n : Nat} (hp : p = 50 ∨ p = 460) (hD : cpD s p D) (hj : D[j]? = some Rj) (h5 : ps_is r3 5 = true) (W : CW s r3 oo) (h2 : x2.toInt = c) (k1 : Rj.2.1.any (fun y => !decide (y = oo) && y.contains c) = true → R 1 s) (k0 : ¬ Rj.2.1.any (fun y => !decide (y = oo) && y.contains c) = true → R 0 s) : pl_Cl n 51 [.ref p, .ref (stc p j), .int x2, .ref r3] s (ps_rI R) := by
  cases n with
  | zero => exact pl_At_0
  | succ n =>
  show pl_At (n + 1) 51 0 [(0, .ref p), (1, .ref (stc p j)), (2, .int x2), (3, .ref r3)] [] s (ps_rI R)
  exact pl_51_0 (fs_51_3 hp hD hj h5 W h2 k1 k0 n (m := 0) rfl (fun q y hq => absurd hq (Nat.not_lt_zero _)))
end M51
/-! a term put into a row; all of a row -/
def CPI (p r q : Nat) : Prop := C2 r q ∨ CSh (p + 16) q
section M52
variable {p th r1 r2 r3 : Nat} {g : tx_g} {l tt : List Nat} {s0 : ps_S} {R : ps_S → Prop}
/-- rows apart from each other and from the shape -/
def apart (p r1 r2 : Nat) : Prop := (r2 ≠ r1 ∧ r2 ≠ r1 + 1 ∧ r2 + 1 ≠ r1) ∧ (p + 19 < r2 ∨ r2 + 1 < p + 16)
theorem fs_52_19 (hp : p = 50 ∨ p = 460) (hr1 : ps_is r1 5 = true) (hr2 : ps_is r2 5 = true) (hr3 : ps_is r3 5 = true) (a2 : apart p r1 r2) (a3 : apart p r1 r3) (a1 : p + 19 < r1 ∨ r1 + 1 < p + 16) (W20 : cv_W s0 r2 l) (W30 : cv_W s0 r3 tt) (hlen : (ly (arh g) [(0, 0)] l).length = l.length) (hN : ∀ (i : Nat) (d : Nat × Nat), (ly (arh g) [(0, 0)] l)[i]? = some d → (ps_a s0 (p + 19) i).toInt = d.2) (hd40 : ∀ d, d ∈ ly (arh g) [(0, 0)] l → d.2 ≤ 100) (k : ∀ s', CW s' r1 (tq_in (arh g) l tt) → cfr (C2 r1) s0 s' → R s') : ∀ (n : Nat) {s : ps_S} {x4 : Int32} {i : Nat} {L : List Nat}, x4.toInt = i → 1 ≤ i → CW s r1 L → tq_in (arh g) l tt = L ++ tq_pi tt ((ly (arh g) [(0, 0)] l).drop i) (l.drop i) → cfr (C2 r1) s0 s → pl_At n 52 19 [(0, .ref p), (1, .ref r1), (2, .ref r2), (3, .ref r3), (4, .int x4)] [] s (ps_rV R)
  | 0, _, _, _, _, _, _, _, _, _ => pl_At_0
  | n + 1, s, x4, i, L, hx, hi, C, hL, F => by
    obtain ⟨-, -, ⟨-, -, -, -, -, c5⟩, -, -, -, i6, -⟩ := prf hp
    have c1 : (1 : Int32).toInt = 1 := by decide
    have c40 : (40 : Int32).toInt = 40 := by decide
    have h40 := W20.2.2.1
    unfold apart at a2 a3
    have W2 := cv_W_cfr W20 F (by unfold C2; omega) (by unfold C2; omega)
    have W3 := cv_W_cfr W30 F (by unfold C2; omega) (by unfold C2; omega)
    have hsz := W2.1
    refine pl_52_19 (pl_nk_i (fun _ => ⟨fun z => ?_, fun z => ?_⟩))
    · have z := xle z
      rw [List.drop_of_length_le (show l.length ≤ i by omega)] at hL
      have e : tq_pi tt ((ly (arh g) [(0, 0)] l).drop i) [] = [] := by
        cases (ly (arh g) [(0, 0)] l).drop i <;> rfl
      rw [e, List.append_nil] at hL
      exact k s (by rw [hL]; exact C) F
    · have z := xlt z
      obtain ⟨c, hc⟩ : ∃ c, l[i]? = some c := ⟨_, List.getElem?_eq_getElem (by omega)⟩
      obtain ⟨d, hd⟩ : ∃ d, (ly (arh g) [(0, 0)] l)[i]? = some d := ⟨_, List.getElem?_eq_getElem (by omega)⟩
      have hd4 := hd40 d (List.mem_of_getElem? hd)
      rw [drop_c hc, drop_g hd] at hL
      have hL : tq_in (arh g) l tt = L ++ ((if c + 1 = 40 + d.2 then tt else [c]) ++ tq_pi tt ((ly (arh g) [(0, 0)] l).drop (i + 1)) (l.drop (i + 1))) := hL
      refine fs_92c hr2 W2 hx hc (fun v1 q1 => pl_nk_i (fun _ => ?_))
      rw [c5]
      refine fs_105 i6 hx (by omega) (fun v2 q2 => ?_)
      have e2 : v2.toInt = d.2 := by
        rw [q2, (F (p + 16 + 3) (by unfold C2; omega)).2.2.2.1]
        exact hN i d hd
      have e3 : ((40 : Int32) + v2 - 1).toInt = 40 + (d.2 : Int) - 1 := by
        have t1 : ((40 : Int32) + v2).toInt = 40 + (d.2 : Int) := by rw [xIa (by omega) (by omega), c40, e2]
        rw [xIs (by omega) (by omega), t1, c1]
      refine ⟨fun y => ?_, fun y => pl_nk_i (fun _ => ?_)⟩
      · have y := xne y
        rw [if_neg (by omega), ← List.append_assoc] at hL
        refine fs_92c hr2 W2 hx hc (fun v3 q3 => ?_)
        refine fs_93w hr1 C q3 (fun s4 C4 F4 => ?_)
        exact fs_52_19 hp hr1 hr2 hr3 a2 a3 a1 W20 W30 hlen hN hd40 k n (xj1 hx (by omega)) (by omega) C4 hL (cfr_tr F F4)
      · have y := xeq y
        rw [if_pos (by omega), ← List.append_assoc] at hL
        refine fs_94w (a := 0) (b := tt.length) hr1 hr3 a3.1 W3 C rfl W3.1 (Nat.le_refl _) (fun s4 C4 F4 => ?_)
        rw [List.drop_zero, Nat.sub_zero, List.take_length] at C4
        exact fs_52_19 hp hr1 hr2 hr3 a2 a3 a1 W20 W30 hlen hN hd40 k n (xj1 hx (by omega)) (by omega) C4 hL (cfr_tr F F4)
theorem ly_b {ar : Nat → Nat} {l : List Nat} (h : l.length ≤ 40) : ∀ d, d ∈ ly ar [(0, 0)] l → d.2 ≤ 100 := fun d hd => by
  have := (ly_dep (ar := ar) (l := l) (S := [(0, 0)]) (m := 0) (fun d hd => by rw [List.mem_singleton] at hd; rw [hd]; exact ⟨Nat.le_refl _, Nat.le_refl _⟩) d hd).2
  omega
theorem fs_52 {n : Nat} (hp : p = 50 ∨ p = 460) (hth : th = 2 ∨ th = 26) (h6 : ps_r s0 p 6 = th) (H : cv_E s0 th g) (hr1 : ps_is r1 5 = true) (hr2 : ps_is r2 5 = true) (hr3 : ps_is r3 5 = true) (a2 : apart p r1 r2) (a3 : apart p r1 r3) (a1 : p + 19 < r1 ∨ r1 + 1 < p + 16) (W2 : cv_W s0 r2 l) (hw : ws (sg g) l [true]) (W3 : cv_W s0 r3 tt) (k : ∀ s', CW s' r1 (tq_in (arh g) l tt) → cfr (CPI p r1) s0 s' → R s') : pl_Cl n 52 [.ref p, .ref r1, .ref r2, .ref r3] s0 (ps_rV R) := by
  cases n with
  | zero => exact pl_At_0
  | succ n =>
  show pl_At (n + 1) 52 0 [(0, .ref p), (1, .ref r1), (2, .ref r2), (3, .ref r3)] [] s0 (ps_rV R)
  obtain ⟨-, -, ⟨-, -, -, -, -, c5⟩, -, -, -, i6, -⟩ := prf hp
  have hA := arh_k H.2.2.1 H.2.2.2.1
  have h40 := W2.2.2.1
  have b2 := a2
  have b3 := a3
  unfold apart at b2 b3
  refine pl_52_0 (pl_nk_i (fun _ => pl_nk_i (fun _ => ?_)))
  rw [c5, h6]
  refine fs_103 (r := p + 16) (r1 := r2) (l := l) i6 hr2 hth (by omega) hw (Or.inl rfl) W2 H (fun s1 Z F1 => ?_)
  have F2 : cfr (C2 r1) s1 (ps_ui (ps_ui s1 r1 1 0) r1 2 0) := cfr_i (cfr_i cfr_refl (Or.inl rfl)) (Or.inl rfl)
  refine fs_91 ?_
  have W2' := cv_W_cfr W2 F1 (by unfold CSh; omega) (by unfold CSh; omega)
  have W3' := cv_W_cfr W3 F1 (by unfold CSh; omega) (by unfold CSh; omega)
  have hne : ∃ c t, l = c :: t := ws_ne hw
  obtain ⟨c, t, rfl⟩ := hne
  refine fs_52_19 (s0 := s1) hp hr1 hr2 hr3 a2 a3 a1 W2' W3' (ly_len hA hw rfl) (fun i d hd => (Z.2.2.1 i d hd).2) (ly_b h40) (fun s' C F => k s' C (cfr_tr (cfr_mono F1 (fun q z => Or.inr z)) (cfr_mono F (fun q z => Or.inl z)))) n (i := 1) (L := []) rfl (Nat.le_refl _) (CW_of CW_0) rfl F2
end M52
section M49
variable {p th x : Nat} {h : tx_H} {Θ : List tq_H} {D : List tq_R} {st : tp_P} {l : List Nat} {s0 : ps_S} {R : Int32 → ps_S → Prop} {j : Nat}
theorem fs_49_52 (hp : p = 50 ∨ p = 460) (hi : D.length < 40) (hj : j < D.length) (W20 : cv_W s0 (stc p j + 6) l) (h3 : (ps_i s0 (stc p D.length) 3).toInt = (60 + x : Nat)) (hlen : (ly (arh h.1) [(0, 0)] l).length = l.length) (hN : ∀ (i : Nat) (d : Nat × Nat), (ly (arh h.1) [(0, 0)] l)[i]? = some d → (ps_a s0 (p + 19) i).toInt = d.2) (hd40 : ∀ d, d ∈ ly (arh h.1) [(0, 0)] l → d.2 ≤ 100) (hx : x < 100) (k : ∀ s', CW s' (stc p D.length + 6) (tq_ge (arh h.1) l x) → cfr (C2 (stc p D.length + 6)) s0 s' → R 0 s') : ∀ (n : Nat) {s : ps_S} {x3 : Int32} {i : Nat} {L : List Nat}, x3.toInt = i → CW s (stc p D.length + 6) L → tq_ge (arh h.1) l x = L ++ tq_gi x ((ly (arh h.1) [(0, 0)] l).drop i) (l.drop i) → cfr (C2 (stc p D.length + 6)) s0 s → pl_At n 49 52 [(0, .ref p), (1, .ref (stc p D.length)), (2, .ref (stc p j + 6)), (3, .int x3)] [] s (ps_rI R)
  | 0, _, _, _, _, _, _, _, _ => pl_At_0
  | n + 1, s, x3, i, L, hx3, C, hL, F => by
    obtain ⟨-, -, ⟨-, -, -, -, -, c5⟩, -, -, -, i6, -⟩ := prf hp
    have c40 : (40 : Int32).toInt = 40 := by decide
    have h40 := W20.2.2.1
    have hl := stc_lt hp hi
    have hsj : stc p j + 8 < stc p D.length := by unfold stc; omega
    have hpj : p + 44 ≤ stc p j := by unfold stc; omega
    have W2 := cv_W_cfr W20 F (by unfold C2; omega) (by unfold C2; omega)
    have hsz := W2.1
    have hr1 := (stc_row hp hi).2.2
    have hr2 := (stc_row hp (i := j) (by omega)).2.2
    have f3 : ps_i s (stc p D.length) 3 = ps_i s0 (stc p D.length) 3 := (F _ (by unfold C2; omega)).1 3
    refine pl_49_52 (pl_nk_i (fun _ => ⟨fun z => ?_, fun z => pl_nk_i (fun _ => ?_)⟩))
    · have z := xle z
      rw [List.drop_of_length_le (show l.length ≤ i by omega)] at hL
      have e : tq_gi x ((ly (arh h.1) [(0, 0)] l).drop i) [] = [] := by
        cases (ly (arh h.1) [(0, 0)] l).drop i <;> rfl
      rw [e, List.append_nil] at hL
      exact k s (by rw [hL]; exact C) F
    · have z := xlt z
      obtain ⟨c, hc⟩ : ∃ c, l[i]? = some c := ⟨_, List.getElem?_eq_getElem (by omega)⟩
      obtain ⟨d, hd⟩ : ∃ d, (ly (arh h.1) [(0, 0)] l)[i]? = some d := ⟨_, List.getElem?_eq_getElem (by omega)⟩
      have hd4 := hd40 d (List.mem_of_getElem? hd)
      rw [drop_c hc, drop_g hd] at hL
      have hL : tq_ge (arh h.1) l x = L ++ ([if c = 60 + x then 40 + d.2 else c] ++ tq_gi x ((ly (arh h.1) [(0, 0)] l).drop (i + 1)) (l.drop (i + 1))) := hL
      rw [(stc_c hp hi).2.2.2.1]
      refine fs_92c hr2 W2 hx3 hc (fun v1 q1 => pl_nk_i (fun _ => ⟨fun y => ?_, fun y => pl_nk_i (fun _ => ?_)⟩))
      · have y := xne y
        rw [f3, h3] at y
        rw [if_neg (by omega), ← List.append_assoc] at hL
        refine fs_92c hr2 W2 hx3 hc (fun v2 q2 => ?_)
        refine fs_93w hr1 C q2 (fun s4 C4 F4 => ?_)
        exact fs_49_52 hp hi hj W20 h3 hlen hN hd40 hx k n (xj1 hx3 (by omega)) C4 hL (cfr_tr F F4)
      · have y := xeq y
        rw [f3, h3] at y
        rw [if_pos (by omega), ← List.append_assoc] at hL
        rw [c5]
        refine fs_105 i6 hx3 (by omega) (fun v4 q4 => ?_)
        have e4 : v4.toInt = d.2 := by
          rw [q4, (F (p + 16 + 3) (by unfold C2; omega)).2.2.2.1]
          exact hN i d hd
        have e5 : ((40 : Int32) + v4).toInt = (40 + d.2 : Nat) := by rw [xIa (by omega) (by omega), c40, e4]; omega
        refine fs_93w hr1 C e5 (fun s5 C5 F5 => ?_)
        exact fs_49_52 hp hi hj W20 h3 hlen hN hd40 hx k n (xj1 hx3 (by omega)) C5 hL (cfr_tr F F5)
end M49
section M56
variable {p th r1 r2 r3 : Nat} {g : tx_g} {a sx tx f b : List Nat} {s : ps_S} {R : Int32 → ps_S → Prop} {x4 x5 x6 : Int32}
theorem fs_56_149 {n : Nat} {x7 x8 : Int32} {u v : Nat} (W1 : cv_W s r1 f) (W3 : cv_W s r3 b) (h7 : x7.toInt = u) (h8 : x8.toInt = v) (hu : u ≤ f.length) (hv : v ≤ b.length) (k1 : b.drop v = [] ∧ f.drop u = [] → R 1 s) (k0 : ¬ (b.drop v = [] ∧ f.drop u = []) → R 0 s) : pl_At n 56 149 [(1, .ref r1), (3, .ref r3), (7, .int x7), (8, .int x8)] [] s (ps_rI R) := by
  cases n with
  | zero => exact pl_At_0
  | succ n =>
  have e1 := W1.1
  have e3 := W3.1
  refine pl_56_149 (pl_nk_i (fun _ => ⟨fun z => k0 (fun w => ?_), fun z => pl_nk_i (fun _ => ⟨fun z2 => k0 (fun w => ?_), fun z2 => k1 ?_⟩)⟩))
  · have z := xne z
    have := congrArg List.length w.2
    rw [List.length_drop, List.length_nil] at this
    omega
  · have z2 := xne z2
    have := congrArg List.length w.1
    rw [List.length_drop, List.length_nil] at this
    omega
  · have z := xeq z
    have z2 := xeq z2
    exact ⟨List.drop_of_length_le (by omega), List.drop_of_length_le (by omega)⟩
theorem tk_full {l m : List Nat} (h : l.take m.length = m) : m.length ≤ l.length := by
  have := congrArg List.length h
  rw [List.length_take] at this
  omega
theorem fs_56_46 (hr1 : ps_is r1 5 = true) (hr2 : ps_is r2 5 = true) (hr3 : ps_is r3 5 = true) (W1 : cv_W s r1 f) (W2 : cv_W s r2 a) (W3 : cv_W s r3 b) (ha : a = 6 :: (sx ++ tx)) (hs : 0 < sx.length) (ht : 0 < tx.length) (h4 : x4.toInt = (1 + sx.length : Nat)) (h5 : x5.toInt = sx.length) (h6 : x6.toInt = tx.length) (k1 : tq_rp sx tx 40 b f → R 1 s) (k0 : ¬ tq_rp sx tx 40 b f → R 0 s) : ∀ (n : Nat) {x7 x8 x9 : Int32} {u v w : Nat}, x7.toInt = u → x8.toInt = v → x9.toInt = w → w ≤ 40 → u ≤ f.length → v ≤ b.length → (tq_rp sx tx 40 b f ↔ tq_rp sx tx (40 - w) (b.drop v) (f.drop u)) → pl_At n 56 46 [(1, .ref r1), (2, .ref r2), (3, .ref r3), (4, .int x4), (5, .int x5), (6, .int x6), (7, .int x7), (8, .int x8), (9, .int x9)] [] s (ps_rI R)
  | 0, _, _, _, _, _, _, _, _, _, _, _, _, _ => pl_At_0
  | n + 1, x7, x8, x9, u, v, w, h7, h8, h9, hw, hu, hv, hiff => by
    have c40 : (40 : Int32).toInt = 40 := by decide
    have f40 := W1.2.2.1
    have b40 := W3.2.2.1
    have a40 := W2.2.2.1
    have ef := W1.1
    have eb := W3.1
    have hal : a.length = 1 + sx.length + tx.length := by
      rw [ha, List.length_cons, List.length_append]
      omega
    have fin : (40 ≤ w ∨ b.drop v = [] ∨ f.drop u = []) → ∀ {n' : Nat}, pl_At n' 56 149 [(1, .ref r1), (3, .ref r3), (7, .int x7), (8, .int x8)] [] s (ps_rI R) := fun hh {n'} => by
      have key : tq_rp sx tx (40 - w) (b.drop v) (f.drop u) ↔ (b.drop v = [] ∧ f.drop u = []) := by
        cases e : 40 - w with
        | zero => exact Iff.rfl
        | succ m =>
          show ((b.drop v = [] ∧ f.drop u = []) ∨ (b.drop v ≠ [] ∧ f.drop u ≠ [] ∧ _)) ↔ _
          rcases hh with hh | hh | hh
          · omega
          · exact ⟨fun y => y.elim id (fun y => absurd hh y.1), Or.inl⟩
          · exact ⟨fun y => y.elim id (fun y => absurd hh y.2.1), Or.inl⟩
      exact fs_56_149 W1 W3 h7 h8 hu hv (fun y => k1 (hiff.mpr (key.mpr y))) (fun y => k0 (fun y2 => y (key.mp (hiff.mp y2))))
    refine pl_56_46 ⟨fun z => ?_, fun z => pl_nk_i (fun _ => ⟨fun z2 => ?_, fun z2 => pl_nk_i (fun _ => ⟨fun z3 => ?_, fun z3 => ?_⟩)⟩)⟩
    · have z := xle z
      exact fin (Or.inl (by omega))
    · have z2 := xle z2
      exact fin (Or.inr (Or.inr (List.drop_of_length_le (by omega))))
    · have z3 := xle z3
      exact fin (Or.inr (Or.inl (List.drop_of_length_le (by omega))))
    · have z := xlt z
      have z2 := xlt z2
      have z3 := xlt z3
      have hbn : b.drop v ≠ [] := fun y => by
        have := congrArg List.length y
        rw [List.length_drop, List.length_nil] at this
        omega
      have hfn : f.drop u ≠ [] := fun y => by
        have := congrArg List.length y
        rw [List.length_drop, List.length_nil] at this
        omega
      obtain ⟨m, hm⟩ : ∃ m, 40 - w = m + 1 := ⟨40 - w - 1, by omega⟩
      have hm2 : 40 - (w + 1) = m := by omega
      rw [hm] at hiff
      have es : (a.drop 1).take (1 + sx.length - 1) = sx := by
        rw [ha, Nat.add_sub_cancel_left]
        show (sx ++ tx).take sx.length = sx
        rw [List.take_left]
      have et : (a.drop (1 + sx.length)).take (a.length - (1 + sx.length)) = tx := by
        rw [hal, show 1 + sx.length + tx.length - (1 + sx.length) = tx.length from by omega, ha, Nat.add_comm 1, List.drop_succ_cons, List.drop_left, List.take_length]
      obtain ⟨cb, hcb⟩ : ∃ c, b[v]? = some c := ⟨_, List.getElem?_eq_getElem (by omega)⟩
      obtain ⟨cf, hcf⟩ : ∃ c, f[u]? = some c := ⟨_, List.getElem?_eq_getElem (by omega)⟩
      have step2 : ¬ ((b.drop v).take sx.length = sx ∧ (f.drop u).take tx.length = tx) → ∀ {n' : Nat}, n' ≤ n → pl_At n' 56 117 [(1, .ref r1), (2, .ref r2), (3, .ref r3), (4, .int x4), (5, .int x5), (6, .int x6), (7, .int x7), (8, .int x8), (9, .int x9)] [] s (ps_rI R) := fun hn {n'} hn' => by
        cases n' with
        | zero => exact pl_At_0
        | succ n' =>
        refine pl_56_117 (fs_92c hr1 W1 h7 hcf (fun v1 q1 => fs_92c hr3 W3 h8 hcb (fun v2 q2 => ⟨fun y => k0 (fun y2 => ?_), fun y => ?_⟩)))
        · have y := xne y
          rcases hiff.mp y2 with y3 | ⟨-, -, y3 | ⟨-, y3, -⟩⟩
          · exact hbn y3.1
          · exact hn ⟨y3.1, y3.2.1⟩
          · rw [drop_c hcb, drop_c hcf] at y3
            have := Option.some.inj y3
            omega
        · have y := xeq y
          have ec : cb = cf := by omega
          refine (fs_56_46 hr1 hr2 hr3 W1 W2 W3 ha hs ht h4 h5 h6 k1 k0 n (xj1 h7 (by omega)) (xj1 h8 (by omega)) (xj1 h9 (by omega)) (by omega) (by omega) (by omega) ?_).le (by omega)
          rw [hm2, ← List.drop_drop, ← List.drop_drop]
          constructor
          · intro y2
            rcases hiff.mp y2 with y3 | ⟨-, -, y3 | ⟨-, -, y3⟩⟩
            · exact absurd y3.1 hbn
            · exact absurd ⟨y3.1, y3.2.1⟩ hn
            · exact y3
          · intro y2
            refine hiff.mpr (Or.inr ⟨hbn, hfn, Or.inr ⟨hn, ?_, y2⟩⟩)
            rw [drop_c hcb, drop_c hcf, ec]
            rfl
      refine fs_99 (b := 1) (e := 1 + sx.length) (p := v) hr2 W2 hr3 W3 rfl h4 (by omega) h8 (by omega) (fun y => ⟨fun y2 => absurd y2 (by decide), fun _ => pl_nk_i (fun _ => ?_)⟩) (fun y => ⟨fun _ => step2 (fun y2 => y ?_) (Nat.le_refl _), fun y2 => absurd rfl y2⟩)
      · rw [es, Nat.add_sub_cancel_left] at y
        refine fs_99 (b := 1 + sx.length) (e := a.length) (p := u) hr2 W2 hr1 W1 h4 W2.1 (Nat.le_refl _) h7 (by omega) (fun y2 => ⟨fun y3 => absurd y3 (by decide), fun _ => ?_⟩) (fun y2 => ⟨fun _ => step2 (fun y3 => y2 ?_) (Nat.le_refl _), fun y3 => absurd rfl y3⟩)
        · rw [et, hal, show 1 + sx.length + tx.length - (1 + sx.length) = tx.length from by omega] at y2
          have t1 := tk_full y.symm
          have t2 := tk_full y2.symm
          rw [List.length_drop] at t1 t2
          refine fs_56_46 hr1 hr2 hr3 W1 W2 W3 ha hs ht h4 h5 h6 k1 k0 n (u := u + tx.length) (v := v + sx.length) (by rw [xIa (by omega) (by omega), h7, h6]; omega) (by rw [xIa (by omega) (by omega), h8, h5]; omega) (xj1 h9 (by omega)) (by omega) (by omega) (by omega) ?_
          rw [hm2, ← List.drop_drop, ← List.drop_drop]
          constructor
          · intro y3
            rcases hiff.mp y3 with y4 | ⟨-, -, y4 | ⟨y4, -⟩⟩
            · exact absurd y4.1 hbn
            · exact y4.2.2
            · exact absurd ⟨y.symm, y2.symm⟩ y4
          · intro y3
            exact hiff.mpr (Or.inr ⟨hbn, hfn, Or.inl ⟨y.symm, y2.symm, y3⟩⟩)
        · rw [et, hal, show 1 + sx.length + tx.length - (1 + sx.length) = tx.length from by omega]
          exact y3.2.symm
      · rw [es, Nat.add_sub_cancel_left]
        exact y2.1.symm
theorem fs_56 {n : Nat} {s0 : ps_S} (hp : p = 50 ∨ p = 460) (hth : th = 2 ∨ th = 26) (h6 : ps_r s0 p 6 = th) (H : cv_E s0 th g) (hr1 : ps_is r1 5 = true) (hr2 : ps_is r2 5 = true) (hr3 : ps_is r3 5 = true) (a1 : p + 19 < r1 ∨ r1 + 1 < p + 16) (a2 : p + 19 < r2 ∨ r2 + 1 < p + 16) (a3 : p + 19 < r3 ∨ r3 + 1 < p + 16) (W1 : cv_W s0 r1 f) (W2 : cv_W s0 r2 a) (W3 : cv_W s0 r3 b) (hw : ws (sg g) a [true]) (hc : a.head? = some 6) (k1 : ∀ s', tq_rp (tq_1 (arh g) a) (tq_2 (arh g) a) 40 b f ∧ cfr (CSh (p + 16)) s0 s' → R 1 s') (k0 : ∀ s', ¬ tq_rp (tq_1 (arh g) a) (tq_2 (arh g) a) 40 b f ∧ cfr (CSh (p + 16)) s0 s' → R 0 s') : pl_Cl n 56 [.ref p, .ref r1, .ref r2, .ref r3] s0 (ps_rI R) := by
  cases n with
  | zero => exact pl_At_0
  | succ n =>
  show pl_At (n + 1) 56 0 [(0, .ref p), (1, .ref r1), (2, .ref r2), (3, .ref r3)] [] s0 (ps_rI R)
  obtain ⟨-, -, ⟨-, -, -, -, -, c5⟩, -, -, -, i6, -⟩ := prf hp
  have hA := arh_k H.2.2.1 H.2.2.2.1
  have h40 := W2.2.2.1
  have c1 : (1 : Int32).toInt = 1 := by decide
  obtain ⟨w1, w2, w3, ea⟩ := tq_half hA hw hc kS_f6
  have hs : 0 < (tq_1 (arh g) a).length := by
    obtain ⟨c, t, e⟩ := ws_ne w1
    rw [e, List.length_cons]
    omega
  have ht : 0 < (tq_2 (arh g) a).length := by
    obtain ⟨c, t, e⟩ := ws_ne w2
    rw [e, List.length_cons]
    omega
  have hal : a.length = 1 + (tq_1 (arh g) a).length + (tq_2 (arh g) a).length := by
    have := congrArg List.length ea
    rw [List.length_cons, List.length_append] at this
    omega
  refine pl_56_0 (pl_nk_i (fun _ => pl_nk_i (fun _ => ?_)))
  rw [c5, h6]
  refine fs_103 (r := p + 16) (r1 := r2) (l := a) i6 hr2 hth (by omega) hw (Or.inl rfl) W2 H (fun s1 Z F1 => pl_nk_i (fun _ => ?_))
  refine fs_104 (i := 1) i6 rfl (by decide) (fun v2 q2 => pl_nk_i (fun _ => ?_))
  have hen := en_le hA (k := 1) w3 (by simp)
  have e2 : v2.toInt = (1 + (tq_1 (arh g) a).length : Nat) := by
    rw [q2, Z.1 1 (Nat.zero_le _) (by omega)]
    have : (tq_1 (arh g) a).length = en (arh g) (a.drop 1) 1 := by
      unfold tq_1
      rw [List.length_take]
      omega
    rw [this]
  have W1' := cv_W_cfr W1 F1 (by unfold CSh; omega) (by unfold CSh; omega)
  have W2' := cv_W_cfr W2 F1 (by unfold CSh; omega) (by unfold CSh; omega)
  have W3' := cv_W_cfr W3 F1 (by unfold CSh; omega) (by unfold CSh; omega)
  have esz := W2'.1
  exact fs_56_46 hr1 hr2 hr3 W1' W2' W3' ea hs ht e2 (by rw [xIs (by omega) (by omega), e2, c1]; omega) (by rw [xIs (by omega) (by omega), esz, e2]; omega) (fun y => k1 s1 ⟨y, F1⟩) (fun y => k0 s1 ⟨y, F1⟩) n (u := 0) (v := 0) (w := 0) rfl rfl rfl (Nat.zero_le _) (Nat.zero_le _) (Nat.zero_le _) Iff.rfl
end M56

