set_option maxRecDepth 100000
/-! one world, two states that it holds: what is said of the one holds of the other -/
theorem det_i {w : pm_W} {s s' : ps_S} (h : ps_R w s) (h' : ps_R w s') {r c n q : Nat} (hr : r < 1179) (hk : ps_K r = (1, c, n)) (hq : q < (pm_Ts c).length) (ht : (pm_Ts c).getD q .int = .int ∨ (pm_Ts c).getD q .int = .boolean) : ps_i s r q = ps_i s' r q := by
  have e := ps_det_f h h' hr hk hq
  unfold ps_fv at e
  rcases ht with ht | ht <;> rw [ht] at e <;> exact Value.int.inj e
theorem cv_W_det {w : pm_W} {s s' : ps_S} (h : ps_R w s) (h' : ps_R w s') {r n : Nat} {l : List Nat} (hr : r + 1 < 1179) (hk : ps_K r = (1, 5, n)) (ha : ps_K (r + 1) = (0, 0, 40)) (W : cv_W s r l) : cv_W s' r l := by
  obtain ⟨w1, w2, w3, w4⟩ := W
  refine ⟨by rw [← det_i h h' (q := 1) (by omega) hk (by decide) (Or.inl rfl)]; exact w1, by rw [← det_i h h' (q := 2) (by omega) hk (by decide) (Or.inr rfl)]; exact w2, w3, fun k c hc => ?_⟩
  have hl := (List.getElem?_eq_some_iff.mp hc).1
  rw [← ps_det_a h h' (r := r + 1) (t := 0) (n := 40) (i := k) hr ha (by decide) (by omega)]
  exact w4 k c hc
theorem mv_W_det {w : pm_W} {s s' : ps_S} (h : ps_R w s) (h' : ps_R w s') {to : Nat} {l : List Nat} (ht : to + 41 ≤ 27400) (W : mv_W s to l) : mv_W s' to l :=
  ⟨by rw [← ps_det_a h h' (r := 1134) (t := 0) (n := 27400) (i := to) (by decide) rfl (by decide) (by omega)]; exact W.1, W.2.1, fun k c hc => by
    have hl := (List.getElem?_eq_some_iff.mp hc).1
    have h2 := W.2.1
    rw [← ps_det_a h h' (r := 1134) (t := 0) (n := 27400) (i := to + 1 + k) (by decide) rfl (by decide) (by omega)]
    exact W.2.2 k c hc⟩
theorem mv_H_det {w : pm_W} {s s' : ps_S} (h : ps_R w s) (h' : ps_R w s') {b : Nat} {g : tx_H} (hb : b < 2) (H : mv_H s b g) : mv_H s' b g := by
  obtain ⟨⟨e1, e2, e3, e4, e5, e6⟩, f2, f3, f4⟩ := H
  refine ⟨⟨?_, ?_, e3, e4, fun k w a hk => ?_, fun k w a hk => ?_⟩, ?_, f3, fun k w l hk => ?_⟩
  · rw [← ps_det_a h h' (r := 1135) (t := 0) (n := 2) (by decide) rfl (by decide) hb]; exact e1
  · rw [← ps_det_a h h' (r := 1136) (t := 0) (n := 2) (by decide) rfl (by decide) hb]; exact e2
  · have hl := (List.getElem?_eq_some_iff.mp hk).1
    obtain ⟨y1, y2, y3, y4⟩ := e5 k w a hk
    exact ⟨y1, y2, by rw [← ps_det_b h h' (r := 1140) (n := 12) (by decide) rfl (by omega)]; exact y3, by rw [← ps_det_a h h' (r := 1138) (t := 0) (n := 12) (by decide) rfl (by decide) (by omega)]; exact y4⟩
  · have hl := (List.getElem?_eq_some_iff.mp hk).1
    obtain ⟨y1, y2, y3, y4⟩ := e6 k w a hk
    exact ⟨y1, y2, by rw [← ps_det_b h h' (r := 1141) (n := 8) (by decide) rfl (by omega)]; exact y3, by rw [← ps_det_a h h' (r := 1139) (t := 0) (n := 8) (by decide) rfl (by decide) (by omega)]; exact y4⟩
  · rw [← ps_det_a h h' (r := 1137) (t := 0) (n := 2) (by decide) rfl (by decide) hb]; exact f2
  · have hl := (List.getElem?_eq_some_iff.mp hk).1
    obtain ⟨y1, y2, y3⟩ := f4 k w l hk
    exact ⟨y1, by rw [← ps_det_b h h' (r := 1142) (n := 16) (by decide) rfl (by omega)]; exact y2, mv_W_det h h' (by omega) y3⟩
theorem th_R {k : Nat} (hk : k < 8) : (ps_K (2 + 8 + 2 * k) = (1, 5, 0) ∧ ps_K (2 + 8 + 2 * k + 1) = (0, 0, 40)) ∧ ps_K (26 + 8 + 2 * k) = (1, 5, 0) ∧ ps_K (26 + 8 + 2 * k + 1) = (0, 0, 40) := by
  rcases (show k = 0 ∨ k = 1 ∨ k = 2 ∨ k = 3 ∨ k = 4 ∨ k = 5 ∨ k = 6 ∨ k = 7 by omega) with rfl | rfl | rfl | rfl | rfl | rfl | rfl | rfl <;> exact ⟨⟨rfl, rfl⟩, rfl, rfl⟩
theorem th_K {th k : Nat} (hth : th = 2 ∨ th = 26) (hk : k < 8) : ps_K th = (1, 9, 0) ∧ ps_K (th + 1) = (0, 3, 6) ∧ ps_K (th + 2) = (0, 3, 4) ∧ ps_K (th + 3) = (0, 3, 8) ∧ ps_K (th + 4) = (0, 0, 40) ∧ ps_K (th + 8 + 2 * k) = (1, 5, 0) ∧ ps_K (th + 8 + 2 * k + 1) = (0, 0, 40) := by
  rcases hth with rfl | rfl
  · exact ⟨rfl, rfl, rfl, rfl, rfl, (th_R hk).1.1, (th_R hk).1.2⟩
  · exact ⟨rfl, rfl, rfl, rfl, rfl, (th_R hk).2.1, (th_R hk).2.2⟩
theorem cv_H_det {w : pm_W} {s s' : ps_S} (h : ps_R w s) (h' : ps_R w s') {th : Nat} {g : tx_H} (hth : th = 2 ∨ th = 26) (H : cv_H s th g) : cv_H s' th g := by
  obtain ⟨⟨e1, e2, e3, e4, e5, e6, e7, e8⟩, f2, f3, f4⟩ := H
  have K := th_K hth (k := 0) (by decide)
  have ar : ∀ i, i < 40 → ps_a s' (th + 4) i = ps_a s (th + 4) i := fun i hi => (ps_det_a h h' (r := th + 4) (t := 0) (n := 40) (by omega) K.2.2.2.2.1 (by decide) hi).symm
  refine ⟨⟨?_, ?_, e3, e4, fun k w a hk => ?_, fun k w a hk => ?_, ?_, e8⟩, ?_, f3, fun k w l hk => ?_⟩
  · rw [← det_i h h' (q := 6) (by omega) K.1 (by decide) (Or.inl rfl)]; exact e1
  · rw [← det_i h h' (q := 7) (by omega) K.1 (by decide) (Or.inl rfl)]; exact e2
  · have hl := (List.getElem?_eq_some_iff.mp hk).1
    obtain ⟨y1, y2, y3, y4⟩ := e5 k w a hk
    exact ⟨y1, y2, by rw [← ps_det_b h h' (by omega) K.2.1 (by omega)]; exact y3, by rw [ar _ (by omega)]; exact y4⟩
  · have hl := (List.getElem?_eq_some_iff.mp hk).1
    obtain ⟨y1, y2, y3, y4⟩ := e6 k w a hk
    exact ⟨y1, y2, by rw [← ps_det_b h h' (by omega) K.2.2.1 (by omega)]; exact y3, by rw [ar _ (by omega)]; exact y4⟩
  · rw [ar 0 (by decide), ar 1 (by decide), ar 2 (by decide), ar 3 (by decide), ar 4 (by decide), ar 5 (by decide), ar 6 (by decide)]
    exact e7
  · rw [← det_i h h' (q := 8) (by omega) K.1 (by decide) (Or.inl rfl)]; exact f2
  · have hl := (List.getElem?_eq_some_iff.mp hk).1
    obtain ⟨y1, y2, y3⟩ := f4 k w l hk
    have Kk := th_K hth (k := k) (by omega)
    exact ⟨y1, by rw [← ps_det_b h h' (by omega) K.2.2.2.1 (by omega)]; exact y2, cv_W_det h h' (by omega) Kk.2.2.2.2.2.1 Kk.2.2.2.2.2.2 y3⟩
