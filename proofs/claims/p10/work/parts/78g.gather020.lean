set_option maxRecDepth 100000
section
variable {p i j r3 : Nat} {D : List tq_R} {Rj : tq_R} {oo : List Nat} {s0 : ps_S}
theorem fs_39_3 {R : ps_S → Prop} (hp : p = 50 ∨ p = 460) (hi : i < 40) (hD0 : cpD s0 p D) (hDi : D.length ≤ i) (hj : D[j]? = some Rj) (h5 : ps_is r3 5 = true) (W0 : CW s0 r3 oo) (hr3 : r3 ≠ stc p i ∧ r3 ≠ stc p i + 8 ∧ r3 + 1 ≠ stc p i ∧ r3 + 1 ≠ stc p i + 8) {A0 : List (List Nat)} (k : ∀ s', PA s' (stc p i) D (tq_ga oo A0 Rj.2.1) → GQ p i s0 s' → R s') : ∀ (n : Nat) {s : ps_S} {x4 : Int32} {m : Nat} {A : List (List Nat)}, x4.toInt = m → m ≤ Rj.2.1.length → PA s (stc p i) D A → tq_ga oo A0 Rj.2.1 = tq_ga oo A (Rj.2.1.drop m) → GQ p i s0 s → pl_At n 39 3 [(0, .ref p), (1, .ref (stc p i)), (2, .ref (stc p j)), (3, .ref r3), (4, .int x4)] [] s (ps_rV R)
  | 0, _, _, _, _, _, _, _, _, _ => pl_At_0
  | n + 1, s, x4, m, A, hx, hm, hA, hga, F => by
    have hjl := (List.getElem?_eq_some_iff.mp hj).1
    have hDF : cpD s p D := cpD_cfr hD0 F.1 (fun q a b => by unfold CST; unfold stc at *; omega)
    have hRj := hDF.2 j Rj hj
    have W : CW s r3 oo := by
      obtain ⟨w1, w2, w3⟩ := W0
      have f := F.1 r3 (by unfold CST; omega)
      exact ⟨by rw [f.1]; exact w1, fun z => cv_W_cfr (w2 z) F.1 (by unfold CST; omega) (by unfold CST; omega), fun z => by rw [f.1]; exact w3 z⟩
    have hsz := hRj.2.1
    have h12 := hRj.2.2.1
    refine pl_39_3 (pl_nk_i (fun _ => ⟨fun z => ?_, fun z => ?_⟩))
    · have z := xle z
      rw [List.drop_of_length_le (by omega)] at hga
      exact k s (by rw [hga]; exact hA) F
    · have z := xlt z
      obtain ⟨y, hy⟩ : ∃ y, Rj.2.1[m]? = some y := ⟨_, List.getElem?_eq_getElem (by omega)⟩
      obtain ⟨o2, q, e1, e2, e3⟩ := hRj.2.2.2.1 m y hy
      have hol := (List.getElem?_eq_some_iff.mp e2).1
      have ho := hDF.2 o2 q e2
      have hdr : Rj.2.1.drop m = y :: Rj.2.1.drop (m + 1) := by
        obtain ⟨hh, ee⟩ := List.getElem?_eq_some_iff.mp hy
        rw [List.drop_eq_getElem_cons hh, ee]
      rw [hdr] at hga
      have hga : tq_ga oo A0 Rj.2.1 = tq_ga oo (if 12 < A.length ∨ y = oo ∨ y ∈ A then A else A ++ [y]) (Rj.2.1.drop (m + 1)) := hga
      refine fs_122 (stc_is hp (i := j) (by omega)) (stc_lt hp (i := j) (by omega)).2.1 hx (by omega) (by rw [hsz]; omega) ?_
      refine fs_33 hp e1 (by omega) (pl_nk_i (fun _ => ?_))
      rw [(stc_c hp (i := o2) (by omega)).2.2.2.1]
      have W1 : cv_W s (stc p o2 + 6) y := by rw [← e3]; exact ho.1
      refine fs_98 (stc_row hp (i := o2) (by omega)).2.2 h5 (CW_of W1) W (Or.inl W1.2.2.1) (fun e => ⟨fun _ => ?_, fun u => absurd u (by decide)⟩) (fun e => ⟨fun u => absurd rfl u, fun _ => ?_⟩)
      · rw [if_pos (Or.inr (Or.inl e))] at hga
        exact fs_39_3 hp hi hD0 hDi hj h5 W0 hr3 k n (xj1 hx (by omega)) (by omega) hA hga F
      · refine fs_40 hp hi hDF hDi hA (stc_row hp (i := o2) (by omega)).2.2 W1 (fun u => ⟨fun _ => ?_, fun v => absurd v (by decide)⟩) (fun u => ⟨fun v => absurd rfl v, fun _ => ?_⟩)
        · rw [if_pos (Or.inr (Or.inr u))] at hga
          exact fs_39_3 hp hi hD0 hDi hj h5 W0 hr3 k n (xj1 hx (by omega)) (by omega) hA hga F
        · obtain ⟨g1, g2⟩ := PA_add hA e1 e2 e3
          refine fs_123 (m := min A.length 12) (stc_is hp hi) (stc_lt hp hi).2.1 hA.1 (fun v => ?_) (fun v => ?_)
          · have hlt : A.length < 12 := by omega
            have em : min A.length 12 = A.length := by omega
            have hna : ¬ y ∈ A := fun w => u (by rw [List.take_of_length_le (by omega)]; exact w)
            rw [if_neg (by intro w; rcases w with w | w | w; omega; exact e w; exact hna w)] at hga
            rw [em]
            exact fs_39_3 hp hi hD0 hDi hj h5 W0 hr3 k n (xj1 hx (by omega)) (by omega) (g1 hlt) hga (GQ_8 F)
          · have hge : 12 ≤ A.length := by omega
            have hga2 : tq_ga oo A0 Rj.2.1 = tq_ga oo (if 12 < A.length then A else A ++ [y]) (Rj.2.1.drop (m + 1)) := by
              rw [hga]
              by_cases w : 12 < A.length
              · rw [if_pos (Or.inl w), if_pos w]
              · have hna : ¬ y ∈ A := fun w2 => u (by rw [List.take_of_length_le (by omega)]; exact w2)
                rw [if_neg w, if_neg (by intro w3; rcases w3 with w3 | w3 | w3; exact w w3; exact e w3; exact hna w3)]
            exact fs_39_3 hp hi hD0 hDi hj h5 W0 hr3 k n (xj1 hx (by omega)) (by omega) (g2 hge) hga2 (GQ_9 F)

end
