set_option maxRecDepth 100000
/-! the class: a step taken, rule by rule -/
theorem tp_nn_le {r : Nat} : tp_nn r ≤ 3 := by
  unfold tp_nn
  split
  · decide
  · split
    · decide
    · split <;> decide
theorem fs_109 {n r0 : Nat} {x1 : Int32} {s : ps_S} {R : Int32 → ps_S → Prop} (k1 : 0 ≤ x1.toInt → x1.toInt < (ps_i s r0 5).toInt → R 1 s) (k0 : ¬ (0 ≤ x1.toInt ∧ x1.toInt < (ps_i s r0 5).toInt) → R 0 s) : pl_Cl n 109 [.ref r0, .int x1] s (ps_rI R) := by
  cases n with
  | zero => exact pl_At_0
  | succ n =>
  show pl_At (n + 1) 109 0 [(0, .ref r0), (1, .int x1)] [] s (ps_rI R)
  have t0 : (0 : Int32).toInt = 0 := Int32.toInt_zero
  refine pl_109_0 ?_
  refine ⟨fun h1 => ?_, fun h1 => ?_⟩
  · have h1 : x1.toInt < (0 : Int) := xlt h1
    exact k0 (fun y => by omega)
  · have h1 : (0 : Int) ≤ x1.toInt := xle h1
    refine pl_nk_i (fun nk6 => ?_)
    refine ⟨fun h9 => ?_, fun h9 => ?_⟩
    · have h9 : (ps_i s r0 5).toInt ≤ x1.toInt := xle h9
      exact k0 (fun y => by omega)
    · have h9 : x1.toInt < (ps_i s r0 5).toInt := xlt h9
      exact k1 (by omega) (by omega)
def shfb (q : Nat) : Bool := (List.range 12).all (fun k => Nat.beq (ps_e0 (q + 1) k) (q + 7 + 2 * k) && ps_is (q + 7 + 2 * k) 5) && (Nat.beq (ps_c0 q 0) (q + 1) && Nat.beq (ps_c0 q 1) (q + 2) && Nat.beq (ps_c0 q 2) (q + 4) && Nat.beq (ps_c0 q 3) (q + 5) && Nat.beq (ps_c0 q 4) (q + 6)) && (Nat.beq (ps_ln (q + 1)) 12 && Nat.beq (ps_ln (q + 4)) 12 && Nat.beq (ps_ln (q + 5)) 12 && Nat.beq (ps_ln (q + 6)) 12) && ps_is q 7
theorem shfb_0 : shfb 870 = true ∧ shfb 1038 = true ∧ shfb 1069 = true ∧ shfb 1100 = true := by decide +kernel
abbrev shq (q : Nat) : Prop := q = 870 ∨ q = 1038 ∨ q = 1069 ∨ q = 1100
/-- a shelf's cells -/
theorem shf {q : Nat} (hq : shq q) : (∀ k, k < 12 → ps_e0 (q + 1) k = q + 7 + 2 * k ∧ ps_is (q + 7 + 2 * k) 5 = true) ∧ (ps_c0 q 0 = q + 1 ∧ ps_c0 q 1 = q + 2 ∧ ps_c0 q 2 = q + 4 ∧ ps_c0 q 3 = q + 5 ∧ ps_c0 q 4 = q + 6) ∧ (ps_ln (q + 1) = 12 ∧ ps_ln (q + 4) = 12 ∧ ps_ln (q + 5) = 12 ∧ ps_ln (q + 6) = 12) ∧ ps_is q 7 = true := by
  have k : shfb q = true := by
    obtain ⟨s1, s2, s3, s4⟩ := shfb_0
    rcases hq with rfl | rfl | rfl | rfl
    · exact s1
    · exact s2
    · exact s3
    · exact s4
  unfold shfb at k
  simp only [Bool.and_eq_true, Nat.beq_eq, List.all_eq_true] at k
  obtain ⟨⟨⟨k1, ⟨⟨⟨⟨a0, a1⟩, a2⟩, a3⟩, a4⟩⟩, ⟨⟨⟨l0, l1⟩, l2⟩, l3⟩⟩, k4⟩ := k
  exact ⟨fun i hi => k1 i (List.mem_range.mpr hi), ⟨a0, a1, a2, a3, a4⟩, ⟨l0, l1, l2, l3⟩, k4⟩
theorem fs_110 {n q i : Nat} {x1 : Int32} {s : ps_S} {R : Nat → ps_S → Prop} (hq : shq q) (hx : x1.toInt = i) (hi : i < 12) (k : R (q + 7 + 2 * i) s) : pl_Cl n 110 [.ref q, .int x1] s (ps_rA R) := by
  cases n with
  | zero => exact pl_At_0
  | succ n =>
  show pl_At (n + 1) 110 0 [(0, .ref q), (1, .int x1)] [] s (ps_rA R)
  obtain ⟨e1, ⟨c0, c1, -⟩, ⟨l0, -⟩, -⟩ := shf hq
  have t0 : (0 : Int32).toInt = 0 := Int32.toInt_zero
  have t12 : (nI (ps_ln (ps_c0 q 0))).toInt = 12 := by rw [c0, l0]; decide
  refine pl_110_0 ⟨fun h => ?_, fun h => pl_nk_i (fun _ => pl_nk_i (fun _ => ⟨fun h2 => ?_, fun h2 => pl_nk_i (fun _ => pl_nk_i (fun _ => ?_))⟩))⟩
  · have h := xlt h
    omega
  · have h2 := xle h2
    omega
  · intro b
    rw [xtn hx, c0, (e1 i hi).1]
    exact k
section M36
variable {p : Nat} {Θ : List tq_H} {D : List tq_R} {st : tp_P} {s : ps_S} {R : Int32 → ps_S → Prop} {x2 : Int32}
theorem fs_36_22 (hp : p = 50 ∨ p = 460) (hi : D.length < 40) (hT : cpT s (stc p D.length) st) (ho : tp_ok st.1.1) (h12 : st.1.1 ≠ 12) (h2 : x2.toInt = D.length) (k1 : tq_pr Θ D st → R 1 s) (k0 : ¬ tq_pr Θ D st → R 0 s) : ∀ (n : Nat) {x4 : Int32} {j : Nat}, x4.toInt = j → j ≤ tp_nn st.1.1 → ((1 ≤ j → st.1.2.1 < D.length) ∧ (2 ≤ j → st.1.2.2.1 < D.length) ∧ (3 ≤ j → st.1.2.2.2 < D.length)) → pl_At n 36 22 [(1, .ref (stc p D.length)), (2, .int x2), (4, .int x4)] [] s (ps_rI R)
  | 0, _, _, _, _, _ => pl_At_0
  | n + 1, x4, j, h4, hj, hh => by
    have hl := stc_lt hp hi
    have h3 := tp_nn_le (r := st.1.1)
    obtain ⟨t0, t1, t2, t3, -⟩ := id hT
    have epr : tq_pr Θ D st ↔ ((1 ≤ tp_nn st.1.1 → st.1.2.1 < D.length) ∧ (2 ≤ tp_nn st.1.1 → st.1.2.2.1 < D.length) ∧ (3 ≤ tp_nn st.1.1 → st.1.2.2.2 < D.length)) := by
      unfold tq_pr
      rw [if_neg h12]
    refine pl_36_22 (pl_nk_i (fun _ => fs_116 t0 ho (fun v1 q1 => ⟨fun z => k1 ?_, fun z => ?_⟩)))
    · have z := xle z
      unfold tq_np at q1
      rw [if_neg h12] at q1
      refine epr.mpr ⟨fun y => hh.1 (by omega), fun y => hh.2.1 (by omega), fun y => hh.2.2 (by omega)⟩
    · have z := xlt z
      unfold tq_np at q1
      rw [if_neg h12] at q1
      refine fs_121 (j := j) (stc_is hp hi) hl.2.1 h4 (by omega) ⟨fun y => ?_, fun y => k0 (fun w => ?_)⟩
      · have y := xlt y
        refine fs_36_22 hp hi hT ho h12 h2 k1 k0 n (xj1 h4 (by omega)) (by omega) ⟨fun w => ?_, fun w => ?_, fun w => ?_⟩
        · by_cases e : j = 0
          · subst e
            have := t1 (by omega)
            omega
          · exact hh.1 (by omega)
        · by_cases e : j = 1
          · subst e
            have := t2 (by omega)
            omega
          · exact hh.2.1 (by omega)
        · by_cases e : j = 2
          · subst e
            have := t3 (by omega)
            omega
          · exact hh.2.2 (by omega)
      · have y := xle y
        obtain ⟨w1, w2, w3⟩ := epr.mp w
        rcases (show j = 0 ∨ j = 1 ∨ j = 2 by omega) with e | e | e
        · subst e
          have := t1 (by omega)
          have := w1 (by omega)
          omega
        · subst e
          have := t2 (by omega)
          have := w2 (by omega)
          omega
        · subst e
          have := t3 (by omega)
          have := w3 (by omega)
          omega
theorem fs_36 {n : Nat} (hp : p = 50 ∨ p = 460) (hi : D.length < 40) (hT : cpT s (stc p D.length) st) (hS : cSh s 870 Θ) (ho : tp_ok st.1.1) (h2 : x2.toInt = D.length) (k1 : tq_pr Θ D st → R 1 s) (k0 : ¬ tq_pr Θ D st → R 0 s) : pl_Cl n 36 [.ref p, .ref (stc p D.length), .int x2, .ref 870] s (ps_rI R) := by
  cases n with
  | zero => exact pl_At_0
  | succ n =>
  show pl_At (n + 1) 36 0 [(0, .ref p), (1, .ref (stc p D.length)), (2, .int x2), (3, .ref 870)] [] s (ps_rI R)
  have hl := stc_lt hp hi
  have t0 := hT.1
  refine pl_36_0 (pl_nk_i (fun _ => ⟨fun z => ?_, fun z => ?_⟩))
  · have z : (ps_i s (stc p D.length) 0).toInt ≠ (12 : Int) := xne z
    exact fs_36_22 hp hi hT ho (fun y => z (by rw [t0, y]; rfl)) h2 k1 k0 n (j := 0) rfl (Nat.zero_le _) ⟨fun y => by omega, fun y => by omega, fun y => by omega⟩
  · have z : (ps_i s (stc p D.length) 0).toInt = (12 : Int) := xeq z
    have e12 : st.1.1 = 12 := by omega
    have e1 := hT.2.1 (by rw [e12]; decide)
    have epr : tq_pr Θ D st ↔ st.1.2.1 < Θ.length := by
      unfold tq_pr
      rw [if_pos e12]
    have hs := hS.1
    refine fs_121 (j := 0) (stc_is hp hi) hl.2.1 rfl (by decide) ?_
    exact fs_109 (fun y y2 => pl_nk_i (fun _ => k1 (epr.mpr (by omega)))) (fun y => pl_nk_i (fun _ => k0 (fun w => y (by have := epr.mp w; omega))))
end M36

