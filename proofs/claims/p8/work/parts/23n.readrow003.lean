set_option maxRecDepth 100000
theorem ms_209_92 {x : Nat → Nat → Nat} {t : Int32} {d : Nat} {s0 : ps_S} {σ : mSig} {b : Bool} {x1 : Int32} {x2 : Int32} {x3 : Int32} {Q : Option Value → ps_S → Prop} (k : ∀ (s' : ps_S), mJ x t s' → kp [1134, 1143, 1144, 1145, 1146, 1147, 1148] [5, 6, 7, 8, 9, 10, 11, 23, 29, 30, 31, 32] s0 s' → ((ps_i s' 1131 8).toInt ≤ (ps_i s' 1131 4).toInt) → (1 ≤ (ps_i s0 1131 5).toInt → 1 ≤ (ps_i s' 1131 5).toInt) → (∀ i : Nat, (i : Int) < x1.toInt ∨ x1.toInt + 41 ≤ (i : Int) → ps_a s' 1134 i = ps_a s0 1134 i) → (1 ≤ (ps_i s' 1131 5).toInt ∨ ∃ l2, Rw (ps_a s' 1134) x1.toInt l2 ∧ wf σ 5 l2 [(b, 0)] ∧ (x3.toInt ≠ 0 → ∀ p, p ∈ l2 → p < 60)) → Q none s') (n30 : Nat) (KH30 : ∀ (x4 : Int32) (s : ps_S), (mJ x t s) → (kp [1134, 1143, 1144, 1145, 1146, 1147, 1148] [5, 6, 7, 8, 9, 10, 11, 23, 29, 30, 31, 32] s0 s) → (Sg (ps_a s 1135) (ps_a s 1136) (ps_a s 1138) (ps_a s 1139) (ps_i s 1131 22).toInt σ) → (∀ i : Nat, (i : Int) < x1.toInt ∨ x1.toInt + 41 ≤ (i : Int) → ps_a s 1134 i = ps_a s0 1134 i) → ((ps_i s 1131 8).toInt ≤ (ps_i s 1131 4).toInt) → ((ps_i s 1131 32).toInt = x3.toInt) → ((x2.toInt ≠ 0 ∧ b = true) ∨ (x2.toInt = 0 ∧ b = false)) → (x4.toInt = 0 ∨ x4.toInt = 1) → (1 ≤ (ps_i s 1131 5).toInt ∨ ((ps_i s 1131 29).toInt ≤ 13 ∧ 0 ≤ (ps_i s 1131 30).toInt ∧ (ps_i s 1131 30).toInt ≤ 5 ∧ (ps_i s 1131 31).toInt ≤ 40)) → (1 ≤ (ps_i s 1131 5).toInt ∨ (x4.toInt = 0 ∧ ∃ l2, Rw (ps_a s 1134) x1.toInt l2 ∧ wf σ 5 l2 [(b, 0)] ∧ ((ps_i s 1131 32).toInt ≠ 0 → ∀ p, p ∈ l2 → p < 60)) ∨ (x4.toInt ≠ 0 ∧ ∃ l2 b0, Rw (ps_a s 1134) x1.toInt l2 ∧ RH σ (ps_a s 1144) (ps_a s 1145) (ps_a s 1146) (ps_a s 1147) (ps_i s 1131 29).toInt (ps_i s 1131 30).toInt (ps_i s 1131 31).toInt (ps_i s 1131 32).toInt l2 b b0 ∧ ((ps_i s 1131 29).toInt = 0 → b0 = b) ∧ (0 < (ps_i s 1131 29).toInt → b0 = decide (ps_a s 1145 ((ps_i s 1131 29).toInt - 1).toNat = 0)))) → (1 ≤ (ps_i s0 1131 5).toInt → 1 ≤ (ps_i s 1131 5).toInt) → (2 * (42 - (ps_i s 1131 31).toInt) + 6 * x4.toInt ≤ (n30 : Int) - 1) → ps_At (d + 5) 209 30 [(0, .ref 1131), (1, .int x1), (2, .int x2), (4, .int x4)] [] s Q) (s : ps_S) (J : mJ x t s) (K : kp [1134, 1143, 1144, 1145, 1146, 1147, 1148] [5, 6, 7, 8, 9, 10, 11, 23, 29, 30, 31, 32] s0 s) (hS2 : Sg (ps_a s 1135) (ps_a s 1136) (ps_a s 1138) (ps_a s 1139) (ps_i s 1131 22).toInt σ) (hO : ∀ i : Nat, (i : Int) < x1.toInt ∨ x1.toInt + 41 ≤ (i : Int) → ps_a s 1134 i = ps_a s0 1134 i) (i2 : (ps_i s 1131 8).toInt ≤ (ps_i s 1131 4).toInt) (i3 : (ps_i s 1131 32).toInt = x3.toInt) (i4 : (x2.toInt ≠ 0 ∧ b = true) ∨ (x2.toInt = 0 ∧ b = false)) (i5 : 1 ≤ (ps_i s 1131 5).toInt ∨ ((ps_i s 1131 29).toInt ≤ 13 ∧ 0 ≤ (ps_i s 1131 30).toInt ∧ (ps_i s 1131 30).toInt ≤ 5 ∧ (ps_i s 1131 31).toInt ≤ 40)) (i6 : 1 ≤ (ps_i s 1131 5).toInt ∨ ∃ l2, Rw (ps_a s 1134) x1.toInt l2 ∧ RQ σ (ps_a s 1144) (ps_a s 1145) (ps_a s 1146) (ps_a s 1147) (ps_i s 1131 29).toInt (ps_i s 1131 30).toInt (ps_i s 1131 31).toInt (ps_i s 1131 32).toInt l2 b) (i7 : 1 ≤ (ps_i s0 1131 5).toInt → 1 ≤ (ps_i s 1131 5).toInt) (hm30 : 2 * (42 - (ps_i s 1131 31).toInt) + 7 - (ps_i s 1131 5).toInt ≤ (n30 : Int)) : ps_At (d + 5) 209 92 [(0, .ref 1131), (1, .int x1), (2, .int x2)] [] s Q := by
  have r1 := mf_8 J
  have r2 := mf_4 J
  have r3 := mf_5 J
  have r4 := mf_29 J
  have r5 := mf_31 J
  refine pg_209_92 (d := d + 4) ?_
  refine ms_192 J  (fun v6 p6_0 b6 => ?_)
  have p6_0' : (v6.toInt = 0 ∧ 1 ≤ (ps_i s 1131 5).toInt) ∨ (v6.toInt = 1 ∧ (ps_i s 1131 5).toInt = 0) := p6_0
  refine And.intro (fun h7 => ?_) (fun h7 => ?_)
  · have f8 : v6.toInt = (0 : Int) := xeq h7
    exact KH30 (0) _ J K hS2 ((by first | exact fun i hi => (ho i hi).trans (hO i hi) | exact hO)) (show (ps_i s 1131 8).toInt ≤ (ps_i s 1131 4).toInt from by omega) (show (ps_i s 1131 32).toInt = x3.toInt from by omega) (i4) (show (0 : Int) = 0 ∨ (0 : Int) = 1 from by omega) (show 1 ≤ (ps_i s 1131 5).toInt ∨ ((ps_i s 1131 29).toInt ≤ 13 ∧ 0 ≤ (ps_i s 1131 30).toInt ∧ (ps_i s 1131 30).toInt ≤ 5 ∧ (ps_i s 1131 31).toInt ≤ 40) from by omega) ((by first | exact Or.inl (show 1 ≤ (ps_i s 1131 5).toInt from by omega) | (rcases hv with z | z <;> first | exact Or.inr (Or.inl ⟨by decide, z.2⟩) | exact Or.inr (Or.inr ⟨by decide, z.2⟩) | (have q := z.1; exfalso; omega)))) (show 1 ≤ (ps_i s0 1131 5).toInt → 1 ≤ (ps_i s 1131 5).toInt from by omega) (show 2 * (42 - (ps_i s 1131 31).toInt) + 6 * (0 : Int) ≤ (n30 : Int) - 1 from by omega)
  · have f9 : v6.toInt ≠ (0 : Int) := xne h7
    have hE : ∃ l2, Rw (ps_a s 1134) x1.toInt l2 ∧ RQ σ (ps_a s 1144) (ps_a s 1145) (ps_a s 1146) (ps_a s 1147) (ps_i s 1131 29).toInt (ps_i s 1131 30).toInt (ps_i s 1131 31).toInt (ps_i s 1131 32).toInt l2 b := i6.resolve_left (by omega)
    refine ms_212 J hE (show (ps_i s 1131 29).toInt ≤ 13 from by omega) (show 0 ≤ (ps_i s 1131 30).toInt from by omega) (show (ps_i s 1131 30).toInt ≤ 5 from by omega) (show (ps_i s 1131 31).toInt ≤ 40 from by omega) (fun v10 s10 J10 K10 p10_0 p10_1 p10_2 p10_3 p10_4 b10 => ?_)
    have K11 := kpt K K10 rfl rfl
    have hS2 : Sg (ps_a s10 1135) (ps_a s10 1136) (ps_a s10 1138) (ps_a s10 1139) (ps_i s10 1131 22).toInt σ := by rw [show ps_a s10 1135 = ps_a s 1135 from (K10.2 1135 rfl).1, show ps_a s10 1136 = ps_a s 1136 from (K10.2 1136 rfl).1, show ps_a s10 1138 = ps_a s 1138 from (K10.2 1138 rfl).1, show ps_a s10 1139 = ps_a s 1139 from (K10.2 1139 rfl).1, show ps_i s10 1131 22 = ps_i s 1131 22 from kp_i K10 22 rfl]; exact hS2
    have p10_0' : (ps_i s10 1131 29).toInt ≤ 13 := p10_0
    have r12 := mf_29 J10
    have p10_1' : 0 ≤ (ps_i s10 1131 30).toInt := p10_1
    have p10_2' : (ps_i s10 1131 30).toInt ≤ 5 := p10_2
    have hv : _ := p10_3
    have ho : _ := p10_4
    refine And.intro (fun h13 => ?_) (fun h13 => ?_)
    · have f14 : v10.toInt = (0 : Int) := xeq h13
      have r15 := mf_8 J10
      have u16 : (ps_i s10 1131 8).toInt = (ps_i s 1131 8).toInt := xeq (kp_i K10 8 rfl)
      have r17 := mf_4 J10
      have u18 : (ps_i s10 1131 4).toInt = (ps_i s 1131 4).toInt := xeq (kp_i K10 4 rfl)
      have u19 : (ps_i s10 1131 32).toInt = (ps_i s 1131 32).toInt := xeq (kp_i K10 32 rfl)
      have r20 := mf_5 J10
      have u21 : (ps_i s10 1131 5).toInt = (ps_i s 1131 5).toInt := xeq (kp_i K10 5 rfl)
      have r22 := mf_31 J10
      have u23 : (ps_i s10 1131 31).toInt = (ps_i s 1131 31).toInt := xeq (kp_i K10 31 rfl)
      exact KH30 (0) _ J10 K11 hS2 ((by first | exact fun i hi => (ho i hi).trans (hO i hi) | exact hO)) (show (ps_i s10 1131 8).toInt ≤ (ps_i s10 1131 4).toInt from by omega) (show (ps_i s10 1131 32).toInt = x3.toInt from by omega) (i4) (show (0 : Int) = 0 ∨ (0 : Int) = 1 from by omega) (show 1 ≤ (ps_i s10 1131 5).toInt ∨ ((ps_i s10 1131 29).toInt ≤ 13 ∧ 0 ≤ (ps_i s10 1131 30).toInt ∧ (ps_i s10 1131 30).toInt ≤ 5 ∧ (ps_i s10 1131 31).toInt ≤ 40) from by omega) ((by first | exact Or.inl (show 1 ≤ (ps_i s10 1131 5).toInt from by omega) | (rcases hv with z | z <;> first | exact Or.inr (Or.inl ⟨by decide, z.2⟩) | exact Or.inr (Or.inr ⟨by decide, z.2⟩) | (have q := z.1; exfalso; omega)))) (show 1 ≤ (ps_i s0 1131 5).toInt → 1 ≤ (ps_i s10 1131 5).toInt from by omega) (show 2 * (42 - (ps_i s10 1131 31).toInt) + 6 * (0 : Int) ≤ (n30 : Int) - 1 from by omega)
    · have f24 : v10.toInt ≠ (0 : Int) := xne h13
      have r25 := mf_8 J10
      have u26 : (ps_i s10 1131 8).toInt = (ps_i s 1131 8).toInt := xeq (kp_i K10 8 rfl)
      have r27 := mf_4 J10
      have u28 : (ps_i s10 1131 4).toInt = (ps_i s 1131 4).toInt := xeq (kp_i K10 4 rfl)
      have u29 : (ps_i s10 1131 32).toInt = (ps_i s 1131 32).toInt := xeq (kp_i K10 32 rfl)
      have r30 := mf_5 J10
      have u31 : (ps_i s10 1131 5).toInt = (ps_i s 1131 5).toInt := xeq (kp_i K10 5 rfl)
      have r32 := mf_31 J10
      have u33 : (ps_i s10 1131 31).toInt = (ps_i s 1131 31).toInt := xeq (kp_i K10 31 rfl)
      exact KH30 (1) _ J10 K11 hS2 ((by first | exact fun i hi => (ho i hi).trans (hO i hi) | exact hO)) (show (ps_i s10 1131 8).toInt ≤ (ps_i s10 1131 4).toInt from by omega) (show (ps_i s10 1131 32).toInt = x3.toInt from by omega) (i4) (show (1 : Int) = 0 ∨ (1 : Int) = 1 from by omega) (show 1 ≤ (ps_i s10 1131 5).toInt ∨ ((ps_i s10 1131 29).toInt ≤ 13 ∧ 0 ≤ (ps_i s10 1131 30).toInt ∧ (ps_i s10 1131 30).toInt ≤ 5 ∧ (ps_i s10 1131 31).toInt ≤ 40) from by omega) ((by first | exact Or.inl (show 1 ≤ (ps_i s10 1131 5).toInt from by omega) | (rcases hv with z | z <;> first | exact Or.inr (Or.inl ⟨by decide, z.2⟩) | exact Or.inr (Or.inr ⟨by decide, z.2⟩) | (have q := z.1; exfalso; omega)))) (show 1 ≤ (ps_i s0 1131 5).toInt → 1 ≤ (ps_i s10 1131 5).toInt from by omega) (show 2 * (42 - (ps_i s10 1131 31).toInt) + 6 * (1 : Int) ≤ (n30 : Int) - 1 from by omega)

