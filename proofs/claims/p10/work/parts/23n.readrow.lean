set_option maxRecDepth 100000
-- ProofBenchModel.readRow(IZZ)V
theorem pg_209_0 {d : Nat} {x1 : Int32} {x2 : Int32} {x3 : Int32} {s : ps_S} {Q : Option Value → ps_S → Prop} (h :
  ps_nd (pm_in x1 27400) (ps_nd (decide (x3 &&& 1 = x3)) (ps_At (d + 1) 209 30 [(0, .ref 1131), (1, .int x1), (2, .int x2), (4, .int 1)] [] (ps_ui (ps_ui (ps_ui (ps_ui (ps_ua s 1134 (Int32.toNatClampNeg x1) 0) 1131 29 0) 1131 30 0) 1131 31 0) 1131 32 x3) Q))) : ps_At (d + 1) 209 0 [(0, .ref 1131), (1, .int x1), (2, .int x2), (3, .int x3)] [] s Q :=
  ps_wp_at (stops := [(30, [0, 1, 2, 4]), (92, [0, 1, 2])]) (n := 21) h rfl

theorem pg_209_30 {d : Nat} {x1 : Int32} {x2 : Int32} {x4 : Int32} {s : ps_S} {Q : Option Value → ps_S → Prop} (h :
  ps_Cl d 192 [.ref 1131] s (ps_rI (fun v1 s1 =>
    (v1 = 0 →
      Q none s1) ∧
    (v1 ≠ 0 →
      (x4 = 0 →
        Q none s1) ∧
      (x4 ≠ 0 →
        ((ps_i s1 1131 29) ≠ 0 →
          ps_nd (pm_in ((ps_i s1 1131 29) - 1) 16) (((ps_a s1 1145 (Int32.toNatClampNeg ((ps_i s1 1131 29) - 1))) ≠ 0 →
            ((0 : Int32) = 0 →
              ps_Cl d 215 [.ref 1131, .int x1] s1 (ps_rV (fun s2 =>
                ps_At (d + 1) 209 92 [(0, .ref 1131), (1, .int x1), (2, .int x2)] [] s2 Q))) ∧
            ((0 : Int32) ≠ 0 →
              ps_Cl d 214 [.ref 1131, .int x1] s1 (ps_rV (fun s3 =>
                ps_At (d + 1) 209 92 [(0, .ref 1131), (1, .int x1), (2, .int x2)] [] s3 Q)))) ∧
          ((ps_a s1 1145 (Int32.toNatClampNeg ((ps_i s1 1131 29) - 1))) = 0 →
            ((1 : Int32) = 0 →
              ps_Cl d 215 [.ref 1131, .int x1] s1 (ps_rV (fun s4 =>
                ps_At (d + 1) 209 92 [(0, .ref 1131), (1, .int x1), (2, .int x2)] [] s4 Q))) ∧
            ((1 : Int32) ≠ 0 →
              ps_Cl d 214 [.ref 1131, .int x1] s1 (ps_rV (fun s5 =>
                ps_At (d + 1) 209 92 [(0, .ref 1131), (1, .int x1), (2, .int x2)] [] s5 Q)))))) ∧
        ((ps_i s1 1131 29) = 0 →
          (x2 = 0 →
            ps_Cl d 215 [.ref 1131, .int x1] s1 (ps_rV (fun s6 =>
              ps_At (d + 1) 209 92 [(0, .ref 1131), (1, .int x1), (2, .int x2)] [] s6 Q))) ∧
          (x2 ≠ 0 →
            ps_Cl d 214 [.ref 1131, .int x1] s1 (ps_rV (fun s7 =>
              ps_At (d + 1) 209 92 [(0, .ref 1131), (1, .int x1), (2, .int x2)] [] s7 Q))))))))) : ps_At (d + 1) 209 30 [(0, .ref 1131), (1, .int x1), (2, .int x2), (4, .int x4)] [] s Q :=
  ps_wp_at (stops := [(30, [0, 1, 2, 4]), (92, [0, 1, 2])]) (n := 55) h rfl

theorem pg_209_92 {d : Nat} {x1 : Int32} {x2 : Int32} {s : ps_S} {Q : Option Value → ps_S → Prop} (h :
  ps_Cl d 192 [.ref 1131] s (ps_rI (fun v1 s1 =>
    (v1 = 0 →
      ps_At (d + 1) 209 30 [(0, .ref 1131), (1, .int x1), (2, .int x2), (4, .int 0)] [] s1 Q) ∧
    (v1 ≠ 0 →
      ps_Cl d 212 [.ref 1131, .int x1] s1 (ps_rI (fun v2 s2 =>
        (v2 = 0 →
          ps_At (d + 1) 209 30 [(0, .ref 1131), (1, .int x1), (2, .int x2), (4, .int 0)] [] s2 Q) ∧
        (v2 ≠ 0 →
          ps_At (d + 1) 209 30 [(0, .ref 1131), (1, .int x1), (2, .int x2), (4, .int 1)] [] s2 Q))))))) : ps_At (d + 1) 209 92 [(0, .ref 1131), (1, .int x1), (2, .int x2)] [] s Q :=
  ps_wp_at (stops := [(30, [0, 1, 2, 4]), (92, [0, 1, 2])]) (n := 19) h rfl

theorem ms_209_92 {x : Nat → Nat → Nat} {t : Int32} {d : Nat} {s0 : ps_S} {σ : mSig} {b : Bool} {x1 : Int32} {x2 : Int32} {x3 : Int32} {Q : Option Value → ps_S → Prop} (k : ∀ (s' : ps_S), mJ x t s' → kp [1134, 1143, 1144, 1145, 1146, 1147, 1148] [5, 6, 7, 8, 9, 10, 11, 23, 29, 30, 31, 32] s0 s' → ((ps_i s' 1131 8).toInt ≤ (ps_i s' 1131 4).toInt) → (1 ≤ (ps_i s0 1131 5).toInt → 1 ≤ (ps_i s' 1131 5).toInt) → (∀ i : Nat, (i : Int) < x1.toInt ∨ x1.toInt + 41 ≤ (i : Int) → ps_a s' 1134 i = ps_a s0 1134 i) → (1 ≤ (ps_i s' 1131 5).toInt ∨ ∃ l2, Rw (ps_a s' 1134) x1.toInt l2 ∧ wf σ 5 l2 [(b, 0)] ∧ (x3.toInt ≠ 0 → ∀ p, p ∈ l2 → p < 60)) → Q none s') (n30 : Nat) (KH30 : ∀ (x4 : Int32) (s : ps_S), (mJ x t s) → (kp [1134, 1143, 1144, 1145, 1146, 1147, 1148] [5, 6, 7, 8, 9, 10, 11, 23, 29, 30, 31, 32] s0 s) → (Sg (ps_a s 1135) (ps_a s 1136) (ps_a s 1138) (ps_a s 1139) (ps_i s 1131 22).toInt σ) → (∀ i : Nat, (i : Int) < x1.toInt ∨ x1.toInt + 41 ≤ (i : Int) → ps_a s 1134 i = ps_a s0 1134 i) → ((ps_i s 1131 8).toInt ≤ (ps_i s 1131 4).toInt) → ((ps_i s 1131 32).toInt = x3.toInt) → ((x2.toInt ≠ 0 ∧ b = true) ∨ (x2.toInt = 0 ∧ b = false)) → (x4.toInt = 0 ∨ x4.toInt = 1) → (1 ≤ (ps_i s 1131 5).toInt ∨ ((ps_i s 1131 29).toInt ≤ 13 ∧ 0 ≤ (ps_i s 1131 30).toInt ∧ (ps_i s 1131 30).toInt ≤ 5 ∧ (ps_i s 1131 31).toInt ≤ 40)) → (1 ≤ (ps_i s 1131 5).toInt ∨ (x4.toInt = 0 ∧ ∃ l2, Rw (ps_a s 1134) x1.toInt l2 ∧ wf σ 5 l2 [(b, 0)] ∧ ((ps_i s 1131 32).toInt ≠ 0 → ∀ p, p ∈ l2 → p < 60)) ∨ (x4.toInt ≠ 0 ∧ ∃ l2 b0, Rw (ps_a s 1134) x1.toInt l2 ∧ RH σ (ps_a s 1144) (ps_a s 1145) (ps_a s 1146) (ps_a s 1147) (ps_i s 1131 29).toInt (ps_i s 1131 30).toInt (ps_i s 1131 31).toInt (ps_i s 1131 32).toInt l2 b b0 ∧ ((ps_i s 1131 29).toInt = 0 → b0 = b) ∧ (0 < (ps_i s 1131 29).toInt → b0 = decide (ps_a s 1145 ((ps_i s 1131 29).toInt - 1).toNat = 0)))) → (1 ≤ (ps_i s0 1131 5).toInt → 1 ≤ (ps_i s 1131 5).toInt) → (2 * (42 - (ps_i s 1131 31).toInt) + 6 * x4.toInt ≤ (n30 : Int) - 1) → ps_At (d + 5) 209 30 [(0, .ref 1131), (1, .int x1), (2, .int x2), (4, .int x4)] [] s Q) (s : ps_S) (J : mJ x t s) (K : kp [1134, 1143, 1144, 1145, 1146, 1147, 1148] [5, 6, 7, 8, 9, 10, 11, 23, 29, 30, 31, 32] s0 s) (hS2 : Sg (ps_a s 1135) (ps_a s 1136) (ps_a s 1138) (ps_a s 1139) (ps_i s 1131 22).toInt σ) (hO : ∀ i : Nat, (i : Int) < x1.toInt ∨ x1.toInt + 41 ≤ (i : Int) → ps_a s 1134 i = ps_a s0 1134 i) (i2 : (ps_i s 1131 8).toInt ≤ (ps_i s 1131 4).toInt) (i3 : (ps_i s 1131 32).toInt = x3.toInt) (i4 : (x2.toInt ≠ 0 ∧ b = true) ∨ (x2.toInt = 0 ∧ b = false)) (i5 : 1 ≤ (ps_i s 1131 5).toInt ∨ ((ps_i s 1131 29).toInt ≤ 13 ∧ 0 ≤ (ps_i s 1131 30).toInt ∧ (ps_i s 1131 30).toInt ≤ 5 ∧ (ps_i s 1131 31).toInt ≤ 40)) (i6 : 1 ≤ (ps_i s 1131 5).toInt ∨ ∃ l2, Rw (ps_a s 1134) x1.toInt l2 ∧ RQ σ (ps_a s 1144) (ps_a s 1145) (ps_a s 1146) (ps_a s 1147) (ps_i s 1131 29).toInt (ps_i s 1131 30).toInt (ps_i s 1131 31).toInt (ps_i s 1131 32).toInt l2 b) (i7 : 1 ≤ (ps_i s0 1131 5).toInt → 1 ≤ (ps_i s 1131 5).toInt) (hm30 : 2 * (42 - (ps_i s 1131 31).toInt) + 7 - (ps_i s 1131 5).toInt ≤ (n30 : Int)) : ps_At (d + 5) 209 92 [(0, .ref 1131), (1, .int x1), (2, .int x2)] [] s Q := by
  have r1 := mf_8 J
  have r2 := mf_4 J
  have r3 := mf_5 J
  have r4 := mf_29 J
  have r5 := mf_31 J
  refine pg_209_92 (d := d + 4) ?_
  refine ms_192 J  (fun v6 p6_0 b6 => ?_)
  have p6_0' : (v6.toInt = 0 ∧ 1 ≤ (ps_i s 1131 5).toInt) ∨ (v6.toInt = 1 ∧ (ps_i s 1131 5).toInt = 0) := p6_0
  refine And.intro (fun h7 => ?_) (fun h7 => ?_)
  · have f8 : v6.toInt = (0 : Int) := xeq h7
    exact KH30 (0) _ J K hS2 ((by first | exact fun i hi => (ho i hi).trans (hO i hi) | exact hO)) (show (ps_i s 1131 8).toInt ≤ (ps_i s 1131 4).toInt from by omega) (show (ps_i s 1131 32).toInt = x3.toInt from by omega) (i4) (show (0 : Int) = 0 ∨ (0 : Int) = 1 from by omega) (show 1 ≤ (ps_i s 1131 5).toInt ∨ ((ps_i s 1131 29).toInt ≤ 13 ∧ 0 ≤ (ps_i s 1131 30).toInt ∧ (ps_i s 1131 30).toInt ≤ 5 ∧ (ps_i s 1131 31).toInt ≤ 40) from by omega) ((by first | exact Or.inl (show 1 ≤ (ps_i s 1131 5).toInt from by omega) | (rcases hv with z | z <;> first | exact Or.inr (Or.inl ⟨by decide, z.2⟩) | exact Or.inr (Or.inr ⟨by decide, z.2⟩) | (have q := z.1; exfalso; omega)))) (show 1 ≤ (ps_i s0 1131 5).toInt → 1 ≤ (ps_i s 1131 5).toInt from by omega) (show 2 * (42 - (ps_i s 1131 31).toInt) + 6 * (0 : Int) ≤ (n30 : Int) - 1 from by omega)
  · have f9 : v6.toInt ≠ (0 : Int) := xne h7
    have hE : ∃ l2, Rw (ps_a s 1134) x1.toInt l2 ∧ RQ σ (ps_a s 1144) (ps_a s 1145) (ps_a s 1146) (ps_a s 1147) (ps_i s 1131 29).toInt (ps_i s 1131 30).toInt (ps_i s 1131 31).toInt (ps_i s 1131 32).toInt l2 b := i6.resolve_left (by omega)
    refine ms_212 J hE (show (ps_i s 1131 29).toInt ≤ 13 from by omega) (show 0 ≤ (ps_i s 1131 30).toInt from by omega) (show (ps_i s 1131 30).toInt ≤ 5 from by omega) (show (ps_i s 1131 31).toInt ≤ 40 from by omega) (fun v10 s10 J10 K10 p10_0 p10_1 p10_2 p10_3 p10_4 b10 => ?_)
    have K11 := kpt K K10 rfl rfl
    have hS2 : Sg (ps_a s10 1135) (ps_a s10 1136) (ps_a s10 1138) (ps_a s10 1139) (ps_i s10 1131 22).toInt σ := by rw [show ps_a s10 1135 = ps_a s 1135 from (K10.2 1135 rfl).1, show ps_a s10 1136 = ps_a s 1136 from (K10.2 1136 rfl).1, show ps_a s10 1138 = ps_a s 1138 from (K10.2 1138 rfl).1, show ps_a s10 1139 = ps_a s 1139 from (K10.2 1139 rfl).1, show ps_i s10 1131 22 = ps_i s 1131 22 from kp_i K10 22 rfl]; exact hS2
    have p10_0' : (ps_i s10 1131 29).toInt ≤ 13 := p10_0
    have r12 := mf_29 J10
    have p10_1' : 0 ≤ (ps_i s10 1131 30).toInt := p10_1
    have p10_2' : (ps_i s10 1131 30).toInt ≤ 5 := p10_2
    have hv : _ := p10_3
    have ho : _ := p10_4
    refine And.intro (fun h13 => ?_) (fun h13 => ?_)
    · have f14 : v10.toInt = (0 : Int) := xeq h13
      have r15 := mf_8 J10
      have u16 : (ps_i s10 1131 8).toInt = (ps_i s 1131 8).toInt := xeq (kp_i K10 8 rfl)
      have r17 := mf_4 J10
      have u18 : (ps_i s10 1131 4).toInt = (ps_i s 1131 4).toInt := xeq (kp_i K10 4 rfl)
      have u19 : (ps_i s10 1131 32).toInt = (ps_i s 1131 32).toInt := xeq (kp_i K10 32 rfl)
      have r20 := mf_5 J10
      have u21 : (ps_i s10 1131 5).toInt = (ps_i s 1131 5).toInt := xeq (kp_i K10 5 rfl)
      have r22 := mf_31 J10
      have u23 : (ps_i s10 1131 31).toInt = (ps_i s 1131 31).toInt := xeq (kp_i K10 31 rfl)
      exact KH30 (0) _ J10 K11 hS2 ((by first | exact fun i hi => (ho i hi).trans (hO i hi) | exact hO)) (show (ps_i s10 1131 8).toInt ≤ (ps_i s10 1131 4).toInt from by omega) (show (ps_i s10 1131 32).toInt = x3.toInt from by omega) (i4) (show (0 : Int) = 0 ∨ (0 : Int) = 1 from by omega) (show 1 ≤ (ps_i s10 1131 5).toInt ∨ ((ps_i s10 1131 29).toInt ≤ 13 ∧ 0 ≤ (ps_i s10 1131 30).toInt ∧ (ps_i s10 1131 30).toInt ≤ 5 ∧ (ps_i s10 1131 31).toInt ≤ 40) from by omega) ((by first | exact Or.inl (show 1 ≤ (ps_i s10 1131 5).toInt from by omega) | (rcases hv with z | z <;> first | exact Or.inr (Or.inl ⟨by decide, z.2⟩) | exact Or.inr (Or.inr ⟨by decide, z.2⟩) | (have q := z.1; exfalso; omega)))) (show 1 ≤ (ps_i s0 1131 5).toInt → 1 ≤ (ps_i s10 1131 5).toInt from by omega) (show 2 * (42 - (ps_i s10 1131 31).toInt) + 6 * (0 : Int) ≤ (n30 : Int) - 1 from by omega)
    · have f24 : v10.toInt ≠ (0 : Int) := xne h13
      have r25 := mf_8 J10
      have u26 : (ps_i s10 1131 8).toInt = (ps_i s 1131 8).toInt := xeq (kp_i K10 8 rfl)
      have r27 := mf_4 J10
      have u28 : (ps_i s10 1131 4).toInt = (ps_i s 1131 4).toInt := xeq (kp_i K10 4 rfl)
      have u29 : (ps_i s10 1131 32).toInt = (ps_i s 1131 32).toInt := xeq (kp_i K10 32 rfl)
      have r30 := mf_5 J10
      have u31 : (ps_i s10 1131 5).toInt = (ps_i s 1131 5).toInt := xeq (kp_i K10 5 rfl)
      have r32 := mf_31 J10
      have u33 : (ps_i s10 1131 31).toInt = (ps_i s 1131 31).toInt := xeq (kp_i K10 31 rfl)
      exact KH30 (1) _ J10 K11 hS2 ((by first | exact fun i hi => (ho i hi).trans (hO i hi) | exact hO)) (show (ps_i s10 1131 8).toInt ≤ (ps_i s10 1131 4).toInt from by omega) (show (ps_i s10 1131 32).toInt = x3.toInt from by omega) (i4) (show (1 : Int) = 0 ∨ (1 : Int) = 1 from by omega) (show 1 ≤ (ps_i s10 1131 5).toInt ∨ ((ps_i s10 1131 29).toInt ≤ 13 ∧ 0 ≤ (ps_i s10 1131 30).toInt ∧ (ps_i s10 1131 30).toInt ≤ 5 ∧ (ps_i s10 1131 31).toInt ≤ 40) from by omega) ((by first | exact Or.inl (show 1 ≤ (ps_i s10 1131 5).toInt from by omega) | (rcases hv with z | z <;> first | exact Or.inr (Or.inl ⟨by decide, z.2⟩) | exact Or.inr (Or.inr ⟨by decide, z.2⟩) | (have q := z.1; exfalso; omega)))) (show 1 ≤ (ps_i s0 1131 5).toInt → 1 ≤ (ps_i s10 1131 5).toInt from by omega) (show 2 * (42 - (ps_i s10 1131 31).toInt) + 6 * (1 : Int) ≤ (n30 : Int) - 1 from by omega)

theorem ms_209_30 {x : Nat → Nat → Nat} {t : Int32} {d : Nat} {s0 : ps_S} {σ : mSig} {b : Bool} {x1 : Int32} {x2 : Int32} {x3 : Int32} {Q : Option Value → ps_S → Prop} (k : ∀ (s' : ps_S), mJ x t s' → kp [1134, 1143, 1144, 1145, 1146, 1147, 1148] [5, 6, 7, 8, 9, 10, 11, 23, 29, 30, 31, 32] s0 s' → ((ps_i s' 1131 8).toInt ≤ (ps_i s' 1131 4).toInt) → (1 ≤ (ps_i s0 1131 5).toInt → 1 ≤ (ps_i s' 1131 5).toInt) → (∀ i : Nat, (i : Int) < x1.toInt ∨ x1.toInt + 41 ≤ (i : Int) → ps_a s' 1134 i = ps_a s0 1134 i) → (1 ≤ (ps_i s' 1131 5).toInt ∨ ∃ l2, Rw (ps_a s' 1134) x1.toInt l2 ∧ wf σ 5 l2 [(b, 0)] ∧ (x3.toInt ≠ 0 → ∀ p, p ∈ l2 → p < 60)) → Q none s') : ∀ (n : Nat) (x4 : Int32) (s : ps_S), (mJ x t s) → (kp [1134, 1143, 1144, 1145, 1146, 1147, 1148] [5, 6, 7, 8, 9, 10, 11, 23, 29, 30, 31, 32] s0 s) → (Sg (ps_a s 1135) (ps_a s 1136) (ps_a s 1138) (ps_a s 1139) (ps_i s 1131 22).toInt σ) → (∀ i : Nat, (i : Int) < x1.toInt ∨ x1.toInt + 41 ≤ (i : Int) → ps_a s 1134 i = ps_a s0 1134 i) → ((ps_i s 1131 8).toInt ≤ (ps_i s 1131 4).toInt) → ((ps_i s 1131 32).toInt = x3.toInt) → ((x2.toInt ≠ 0 ∧ b = true) ∨ (x2.toInt = 0 ∧ b = false)) → (x4.toInt = 0 ∨ x4.toInt = 1) → (1 ≤ (ps_i s 1131 5).toInt ∨ ((ps_i s 1131 29).toInt ≤ 13 ∧ 0 ≤ (ps_i s 1131 30).toInt ∧ (ps_i s 1131 30).toInt ≤ 5 ∧ (ps_i s 1131 31).toInt ≤ 40)) → (1 ≤ (ps_i s 1131 5).toInt ∨ (x4.toInt = 0 ∧ ∃ l2, Rw (ps_a s 1134) x1.toInt l2 ∧ wf σ 5 l2 [(b, 0)] ∧ ((ps_i s 1131 32).toInt ≠ 0 → ∀ p, p ∈ l2 → p < 60)) ∨ (x4.toInt ≠ 0 ∧ ∃ l2 b0, Rw (ps_a s 1134) x1.toInt l2 ∧ RH σ (ps_a s 1144) (ps_a s 1145) (ps_a s 1146) (ps_a s 1147) (ps_i s 1131 29).toInt (ps_i s 1131 30).toInt (ps_i s 1131 31).toInt (ps_i s 1131 32).toInt l2 b b0 ∧ ((ps_i s 1131 29).toInt = 0 → b0 = b) ∧ (0 < (ps_i s 1131 29).toInt → b0 = decide (ps_a s 1145 ((ps_i s 1131 29).toInt - 1).toNat = 0)))) → (1 ≤ (ps_i s0 1131 5).toInt → 1 ≤ (ps_i s 1131 5).toInt) → 2 * (42 - (ps_i s 1131 31).toInt) + 6 * x4.toInt ≤ (n : Int) → ps_At (d + 5) 209 30 [(0, .ref 1131), (1, .int x1), (2, .int x2), (4, .int x4)] [] s Q := by
  refine xstr (fun n ih => ?_)
  intro x4 s J K hS2 hO i2 i3 i4 i5 i6 i7 i8 hm
  have r1 := mf_8 J
  have r2 := mf_4 J
  have r3 := mf_5 J
  have r4 := mf_29 J
  have r5 := mf_31 J
  refine pg_209_30 (d := d + 4) ?_
  refine ms_192 J  (fun v6 p6_0 b6 => ?_)
  have p6_0' : (v6.toInt = 0 ∧ 1 ≤ (ps_i s 1131 5).toInt) ∨ (v6.toInt = 1 ∧ (ps_i s 1131 5).toInt = 0) := p6_0
  refine And.intro (fun h7 => ?_) (fun h7 => ?_)
  · have f8 : v6.toInt = (0 : Int) := xeq h7
    exact k _ J K (show (ps_i s 1131 8).toInt ≤ (ps_i s 1131 4).toInt from by omega) (show 1 ≤ (ps_i s0 1131 5).toInt → 1 ≤ (ps_i s 1131 5).toInt from by omega) (hO) ((by first | exact Or.inl (show 1 ≤ (ps_i s 1131 5).toInt from by omega) | (rcases i7 with z | ⟨z1, z2⟩ | ⟨z1, z2⟩; exact Or.inl z; exact Or.inr (by obtain ⟨l2, g1, g2, g3⟩ := z2; exact ⟨l2, g1, g2, fun q => g3 (by omega)⟩); exfalso; omega)))
  · have f9 : v6.toInt ≠ (0 : Int) := xne h7
    have q5 : (ps_i s 1131 5).toInt = 0 := by omega
    clear p6_0' p6_0
    have q8 : ¬ 1 ≤ (ps_i s0 1131 5).toInt := fun z => by have z2 := i8 z; omega
    refine And.intro (fun h10 => ?_) (fun h10 => ?_)
    · have f11 : x4.toInt = (0 : Int) := xeq h10
      exact k _ J K (show (ps_i s 1131 8).toInt ≤ (ps_i s 1131 4).toInt from by omega) (show 1 ≤ (ps_i s0 1131 5).toInt → 1 ≤ (ps_i s 1131 5).toInt from by omega) (hO) ((by first | exact Or.inl (show 1 ≤ (ps_i s 1131 5).toInt from by omega) | (rcases i7 with z | ⟨z1, z2⟩ | ⟨z1, z2⟩; exact Or.inl z; exact Or.inr (by obtain ⟨l2, g1, g2, g3⟩ := z2; exact ⟨l2, g1, g2, fun q => g3 (by omega)⟩); exfalso; omega)))
    · have f12 : x4.toInt ≠ (0 : Int) := xne h10
      obtain ⟨-, l, b0, hR, hH, hb1, hb2⟩ := (i7.resolve_left (by omega)).resolve_left (fun z => absurd z.1 (by omega))
      have q4 : x4.toInt = 1 := by omega
      have q6 := i6.resolve_left (by omega)
      clear i5 i6 i8
      refine And.intro (fun h13 => ?_) (fun h13 => ?_)
      · have f14 : (ps_i s 1131 29).toInt ≠ (0 : Int) := xne h13
        have a15 : ((ps_i s 1131 29) - 1).toInt = (ps_i s 1131 29).toInt - (1 : Int) := xIs (show -2147483648 ≤ (ps_i s 1131 29).toInt - (1 : Int) from by omega) (show (ps_i s 1131 29).toInt - (1 : Int) < 2147483648 from by omega)
        have e6 : Int32.toNatClampNeg ((ps_i s 1131 29) - 1) = ((ps_i s 1131 29).toInt - 1).toNat := nx (by omega)
        refine ps_nd_i (show pm_in ((ps_i s 1131 29) - 1) 16 = true from xgi (show 0 ≤ ((ps_i s 1131 29) - 1).toInt from by omega) (show ((ps_i s 1131 29) - 1).toInt < 16 from by omega)) ?_
        refine And.intro (fun h16 => ?_) (fun h16 => ?_)
        · have f17 : (ps_a s 1145 (Int32.toNatClampNeg ((ps_i s 1131 29) - 1))).toInt ≠ (0 : Int) := xne h16
          refine And.intro (fun h18 => ?_) (fun h18 => ?_)
          · have hb0 : b0 = false := by first | (have z := hb1 (by omega); rw [z]; rcases i4 with q | q; exfalso; omega; exact q.2) | (have z := hb2 (by omega); exact z.trans (decide_eq_false (fun q => by rw [← e6] at q; have q2 := congrArg Int32.toInt q; rw [Int32.toInt_zero] at q2; omega)))
            subst hb0
            have hH0 := hH
            clear hb1 hb2 i7
            try clear e6
            refine ms_215 J hS2 hR hH0 (show (ps_i s 1131 8).toInt ≤ (ps_i s 1131 4).toInt from by omega) (show (ps_i s 1131 5).toInt = 0 from by omega) (show (ps_i s 1131 29).toInt ≤ 13 from by omega) (show 0 ≤ (ps_i s 1131 30).toInt from by omega) (show (ps_i s 1131 30).toInt ≤ 5 from by omega) (show (ps_i s 1131 31).toInt ≤ 40 from by omega) (fun s19 J19 K19 p19_0 p19_1 p19_2 p19_3 p19_4 => ?_)
            have K20 := kpt K K19 rfl rfl
            have hS2 : Sg (ps_a s19 1135) (ps_a s19 1136) (ps_a s19 1138) (ps_a s19 1139) (ps_i s19 1131 22).toInt σ := by rw [show ps_a s19 1135 = ps_a s 1135 from (K19.2 1135 rfl).1, show ps_a s19 1136 = ps_a s 1136 from (K19.2 1136 rfl).1, show ps_a s19 1138 = ps_a s 1138 from (K19.2 1138 rfl).1, show ps_a s19 1139 = ps_a s 1139 from (K19.2 1139 rfl).1, show ps_i s19 1131 22 = ps_i s 1131 22 from kp_i K19 22 rfl]; exact hS2
            have p19_0' : (ps_i s19 1131 8).toInt ≤ (ps_i s19 1131 4).toInt := p19_0
            have r21 := mf_8 J19
            have r22 := mf_4 J19
            have u23 : (ps_i s19 1131 4).toInt = (ps_i s 1131 4).toInt := xeq (kp_i K19 4 rfl)
            have p19_1' : 1 ≤ (ps_i s19 1131 5).toInt ∨ ((ps_i s19 1131 29).toInt ≤ 13 ∧ 0 ≤ (ps_i s19 1131 30).toInt ∧ (ps_i s19 1131 30).toInt ≤ 5 ∧ (ps_i s19 1131 31).toInt ≤ 40 ∧ (ps_i s 1131 31).toInt < (ps_i s19 1131 31).toInt) := p19_1
            have r24 := mf_5 J19
            have r25 := mf_29 J19
            have u26 : (ps_i s19 1131 30).toInt = (ps_i s 1131 30).toInt := xeq (kp_i K19 30 rfl)
            have r27 := mf_31 J19
            have p19_2' : (ps_i s 1131 31).toInt ≤ (ps_i s19 1131 31).toInt := p19_2
            have hq : _ := p19_3
            have ho : _ := p19_4
            have u28 : (ps_i s19 1131 32).toInt = (ps_i s 1131 32).toInt := xeq (kp_i K19 32 rfl)
            exact ms_209_92 (x1 := x1) (x2 := x2) (x3 := x3) (σ := σ) (b := b) k n (fun x4z sz Jz Kz i0z i1z i2z i3z i4z i5z i6z i7z i8z hm => ih (n - 1) (show n - 1 < n from by omega) x4z sz Jz Kz i0z i1z i2z i3z i4z i5z i6z i7z i8z (show _ ≤ ((n - 1 : Nat) : Int) from by omega))  _ J19 K20 hS2 ((fun i hi => (ho i hi).trans (hO i hi))) (show (ps_i s19 1131 8).toInt ≤ (ps_i s19 1131 4).toInt from by omega) (show (ps_i s19 1131 32).toInt = x3.toInt from by omega) (i4) (p19_1.imp_right (fun z => ⟨z.1, z.2.1, z.2.2.1, z.2.2.2.1⟩)) (hq) (show 1 ≤ (ps_i s0 1131 5).toInt → 1 ≤ (ps_i s19 1131 5).toInt from by omega) (show 2 * (42 - (ps_i s19 1131 31).toInt) + 7 - (ps_i s19 1131 5).toInt ≤ ((n : Nat) : Int) from by omega)
          · exact absurd (show (0 : Int32) ≠ (0 : Int32) from h18) (by decide)
        · have f29 : (ps_a s 1145 (Int32.toNatClampNeg ((ps_i s 1131 29) - 1))).toInt = (0 : Int) := xeq h16
          refine And.intro (fun h30 => ?_) (fun h30 => ?_)
          · exact absurd (show (1 : Int32) = (0 : Int32) from h30) (by decide)
          · have f31 : (1 : Int) ≠ (0 : Int) := xne h30
            have hb0 : b0 = true := by first | (have z := hb1 (by omega); rw [z]; rcases i4 with q | q; exact q.2; exfalso; omega) | (have z := hb2 (by omega); exact z.trans (decide_eq_true (by rw [← e6]; exact x0 (by omega))))
            subst hb0
            have hH0 := hH
            clear hb1 hb2 i7
            try clear e6
            refine ms_214 J hS2 hR hH0 (show (ps_i s 1131 8).toInt ≤ (ps_i s 1131 4).toInt from by omega) (show (ps_i s 1131 5).toInt = 0 from by omega) (show (ps_i s 1131 29).toInt ≤ 13 from by omega) (show 0 ≤ (ps_i s 1131 30).toInt from by omega) (show (ps_i s 1131 30).toInt ≤ 5 from by omega) (show (ps_i s 1131 31).toInt ≤ 40 from by omega) (fun s32 J32 K32 p32_0 p32_1 p32_2 p32_3 p32_4 => ?_)
            have K33 := kpt K K32 rfl rfl
            have hS2 : Sg (ps_a s32 1135) (ps_a s32 1136) (ps_a s32 1138) (ps_a s32 1139) (ps_i s32 1131 22).toInt σ := by rw [show ps_a s32 1135 = ps_a s 1135 from (K32.2 1135 rfl).1, show ps_a s32 1136 = ps_a s 1136 from (K32.2 1136 rfl).1, show ps_a s32 1138 = ps_a s 1138 from (K32.2 1138 rfl).1, show ps_a s32 1139 = ps_a s 1139 from (K32.2 1139 rfl).1, show ps_i s32 1131 22 = ps_i s 1131 22 from kp_i K32 22 rfl]; exact hS2
            have p32_0' : (ps_i s32 1131 8).toInt ≤ (ps_i s32 1131 4).toInt := p32_0
            have r34 := mf_8 J32
            have r35 := mf_4 J32
            have u36 : (ps_i s32 1131 4).toInt = (ps_i s 1131 4).toInt := xeq (kp_i K32 4 rfl)
            have p32_1' : 1 ≤ (ps_i s32 1131 5).toInt ∨ ((ps_i s32 1131 29).toInt ≤ 13 ∧ 0 ≤ (ps_i s32 1131 30).toInt ∧ (ps_i s32 1131 30).toInt ≤ 5 ∧ (ps_i s32 1131 31).toInt ≤ 40 ∧ (ps_i s 1131 31).toInt < (ps_i s32 1131 31).toInt) := p32_1
            have r37 := mf_5 J32
            have r38 := mf_29 J32
            have r39 := mf_31 J32
            have p32_2' : (ps_i s 1131 31).toInt ≤ (ps_i s32 1131 31).toInt := p32_2
            have hq : _ := p32_3
            have ho : _ := p32_4
            have u40 : (ps_i s32 1131 32).toInt = (ps_i s 1131 32).toInt := xeq (kp_i K32 32 rfl)
            exact ms_209_92 (x1 := x1) (x2 := x2) (x3 := x3) (σ := σ) (b := b) k n (fun x4z sz Jz Kz i0z i1z i2z i3z i4z i5z i6z i7z i8z hm => ih (n - 1) (show n - 1 < n from by omega) x4z sz Jz Kz i0z i1z i2z i3z i4z i5z i6z i7z i8z (show _ ≤ ((n - 1 : Nat) : Int) from by omega))  _ J32 K33 hS2 ((fun i hi => (ho i hi).trans (hO i hi))) (show (ps_i s32 1131 8).toInt ≤ (ps_i s32 1131 4).toInt from by omega) (show (ps_i s32 1131 32).toInt = x3.toInt from by omega) (i4) (p32_1.imp_right (fun z => ⟨z.1, z.2.1, z.2.2.1, z.2.2.2.1⟩)) (hq) (show 1 ≤ (ps_i s0 1131 5).toInt → 1 ≤ (ps_i s32 1131 5).toInt from by omega) (show 2 * (42 - (ps_i s32 1131 31).toInt) + 7 - (ps_i s32 1131 5).toInt ≤ ((n : Nat) : Int) from by omega)
      · have f41 : (ps_i s 1131 29).toInt = (0 : Int) := xeq h13
        refine And.intro (fun h42 => ?_) (fun h42 => ?_)
        · have f43 : x2.toInt = (0 : Int) := xeq h42
          have hb0 : b0 = false := by first | (have z := hb1 (by omega); rw [z]; rcases i4 with q | q; exfalso; omega; exact q.2) | (have z := hb2 (by omega); exact z.trans (decide_eq_false (fun q => by rw [← e6] at q; have q2 := congrArg Int32.toInt q; rw [Int32.toInt_zero] at q2; omega)))
          subst hb0
          have hH0 := hH
          clear hb1 hb2 i7
          try clear e6
          refine ms_215 J hS2 hR hH0 (show (ps_i s 1131 8).toInt ≤ (ps_i s 1131 4).toInt from by omega) (show (ps_i s 1131 5).toInt = 0 from by omega) (show (ps_i s 1131 29).toInt ≤ 13 from by omega) (show 0 ≤ (ps_i s 1131 30).toInt from by omega) (show (ps_i s 1131 30).toInt ≤ 5 from by omega) (show (ps_i s 1131 31).toInt ≤ 40 from by omega) (fun s44 J44 K44 p44_0 p44_1 p44_2 p44_3 p44_4 => ?_)
          have K45 := kpt K K44 rfl rfl
          have hS2 : Sg (ps_a s44 1135) (ps_a s44 1136) (ps_a s44 1138) (ps_a s44 1139) (ps_i s44 1131 22).toInt σ := by rw [show ps_a s44 1135 = ps_a s 1135 from (K44.2 1135 rfl).1, show ps_a s44 1136 = ps_a s 1136 from (K44.2 1136 rfl).1, show ps_a s44 1138 = ps_a s 1138 from (K44.2 1138 rfl).1, show ps_a s44 1139 = ps_a s 1139 from (K44.2 1139 rfl).1, show ps_i s44 1131 22 = ps_i s 1131 22 from kp_i K44 22 rfl]; exact hS2
          have p44_0' : (ps_i s44 1131 8).toInt ≤ (ps_i s44 1131 4).toInt := p44_0
          have r46 := mf_8 J44
          have r47 := mf_4 J44
          have u48 : (ps_i s44 1131 4).toInt = (ps_i s 1131 4).toInt := xeq (kp_i K44 4 rfl)
          have p44_1' : 1 ≤ (ps_i s44 1131 5).toInt ∨ ((ps_i s44 1131 29).toInt ≤ 13 ∧ 0 ≤ (ps_i s44 1131 30).toInt ∧ (ps_i s44 1131 30).toInt ≤ 5 ∧ (ps_i s44 1131 31).toInt ≤ 40 ∧ (ps_i s 1131 31).toInt < (ps_i s44 1131 31).toInt) := p44_1
          have r49 := mf_5 J44
          have r50 := mf_29 J44
          have u51 : (ps_i s44 1131 30).toInt = (ps_i s 1131 30).toInt := xeq (kp_i K44 30 rfl)
          have r52 := mf_31 J44
          have p44_2' : (ps_i s 1131 31).toInt ≤ (ps_i s44 1131 31).toInt := p44_2
          have hq : _ := p44_3
          have ho : _ := p44_4
          have u53 : (ps_i s44 1131 32).toInt = (ps_i s 1131 32).toInt := xeq (kp_i K44 32 rfl)
          exact ms_209_92 (x1 := x1) (x2 := x2) (x3 := x3) (σ := σ) (b := b) k n (fun x4z sz Jz Kz i0z i1z i2z i3z i4z i5z i6z i7z i8z hm => ih (n - 1) (show n - 1 < n from by omega) x4z sz Jz Kz i0z i1z i2z i3z i4z i5z i6z i7z i8z (show _ ≤ ((n - 1 : Nat) : Int) from by omega))  _ J44 K45 hS2 ((fun i hi => (ho i hi).trans (hO i hi))) (show (ps_i s44 1131 8).toInt ≤ (ps_i s44 1131 4).toInt from by omega) (show (ps_i s44 1131 32).toInt = x3.toInt from by omega) (i4) (p44_1.imp_right (fun z => ⟨z.1, z.2.1, z.2.2.1, z.2.2.2.1⟩)) (hq) (show 1 ≤ (ps_i s0 1131 5).toInt → 1 ≤ (ps_i s44 1131 5).toInt from by omega) (show 2 * (42 - (ps_i s44 1131 31).toInt) + 7 - (ps_i s44 1131 5).toInt ≤ ((n : Nat) : Int) from by omega)
        · have f54 : x2.toInt ≠ (0 : Int) := xne h42
          have hb0 : b0 = true := by first | (have z := hb1 (by omega); rw [z]; rcases i4 with q | q; exact q.2; exfalso; omega) | (have z := hb2 (by omega); exact z.trans (decide_eq_true (by rw [← e6]; exact x0 (by omega))))
          subst hb0
          have hH0 := hH
          clear hb1 hb2 i7
          try clear e6
          refine ms_214 J hS2 hR hH0 (show (ps_i s 1131 8).toInt ≤ (ps_i s 1131 4).toInt from by omega) (show (ps_i s 1131 5).toInt = 0 from by omega) (show (ps_i s 1131 29).toInt ≤ 13 from by omega) (show 0 ≤ (ps_i s 1131 30).toInt from by omega) (show (ps_i s 1131 30).toInt ≤ 5 from by omega) (show (ps_i s 1131 31).toInt ≤ 40 from by omega) (fun s55 J55 K55 p55_0 p55_1 p55_2 p55_3 p55_4 => ?_)
          have K56 := kpt K K55 rfl rfl
          have hS2 : Sg (ps_a s55 1135) (ps_a s55 1136) (ps_a s55 1138) (ps_a s55 1139) (ps_i s55 1131 22).toInt σ := by rw [show ps_a s55 1135 = ps_a s 1135 from (K55.2 1135 rfl).1, show ps_a s55 1136 = ps_a s 1136 from (K55.2 1136 rfl).1, show ps_a s55 1138 = ps_a s 1138 from (K55.2 1138 rfl).1, show ps_a s55 1139 = ps_a s 1139 from (K55.2 1139 rfl).1, show ps_i s55 1131 22 = ps_i s 1131 22 from kp_i K55 22 rfl]; exact hS2
          have p55_0' : (ps_i s55 1131 8).toInt ≤ (ps_i s55 1131 4).toInt := p55_0
          have r57 := mf_8 J55
          have r58 := mf_4 J55
          have u59 : (ps_i s55 1131 4).toInt = (ps_i s 1131 4).toInt := xeq (kp_i K55 4 rfl)
          have p55_1' : 1 ≤ (ps_i s55 1131 5).toInt ∨ ((ps_i s55 1131 29).toInt ≤ 13 ∧ 0 ≤ (ps_i s55 1131 30).toInt ∧ (ps_i s55 1131 30).toInt ≤ 5 ∧ (ps_i s55 1131 31).toInt ≤ 40 ∧ (ps_i s 1131 31).toInt < (ps_i s55 1131 31).toInt) := p55_1
          have r60 := mf_5 J55
          have r61 := mf_29 J55
          have r62 := mf_31 J55
          have p55_2' : (ps_i s 1131 31).toInt ≤ (ps_i s55 1131 31).toInt := p55_2
          have hq : _ := p55_3
          have ho : _ := p55_4
          have u63 : (ps_i s55 1131 32).toInt = (ps_i s 1131 32).toInt := xeq (kp_i K55 32 rfl)
          exact ms_209_92 (x1 := x1) (x2 := x2) (x3 := x3) (σ := σ) (b := b) k n (fun x4z sz Jz Kz i0z i1z i2z i3z i4z i5z i6z i7z i8z hm => ih (n - 1) (show n - 1 < n from by omega) x4z sz Jz Kz i0z i1z i2z i3z i4z i5z i6z i7z i8z (show _ ≤ ((n - 1 : Nat) : Int) from by omega))  _ J55 K56 hS2 ((fun i hi => (ho i hi).trans (hO i hi))) (show (ps_i s55 1131 8).toInt ≤ (ps_i s55 1131 4).toInt from by omega) (show (ps_i s55 1131 32).toInt = x3.toInt from by omega) (i4) (p55_1.imp_right (fun z => ⟨z.1, z.2.1, z.2.2.1, z.2.2.2.1⟩)) (hq) (show 1 ≤ (ps_i s0 1131 5).toInt → 1 ≤ (ps_i s55 1131 5).toInt from by omega) (show 2 * (42 - (ps_i s55 1131 31).toInt) + 7 - (ps_i s55 1131 5).toInt ≤ ((n : Nat) : Int) from by omega)

theorem ms_209 {x : Nat → Nat → Nat} {t : Int32} {s : ps_S} {d : Nat} {x1 : Int32} {x2 : Int32} {x3 : Int32} {f : ps_S → Prop} (J : mJ x t s) {σ : mSig} {b : Bool} (hS2 : Sg (ps_a s 1135) (ps_a s 1136) (ps_a s 1138) (ps_a s 1139) (ps_i s 1131 22).toInt σ) (q1 : x1.toInt % 41 = 0) (q2 : 0 ≤ x1.toInt) (q3 : x1.toInt < 27306) (q4 : (ps_i s 1131 8).toInt ≤ (ps_i s 1131 4).toInt) (q5 : (x2.toInt ≠ 0 ∧ b = true) ∨ (x2.toInt = 0 ∧ b = false)) (q6 : x3 &&& 1 = x3) (k : ∀ (s' : ps_S), mJ x t s' → kp [1134, 1143, 1144, 1145, 1146, 1147, 1148] [5, 6, 7, 8, 9, 10, 11, 23, 29, 30, 31, 32] s s' → ((ps_i s' 1131 8).toInt ≤ (ps_i s' 1131 4).toInt) → (1 ≤ (ps_i s 1131 5).toInt → 1 ≤ (ps_i s' 1131 5).toInt) → (∀ i : Nat, (i : Int) < x1.toInt ∨ x1.toInt + 41 ≤ (i : Int) → ps_a s' 1134 i = ps_a s 1134 i) → (1 ≤ (ps_i s' 1131 5).toInt ∨ ∃ l2, Rw (ps_a s' 1134) x1.toInt l2 ∧ wf σ 5 l2 [(b, 0)] ∧ (x3.toInt ≠ 0 → ∀ p, p ∈ l2 → p < 60)) → f s') : ps_Cl (d + 5) 209 [.ref 1131, .int x1, .int x2, .int x3] s (ps_rV f) := by
  have r1 := mf_8 J
  have r2 := mf_4 J
  have K : kp [1134, 1143, 1144, 1145, 1146, 1147, 1148] [5, 6, 7, 8, 9, 10, 11, 23, 29, 30, 31, 32] s s := kp_refl
  refine pg_209_0 (d := d + 4) ?_
  refine ps_nd_i (show pm_in x1 27400 = true from xgi (show 0 ≤ x1.toInt from by omega) (show x1.toInt < 27400 from by omega)) ?_
  have J3 := mw_p (i := x1) (v := (0 : Int32)) J (show x1.toInt % 41 = 0 → 0 ≤ (0 : Int) ∧ (0 : Int) ≤ 40 from by omega) (show 0 ≤ x1.toInt from by omega)
  have K4 := kpa' K (r := 1134) (i := (Int32.toNatClampNeg x1)) (v := (0 : Int32)) rfl
  have hR : Rw (ps_a (ps_ua s 1134 (Int32.toNatClampNeg x1) 0) 1134) x1.toInt ([]) := Rw_zero (by omega) (by omega) (by omega) (by rw [show ps_a (ps_ua s 1134 (Int32.toNatClampNeg x1) 0) 1134 x1.toInt.toNat = 0 from ua_eq]; rfl)
  have ex : Int32.toNatClampNeg x1 = x1.toInt.toNat := rfl
  have hO : ∀ i : Nat, (i : Int) < x1.toInt ∨ x1.toInt + 41 ≤ (i : Int) → ps_a (ps_ua s 1134 (Int32.toNatClampNeg x1) 0) 1134 i = ps_a s 1134 i := fun i hi => ua_ne (by omega)
  have J5 := mwi_29 (v := (0 : Int32)) J3 (show 0 ≤ (0 : Int) from by omega) (show (0 : Int) ≤ 16 from by omega)
  have K6 := kpi K4 (q := 29) (v := (0 : Int32)) rfl
  have J7 := mwi_n 30 (v := (0 : Int32)) J5 rfl
  have K8 := kpi K6 (q := 30) (v := (0 : Int32)) rfl
  have J9 := mwi_31 (v := (0 : Int32)) J7 (show 0 ≤ (0 : Int) from by omega) (show (0 : Int) ≤ 42 from by omega)
  have K10 := kpi K8 (q := 31) (v := (0 : Int32)) rfl
  refine ps_nd_i (decide_eq_true q6) ?_
  have J11 := mwi_n 32 (v := x3) J9 rfl
  have K12 := kpi K10 (q := 32) (v := x3) rfl
  have r13 := mf_5 J
  exact ms_209_30 (x1 := x1) (x2 := x2) (x3 := x3) (σ := σ) (b := b) k  (2 * (42 - (0 : Int)) + 6 * (1 : Int)).toNat (1) _ J11 K12 hS2 hO (show (ps_i s 1131 8).toInt ≤ (ps_i s 1131 4).toInt from by omega) (show x3.toInt = x3.toInt from by omega) (q5) (show (1 : Int) = 0 ∨ (1 : Int) = 1 from by omega) (show 1 ≤ (ps_i s 1131 5).toInt ∨ ((0 : Int) ≤ 13 ∧ 0 ≤ (0 : Int) ∧ (0 : Int) ≤ 5 ∧ (0 : Int) ≤ 40) from by omega) (Or.inr (Or.inr ⟨by decide, [], b, hR, RH_00 rfl rfl rfl, fun _ => rfl, fun z => absurd (show (0 : Int) < (0 : Int32).toInt from z) (by decide)⟩)) (show 1 ≤ (ps_i s 1131 5).toInt → 1 ≤ (ps_i s 1131 5).toInt from by omega) (show 2 * (42 - (0 : Int)) + 6 * (1 : Int) ≤ (((2 * (42 - (0 : Int)) + 6 * (1 : Int)).toNat : Nat) : Int) from by omega)
