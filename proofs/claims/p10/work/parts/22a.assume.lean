set_option maxRecDepth 100000
-- ProofBenchModel.assumeRow(II)V
theorem pg_248_0 {d : Nat} {x1 : Int32} {x2 : Int32} {s : ps_S} {Q : Option Value → ps_S → Prop} (h :
  ps_At (d + 1) 248 2 [(0, .ref 1131), (1, .int x1), (2, .int x2), (3, .int 0)] [] s Q) : ps_At (d + 1) 248 0 [(0, .ref 1131), (1, .int x1), (2, .int x2)] [] s Q :=
  ps_wp_at (stops := [(2, [0, 1, 2, 3]), (36, [0, 1, 2])]) (n := 4) h rfl

theorem pg_248_2 {d : Nat} {x1 : Int32} {x2 : Int32} {x3 : Int32} {s : ps_S} {Q : Option Value → ps_S → Prop} (h :
  ((ps_i s 1131 51) ≤ x3 →
    ps_At (d + 1) 248 36 [(0, .ref 1131), (1, .int x1), (2, .int x2)] [] s Q) ∧
  (x3 < (ps_i s 1131 51) →
    (12 ≤ x3 →
      ps_At (d + 1) 248 36 [(0, .ref 1131), (1, .int x1), (2, .int x2)] [] s Q) ∧
    (x3 < 12 →
      ps_Cl d 243 [.int x1, .int x3] s (ps_rI (fun v1 s1 =>
        ps_Cl d 222 [.ref 1131, .int v1, .int x2] s1 (ps_rI (fun v2 s2 =>
          (v2 = 0 →
            ps_At (d + 1) 248 2 [(0, .ref 1131), (1, .int x1), (2, .int x2), (3, .int (x3 + 1))] [] s2 Q) ∧
          (v2 ≠ 0 →
            Q none s2)))))))) : ps_At (d + 1) 248 2 [(0, .ref 1131), (1, .int x1), (2, .int x2), (3, .int x3)] [] s Q :=
  ps_wp_at (stops := [(2, [0, 1, 2, 3]), (36, [0, 1, 2])]) (n := 19) h rfl

theorem pg_248_36 {d : Nat} {x1 : Int32} {x2 : Int32} {s : ps_S} {Q : Option Value → ps_S → Prop} (h :
  (12 ≤ (ps_i s 1131 51) →
    Q none (ps_ui s 1131 51 ((ps_i s 1131 51) + 1))) ∧
  ((ps_i s 1131 51) < 12 →
    ps_Cl d 243 [.int x1, .int (ps_i s 1131 51)] s (ps_rI (fun v1 s1 =>
      ps_Cl d 224 [.ref 1131, .int x2, .int v1] s1 (ps_rV (fun s2 =>
        Q none (ps_ui s2 1131 51 ((ps_i s2 1131 51) + 1)))))))) : ps_At (d + 1) 248 36 [(0, .ref 1131), (1, .int x1), (2, .int x2)] [] s Q :=
  ps_wp_at (stops := [(2, [0, 1, 2, 3]), (36, [0, 1, 2])]) (n := 27) h rfl

theorem ms_248_36 {x : Nat → Nat → Nat} {t : Int32} {d : Nat} {s0 : ps_S} {σ : mSig} {x1 : Int32} {x2 : Int32} {Q : Option Value → ps_S → Prop} (k : ∀ (s' : ps_S), mJ x t s' → kp [1134] [51] s0 s' → (As σ (ps_a s' 1134) x1.toInt (ps_i s' 1131 51).toInt) → (OutB (ps_a s0 1134) (ps_a s' 1134) x1.toInt) → ((ps_i s0 1131 51).toInt ≤ (ps_i s' 1131 51).toInt) → ((ps_i s' 1131 51).toInt ≤ (ps_i s0 1131 51).toInt + 1) → Q none s') (s : ps_S) (J : mJ x t s) (K : kp [1134] [51] s0 s) (hA : As σ (ps_a s 1134) x1.toInt (ps_i s 1131 51).toInt) (hF : Fm σ (ps_a s 1134) x2.toInt) (i2 : 0 ≤ x1.toInt) (i3 : x1.toInt < 40) (i4 : x2.toInt + 41 ≤ 1640 + 492 * x1.toInt ∨ 1640 + 492 * x1.toInt + 492 ≤ x2.toInt) (i5 : (ps_i s 1131 51).toInt ≤ 900) (i6 : (ps_i s 1131 51).toInt = (ps_i s0 1131 51).toInt) (i7 : OutB (ps_a s0 1134) (ps_a s 1134) x1.toInt) : ps_At (d + 2) 248 36 [(0, .ref 1131), (1, .int x1), (2, .int x2)] [] s Q := by
  have r1 := mf_51 J
  refine pg_248_36 (d := d + 1) ?_
  obtain ⟨w1, w2, w3⟩ := Fm_r hF
  have w1 : x2.toInt % 41 = 0 := w1
  have w2 : 0 ≤ x2.toInt := w2
  have w3 : x2.toInt < 27306 := w3
  obtain ⟨l, hl1, hl2⟩ := hF
  refine And.intro (fun h2 => ?_) (fun h2 => ?_)
  · have f3 : (12 : Int) ≤ (ps_i s 1131 51).toInt := xle h2
    have a4 : ((ps_i s 1131 51) + 1).toInt = (ps_i s 1131 51).toInt + (1 : Int) := xIa (show -2147483648 ≤ (ps_i s 1131 51).toInt + (1 : Int) from by omega) (show (ps_i s 1131 51).toInt + (1 : Int) < 2147483648 from by omega)
    have J5 := mwi_51 (v := ((ps_i s 1131 51) + 1)) J (show 0 ≤ ((ps_i s 1131 51) + 1).toInt from by omega) (show ((ps_i s 1131 51) + 1).toInt ≤ 1000 from by omega)
    have K6 := kpi K (q := 51) (v := ((ps_i s 1131 51) + 1)) rfl
    exact k _ J5 K6 ((by first | exact As_more hA (by omega) | exact (show As σ (ps_a (ps_ui s 1131 51 ((ps_i s 1131 51) + 1)) 1134) x1.toInt ((ps_i s 1131 51) + 1).toInt from (by rw [show ((ps_i s 1131 51) + 1).toInt = (ps_i s 1131 51).toInt + 1 from by omega]; exact As_put hA (by omega) ⟨l, (by have z := hc1; rw [show ((1640 : Int32) + ((41 : Int32) * (((12 : Int32) * x1) + (ps_i s 1131 51)))).toInt = 1640 + 41 * (12 * x1.toInt + (ps_i s 1131 51).toInt) from by omega] at z; exact z), hl2⟩ (fun k hk => hc2 k (by omega)))))) ((by first | exact i7 | exact OutB_tr i7 (fun k hk => hc2 k (by omega)))) (show (ps_i s0 1131 51).toInt ≤ ((ps_i s 1131 51) + 1).toInt from by omega) (show ((ps_i s 1131 51) + 1).toInt ≤ (ps_i s0 1131 51).toInt + 1 from by omega)
  · have f7 : (ps_i s 1131 51).toInt < (12 : Int) := xlt h2
    refine pg_243_0 ?_
    have a8 : ((12 : Int32) * x1).toInt = (12 : Int) * x1.toInt := xIm (show -2147483648 ≤ (12 : Int) * x1.toInt from by omega) (show (12 : Int) * x1.toInt < 2147483648 from by omega)
    have a9 : (((12 : Int32) * x1) + (ps_i s 1131 51)).toInt = ((12 : Int32) * x1).toInt + (ps_i s 1131 51).toInt := xIa (show -2147483648 ≤ ((12 : Int32) * x1).toInt + (ps_i s 1131 51).toInt from by omega) (show ((12 : Int32) * x1).toInt + (ps_i s 1131 51).toInt < 2147483648 from by omega)
    have a10 : ((41 : Int32) * (((12 : Int32) * x1) + (ps_i s 1131 51))).toInt = (41 : Int) * (((12 : Int32) * x1) + (ps_i s 1131 51)).toInt := xIm (show -2147483648 ≤ (41 : Int) * (((12 : Int32) * x1) + (ps_i s 1131 51)).toInt from by omega) (show (41 : Int) * (((12 : Int32) * x1) + (ps_i s 1131 51)).toInt < 2147483648 from by omega)
    have a11 : ((1640 : Int32) + ((41 : Int32) * (((12 : Int32) * x1) + (ps_i s 1131 51)))).toInt = (1640 : Int) + ((41 : Int32) * (((12 : Int32) * x1) + (ps_i s 1131 51))).toInt := xIa (show -2147483648 ≤ (1640 : Int) + ((41 : Int32) * (((12 : Int32) * x1) + (ps_i s 1131 51))).toInt from by omega) (show (1640 : Int) + ((41 : Int32) * (((12 : Int32) * x1) + (ps_i s 1131 51))).toInt < 2147483648 from by omega)
    refine ms_224 J (hl1) (show ((1640 : Int32) + ((41 : Int32) * (((12 : Int32) * x1) + (ps_i s 1131 51)))).toInt % 41 = 0 from by omega) (show 0 ≤ ((1640 : Int32) + ((41 : Int32) * (((12 : Int32) * x1) + (ps_i s 1131 51)))).toInt from by omega) (show ((1640 : Int32) + ((41 : Int32) * (((12 : Int32) * x1) + (ps_i s 1131 51)))).toInt < 27306 from by omega) (show x2.toInt ≠ ((1640 : Int32) + ((41 : Int32) * (((12 : Int32) * x1) + (ps_i s 1131 51)))).toInt from by omega) (fun s12 J12 K12 p12_0 p12_1 => ?_)
    have K13 := kpt K K12 rfl rfl
    have hc1 : _ := p12_0
    have hc2 : _ := p12_1
    have r14 := mf_51 J12
    have u15 : (ps_i s12 1131 51).toInt = (ps_i s 1131 51).toInt := xeq (kp_i K12 51 rfl)
    have a16 : ((ps_i s12 1131 51) + 1).toInt = (ps_i s12 1131 51).toInt + (1 : Int) := xIa (show -2147483648 ≤ (ps_i s12 1131 51).toInt + (1 : Int) from by omega) (show (ps_i s12 1131 51).toInt + (1 : Int) < 2147483648 from by omega)
    have J17 := mwi_51 (v := ((ps_i s12 1131 51) + 1)) J12 (show 0 ≤ ((ps_i s12 1131 51) + 1).toInt from by omega) (show ((ps_i s12 1131 51) + 1).toInt ≤ 1000 from by omega)
    have K18 := kpi K13 (q := 51) (v := ((ps_i s12 1131 51) + 1)) rfl
    exact k _ J17 K18 ((by first | exact As_more hA (by omega) | exact (show As σ (ps_a (ps_ui s12 1131 51 ((ps_i s12 1131 51) + 1)) 1134) x1.toInt ((ps_i s12 1131 51) + 1).toInt from (by rw [show ((ps_i s12 1131 51) + 1).toInt = (ps_i s 1131 51).toInt + 1 from by omega]; exact As_put hA (by omega) ⟨l, (by have z := hc1; rw [show ((1640 : Int32) + ((41 : Int32) * (((12 : Int32) * x1) + (ps_i s 1131 51)))).toInt = 1640 + 41 * (12 * x1.toInt + (ps_i s 1131 51).toInt) from by omega] at z; exact z), hl2⟩ (fun k hk => hc2 k (by omega)))))) ((by first | exact i7 | exact OutB_tr i7 (fun k hk => hc2 k (by omega)))) (show (ps_i s0 1131 51).toInt ≤ ((ps_i s12 1131 51) + 1).toInt from by omega) (show ((ps_i s12 1131 51) + 1).toInt ≤ (ps_i s0 1131 51).toInt + 1 from by omega)

theorem ms_248_2 {x : Nat → Nat → Nat} {t : Int32} {d : Nat} {s0 : ps_S} {σ : mSig} {x1 : Int32} {x2 : Int32} {Q : Option Value → ps_S → Prop} (k : ∀ (s' : ps_S), mJ x t s' → kp [1134] [51] s0 s' → (As σ (ps_a s' 1134) x1.toInt (ps_i s' 1131 51).toInt) → (OutB (ps_a s0 1134) (ps_a s' 1134) x1.toInt) → ((ps_i s0 1131 51).toInt ≤ (ps_i s' 1131 51).toInt) → ((ps_i s' 1131 51).toInt ≤ (ps_i s0 1131 51).toInt + 1) → Q none s') : ∀ (n : Nat) (x3 : Int32) (s : ps_S), (mJ x t s) → (kp [1134] [51] s0 s) → (As σ (ps_a s 1134) x1.toInt (ps_i s 1131 51).toInt) → (Fm σ (ps_a s 1134) x2.toInt) → (0 ≤ x1.toInt) → (x1.toInt < 40) → (x2.toInt + 41 ≤ 1640 + 492 * x1.toInt ∨ 1640 + 492 * x1.toInt + 492 ≤ x2.toInt) → ((ps_i s 1131 51).toInt ≤ 900) → (0 ≤ x3.toInt) → ((ps_i s 1131 51).toInt = (ps_i s0 1131 51).toInt) → (OutB (ps_a s0 1134) (ps_a s 1134) x1.toInt) → 20 - x3.toInt ≤ (n : Int) → ps_At (d + 2) 248 2 [(0, .ref 1131), (1, .int x1), (2, .int x2), (3, .int x3)] [] s Q := by
  refine xstr (fun n ih => ?_)
  intro x3 s J K hA hF i2 i3 i4 i5 i6 i7 i8 hm
  have r1 := mf_51 J
  refine pg_248_2 (d := d + 1) ?_
  obtain ⟨w1, w2, w3⟩ := Fm_r hF
  have w1 : x2.toInt % 41 = 0 := w1
  have w2 : 0 ≤ x2.toInt := w2
  have w3 : x2.toInt < 27306 := w3
  refine And.intro (fun h2 => ?_) (fun h2 => ?_)
  · have f3 : (ps_i s 1131 51).toInt ≤ x3.toInt := xle h2
    exact ms_248_36 (x1 := x1) (x2 := x2) (σ := σ) k   _ J K hA hF (show 0 ≤ x1.toInt from by omega) (show x1.toInt < 40 from by omega) (show x2.toInt + 41 ≤ 1640 + 492 * x1.toInt ∨ 1640 + 492 * x1.toInt + 492 ≤ x2.toInt from by omega) (show (ps_i s 1131 51).toInt ≤ 900 from by omega) (show (ps_i s 1131 51).toInt = (ps_i s0 1131 51).toInt from by omega) (by assumption)
  · have f4 : x3.toInt < (ps_i s 1131 51).toInt := xlt h2
    refine And.intro (fun h5 => ?_) (fun h5 => ?_)
    · have f6 : (12 : Int) ≤ x3.toInt := xle h5
      exact ms_248_36 (x1 := x1) (x2 := x2) (σ := σ) k   _ J K hA hF (show 0 ≤ x1.toInt from by omega) (show x1.toInt < 40 from by omega) (show x2.toInt + 41 ≤ 1640 + 492 * x1.toInt ∨ 1640 + 492 * x1.toInt + 492 ≤ x2.toInt from by omega) (show (ps_i s 1131 51).toInt ≤ 900 from by omega) (show (ps_i s 1131 51).toInt = (ps_i s0 1131 51).toInt from by omega) (by assumption)
    · have f7 : x3.toInt < (12 : Int) := xlt h5
      refine pg_243_0 ?_
      have a8 : ((12 : Int32) * x1).toInt = (12 : Int) * x1.toInt := xIm (show -2147483648 ≤ (12 : Int) * x1.toInt from by omega) (show (12 : Int) * x1.toInt < 2147483648 from by omega)
      have a9 : (((12 : Int32) * x1) + x3).toInt = ((12 : Int32) * x1).toInt + x3.toInt := xIa (show -2147483648 ≤ ((12 : Int32) * x1).toInt + x3.toInt from by omega) (show ((12 : Int32) * x1).toInt + x3.toInt < 2147483648 from by omega)
      have a10 : ((41 : Int32) * (((12 : Int32) * x1) + x3)).toInt = (41 : Int) * (((12 : Int32) * x1) + x3).toInt := xIm (show -2147483648 ≤ (41 : Int) * (((12 : Int32) * x1) + x3).toInt from by omega) (show (41 : Int) * (((12 : Int32) * x1) + x3).toInt < 2147483648 from by omega)
      have a11 : ((1640 : Int32) + ((41 : Int32) * (((12 : Int32) * x1) + x3))).toInt = (1640 : Int) + ((41 : Int32) * (((12 : Int32) * x1) + x3)).toInt := xIa (show -2147483648 ≤ (1640 : Int) + ((41 : Int32) * (((12 : Int32) * x1) + x3)).toInt from by omega) (show (1640 : Int) + ((41 : Int32) * (((12 : Int32) * x1) + x3)).toInt < 2147483648 from by omega)
      refine ms_222 J (show ((1640 : Int32) + ((41 : Int32) * (((12 : Int32) * x1) + x3))).toInt % 41 = 0 from by omega) (show 0 ≤ ((1640 : Int32) + ((41 : Int32) * (((12 : Int32) * x1) + x3))).toInt from by omega) (show ((1640 : Int32) + ((41 : Int32) * (((12 : Int32) * x1) + x3))).toInt < 27306 from by omega) (show x2.toInt % 41 = 0 from by omega) (show 0 ≤ x2.toInt from by omega) (show x2.toInt < 27306 from by omega) (fun v12 b12 => ?_)
      refine And.intro (fun h13 => ?_) (fun h13 => ?_)
      · have f14 : v12.toInt = (0 : Int) := xeq h13
        have a15 : (x3 + 1).toInt = x3.toInt + (1 : Int) := xIa (show -2147483648 ≤ x3.toInt + (1 : Int) from by omega) (show x3.toInt + (1 : Int) < 2147483648 from by omega)
        exact ih (n - 1) (show n - 1 < n from by omega) (x3 + 1) _ J K hA hF (show 0 ≤ x1.toInt from by omega) (show x1.toInt < 40 from by omega) (show x2.toInt + 41 ≤ 1640 + 492 * x1.toInt ∨ 1640 + 492 * x1.toInt + 492 ≤ x2.toInt from by omega) (show (ps_i s 1131 51).toInt ≤ 900 from by omega) (show 0 ≤ (x3 + 1).toInt from by omega) (show (ps_i s 1131 51).toInt = (ps_i s0 1131 51).toInt from by omega) (by assumption) (show 20 - (x3 + 1).toInt ≤ ((n - 1 : Nat) : Int) from by omega)
      · have f16 : v12.toInt ≠ (0 : Int) := xne h13
        exact k _ J K hA (by assumption) (show (ps_i s0 1131 51).toInt ≤ (ps_i s 1131 51).toInt from by omega) (show (ps_i s 1131 51).toInt ≤ (ps_i s0 1131 51).toInt + 1 from by omega)

theorem ms_248 {x : Nat → Nat → Nat} {t : Int32} {s : ps_S} {d : Nat} {x1 : Int32} {x2 : Int32} {f : ps_S → Prop} (J : mJ x t s) {σ : mSig} (hA : As σ (ps_a s 1134) x1.toInt (ps_i s 1131 51).toInt) (hF : Fm σ (ps_a s 1134) x2.toInt) (q2 : 0 ≤ x1.toInt) (q3 : x1.toInt < 40) (q4 : x2.toInt + 41 ≤ 1640 + 492 * x1.toInt ∨ 1640 + 492 * x1.toInt + 492 ≤ x2.toInt) (q5 : (ps_i s 1131 51).toInt ≤ 900) (k : ∀ (s' : ps_S), mJ x t s' → kp [1134] [51] s s' → (As σ (ps_a s' 1134) x1.toInt (ps_i s' 1131 51).toInt) → (OutB (ps_a s 1134) (ps_a s' 1134) x1.toInt) → ((ps_i s 1131 51).toInt ≤ (ps_i s' 1131 51).toInt) → ((ps_i s' 1131 51).toInt ≤ (ps_i s 1131 51).toInt + 1) → f s') : ps_Cl (d + 2) 248 [.ref 1131, .int x1, .int x2] s (ps_rV f) := by
  have r1 := mf_51 J
  have K : kp [1134] [51] s s := kp_refl
  refine pg_248_0 (d := d + 1) ?_
  obtain ⟨w1, w2, w3⟩ := Fm_r hF
  have w1 : x2.toInt % 41 = 0 := w1
  have w2 : 0 ≤ x2.toInt := w2
  have w3 : x2.toInt < 27306 := w3
  exact ms_248_2 (x1 := x1) (x2 := x2) (σ := σ) k  (20 - (0 : Int)).toNat (0) _ J K hA hF (show 0 ≤ x1.toInt from by omega) (show x1.toInt < 40 from by omega) (show x2.toInt + 41 ≤ 1640 + 492 * x1.toInt ∨ 1640 + 492 * x1.toInt + 492 ≤ x2.toInt from by omega) (show (ps_i s 1131 51).toInt ≤ 900 from by omega) (show 0 ≤ (0 : Int) from by omega) (show (ps_i s 1131 51).toInt = (ps_i s 1131 51).toInt from by omega) (OutB_refl) (show 20 - (0 : Int) ≤ (((20 - (0 : Int)).toNat : Nat) : Int) from by omega)
