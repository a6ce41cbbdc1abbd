set_option maxRecDepth 100000
theorem ms_209 {x : Nat → Nat → Nat} {t : Int32} {s : ps_S} {d : Nat} {x1 : Int32} {x2 : Int32} {x3 : Int32} {f : ps_S → Prop} (J : mJ x t s) {σ : mSig} {b : Bool} (hS2 : Sg (ps_a s 1135) (ps_a s 1136) (ps_a s 1138) (ps_a s 1139) (ps_i s 1131 22).toInt σ) (q1 : x1.toInt % 41 = 0) (q2 : 0 ≤ x1.toInt) (q3 : x1.toInt < 27306) (q4 : (ps_i s 1131 8).toInt ≤ (ps_i s 1131 4).toInt) (q5 : (x2.toInt ≠ 0 ∧ b = true) ∨ (x2.toInt = 0 ∧ b = false)) (q6 : x3 &&& 1 = x3) (k : ∀ (s' : ps_S), mJ x t s' → kp [1134, 1143, 1144, 1145, 1146, 1147, 1148] [5, 6, 7, 8, 9, 10, 11, 23, 29, 30, 31, 32] s s' → ((ps_i s' 1131 8).toInt ≤ (ps_i s' 1131 4).toInt) → (1 ≤ (ps_i s 1131 5).toInt → 1 ≤ (ps_i s' 1131 5).toInt) → (∀ i : Nat, (i : Int) < x1.toInt ∨ x1.toInt + 41 ≤ (i : Int) → ps_a s' 1134 i = ps_a s 1134 i) → (1 ≤ (ps_i s' 1131 5).toInt ∨ ∃ l2, Rw (ps_a s' 1134) x1.toInt l2 ∧ wf σ 5 l2 [(b, 0)] ∧ (x3.toInt ≠ 0 → ∀ p, p ∈ l2 → p < 60)) → f s') : ps_Cl (d + 5) 209 [.ref 1131, .int x1, .int x2, .int x3] s (ps_rV f) := by
  have r1 := mf_8 J
  have r2 := mf_4 J
  have K : kp [1134, 1143, 1144, 1145, 1146, 1147, 1148] [5, 6, 7, 8, 9, 10, 11, 23, 29, 30, 31, 32] s s := kp_refl
  refine pg_209_0 (d := d + 4) ?_
  refine ps_nd_i (show pm_in x1 27400 = true from xgi (show 0 ≤ x1.toInt from by omega) (show x1.toInt < 27400 from by omega)) ?_
  have J3 := mw_p (i := x1) (v := (0 : Int32)) J (show x1.toInt % 41 = 0 → 0 ≤ (0 : Int) ∧ (0 : Int) ≤ 40 from by omega) (show 0 ≤ x1.toInt from by omega)
  have K4 := kpa' K (r := 1134) (i := (Int32.toNatClampNeg x1)) (v := (0 : Int32)) rfl
  have hR : Rw (ps_a (ps_ua s 1134 (Int32.toNatClampNeg x1) 0) 1134) x1.toInt ([]) := Rw_zero (by omega) (by omega) (by omega) (by rw [show ps_a (ps_ua s 1134 (Int32.toNatClampNeg x1) 0) 1134 x1.toInt.toNat = 0 from ua_eq]; rfl)
  have ex : Int32.toNatClampNeg x1 = x1.toInt.toNat := rfl
  have hO : ∀ i : Nat, (i : Int) < x1.toInt ∨ x1.toInt + 41 ≤ (i : Int) → ps_a (ps_ua s 1134 (Int32.toNatClampNeg x1) 0) 1134 i = ps_a s 1134 i := fun i hi => ua_ne (by omega)
  have J5 := mwi_29 (v := (0 : Int32)) J3 (show 0 ≤ (0 : Int) from by omega) (show (0 : Int) ≤ 16 from by omega)
  have K6 := kpi K4 (q := 29) (v := (0 : Int32)) rfl
  have J7 := mwi_n 30 (v := (0 : Int32)) J5 rfl
  have K8 := kpi K6 (q := 30) (v := (0 : Int32)) rfl
  have J9 := mwi_31 (v := (0 : Int32)) J7 (show 0 ≤ (0 : Int) from by omega) (show (0 : Int) ≤ 42 from by omega)
  have K10 := kpi K8 (q := 31) (v := (0 : Int32)) rfl
  refine ps_nd_i (decide_eq_true q6) ?_
  have J11 := mwi_n 32 (v := x3) J9 rfl
  have K12 := kpi K10 (q := 32) (v := x3) rfl
  have r13 := mf_5 J
  exact ms_209_30 (x1 := x1) (x2 := x2) (x3 := x3) (σ := σ) (b := b) k  (2 * (42 - (0 : Int)) + 6 * (1 : Int)).toNat (1) _ J11 K12 hS2 hO (show (ps_i s 1131 8).toInt ≤ (ps_i s 1131 4).toInt from by omega) (show x3.toInt = x3.toInt from by omega) (q5) (show (1 : Int) = 0 ∨ (1 : Int) = 1 from by omega) (show 1 ≤ (ps_i s 1131 5).toInt ∨ ((0 : Int) ≤ 13 ∧ 0 ≤ (0 : Int) ∧ (0 : Int) ≤ 5 ∧ (0 : Int) ≤ 40) from by omega) (Or.inr (Or.inr ⟨by decide, [], b, hR, RH_00 rfl rfl rfl, fun _ => rfl, fun z => absurd (show (0 : Int) < (0 : Int32).toInt from z) (by decide)⟩)) (show 1 ≤ (ps_i s 1131 5).toInt → 1 ≤ (ps_i s 1131 5).toInt from by omega) (show 2 * (42 - (0 : Int)) + 6 * (1 : Int) ≤ (((2 * (42 - (0 : Int)) + 6 * (1 : Int)).toNat : Nat) : Int) from by omega)
