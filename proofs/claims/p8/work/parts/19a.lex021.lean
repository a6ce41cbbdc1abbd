set_option maxRecDepth 100000
theorem ms_198 {x : Nat → Nat → Nat} {t : Int32} {s : ps_S} {d : Nat} {f : ps_S → Prop} (J : mJ x t s) (k : ∀ (s' : ps_S), mJ x t s' → kp [1133] [3, 4, 5, 6, 7, 8, 9, 10, 11, 22, 23] s s' → ((ps_i s' 1131 8).toInt ≤ (ps_i s' 1131 4).toInt) → ((ps_i s' 1131 5).toInt = 0) → ((ps_i s' 1131 3).toInt = 0) → ((ps_i s' 1131 23).toInt = 0) → ((ps_i s' 1131 22).toInt = (ps_i s' 1131 21).toInt) → f s') : ps_Cl (d + 2) 198 [.ref 1131] s (ps_rV f) := by
  have K : kp [1133] [3, 4, 5, 6, 7, 8, 9, 10, 11, 22, 23] s s := kp_refl
  refine pg_198_0 (d := d + 1) ?_
  have J1 := mwi_5 (v := (0 : Int32)) J (show 0 ≤ (0 : Int) from by omega) (show (0 : Int) ≤ 6 from by omega)
  have K2 := kpi K (q := 5) (v := (0 : Int32)) rfl
  have J3 := mwi_n 6 (v := (-1 : Int32)) J1 rfl
  have K4 := kpi K2 (q := 6) (v := (-1 : Int32)) rfl
  have r5 := mf_3 J
  have J6 := mwi_4 (v := (ps_i s 1131 3)) J3 (show 0 ≤ (ps_i s 1131 3).toInt from by omega) (show (ps_i s 1131 3).toInt ≤ 1600 from by omega)
  have K7 := kpi K4 (q := 4) (v := (ps_i s 1131 3)) rfl
  exact ms_198_20  k  ((ps_i s 1131 3).toInt - (0 : Int)).toNat (0) _ J6 K7 (show 0 ≤ (0 : Int) from by omega) (show (0 : Int) ≤ (ps_i s 1131 3).toInt from by omega) (show (0 : Int) = 0 from by omega) (show (ps_i s 1131 3).toInt - (0 : Int) ≤ ((((ps_i s 1131 3).toInt - (0 : Int)).toNat : Nat) : Int) from by omega)

-- ProofBenchModel.fault(I)I
theorem pg_199_0 {d : Nat} {x1 : Int32} {s : ps_S} {Q : Option Value → ps_S → Prop} (h :
  (x1 ≠ 0 →
    (x1 ≠ 1 →
      Q (some (.int (-1))) s) ∧
    (x1 = 1 →
      Q (some (.int (ps_i s 1131 6))) s)) ∧
  (x1 = 0 →
    Q (some (.int (ps_i s 1131 5))) s)) : ps_At d 199 0 [(0, .ref 1131), (1, .int x1)] [] s Q :=
  ps_wp_at (stops := []) (n := 17) h rfl

theorem ms_199 {x : Nat → Nat → Nat} {t : Int32} {s : ps_S} {d : Nat} {x1 : Int32} {f : Int32 → ps_S → Prop} (J : mJ x t s) (k : ∀ (v : Int32), f v s) : ps_Cl d 199 [.ref 1131, .int x1] s (ps_rI f) := by
  refine pg_199_0 ?_
  refine And.intro (fun h1 => ?_) (fun h1 => ?_)
  · have f2 : x1.toInt ≠ (0 : Int) := xne h1
    refine And.intro (fun h3 => ?_) (fun h3 => ?_)
    · have f4 : x1.toInt ≠ (1 : Int) := xne h3
      exact k (-1 : Int32)
    · have f5 : x1.toInt = (1 : Int) := xeq h3
      exact k (ps_i s 1131 6)
  · have f6 : x1.toInt = (0 : Int) := xeq h1
    have r7 := mf_5 J
    exact k (ps_i s 1131 5)

-- ProofBenchModel.isIn(III)Z
theorem pg_200_0 {d : Nat} {x0 : Int32} {x1 : Int32} {x2 : Int32} {s : ps_S} {Q : Option Value → ps_S → Prop} (h :
  (x0 < x1 →
    Q (some (.int 0)) s) ∧
  (x1 ≤ x0 →
    (x2 < x0 →
      Q (some (.int 0)) s) ∧
    (x0 ≤ x2 →
      Q (some (.int 1)) s))) : ps_At d 200 0 [(0, .int x0), (1, .int x1), (2, .int x2)] [] s Q :=
  ps_wp_at (stops := []) (n := 15) h rfl

theorem ms_200 {x : Nat → Nat → Nat} {t : Int32} {s : ps_S} {d : Nat} {x0 : Int32} {x1 : Int32} {x2 : Int32} {f : Int32 → ps_S → Prop} (J : mJ x t s) (k : ∀ (v : Int32), (v.toInt = 0 ∨ (x1.toInt ≤ x0.toInt ∧ x0.toInt ≤ x2.toInt)) → v &&& 1 = v → f v s) : ps_Cl d 200 [.int x0, .int x1, .int x2] s (ps_rI f) := by
  refine pg_200_0 ?_
  refine And.intro (fun h1 => ?_) (fun h1 => ?_)
  · have f2 : x0.toInt < x1.toInt := xlt h1
    exact k (0 : Int32) (show (0 : Int) = 0 ∨ (x1.toInt ≤ x0.toInt ∧ x0.toInt ≤ x2.toInt) from by omega) (by decide)
  · have f3 : x1.toInt ≤ x0.toInt := xle h1
    refine And.intro (fun h4 => ?_) (fun h4 => ?_)
    · have f5 : x2.toInt < x0.toInt := xlt h4
      exact k (0 : Int32) (show (0 : Int) = 0 ∨ (x1.toInt ≤ x0.toInt ∧ x0.toInt ≤ x2.toInt) from by omega) (by decide)
    · have f6 : x0.toInt ≤ x2.toInt := xle h4
      exact k (1 : Int32) (show (1 : Int) = 0 ∨ (x1.toInt ≤ x0.toInt ∧ x0.toInt ≤ x2.toInt) from by omega) (by decide)
