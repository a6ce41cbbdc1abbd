set_option maxRecDepth 100000
theorem ms_232 {x : Nat → Nat → Nat} {t : Int32} {s : ps_S} {d : Nat} {x1 : Int32} {x2 : Int32} {f : ps_S → Prop} (J : mJ x t s) {σ : mSig} {l ml : List Nat} {Wb_k : List Bool} (hS : Sg (ps_a s 1135) (ps_a s 1136) (ps_a s 1138) (ps_a s 1139) (ps_i s 1131 21).toInt σ) (hR : Rw (ps_a s 1134) x1.toInt l) (q2_k : Md (ps_a s 1149) (ps_i s 1131 34).toInt (ml)) (q3_k : ml.length ≤ 1000) (q4_k : ws σ l Wb_k) (q5_k : qn l ≤ 29) (q6_k : 0 ≤ x2.toInt) (q7_k : x2.toInt ≤ 11) (k : ∀ (s' : ps_S), mJ x t s' → kp [1149, 1150] [34] s s' → (∃ m : List Nat, m.length ≤ 40 ∧ rp σ l m ∧ Md (ps_a s' 1149) (ps_i s' 1131 34).toInt ((ml ++ [4]) ++ m)) → f s') : ps_Cl (d + 2) 232 [.ref 1131, .int x1, .int x2] s (ps_rV f) := by
  have K : kp [1149, 1150] [34] s s := kp_refl
  refine pg_232_0 (d := d + 1) ?_
  obtain ⟨hr1, hr2, hr3, hr4, hr5, hr6⟩ := id hR
  have hr1 : x1.toInt % 41 = 0 := hr1
  have hr2 : 0 ≤ x1.toInt := hr2
  have hr3 : x1.toInt < 27306 := hr3
  have h34_k := q2_k.1
  refine pg_225_0 ?_
  have r1_k := mf_34 J
  refine And.intro (fun h2_k => ?_) (fun h2_k => ?_)
  · have f3_k : (260 : Int) ≤ (ps_i s 1131 34).toInt := xle h2_k
    have a4_k : ((ps_i s 1131 34) + 1).toInt = (ps_i s 1131 34).toInt + (1 : Int) := xIa (show -2147483648 ≤ (ps_i s 1131 34).toInt + (1 : Int) from by omega) (show (ps_i s 1131 34).toInt + (1 : Int) < 2147483648 from by omega)
    have J5 := mwi_34 (v := ((ps_i s 1131 34) + 1)) J (show 0 ≤ ((ps_i s 1131 34) + 1).toInt from by omega) (show ((ps_i s 1131 34) + 1).toInt ≤ 100000 from by omega)
    have K6 := kpi K (q := 34) (v := ((ps_i s 1131 34) + 1)) rfl
    have hM1 : Md (ps_a (ps_ui s 1131 34 ((ps_i s 1131 34) + 1)) 1149) (ps_i (ps_ui s 1131 34 ((ps_i s 1131 34) + 1)) 1131 34).toInt (ml ++ [4]) := by first | exact Md_make (c := 4) q2_k rfl (by omega) | exact Md_make' (c := 4) q2_k (by omega) (by omega)
    exact ms_232_10 (x1 := x1) (x2 := x2) (σ := σ) (l := l) (ml := ml) (Wb_k := Wb_k) k  (41 - (0 : Int)).toNat (0) (0) [] l Wb_k [] _ J5 K6 hS hR (q3_k) (q5_k) (show 0 ≤ x2.toInt from by omega) (show x2.toInt ≤ 11 from by omega) (show 0 ≤ (0 : Int) from by omega) ((Int.le_refl _)) (rfl) (rfl) (q4_k) (rfl) (rfl) ((by rw [List.append_nil]; exact hM1)) (show 41 - (0 : Int) ≤ (((41 - (0 : Int)).toNat : Nat) : Int) from by omega)
  · have f7_k : (ps_i s 1131 34).toInt < (260 : Int) := xlt h2_k
    refine ps_nd_i (show pm_in (ps_i s 1131 34) 260 = true from xgi (show 0 ≤ (ps_i s 1131 34).toInt from by omega) (show (ps_i s 1131 34).toInt < 260 from by omega)) ?_
    have J8 := mwa_n 1149 (i := (Int32.toNatClampNeg (ps_i s 1131 34))) (v := (4 : Int32)) J rfl (by decide)
    have K9 := kpa' K (r := 1149) (i := (Int32.toNatClampNeg (ps_i s 1131 34))) (v := (4 : Int32)) rfl
    have a10_k : ((ps_i s 1131 34) + 1).toInt = (ps_i s 1131 34).toInt + (1 : Int) := xIa (show -2147483648 ≤ (ps_i s 1131 34).toInt + (1 : Int) from by omega) (show (ps_i s 1131 34).toInt + (1 : Int) < 2147483648 from by omega)
    have J11 := mwi_34 (v := ((ps_i s 1131 34) + 1)) J8 (show 0 ≤ ((ps_i s 1131 34) + 1).toInt from by omega) (show ((ps_i s 1131 34) + 1).toInt ≤ 100000 from by omega)
    have K12 := kpi K9 (q := 34) (v := ((ps_i s 1131 34) + 1)) rfl
    have hM1 : Md (ps_a (ps_ui (ps_ua s 1149 (Int32.toNatClampNeg (ps_i s 1131 34)) 4) 1131 34 ((ps_i s 1131 34) + 1)) 1149) (ps_i (ps_ui (ps_ua s 1149 (Int32.toNatClampNeg (ps_i s 1131 34)) 4) 1131 34 ((ps_i s 1131 34) + 1)) 1131 34).toInt (ml ++ [4]) := by first | exact Md_make (c := 4) q2_k rfl (by omega) | exact Md_make' (c := 4) q2_k (by omega) (by omega)
    exact ms_232_10 (x1 := x1) (x2 := x2) (σ := σ) (l := l) (ml := ml) (Wb_k := Wb_k) k  (41 - (0 : Int)).toNat (0) (0) [] l Wb_k [] _ J11 K12 hS hR (q3_k) (q5_k) (show 0 ≤ x2.toInt from by omega) (show x2.toInt ≤ 11 from by omega) (show 0 ≤ (0 : Int) from by omega) ((Int.le_refl _)) (rfl) (rfl) (q4_k) (rfl) (rfl) ((by rw [List.append_nil]; exact hM1)) (show 41 - (0 : Int) ≤ (((41 - (0 : Int)).toNat : Nat) : Int) from by omega)

