set_option maxRecDepth 100000
theorem ms_252 {x : Nat → Nat → Nat} {t : Int32} {s : ps_S} {d : Nat} {x1 : Int32} {f : ps_S → Prop} (J : mJ x t s) {σ : mSig} (hS : Sg (ps_a s 1135) (ps_a s 1136) (ps_a s 1138) (ps_a s 1139) (ps_i s 1131 21).toInt σ) (hP : PSt σ (ps_a s 1134) (ps_a s 1157) x1.toInt) (hB : SB σ (ps_a s 1134) (ps_a s 1152) (ps_a s 1153) (ps_i s 1131 21).toInt (ps_i s 1131 54).toInt x1.toInt) (q3_k : 0 ≤ x1.toInt) (q4_k : x1.toInt < 40) (k : ∀ (s' : ps_S), mJ x t s' → kp [1134, 1149, 1150, 1151, 1157, 1158, 1159, 1160] [34, 50, 51] s s' → (PSt σ (ps_a s' 1134) (ps_a s' 1157) x1.toInt) → ((ps_i s' 1131 50).toInt ≤ 0 → PSt σ (ps_a s' 1134) (ps_a s' 1157) (x1.toInt + 1)) → (∀ k : Nat, 21320 ≤ k → ps_a s' 1134 k = ps_a s 1134 k) → f s') : ps_Cl (d + 6) 252 [.ref 1131, .int x1] s (ps_rV f) := by
  have K : kp [1134, 1149, 1150, 1151, 1157, 1158, 1159, 1160] [34, 50, 51] s s := kp_refl
  refine pg_252_0 (d := d + 5) ?_
  have hO : OutB (ps_a s 1134) (ps_a s 1134) x1.toInt := OutB_refl
  have J1 := mwi_50 (v := (0 : Int32)) J (show 0 ≤ (0 : Int) from by omega) (show (0 : Int) ≤ 5 from by omega)
  have K2 := kpi K (q := 50) (v := (0 : Int32)) rfl
  have J3 := mwi_51 (v := (0 : Int32)) J1 (show 0 ≤ (0 : Int) from by omega) (show (0 : Int) ≤ 1000 from by omega)
  have K4 := kpi K2 (q := 51) (v := (0 : Int32)) rfl
  have J5 := mwi_34 (v := (0 : Int32)) J3 (show 0 ≤ (0 : Int) from by omega) (show (0 : Int) ≤ 100000 from by omega)
  have K6 := kpi K4 (q := 34) (v := (0 : Int32)) rfl
  have hA : As σ (ps_a (ps_ui (ps_ui (ps_ui s 1131 50 0) 1131 51 0) 1131 34 0) 1134) x1.toInt (ps_i (ps_ui (ps_ui (ps_ui s 1131 50 0) 1131 51 0) 1131 34 0) 1131 51).toInt := As_0
  have hM : Md (ps_a (ps_ui (ps_ui (ps_ui s 1131 50 0) 1131 51 0) 1131 34 0) 1149) (ps_i (ps_ui (ps_ui (ps_ui s 1131 50 0) 1131 51 0) 1131 34 0) 1131 34).toInt ([] : List Nat) := Md_nil rfl
  refine ps_nd_i (show pm_in x1 40 = true from xgi (show 0 ≤ x1.toInt from by omega) (show x1.toInt < 40 from by omega)) ?_
  have r7_k : 0 ≤ (ps_a s 1152 (Int32.toNatClampNeg x1)).toInt ∧ (ps_a s 1152 (Int32.toNatClampNeg x1)).toInt ≤ 18 := ma_1152 (i := x1) J (show 0 ≤ x1.toInt from by omega) (show x1.toInt < 40 from by omega)
  refine And.intro (fun h8_k => ?_) (fun h8_k => ?_)
  · have f9_k : (ps_a s 1152 (Int32.toNatClampNeg x1)).toInt ≠ (1 : Int) := xne h8_k
    refine ps_nd_i (show pm_in x1 40 = true from xgi (show 0 ≤ x1.toInt from by omega) (show x1.toInt < 40 from by omega)) ?_
    have J10 := mwa_n 1158 (i := (Int32.toNatClampNeg x1)) (v := (0 : Int32)) J5 rfl (by decide)
    have K11 := kpa' K6 (r := 1158) (i := (Int32.toNatClampNeg x1)) (v := (0 : Int32)) rfl
    refine ps_nd_i (show pm_in x1 40 = true from xgi (show 0 ≤ x1.toInt from by omega) (show x1.toInt < 40 from by omega)) ?_
    refine And.intro (fun h12_k => ?_) (fun h12_k => ?_)
    · have f13_k : (ps_a s 1152 (Int32.toNatClampNeg x1)).toInt ≠ (2 : Int) := xne h12_k
      refine ps_nd_i (show pm_in x1 40 = true from xgi (show 0 ≤ x1.toInt from by omega) (show x1.toInt < 40 from by omega)) ?_
      have J14 := mwa_n 1159 (i := (Int32.toNatClampNeg x1)) (v := (0 : Int32)) J10 rfl (by decide)
      have K15 := kpa' K11 (r := 1159) (i := (Int32.toNatClampNeg x1)) (v := (0 : Int32)) rfl
      exact ms_252_84 (x1 := x1) (σ := σ) k   _ J14 K15 hS hP hB hA hO hM (show 0 ≤ x1.toInt from by omega) (show x1.toInt < 40 from by omega) (show (0 : Int) = 0 from by omega)
    · have f16_k : (ps_a s 1152 (Int32.toNatClampNeg x1)).toInt = (2 : Int) := xeq h12_k
      refine ps_nd_i (show pm_in x1 40 = true from xgi (show 0 ≤ x1.toInt from by omega) (show x1.toInt < 40 from by omega)) ?_
      have r17_k : -1 ≤ (ps_a s 1153 (Int32.toNatClampNeg x1)).toInt ∧ (ps_a s 1153 (Int32.toNatClampNeg x1)).toInt ≤ 9999 := ma_1153 (i := x1) J (show 0 ≤ x1.toInt from by omega) (show x1.toInt < 40 from by omega)
      have r18_k := mf_54 J
      refine And.intro (fun h19_k => ?_) (fun h19_k => ?_)
      · have f20_k : (ps_i s 1131 54).toInt ≤ (ps_a s 1153 (Int32.toNatClampNeg x1)).toInt := xle h19_k
        refine ps_nd_i (show pm_in x1 40 = true from xgi (show 0 ≤ x1.toInt from by omega) (show x1.toInt < 40 from by omega)) ?_
        have J21 := mwa_n 1159 (i := (Int32.toNatClampNeg x1)) (v := (0 : Int32)) J10 rfl (by decide)
        have K22 := kpa' K11 (r := 1159) (i := (Int32.toNatClampNeg x1)) (v := (0 : Int32)) rfl
        exact ms_252_84 (x1 := x1) (σ := σ) k   _ J21 K22 hS hP hB hA hO hM (show 0 ≤ x1.toInt from by omega) (show x1.toInt < 40 from by omega) (show (0 : Int) = 0 from by omega)
      · have f23_k : (ps_a s 1153 (Int32.toNatClampNeg x1)).toInt < (ps_i s 1131 54).toInt := xlt h19_k
        refine ps_nd_i (show pm_in x1 40 = true from xgi (show 0 ≤ x1.toInt from by omega) (show x1.toInt < 40 from by omega)) ?_
        refine ps_nd_i (show pm_in x1 40 = true from xgi (show 0 ≤ x1.toInt from by omega) (show x1.toInt < 40 from by omega)) ?_
        have J24 := mwa_n 1159 (i := (Int32.toNatClampNeg x1)) (v := ((1 : Int32) <<< ((ps_a s 1153 (Int32.toNatClampNeg x1)) &&& 31))) J10 rfl (by decide)
        have K25 := kpa' K11 (r := 1159) (i := (Int32.toNatClampNeg x1)) (v := ((1 : Int32) <<< ((ps_a s 1153 (Int32.toNatClampNeg x1)) &&& 31))) rfl
        exact ms_252_84 (x1 := x1) (σ := σ) k   _ J24 K25 hS hP hB hA hO hM (show 0 ≤ x1.toInt from by omega) (show x1.toInt < 40 from by omega) (show (0 : Int) = 0 from by omega)
  · have f26_k : (ps_a s 1152 (Int32.toNatClampNeg x1)).toInt = (1 : Int) := xeq h8_k
    refine ps_nd_i (show pm_in x1 40 = true from xgi (show 0 ≤ x1.toInt from by omega) (show x1.toInt < 40 from by omega)) ?_
    have r27_k : -1 ≤ (ps_a s 1153 (Int32.toNatClampNeg x1)).toInt ∧ (ps_a s 1153 (Int32.toNatClampNeg x1)).toInt ≤ 9999 := ma_1153 (i := x1) J (show 0 ≤ x1.toInt from by omega) (show x1.toInt < 40 from by omega)
    refine ps_nd_i (show pm_in x1 40 = true from xgi (show 0 ≤ x1.toInt from by omega) (show x1.toInt < 40 from by omega)) ?_
    have J28 := mwa_n 1158 (i := (Int32.toNatClampNeg x1)) (v := ((1 : Int32) <<< ((ps_a s 1153 (Int32.toNatClampNeg x1)) &&& 31))) J5 rfl (by decide)
    have K29 := kpa' K6 (r := 1158) (i := (Int32.toNatClampNeg x1)) (v := ((1 : Int32) <<< ((ps_a s 1153 (Int32.toNatClampNeg x1)) &&& 31))) rfl
    refine ps_nd_i (show pm_in x1 40 = true from xgi (show 0 ≤ x1.toInt from by omega) (show x1.toInt < 40 from by omega)) ?_
    refine And.intro (fun h30_k => ?_) (fun h30_k => ?_)
    · have f31_k : (ps_a s 1152 (Int32.toNatClampNeg x1)).toInt ≠ (2 : Int) := xne h30_k
      refine ps_nd_i (show pm_in x1 40 = true from xgi (show 0 ≤ x1.toInt from by omega) (show x1.toInt < 40 from by omega)) ?_
      have J32 := mwa_n 1159 (i := (Int32.toNatClampNeg x1)) (v := (0 : Int32)) J28 rfl (by decide)
      have K33 := kpa' K29 (r := 1159) (i := (Int32.toNatClampNeg x1)) (v := (0 : Int32)) rfl
      exact ms_252_84 (x1 := x1) (σ := σ) k   _ J32 K33 hS hP hB hA hO hM (show 0 ≤ x1.toInt from by omega) (show x1.toInt < 40 from by omega) (show (0 : Int) = 0 from by omega)
    · have f34_k : (ps_a s 1152 (Int32.toNatClampNeg x1)).toInt = (2 : Int) := xeq h30_k
      refine ps_nd_i (show pm_in x1 40 = true from xgi (show 0 ≤ x1.toInt from by omega) (show x1.toInt < 40 from by omega)) ?_
      have r35_k := mf_54 J
      refine And.intro (fun h36_k => ?_) (fun h36_k => ?_)
      · have f37_k : (ps_i s 1131 54).toInt ≤ (ps_a s 1153 (Int32.toNatClampNeg x1)).toInt := xle h36_k
        refine ps_nd_i (show pm_in x1 40 = true from xgi (show 0 ≤ x1.toInt from by omega) (show x1.toInt < 40 from by omega)) ?_
        have J38 := mwa_n 1159 (i := (Int32.toNatClampNeg x1)) (v := (0 : Int32)) J28 rfl (by decide)
        have K39 := kpa' K29 (r := 1159) (i := (Int32.toNatClampNeg x1)) (v := (0 : Int32)) rfl
        exact ms_252_84 (x1 := x1) (σ := σ) k   _ J38 K39 hS hP hB hA hO hM (show 0 ≤ x1.toInt from by omega) (show x1.toInt < 40 from by omega) (show (0 : Int) = 0 from by omega)
      · have f40_k : (ps_a s 1153 (Int32.toNatClampNeg x1)).toInt < (ps_i s 1131 54).toInt := xlt h36_k
        refine ps_nd_i (show pm_in x1 40 = true from xgi (show 0 ≤ x1.toInt from by omega) (show x1.toInt < 40 from by omega)) ?_
        refine ps_nd_i (show pm_in x1 40 = true from xgi (show 0 ≤ x1.toInt from by omega) (show x1.toInt < 40 from by omega)) ?_
        have J41 := mwa_n 1159 (i := (Int32.toNatClampNeg x1)) (v := ((1 : Int32) <<< ((ps_a s 1153 (Int32.toNatClampNeg x1)) &&& 31))) J28 rfl (by decide)
        have K42 := kpa' K29 (r := 1159) (i := (Int32.toNatClampNeg x1)) (v := ((1 : Int32) <<< ((ps_a s 1153 (Int32.toNatClampNeg x1)) &&& 31))) rfl
        exact ms_252_84 (x1 := x1) (σ := σ) k   _ J41 K42 hS hP hB hA hO hM (show 0 ≤ x1.toInt from by omega) (show x1.toInt < 40 from by omega) (show (0 : Int) = 0 from by omega)

