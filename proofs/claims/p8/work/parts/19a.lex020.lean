set_option maxRecDepth 100000
theorem ms_198_20 {x : Nat → Nat → Nat} {t : Int32} {d : Nat} {s0 : ps_S} {Q : Option Value → ps_S → Prop} (k : ∀ (s' : ps_S), mJ x t s' → kp [1133] [3, 4, 5, 6, 7, 8, 9, 10, 11, 22, 23] s0 s' → ((ps_i s' 1131 8).toInt ≤ (ps_i s' 1131 4).toInt) → ((ps_i s' 1131 5).toInt = 0) → ((ps_i s' 1131 3).toInt = 0) → ((ps_i s' 1131 23).toInt = 0) → ((ps_i s' 1131 22).toInt = (ps_i s' 1131 21).toInt) → Q none s') : ∀ (n : Nat) (x1 : Int32) (s : ps_S), (mJ x t s) → (kp [1133] [3, 4, 5, 6, 7, 8, 9, 10, 11, 22, 23] s0 s) → (0 ≤ x1.toInt) → (x1.toInt ≤ (ps_i s 1131 4).toInt) → ((ps_i s 1131 5).toInt = 0) → (ps_i s 1131 4).toInt - x1.toInt ≤ (n : Int) → ps_At (d + 2) 198 20 [(0, .ref 1131), (1, .int x1)] [] s Q := by
  refine xstr (fun n ih => ?_)
  intro x1 s J K i0 i1 i2 hm
  have r1 := mf_4 J
  have r2 := mf_5 J
  refine pg_198_20 (d := d + 1) ?_
  refine And.intro (fun h3 => ?_) (fun h3 => ?_)
  · have f4 : (ps_i s 1131 4).toInt ≤ x1.toInt := xle h3
    have J5 := mwi_3 (v := (0 : Int32)) J (show 0 ≤ (0 : Int) from by omega) (show (0 : Int) ≤ 1600 from by omega)
    have K6 := kpi K (q := 3) (v := (0 : Int32)) rfl
    have J7 := mwi_8 (v := (0 : Int32)) J5 (show 0 ≤ (0 : Int) from by omega) (show (0 : Int) ≤ 1601 from by omega)
    have K8 := kpi K6 (q := 8) (v := (0 : Int32)) rfl
    have J9 := mwi_23 (v := (0 : Int32)) J7 (show 0 ≤ (0 : Int) from by omega) (show (0 : Int) ≤ 12 from by omega)
    have K10 := kpi K8 (q := 23) (v := (0 : Int32)) rfl
    have r11 := mf_21 J
    have J12 := mwi_22 (v := (ps_i s 1131 21)) J9 (show 0 ≤ (ps_i s 1131 21).toInt from by omega) (show (ps_i s 1131 21).toInt ≤ 1 from by omega)
    have K13 := kpi K10 (q := 22) (v := (ps_i s 1131 21)) rfl
    refine ms_194 J12 (show (0 : Int) ≤ (ps_i s 1131 4).toInt from by omega) (fun s14 J14 K14 p14_0 => ?_)
    have K15 := kpt K13 K14 rfl rfl
    have p14_0' : (ps_i s14 1131 8).toInt ≤ (ps_i s14 1131 4).toInt := p14_0
    have r16 := mf_8 J14
    have r17 := mf_4 J14
    have u18 : (ps_i s14 1131 4).toInt = (ps_i s 1131 4).toInt := xeq (kp_i K14 4 rfl)
    have r19 := mf_5 J14
    have u20 : (ps_i s14 1131 5).toInt = (ps_i s 1131 5).toInt := xeq (kp_i K14 5 rfl)
    have r21 := mf_3 J14
    have u22 : (ps_i s14 1131 3).toInt = (0 : Int) := xeq (kp_i K14 3 rfl)
    have r23 := mf_23 J14
    have u24 : (ps_i s14 1131 23).toInt = (0 : Int) := xeq (kp_i K14 23 rfl)
    have r25 := mf_22 J14
    have u26 : (ps_i s14 1131 22).toInt = (ps_i s 1131 21).toInt := xeq (kp_i K14 22 rfl)
    have r27 := mf_21 J14
    have u28 : (ps_i s14 1131 21).toInt = (ps_i s 1131 21).toInt := xeq (kp_i K14 21 rfl)
    exact k _ J14 K15 (show (ps_i s14 1131 8).toInt ≤ (ps_i s14 1131 4).toInt from by omega) (show (ps_i s14 1131 5).toInt = 0 from by omega) (show (ps_i s14 1131 3).toInt = 0 from by omega) (show (ps_i s14 1131 23).toInt = 0 from by omega) (show (ps_i s14 1131 22).toInt = (ps_i s14 1131 21).toInt from by omega)
  · have f29 : x1.toInt < (ps_i s 1131 4).toInt := xlt h3
    refine ps_nd_i (show pm_in x1 1620 = true from xgi (show 0 ≤ x1.toInt from by omega) (show x1.toInt < 1620 from by omega)) ?_
    refine ps_nd_i (show pm_in x1 1600 = true from xgi (show 0 ≤ x1.toInt from by omega) (show x1.toInt < 1600 from by omega)) ?_
    have J30 := mwa_n 1133 (i := (Int32.toNatClampNeg x1)) (v := (Int8.toInt32 (Int32.toInt8 (ps_a s 1132 (Int32.toNatClampNeg x1))))) J rfl (by decide)
    have K31 := kpa' K (r := 1133) (i := (Int32.toNatClampNeg x1)) (v := (Int8.toInt32 (Int32.toInt8 (ps_a s 1132 (Int32.toNatClampNeg x1))))) rfl
    have a32 : (x1 + 1).toInt = x1.toInt + (1 : Int) := xIa (show -2147483648 ≤ x1.toInt + (1 : Int) from by omega) (show x1.toInt + (1 : Int) < 2147483648 from by omega)
    exact ih (n - 1) (show n - 1 < n from by omega) (x1 + 1) _ J30 K31 (show 0 ≤ (x1 + 1).toInt from by omega) (show (x1 + 1).toInt ≤ (ps_i s 1131 4).toInt from by omega) (show (ps_i s 1131 5).toInt = 0 from by omega) (show (ps_i s 1131 4).toInt - (x1 + 1).toInt ≤ ((n - 1 : Nat) : Int) from by omega)

