set_option maxRecDepth 100000
theorem ms_194_199 {x : Nat → Nat → Nat} {t : Int32} {d : Nat} {s0 : ps_S} {Q : Option Value → ps_S → Prop} (k : ∀ (s' : ps_S), mJ x t s' → kp [] [7, 8, 9, 10, 11] s0 s' → ((ps_i s' 1131 8).toInt ≤ (ps_i s' 1131 4).toInt) → Q none s') (s : ps_S) (J : mJ x t s) (K : kp [] [7, 8, 9, 10, 11] s0 s) (i0 : (ps_i s 1131 8).toInt ≤ (ps_i s 1131 4).toInt) : ps_At (d + 1) 194 199 [(0, .ref 1131)] [] s Q := by
  have r1 := mf_8 J
  have r2 := mf_4 J
  refine pg_194_199 (d := d) ?_
  have r3 := mf_7 J
  have a4 : ((ps_i s 1131 8) - (ps_i s 1131 7)).toInt = (ps_i s 1131 8).toInt - (ps_i s 1131 7).toInt := xIs (show -2147483648 ≤ (ps_i s 1131 8).toInt - (ps_i s 1131 7).toInt from by omega) (show (ps_i s 1131 8).toInt - (ps_i s 1131 7).toInt < 2147483648 from by omega)
  refine And.intro (fun h5 => ?_) (fun h5 => ?_)
  · have f6 : ((ps_i s 1131 8) - (ps_i s 1131 7)).toInt ≤ (8 : Int) := xle h5
    refine ms_193 J  (fun v7 b7 => ?_)
    refine And.intro (fun h8 => ?_) (fun h8 => ?_)
    · have f9 : v7.toInt = (0 : Int) := xeq h8
      have J10 := mwi_9 (v := (2 : Int32)) J (show 0 ≤ (2 : Int) from by omega) (show (2 : Int) ≤ 5 from by omega)
      have K11 := kpi K (q := 9) (v := (2 : Int32)) rfl
      exact k _ J10 K11 (show (ps_i s 1131 8).toInt ≤ (ps_i s 1131 4).toInt from by omega)
    · have f12 : v7.toInt ≠ (0 : Int) := xne h8
      have J13 := mwi_9 (v := (3 : Int32)) J (show 0 ≤ (3 : Int) from by omega) (show (3 : Int) ≤ 5 from by omega)
      have K14 := kpi K (q := 9) (v := (3 : Int32)) rfl
      exact k _ J13 K14 (show (ps_i s 1131 8).toInt ≤ (ps_i s 1131 4).toInt from by omega)
  · have f15 : (8 : Int) < ((ps_i s 1131 8) - (ps_i s 1131 7)).toInt := xlt h5
    have J16 := mwi_9 (v := (1 : Int32)) J (show 0 ≤ (1 : Int) from by omega) (show (1 : Int) ≤ 5 from by omega)
    have K17 := kpi K (q := 9) (v := (1 : Int32)) rfl
    exact k _ J16 K17 (show (ps_i s 1131 8).toInt ≤ (ps_i s 1131 4).toInt from by omega)

