set_option maxRecDepth 100000
theorem ms_194_8 {x : Nat → Nat → Nat} {t : Int32} {d : Nat} {s0 : ps_S} {Q : Option Value → ps_S → Prop} (k : ∀ (s' : ps_S), mJ x t s' → kp [] [7, 8, 9, 10, 11] s0 s' → ((ps_i s' 1131 8).toInt ≤ (ps_i s' 1131 4).toInt) → Q none s') : ∀ (n : Nat) (s : ps_S), (mJ x t s) → (kp [] [7, 8, 9, 10, 11] s0 s) → ((ps_i s 1131 7).toInt ≤ (ps_i s 1131 4).toInt) → (ps_i s 1131 4).toInt - (ps_i s 1131 7).toInt ≤ (n : Int) → ps_At (d + 1) 194 8 [(0, .ref 1131)] [] s Q := by
  refine xstr (fun n ih => ?_)
  intro s J K i0 hm
  have r1 := mf_7 J
  have r2 := mf_4 J
  refine pg_194_8 (d := d) ?_
  refine And.intro (fun h3 => ?_) (fun h3 => ?_)
  · have f4 : (ps_i s 1131 4).toInt ≤ (ps_i s 1131 7).toInt := xle h3
    exact ms_194_58  k   _ J K (show (ps_i s 1131 7).toInt ≤ (ps_i s 1131 4).toInt from by omega)
  · have f5 : (ps_i s 1131 7).toInt < (ps_i s 1131 4).toInt := xlt h3
    refine pg_188_0 ?_
    refine And.intro (fun h6 => ?_) (fun h6 => ?_)
    · have f7 : (ps_i s 1131 4).toInt ≤ (ps_i s 1131 7).toInt := xle h6
      refine And.intro (fun h8 => ?_) (fun h8 => ?_)
      · exact absurd (show (0 : Int32) = (32 : Int32) from h8) (by decide)
      · have f9 : (0 : Int) ≠ (32 : Int) := xne h8
        refine pg_188_0 ?_
        refine And.intro (fun h10 => ?_) (fun h10 => ?_)
        · have f11 : (ps_i s 1131 4).toInt ≤ (ps_i s 1131 7).toInt := xle h10
          refine And.intro (fun h12 => ?_) (fun h12 => ?_)
          · have f13 : (0 : Int) ≠ (10 : Int) := xne h12
            exact ms_194_58  k   _ J K (show (ps_i s 1131 7).toInt ≤ (ps_i s 1131 4).toInt from by omega)
          · exact absurd (show (0 : Int32) = (10 : Int32) from h12) (by decide)
        · have f14 : (ps_i s 1131 7).toInt < (ps_i s 1131 4).toInt := xlt h10
          refine ps_nd_i (show pm_in (ps_i s 1131 7) 1600 = true from xgi (show 0 ≤ (ps_i s 1131 7).toInt from by omega) (show (ps_i s 1131 7).toInt < 1600 from by omega)) ?_
          have n15 : 0 ≤ ((ps_a s 1133 (Int32.toNatClampNeg (ps_i s 1131 7))) &&& 255).toInt ∧ ((ps_a s 1133 (Int32.toNatClampNeg (ps_i s 1131 7))) &&& 255).toInt ≤ 255 := xN (ps_a s 1133 (Int32.toNatClampNeg (ps_i s 1131 7))) (c := 255) (n := 255) (by decide) (by decide)
          refine And.intro (fun h16 => ?_) (fun h16 => ?_)
          · have f17 : ((ps_a s 1133 (Int32.toNatClampNeg (ps_i s 1131 7))) &&& 255).toInt ≠ (10 : Int) := xne h16
            exact ms_194_58  k   _ J K (show (ps_i s 1131 7).toInt ≤ (ps_i s 1131 4).toInt from by omega)
          · have f18 : ((ps_a s 1133 (Int32.toNatClampNeg (ps_i s 1131 7))) &&& 255).toInt = (10 : Int) := xeq h16
            have a19 : ((ps_i s 1131 7) + 1).toInt = (ps_i s 1131 7).toInt + (1 : Int) := xIa (show -2147483648 ≤ (ps_i s 1131 7).toInt + (1 : Int) from by omega) (show (ps_i s 1131 7).toInt + (1 : Int) < 2147483648 from by omega)
            have J20 := mwi_7 (v := ((ps_i s 1131 7) + 1)) J (show 0 ≤ ((ps_i s 1131 7) + 1).toInt from by omega) (show ((ps_i s 1131 7) + 1).toInt ≤ 1600 from by omega)
            have K21 := kpi K (q := 7) (v := ((ps_i s 1131 7) + 1)) rfl
            exact ih (n - 1) (show n - 1 < n from by omega)  _ J20 K21 (show ((ps_i s 1131 7) + 1).toInt ≤ (ps_i s 1131 4).toInt from by omega) (show (ps_i s 1131 4).toInt - ((ps_i s 1131 7) + 1).toInt ≤ ((n - 1 : Nat) : Int) from by omega)
    · have f22 : (ps_i s 1131 7).toInt < (ps_i s 1131 4).toInt := xlt h6
      refine ps_nd_i (show pm_in (ps_i s 1131 7) 1600 = true from xgi (show 0 ≤ (ps_i s 1131 7).toInt from by omega) (show (ps_i s 1131 7).toInt < 1600 from by omega)) ?_
      have n23 : 0 ≤ ((ps_a s 1133 (Int32.toNatClampNeg (ps_i s 1131 7))) &&& 255).toInt ∧ ((ps_a s 1133 (Int32.toNatClampNeg (ps_i s 1131 7))) &&& 255).toInt ≤ 255 := xN (ps_a s 1133 (Int32.toNatClampNeg (ps_i s 1131 7))) (c := 255) (n := 255) (by decide) (by decide)
      refine And.intro (fun h24 => ?_) (fun h24 => ?_)
      · have f25 : ((ps_a s 1133 (Int32.toNatClampNeg (ps_i s 1131 7))) &&& 255).toInt = (32 : Int) := xeq h24
        have a26 : ((ps_i s 1131 7) + 1).toInt = (ps_i s 1131 7).toInt + (1 : Int) := xIa (show -2147483648 ≤ (ps_i s 1131 7).toInt + (1 : Int) from by omega) (show (ps_i s 1131 7).toInt + (1 : Int) < 2147483648 from by omega)
        have J27 := mwi_7 (v := ((ps_i s 1131 7) + 1)) J (show 0 ≤ ((ps_i s 1131 7) + 1).toInt from by omega) (show ((ps_i s 1131 7) + 1).toInt ≤ 1600 from by omega)
        have K28 := kpi K (q := 7) (v := ((ps_i s 1131 7) + 1)) rfl
        exact ih (n - 1) (show n - 1 < n from by omega)  _ J27 K28 (show ((ps_i s 1131 7) + 1).toInt ≤ (ps_i s 1131 4).toInt from by omega) (show (ps_i s 1131 4).toInt - ((ps_i s 1131 7) + 1).toInt ≤ ((n - 1 : Nat) : Int) from by omega)
      · have f29 : ((ps_a s 1133 (Int32.toNatClampNeg (ps_i s 1131 7))) &&& 255).toInt ≠ (32 : Int) := xne h24
        refine pg_188_0 ?_
        refine And.intro (fun h30 => ?_) (fun h30 => ?_)
        · have f31 : (ps_i s 1131 4).toInt ≤ (ps_i s 1131 7).toInt := xle h30
          refine And.intro (fun h32 => ?_) (fun h32 => ?_)
          · have f33 : (0 : Int) ≠ (10 : Int) := xne h32
            exact ms_194_58  k   _ J K (show (ps_i s 1131 7).toInt ≤ (ps_i s 1131 4).toInt from by omega)
          · exact absurd (show (0 : Int32) = (10 : Int32) from h32) (by decide)
        · have f34 : (ps_i s 1131 7).toInt < (ps_i s 1131 4).toInt := xlt h30
          refine ps_nd_i (show pm_in (ps_i s 1131 7) 1600 = true from xgi (show 0 ≤ (ps_i s 1131 7).toInt from by omega) (show (ps_i s 1131 7).toInt < 1600 from by omega)) ?_
          refine And.intro (fun h35 => ?_) (fun h35 => ?_)
          · have f36 : ((ps_a s 1133 (Int32.toNatClampNeg (ps_i s 1131 7))) &&& 255).toInt ≠ (10 : Int) := xne h35
            exact ms_194_58  k   _ J K (show (ps_i s 1131 7).toInt ≤ (ps_i s 1131 4).toInt from by omega)
          · have f37 : ((ps_a s 1133 (Int32.toNatClampNeg (ps_i s 1131 7))) &&& 255).toInt = (10 : Int) := xeq h35
            have a38 : ((ps_i s 1131 7) + 1).toInt = (ps_i s 1131 7).toInt + (1 : Int) := xIa (show -2147483648 ≤ (ps_i s 1131 7).toInt + (1 : Int) from by omega) (show (ps_i s 1131 7).toInt + (1 : Int) < 2147483648 from by omega)
            have J39 := mwi_7 (v := ((ps_i s 1131 7) + 1)) J (show 0 ≤ ((ps_i s 1131 7) + 1).toInt from by omega) (show ((ps_i s 1131 7) + 1).toInt ≤ 1600 from by omega)
            have K40 := kpi K (q := 7) (v := ((ps_i s 1131 7) + 1)) rfl
            exact ih (n - 1) (show n - 1 < n from by omega)  _ J39 K40 (show ((ps_i s 1131 7) + 1).toInt ≤ (ps_i s 1131 4).toInt from by omega) (show (ps_i s 1131 4).toInt - ((ps_i s 1131 7) + 1).toInt ≤ ((n - 1 : Nat) : Int) from by omega)

