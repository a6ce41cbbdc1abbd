set_option maxRecDepth 100000
theorem ms_194_259 {x : Nat → Nat → Nat} {t : Int32} {d : Nat} {s0 : ps_S} {Q : Option Value → ps_S → Prop} (k : ∀ (s' : ps_S), mJ x t s' → kp [] [7, 8, 9, 10, 11] s0 s' → ((ps_i s' 1131 8).toInt ≤ (ps_i s' 1131 4).toInt) → Q none s') : ∀ (n : Nat) (s : ps_S), (mJ x t s) → (kp [] [7, 8, 9, 10, 11] s0 s) → ((ps_i s 1131 7).toInt ≤ (ps_i s 1131 8).toInt) → ((ps_i s 1131 8).toInt ≤ (ps_i s 1131 4).toInt) → (((ps_i s 1131 8).toInt - (ps_i s 1131 7).toInt ≤ 0 ∧ (ps_i s 1131 10).toInt = 0) ∨ ((ps_i s 1131 8).toInt - (ps_i s 1131 7).toInt = 1 ∧ (ps_i s 1131 10).toInt ≤ 9) ∨ ((ps_i s 1131 8).toInt - (ps_i s 1131 7).toInt = 2 ∧ (ps_i s 1131 10).toInt ≤ 99) ∨ ((ps_i s 1131 8).toInt - (ps_i s 1131 7).toInt = 3 ∧ (ps_i s 1131 10).toInt ≤ 999) ∨ 4 ≤ (ps_i s 1131 8).toInt - (ps_i s 1131 7).toInt) → (ps_i s 1131 4).toInt - (ps_i s 1131 8).toInt ≤ (n : Int) → ps_At (d + 1) 194 259 [(0, .ref 1131)] [] s Q := by
  refine xstr (fun n ih => ?_)
  intro s J K i0 i1 i2 hm
  have r1 := mf_7 J
  have r2 := mf_8 J
  have r3 := mf_4 J
  have r4 := mf_10 J
  refine pg_194_259 (d := d) ?_
  refine pg_188_0 ?_
  refine And.intro (fun h5 => ?_) (fun h5 => ?_)
  · have f6 : (ps_i s 1131 4).toInt ≤ (ps_i s 1131 8).toInt := xle h5
    refine ms_190 J  (fun v7 p7_0 b7 => ?_)
    have p7_0' : v7.toInt = 0 ∨ (48 ≤ (0 : Int) ∧ (0 : Int) ≤ 57) := p7_0
    refine And.intro (fun h8 => ?_) (fun h8 => ?_)
    · have f9 : v7.toInt = (0 : Int) := xeq h8
      have a10 : ((ps_i s 1131 8) - (ps_i s 1131 7)).toInt = (ps_i s 1131 8).toInt - (ps_i s 1131 7).toInt := xIs (show -2147483648 ≤ (ps_i s 1131 8).toInt - (ps_i s 1131 7).toInt from by omega) (show (ps_i s 1131 8).toInt - (ps_i s 1131 7).toInt < 2147483648 from by omega)
      refine And.intro (fun h11 => ?_) (fun h11 => ?_)
      · have f12 : (4 : Int) < ((ps_i s 1131 8) - (ps_i s 1131 7)).toInt := xlt h11
        have J13 := mwi_9 (v := (1 : Int32)) J (show 0 ≤ (1 : Int) from by omega) (show (1 : Int) ≤ 5 from by omega)
        have K14 := kpi K (q := 9) (v := (1 : Int32)) rfl
        exact k _ J13 K14 (show (ps_i s 1131 8).toInt ≤ (ps_i s 1131 4).toInt from by omega)
      · have f15 : ((ps_i s 1131 8) - (ps_i s 1131 7)).toInt ≤ (4 : Int) := xle h11
        refine pg_188_0 ?_
        refine And.intro (fun h16 => ?_) (fun h16 => ?_)
        · have f17 : (ps_i s 1131 4).toInt ≤ (ps_i s 1131 8).toInt := xle h16
          refine ms_189 J  (fun v18 p18_0 b18 => ?_)
          have p18_0' : v18.toInt = 0 ∨ 97 ≤ (0 : Int) := p18_0
          refine And.intro (fun h19 => ?_) (fun h19 => ?_)
          · have f20 : v18.toInt = (0 : Int) := xeq h19
            have J21 := mwi_9 (v := (4 : Int32)) J (show 0 ≤ (4 : Int) from by omega) (show (4 : Int) ≤ 5 from by omega)
            have K22 := kpi K (q := 9) (v := (4 : Int32)) rfl
            exact k _ J21 K22 (show (ps_i s 1131 8).toInt ≤ (ps_i s 1131 4).toInt from by omega)
          · have f23 : v18.toInt ≠ (0 : Int) := xne h19
            have J24 := mwi_9 (v := (1 : Int32)) J (show 0 ≤ (1 : Int) from by omega) (show (1 : Int) ≤ 5 from by omega)
            have K25 := kpi K (q := 9) (v := (1 : Int32)) rfl
            exact k _ J24 K25 (show (ps_i s 1131 8).toInt ≤ (ps_i s 1131 4).toInt from by omega)
        · have f26 : (ps_i s 1131 8).toInt < (ps_i s 1131 4).toInt := xlt h16
          refine ps_nd_i (show pm_in (ps_i s 1131 8) 1600 = true from xgi (show 0 ≤ (ps_i s 1131 8).toInt from by omega) (show (ps_i s 1131 8).toInt < 1600 from by omega)) ?_
          have n27 : 0 ≤ ((ps_a s 1133 (Int32.toNatClampNeg (ps_i s 1131 8))) &&& 255).toInt ∧ ((ps_a s 1133 (Int32.toNatClampNeg (ps_i s 1131 8))) &&& 255).toInt ≤ 255 := xN (ps_a s 1133 (Int32.toNatClampNeg (ps_i s 1131 8))) (c := 255) (n := 255) (by decide) (by decide)
          refine ms_189 J  (fun v28 p28_0 b28 => ?_)
          have p28_0' : v28.toInt = 0 ∨ 97 ≤ ((ps_a s 1133 (Int32.toNatClampNeg (ps_i s 1131 8))) &&& 255).toInt := p28_0
          refine And.intro (fun h29 => ?_) (fun h29 => ?_)
          · have f30 : v28.toInt = (0 : Int) := xeq h29
            have J31 := mwi_9 (v := (4 : Int32)) J (show 0 ≤ (4 : Int) from by omega) (show (4 : Int) ≤ 5 from by omega)
            have K32 := kpi K (q := 9) (v := (4 : Int32)) rfl
            exact k _ J31 K32 (show (ps_i s 1131 8).toInt ≤ (ps_i s 1131 4).toInt from by omega)
          · have f33 : v28.toInt ≠ (0 : Int) := xne h29
            have J34 := mwi_9 (v := (1 : Int32)) J (show 0 ≤ (1 : Int) from by omega) (show (1 : Int) ≤ 5 from by omega)
            have K35 := kpi K (q := 9) (v := (1 : Int32)) rfl
            exact k _ J34 K35 (show (ps_i s 1131 8).toInt ≤ (ps_i s 1131 4).toInt from by omega)
    · have f36 : v7.toInt ≠ (0 : Int) := xne h8
      have a37 : ((ps_i s 1131 8) - (ps_i s 1131 7)).toInt = (ps_i s 1131 8).toInt - (ps_i s 1131 7).toInt := xIs (show -2147483648 ≤ (ps_i s 1131 8).toInt - (ps_i s 1131 7).toInt from by omega) (show (ps_i s 1131 8).toInt - (ps_i s 1131 7).toInt < 2147483648 from by omega)
      refine And.intro (fun h38 => ?_) (fun h38 => ?_)
      · have f39 : (4 : Int) ≤ ((ps_i s 1131 8) - (ps_i s 1131 7)).toInt := xle h38
        have a40 : ((ps_i s 1131 8) + 1).toInt = (ps_i s 1131 8).toInt + (1 : Int) := xIa (show -2147483648 ≤ (ps_i s 1131 8).toInt + (1 : Int) from by omega) (show (ps_i s 1131 8).toInt + (1 : Int) < 2147483648 from by omega)
        have J41 := mwi_8 (v := ((ps_i s 1131 8) + 1)) J (show 0 ≤ ((ps_i s 1131 8) + 1).toInt from by omega) (show ((ps_i s 1131 8) + 1).toInt ≤ 1601 from by omega)
        have K42 := kpi K (q := 8) (v := ((ps_i s 1131 8) + 1)) rfl
        exact ih (n - 1) (show n - 1 < n from by omega)  _ J41 K42 (show (ps_i s 1131 7).toInt ≤ ((ps_i s 1131 8) + 1).toInt from by omega) (show ((ps_i s 1131 8) + 1).toInt ≤ (ps_i s 1131 4).toInt from by omega) (show (((ps_i s 1131 8) + 1).toInt - (ps_i s 1131 7).toInt ≤ 0 ∧ (ps_i s 1131 10).toInt = 0) ∨ (((ps_i s 1131 8) + 1).toInt - (ps_i s 1131 7).toInt = 1 ∧ (ps_i s 1131 10).toInt ≤ 9) ∨ (((ps_i s 1131 8) + 1).toInt - (ps_i s 1131 7).toInt = 2 ∧ (ps_i s 1131 10).toInt ≤ 99) ∨ (((ps_i s 1131 8) + 1).toInt - (ps_i s 1131 7).toInt = 3 ∧ (ps_i s 1131 10).toInt ≤ 999) ∨ 4 ≤ ((ps_i s 1131 8) + 1).toInt - (ps_i s 1131 7).toInt from by omega) (show (ps_i s 1131 4).toInt - ((ps_i s 1131 8) + 1).toInt ≤ ((n - 1 : Nat) : Int) from by omega)
      · have f43 : ((ps_i s 1131 8) - (ps_i s 1131 7)).toInt < (4 : Int) := xlt h38
        have a44 : ((10 : Int32) * (ps_i s 1131 10)).toInt = (10 : Int) * (ps_i s 1131 10).toInt := xIm (show -2147483648 ≤ (10 : Int) * (ps_i s 1131 10).toInt from by omega) (show (10 : Int) * (ps_i s 1131 10).toInt < 2147483648 from by omega)
        refine pg_188_0 ?_
        refine And.intro (fun h45 => ?_) (fun h45 => ?_)
        · have f46 : (ps_i s 1131 4).toInt ≤ (ps_i s 1131 8).toInt := xle h45
          have a47 : (((10 : Int32) * (ps_i s 1131 10)) + 0).toInt = ((10 : Int32) * (ps_i s 1131 10)).toInt + (0 : Int) := xIa (show -2147483648 ≤ ((10 : Int32) * (ps_i s 1131 10)).toInt + (0 : Int) from by omega) (show ((10 : Int32) * (ps_i s 1131 10)).toInt + (0 : Int) < 2147483648 from by omega)
          have a48 : ((((10 : Int32) * (ps_i s 1131 10)) + 0) - 48).toInt = (((10 : Int32) * (ps_i s 1131 10)) + 0).toInt - (48 : Int) := xIs (show -2147483648 ≤ (((10 : Int32) * (ps_i s 1131 10)) + 0).toInt - (48 : Int) from by omega) (show (((10 : Int32) * (ps_i s 1131 10)) + 0).toInt - (48 : Int) < 2147483648 from by omega)
          have J49 := mwi_10 (v := ((((10 : Int32) * (ps_i s 1131 10)) + 0) - 48)) J (show 0 ≤ ((((10 : Int32) * (ps_i s 1131 10)) + 0) - 48).toInt from by omega) (show ((((10 : Int32) * (ps_i s 1131 10)) + 0) - 48).toInt ≤ 9999 from by omega)
          have K50 := kpi K (q := 10) (v := ((((10 : Int32) * (ps_i s 1131 10)) + 0) - 48)) rfl
          have a51 : ((ps_i s 1131 8) + 1).toInt = (ps_i s 1131 8).toInt + (1 : Int) := xIa (show -2147483648 ≤ (ps_i s 1131 8).toInt + (1 : Int) from by omega) (show (ps_i s 1131 8).toInt + (1 : Int) < 2147483648 from by omega)
          have J52 := mwi_8 (v := ((ps_i s 1131 8) + 1)) J49 (show 0 ≤ ((ps_i s 1131 8) + 1).toInt from by omega) (show ((ps_i s 1131 8) + 1).toInt ≤ 1601 from by omega)
          have K53 := kpi K50 (q := 8) (v := ((ps_i s 1131 8) + 1)) rfl
          exact ih (n - 1) (show n - 1 < n from by omega)  _ J52 K53 (show (ps_i s 1131 7).toInt ≤ ((ps_i s 1131 8) + 1).toInt from by omega) (show ((ps_i s 1131 8) + 1).toInt ≤ (ps_i s 1131 4).toInt from by omega) (show (((ps_i s 1131 8) + 1).toInt - (ps_i s 1131 7).toInt ≤ 0 ∧ ((((10 : Int32) * (ps_i s 1131 10)) + 0) - 48).toInt = 0) ∨ (((ps_i s 1131 8) + 1).toInt - (ps_i s 1131 7).toInt = 1 ∧ ((((10 : Int32) * (ps_i s 1131 10)) + 0) - 48).toInt ≤ 9) ∨ (((ps_i s 1131 8) + 1).toInt - (ps_i s 1131 7).toInt = 2 ∧ ((((10 : Int32) * (ps_i s 1131 10)) + 0) - 48).toInt ≤ 99) ∨ (((ps_i s 1131 8) + 1).toInt - (ps_i s 1131 7).toInt = 3 ∧ ((((10 : Int32) * (ps_i s 1131 10)) + 0) - 48).toInt ≤ 999) ∨ 4 ≤ ((ps_i s 1131 8) + 1).toInt - (ps_i s 1131 7).toInt from by omega) (show (ps_i s 1131 4).toInt - ((ps_i s 1131 8) + 1).toInt ≤ ((n - 1 : Nat) : Int) from by omega)
        · have f54 : (ps_i s 1131 8).toInt < (ps_i s 1131 4).toInt := xlt h45
          refine ps_nd_i (show pm_in (ps_i s 1131 8) 1600 = true from xgi (show 0 ≤ (ps_i s 1131 8).toInt from by omega) (show (ps_i s 1131 8).toInt < 1600 from by omega)) ?_
          have n55 : 0 ≤ ((ps_a s 1133 (Int32.toNatClampNeg (ps_i s 1131 8))) &&& 255).toInt ∧ ((ps_a s 1133 (Int32.toNatClampNeg (ps_i s 1131 8))) &&& 255).toInt ≤ 255 := xN (ps_a s 1133 (Int32.toNatClampNeg (ps_i s 1131 8))) (c := 255) (n := 255) (by decide) (by decide)
          have a56 : (((10 : Int32) * (ps_i s 1131 10)) + ((ps_a s 1133 (Int32.toNatClampNeg (ps_i s 1131 8))) &&& 255)).toInt = ((10 : Int32) * (ps_i s 1131 10)).toInt + ((ps_a s 1133 (Int32.toNatClampNeg (ps_i s 1131 8))) &&& 255).toInt := xIa (show -2147483648 ≤ ((10 : Int32) * (ps_i s 1131 10)).toInt + ((ps_a s 1133 (Int32.toNatClampNeg (ps_i s 1131 8))) &&& 255).toInt from by omega) (show ((10 : Int32) * (ps_i s 1131 10)).toInt + ((ps_a s 1133 (Int32.toNatClampNeg (ps_i s 1131 8))) &&& 255).toInt < 2147483648 from by omega)
          have a57 : ((((10 : Int32) * (ps_i s 1131 10)) + ((ps_a s 1133 (Int32.toNatClampNeg (ps_i s 1131 8))) &&& 255)) - 48).toInt = (((10 : Int32) * (ps_i s 1131 10)) + ((ps_a s 1133 (Int32.toNatClampNeg (ps_i s 1131 8))) &&& 255)).toInt - (48 : Int) := xIs (show -2147483648 ≤ (((10 : Int32) * (ps_i s 1131 10)) + ((ps_a s 1133 (Int32.toNatClampNeg (ps_i s 1131 8))) &&& 255)).toInt - (48 : Int) from by omega) (show (((10 : Int32) * (ps_i s 1131 10)) + ((ps_a s 1133 (Int32.toNatClampNeg (ps_i s 1131 8))) &&& 255)).toInt - (48 : Int) < 2147483648 from by omega)
          have J58 := mwi_10 (v := ((((10 : Int32) * (ps_i s 1131 10)) + ((ps_a s 1133 (Int32.toNatClampNeg (ps_i s 1131 8))) &&& 255)) - 48)) J (show 0 ≤ ((((10 : Int32) * (ps_i s 1131 10)) + ((ps_a s 1133 (Int32.toNatClampNeg (ps_i s 1131 8))) &&& 255)) - 48).toInt from by omega) (show ((((10 : Int32) * (ps_i s 1131 10)) + ((ps_a s 1133 (Int32.toNatClampNeg (ps_i s 1131 8))) &&& 255)) - 48).toInt ≤ 9999 from by omega)
          have K59 := kpi K (q := 10) (v := ((((10 : Int32) * (ps_i s 1131 10)) + ((ps_a s 1133 (Int32.toNatClampNeg (ps_i s 1131 8))) &&& 255)) - 48)) rfl
          have a60 : ((ps_i s 1131 8) + 1).toInt = (ps_i s 1131 8).toInt + (1 : Int) := xIa (show -2147483648 ≤ (ps_i s 1131 8).toInt + (1 : Int) from by omega) (show (ps_i s 1131 8).toInt + (1 : Int) < 2147483648 from by omega)
          have J61 := mwi_8 (v := ((ps_i s 1131 8) + 1)) J58 (show 0 ≤ ((ps_i s 1131 8) + 1).toInt from by omega) (show ((ps_i s 1131 8) + 1).toInt ≤ 1601 from by omega)
          have K62 := kpi K59 (q := 8) (v := ((ps_i s 1131 8) + 1)) rfl
          exact ih (n - 1) (show n - 1 < n from by omega)  _ J61 K62 (show (ps_i s 1131 7).toInt ≤ ((ps_i s 1131 8) + 1).toInt from by omega) (show ((ps_i s 1131 8) + 1).toInt ≤ (ps_i s 1131 4).toInt from by omega) (show (((ps_i s 1131 8) + 1).toInt - (ps_i s 1131 7).toInt ≤ 0 ∧ ((((10 : Int32) * (ps_i s 1131 10)) + ((ps_a s 1133 (Int32.toNatClampNeg (ps_i s 1131 8))) &&& 255)) - 48).toInt = 0) ∨ (((ps_i s 1131 8) + 1).toInt - (ps_i s 1131 7).toInt = 1 ∧ ((((10 : Int32) * (ps_i s 1131 10)) + ((ps_a s 1133 (Int32.toNatClampNeg (ps_i s 1131 8))) &&& 255)) - 48).toInt ≤ 9) ∨ (((ps_i s 1131 8) + 1).toInt - (ps_i s 1131 7).toInt = 2 ∧ ((((10 : Int32) * (ps_i s 1131 10)) + ((ps_a s 1133 (Int32.toNatClampNeg (ps_i s 1131 8))) &&& 255)) - 48).toInt ≤ 99) ∨ (((ps_i s 1131 8) + 1).toInt - (ps_i s 1131 7).toInt = 3 ∧ ((((10 : Int32) * (ps_i s 1131 10)) + ((ps_a s 1133 (Int32.toNatClampNeg (ps_i s 1131 8))) &&& 255)) - 48).toInt ≤ 999) ∨ 4 ≤ ((ps_i s 1131 8) + 1).toInt - (ps_i s 1131 7).toInt from by omega) (show (ps_i s 1131 4).toInt - ((ps_i s 1131 8) + 1).toInt ≤ ((n - 1 : Nat) : Int) from by omega)
  · have f63 : (ps_i s 1131 8).toInt < (ps_i s 1131 4).toInt := xlt h5
    refine ps_nd_i (show pm_in (ps_i s 1131 8) 1600 = true from xgi (show 0 ≤ (ps_i s 1131 8).toInt from by omega) (show (ps_i s 1131 8).toInt < 1600 from by omega)) ?_
    have n64 : 0 ≤ ((ps_a s 1133 (Int32.toNatClampNeg (ps_i s 1131 8))) &&& 255).toInt ∧ ((ps_a s 1133 (Int32.toNatClampNeg (ps_i s 1131 8))) &&& 255).toInt ≤ 255 := xN (ps_a s 1133 (Int32.toNatClampNeg (ps_i s 1131 8))) (c := 255) (n := 255) (by decide) (by decide)
    refine ms_190 J  (fun v65 p65_0 b65 => ?_)
    have p65_0' : v65.toInt = 0 ∨ (48 ≤ ((ps_a s 1133 (Int32.toNatClampNeg (ps_i s 1131 8))) &&& 255).toInt ∧ ((ps_a s 1133 (Int32.toNatClampNeg (ps_i s 1131 8))) &&& 255).toInt ≤ 57) := p65_0
    refine And.intro (fun h66 => ?_) (fun h66 => ?_)
    · have f67 : v65.toInt = (0 : Int) := xeq h66
      have a68 : ((ps_i s 1131 8) - (ps_i s 1131 7)).toInt = (ps_i s 1131 8).toInt - (ps_i s 1131 7).toInt := xIs (show -2147483648 ≤ (ps_i s 1131 8).toInt - (ps_i s 1131 7).toInt from by omega) (show (ps_i s 1131 8).toInt - (ps_i s 1131 7).toInt < 2147483648 from by omega)
      refine And.intro (fun h69 => ?_) (fun h69 => ?_)
      · have f70 : (4 : Int) < ((ps_i s 1131 8) - (ps_i s 1131 7)).toInt := xlt h69
        have J71 := mwi_9 (v := (1 : Int32)) J (show 0 ≤ (1 : Int) from by omega) (show (1 : Int) ≤ 5 from by omega)
        have K72 := kpi K (q := 9) (v := (1 : Int32)) rfl
        exact k _ J71 K72 (show (ps_i s 1131 8).toInt ≤ (ps_i s 1131 4).toInt from by omega)
      · have f73 : ((ps_i s 1131 8) - (ps_i s 1131 7)).toInt ≤ (4 : Int) := xle h69
        refine pg_188_0 ?_
        refine And.intro (fun h74 => ?_) (fun h74 => ?_)
        · have f75 : (ps_i s 1131 4).toInt ≤ (ps_i s 1131 8).toInt := xle h74
          refine ms_189 J  (fun v76 p76_0 b76 => ?_)
          have p76_0' : v76.toInt = 0 ∨ 97 ≤ (0 : Int) := p76_0
          refine And.intro (fun h77 => ?_) (fun h77 => ?_)
          · have f78 : v76.toInt = (0 : Int) := xeq h77
            have J79 := mwi_9 (v := (4 : Int32)) J (show 0 ≤ (4 : Int) from by omega) (show (4 : Int) ≤ 5 from by omega)
            have K80 := kpi K (q := 9) (v := (4 : Int32)) rfl
            exact k _ J79 K80 (show (ps_i s 1131 8).toInt ≤ (ps_i s 1131 4).toInt from by omega)
          · have f81 : v76.toInt ≠ (0 : Int) := xne h77
            have J82 := mwi_9 (v := (1 : Int32)) J (show 0 ≤ (1 : Int) from by omega) (show (1 : Int) ≤ 5 from by omega)
            have K83 := kpi K (q := 9) (v := (1 : Int32)) rfl
            exact k _ J82 K83 (show (ps_i s 1131 8).toInt ≤ (ps_i s 1131 4).toInt from by omega)
        · have f84 : (ps_i s 1131 8).toInt < (ps_i s 1131 4).toInt := xlt h74
          refine ps_nd_i (show pm_in (ps_i s 1131 8) 1600 = true from xgi (show 0 ≤ (ps_i s 1131 8).toInt from by omega) (show (ps_i s 1131 8).toInt < 1600 from by omega)) ?_
          refine ms_189 J  (fun v85 p85_0 b85 => ?_)
          have p85_0' : v85.toInt = 0 ∨ 97 ≤ ((ps_a s 1133 (Int32.toNatClampNeg (ps_i s 1131 8))) &&& 255).toInt := p85_0
          refine And.intro (fun h86 => ?_) (fun h86 => ?_)
          · have f87 : v85.toInt = (0 : Int) := xeq h86
            have J88 := mwi_9 (v := (4 : Int32)) J (show 0 ≤ (4 : Int) from by omega) (show (4 : Int) ≤ 5 from by omega)
            have K89 := kpi K (q := 9) (v := (4 : Int32)) rfl
            exact k _ J88 K89 (show (ps_i s 1131 8).toInt ≤ (ps_i s 1131 4).toInt from by omega)
          · have f90 : v85.toInt ≠ (0 : Int) := xne h86
            have J91 := mwi_9 (v := (1 : Int32)) J (show 0 ≤ (1 : Int) from by omega) (show (1 : Int) ≤ 5 from by omega)
            have K92 := kpi K (q := 9) (v := (1 : Int32)) rfl
            exact k _ J91 K92 (show (ps_i s 1131 8).toInt ≤ (ps_i s 1131 4).toInt from by omega)
    · have f93 : v65.toInt ≠ (0 : Int) := xne h66
      have a94 : ((ps_i s 1131 8) - (ps_i s 1131 7)).toInt = (ps_i s 1131 8).toInt - (ps_i s 1131 7).toInt := xIs (show -2147483648 ≤ (ps_i s 1131 8).toInt - (ps_i s 1131 7).toInt from by omega) (show (ps_i s 1131 8).toInt - (ps_i s 1131 7).toInt < 2147483648 from by omega)
      refine And.intro (fun h95 => ?_) (fun h95 => ?_)
      · have f96 : (4 : Int) ≤ ((ps_i s 1131 8) - (ps_i s 1131 7)).toInt := xle h95
        have a97 : ((ps_i s 1131 8) + 1).toInt = (ps_i s 1131 8).toInt + (1 : Int) := xIa (show -2147483648 ≤ (ps_i s 1131 8).toInt + (1 : Int) from by omega) (show (ps_i s 1131 8).toInt + (1 : Int) < 2147483648 from by omega)
        have J98 := mwi_8 (v := ((ps_i s 1131 8) + 1)) J (show 0 ≤ ((ps_i s 1131 8) + 1).toInt from by omega) (show ((ps_i s 1131 8) + 1).toInt ≤ 1601 from by omega)
        have K99 := kpi K (q := 8) (v := ((ps_i s 1131 8) + 1)) rfl
        exact ih (n - 1) (show n - 1 < n from by omega)  _ J98 K99 (show (ps_i s 1131 7).toInt ≤ ((ps_i s 1131 8) + 1).toInt from by omega) (show ((ps_i s 1131 8) + 1).toInt ≤ (ps_i s 1131 4).toInt from by omega) (show (((ps_i s 1131 8) + 1).toInt - (ps_i s 1131 7).toInt ≤ 0 ∧ (ps_i s 1131 10).toInt = 0) ∨ (((ps_i s 1131 8) + 1).toInt - (ps_i s 1131 7).toInt = 1 ∧ (ps_i s 1131 10).toInt ≤ 9) ∨ (((ps_i s 1131 8) + 1).toInt - (ps_i s 1131 7).toInt = 2 ∧ (ps_i s 1131 10).toInt ≤ 99) ∨ (((ps_i s 1131 8) + 1).toInt - (ps_i s 1131 7).toInt = 3 ∧ (ps_i s 1131 10).toInt ≤ 999) ∨ 4 ≤ ((ps_i s 1131 8) + 1).toInt - (ps_i s 1131 7).toInt from by omega) (show (ps_i s 1131 4).toInt - ((ps_i s 1131 8) + 1).toInt ≤ ((n - 1 : Nat) : Int) from by omega)
      · have f100 : ((ps_i s 1131 8) - (ps_i s 1131 7)).toInt < (4 : Int) := xlt h95
        have a101 : ((10 : Int32) * (ps_i s 1131 10)).toInt = (10 : Int) * (ps_i s 1131 10).toInt := xIm (show -2147483648 ≤ (10 : Int) * (ps_i s 1131 10).toInt from by omega) (show (10 : Int) * (ps_i s 1131 10).toInt < 2147483648 from by omega)
        refine pg_188_0 ?_
        refine And.intro (fun h102 => ?_) (fun h102 => ?_)
        · have f103 : (ps_i s 1131 4).toInt ≤ (ps_i s 1131 8).toInt := xle h102
          have a104 : (((10 : Int32) * (ps_i s 1131 10)) + 0).toInt = ((10 : Int32) * (ps_i s 1131 10)).toInt + (0 : Int) := xIa (show -2147483648 ≤ ((10 : Int32) * (ps_i s 1131 10)).toInt + (0 : Int) from by omega) (show ((10 : Int32) * (ps_i s 1131 10)).toInt + (0 : Int) < 2147483648 from by omega)
          have a105 : ((((10 : Int32) * (ps_i s 1131 10)) + 0) - 48).toInt = (((10 : Int32) * (ps_i s 1131 10)) + 0).toInt - (48 : Int) := xIs (show -2147483648 ≤ (((10 : Int32) * (ps_i s 1131 10)) + 0).toInt - (48 : Int) from by omega) (show (((10 : Int32) * (ps_i s 1131 10)) + 0).toInt - (48 : Int) < 2147483648 from by omega)
          have J106 := mwi_10 (v := ((((10 : Int32) * (ps_i s 1131 10)) + 0) - 48)) J (show 0 ≤ ((((10 : Int32) * (ps_i s 1131 10)) + 0) - 48).toInt from by omega) (show ((((10 : Int32) * (ps_i s 1131 10)) + 0) - 48).toInt ≤ 9999 from by omega)
          have K107 := kpi K (q := 10) (v := ((((10 : Int32) * (ps_i s 1131 10)) + 0) - 48)) rfl
          have a108 : ((ps_i s 1131 8) + 1).toInt = (ps_i s 1131 8).toInt + (1 : Int) := xIa (show -2147483648 ≤ (ps_i s 1131 8).toInt + (1 : Int) from by omega) (show (ps_i s 1131 8).toInt + (1 : Int) < 2147483648 from by omega)
          have J109 := mwi_8 (v := ((ps_i s 1131 8) + 1)) J106 (show 0 ≤ ((ps_i s 1131 8) + 1).toInt from by omega) (show ((ps_i s 1131 8) + 1).toInt ≤ 1601 from by omega)
          have K110 := kpi K107 (q := 8) (v := ((ps_i s 1131 8) + 1)) rfl
          exact ih (n - 1) (show n - 1 < n from by omega)  _ J109 K110 (show (ps_i s 1131 7).toInt ≤ ((ps_i s 1131 8) + 1).toInt from by omega) (show ((ps_i s 1131 8) + 1).toInt ≤ (ps_i s 1131 4).toInt from by omega) (show (((ps_i s 1131 8) + 1).toInt - (ps_i s 1131 7).toInt ≤ 0 ∧ ((((10 : Int32) * (ps_i s 1131 10)) + 0) - 48).toInt = 0) ∨ (((ps_i s 1131 8) + 1).toInt - (ps_i s 1131 7).toInt = 1 ∧ ((((10 : Int32) * (ps_i s 1131 10)) + 0) - 48).toInt ≤ 9) ∨ (((ps_i s 1131 8) + 1).toInt - (ps_i s 1131 7).toInt = 2 ∧ ((((10 : Int32) * (ps_i s 1131 10)) + 0) - 48).toInt ≤ 99) ∨ (((ps_i s 1131 8) + 1).toInt - (ps_i s 1131 7).toInt = 3 ∧ ((((10 : Int32) * (ps_i s 1131 10)) + 0) - 48).toInt ≤ 999) ∨ 4 ≤ ((ps_i s 1131 8) + 1).toInt - (ps_i s 1131 7).toInt from by omega) (show (ps_i s 1131 4).toInt - ((ps_i s 1131 8) + 1).toInt ≤ ((n - 1 : Nat) : Int) from by omega)
        · have f111 : (ps_i s 1131 8).toInt < (ps_i s 1131 4).toInt := xlt h102
          refine ps_nd_i (show pm_in (ps_i s 1131 8) 1600 = true from xgi (show 0 ≤ (ps_i s 1131 8).toInt from by omega) (show (ps_i s 1131 8).toInt < 1600 from by omega)) ?_
          have a112 : (((10 : Int32) * (ps_i s 1131 10)) + ((ps_a s 1133 (Int32.toNatClampNeg (ps_i s 1131 8))) &&& 255)).toInt = ((10 : Int32) * (ps_i s 1131 10)).toInt + ((ps_a s 1133 (Int32.toNatClampNeg (ps_i s 1131 8))) &&& 255).toInt := xIa (show -2147483648 ≤ ((10 : Int32) * (ps_i s 1131 10)).toInt + ((ps_a s 1133 (Int32.toNatClampNeg (ps_i s 1131 8))) &&& 255).toInt from by omega) (show ((10 : Int32) * (ps_i s 1131 10)).toInt + ((ps_a s 1133 (Int32.toNatClampNeg (ps_i s 1131 8))) &&& 255).toInt < 2147483648 from by omega)
          have a113 : ((((10 : Int32) * (ps_i s 1131 10)) + ((ps_a s 1133 (Int32.toNatClampNeg (ps_i s 1131 8))) &&& 255)) - 48).toInt = (((10 : Int32) * (ps_i s 1131 10)) + ((ps_a s 1133 (Int32.toNatClampNeg (ps_i s 1131 8))) &&& 255)).toInt - (48 : Int) := xIs (show -2147483648 ≤ (((10 : Int32) * (ps_i s 1131 10)) + ((ps_a s 1133 (Int32.toNatClampNeg (ps_i s 1131 8))) &&& 255)).toInt - (48 : Int) from by omega) (show (((10 : Int32) * (ps_i s 1131 10)) + ((ps_a s 1133 (Int32.toNatClampNeg (ps_i s 1131 8))) &&& 255)).toInt - (48 : Int) < 2147483648 from by omega)
          have J114 := mwi_10 (v := ((((10 : Int32) * (ps_i s 1131 10)) + ((ps_a s 1133 (Int32.toNatClampNeg (ps_i s 1131 8))) &&& 255)) - 48)) J (show 0 ≤ ((((10 : Int32) * (ps_i s 1131 10)) + ((ps_a s 1133 (Int32.toNatClampNeg (ps_i s 1131 8))) &&& 255)) - 48).toInt from by omega) (show ((((10 : Int32) * (ps_i s 1131 10)) + ((ps_a s 1133 (Int32.toNatClampNeg (ps_i s 1131 8))) &&& 255)) - 48).toInt ≤ 9999 from by omega)
          have K115 := kpi K (q := 10) (v := ((((10 : Int32) * (ps_i s 1131 10)) + ((ps_a s 1133 (Int32.toNatClampNeg (ps_i s 1131 8))) &&& 255)) - 48)) rfl
          have a116 : ((ps_i s 1131 8) + 1).toInt = (ps_i s 1131 8).toInt + (1 : Int) := xIa (show -2147483648 ≤ (ps_i s 1131 8).toInt + (1 : Int) from by omega) (show (ps_i s 1131 8).toInt + (1 : Int) < 2147483648 from by omega)
          have J117 := mwi_8 (v := ((ps_i s 1131 8) + 1)) J114 (show 0 ≤ ((ps_i s 1131 8) + 1).toInt from by omega) (show ((ps_i s 1131 8) + 1).toInt ≤ 1601 from by omega)
          have K118 := kpi K115 (q := 8) (v := ((ps_i s 1131 8) + 1)) rfl
          exact ih (n - 1) (show n - 1 < n from by omega)  _ J117 K118 (show (ps_i s 1131 7).toInt ≤ ((ps_i s 1131 8) + 1).toInt from by omega) (show ((ps_i s 1131 8) + 1).toInt ≤ (ps_i s 1131 4).toInt from by omega) (show (((ps_i s 1131 8) + 1).toInt - (ps_i s 1131 7).toInt ≤ 0 ∧ ((((10 : Int32) * (ps_i s 1131 10)) + ((ps_a s 1133 (Int32.toNatClampNeg (ps_i s 1131 8))) &&& 255)) - 48).toInt = 0) ∨ (((ps_i s 1131 8) + 1).toInt - (ps_i s 1131 7).toInt = 1 ∧ ((((10 : Int32) * (ps_i s 1131 10)) + ((ps_a s 1133 (Int32.toNatClampNeg (ps_i s 1131 8))) &&& 255)) - 48).toInt ≤ 9) ∨ (((ps_i s 1131 8) + 1).toInt - (ps_i s 1131 7).toInt = 2 ∧ ((((10 : Int32) * (ps_i s 1131 10)) + ((ps_a s 1133 (Int32.toNatClampNeg (ps_i s 1131 8))) &&& 255)) - 48).toInt ≤ 99) ∨ (((ps_i s 1131 8) + 1).toInt - (ps_i s 1131 7).toInt = 3 ∧ ((((10 : Int32) * (ps_i s 1131 10)) + ((ps_a s 1133 (Int32.toNatClampNeg (ps_i s 1131 8))) &&& 255)) - 48).toInt ≤ 999) ∨ 4 ≤ ((ps_i s 1131 8) + 1).toInt - (ps_i s 1131 7).toInt from by omega) (show (ps_i s 1131 4).toInt - ((ps_i s 1131 8) + 1).toInt ≤ ((n - 1 : Nat) : Int) from by omega)

