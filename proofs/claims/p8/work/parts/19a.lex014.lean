set_option maxRecDepth 100000
theorem ms_194_58 {x : Nat → Nat → Nat} {t : Int32} {d : Nat} {s0 : ps_S} {Q : Option Value → ps_S → Prop} (k : ∀ (s' : ps_S), mJ x t s' → kp [] [7, 8, 9, 10, 11] s0 s' → ((ps_i s' 1131 8).toInt ≤ (ps_i s' 1131 4).toInt) → Q none s') (s : ps_S) (J : mJ x t s) (K : kp [] [7, 8, 9, 10, 11] s0 s) (i0 : (ps_i s 1131 7).toInt ≤ (ps_i s 1131 4).toInt) : ps_At (d + 1) 194 58 [(0, .ref 1131)] [] s Q := by
  have r1 := mf_7 J
  have r2 := mf_4 J
  refine pg_194_58 (d := d) ?_
  refine pg_188_0 ?_
  refine And.intro (fun h3 => ?_) (fun h3 => ?_)
  · have f4 : (ps_i s 1131 4).toInt ≤ (ps_i s 1131 7).toInt := xle h3
    have a5 : ((ps_i s 1131 7) + 1).toInt = (ps_i s 1131 7).toInt + (1 : Int) := xIa (show -2147483648 ≤ (ps_i s 1131 7).toInt + (1 : Int) from by omega) (show (ps_i s 1131 7).toInt + (1 : Int) < 2147483648 from by omega)
    have J6 := mwi_8 (v := ((ps_i s 1131 7) + 1)) J (show 0 ≤ ((ps_i s 1131 7) + 1).toInt from by omega) (show ((ps_i s 1131 7) + 1).toInt ≤ 1601 from by omega)
    have K7 := kpi K (q := 8) (v := ((ps_i s 1131 7) + 1)) rfl
    refine And.intro (fun h8 => ?_) (fun h8 => ?_)
    · have f9 : (ps_i s 1131 7).toInt < (ps_i s 1131 4).toInt := xlt h8
      refine ms_189 J6  (fun v10 p10_0 b10 => ?_)
      have p10_0' : v10.toInt = 0 ∨ 97 ≤ (0 : Int) := p10_0
      refine And.intro (fun h11 => ?_) (fun h11 => ?_)
      · have f12 : v10.toInt = (0 : Int) := xeq h11
        refine ms_190 J6  (fun v13 p13_0 b13 => ?_)
        have p13_0' : v13.toInt = 0 ∨ (48 ≤ (0 : Int) ∧ (0 : Int) ≤ 57) := p13_0
        refine And.intro (fun h14 => ?_) (fun h14 => ?_)
        · have f15 : v13.toInt = (0 : Int) := xeq h14
          refine And.intro (fun h16 => ?_) (fun h16 => ?_)
          · have f17 : (0 : Int) ≠ (59 : Int) := xne h16
            have J18 := mwi_9 (v := (1 : Int32)) J6 (show 0 ≤ (1 : Int) from by omega) (show (1 : Int) ≤ 5 from by omega)
            have K19 := kpi K7 (q := 9) (v := (1 : Int32)) rfl
            exact k _ J18 K19 (show ((ps_i s 1131 7) + 1).toInt ≤ (ps_i s 1131 4).toInt from by omega)
          · exact absurd (show (0 : Int32) = (59 : Int32) from h16) (by decide)
        · have f20 : v13.toInt ≠ (0 : Int) := xne h14
          have J21 := mwi_10 (v := (0 : Int32)) J6 (show 0 ≤ (0 : Int) from by omega) (show (0 : Int) ≤ 9999 from by omega)
          have K22 := kpi K7 (q := 10) (v := (0 : Int32)) rfl
          have J23 := mwi_8 (v := (ps_i s 1131 7)) J21 (show 0 ≤ (ps_i s 1131 7).toInt from by omega) (show (ps_i s 1131 7).toInt ≤ 1601 from by omega)
          have K24 := kpi K22 (q := 8) (v := (ps_i s 1131 7)) rfl
          exact ms_194_259  k  ((ps_i s 1131 4).toInt - (ps_i s 1131 7).toInt).toNat  _ J23 K24 (show (ps_i s 1131 7).toInt ≤ (ps_i s 1131 7).toInt from by omega) (show (ps_i s 1131 7).toInt ≤ (ps_i s 1131 4).toInt from by omega) (show ((ps_i s 1131 7).toInt - (ps_i s 1131 7).toInt ≤ 0 ∧ (0 : Int) = 0) ∨ ((ps_i s 1131 7).toInt - (ps_i s 1131 7).toInt = 1 ∧ (0 : Int) ≤ 9) ∨ ((ps_i s 1131 7).toInt - (ps_i s 1131 7).toInt = 2 ∧ (0 : Int) ≤ 99) ∨ ((ps_i s 1131 7).toInt - (ps_i s 1131 7).toInt = 3 ∧ (0 : Int) ≤ 999) ∨ 4 ≤ (ps_i s 1131 7).toInt - (ps_i s 1131 7).toInt from by omega) (show (ps_i s 1131 4).toInt - (ps_i s 1131 7).toInt ≤ ((((ps_i s 1131 4).toInt - (ps_i s 1131 7).toInt).toNat : Nat) : Int) from by omega)
      · have f25 : v10.toInt ≠ (0 : Int) := xne h11
        exact ms_194_119  k  ((ps_i s 1131 4).toInt - ((ps_i s 1131 7) + 1).toInt).toNat  _ J6 K7 (show (ps_i s 1131 7).toInt < (ps_i s 1131 4).toInt from by omega) (show ((ps_i s 1131 7) + 1).toInt ≤ (ps_i s 1131 4).toInt from by omega) (show (ps_i s 1131 4).toInt - ((ps_i s 1131 7) + 1).toInt ≤ ((((ps_i s 1131 4).toInt - ((ps_i s 1131 7) + 1).toInt).toNat : Nat) : Int) from by omega)
    · have f26 : (ps_i s 1131 4).toInt ≤ (ps_i s 1131 7).toInt := xle h8
      have J27 := mwi_9 (v := (0 : Int32)) J6 (show 0 ≤ (0 : Int) from by omega) (show (0 : Int) ≤ 5 from by omega)
      have K28 := kpi K7 (q := 9) (v := (0 : Int32)) rfl
      have J29 := mwi_7 (v := (ps_i s 1131 4)) J27 (show 0 ≤ (ps_i s 1131 4).toInt from by omega) (show (ps_i s 1131 4).toInt ≤ 1600 from by omega)
      have K30 := kpi K28 (q := 7) (v := (ps_i s 1131 4)) rfl
      have J31 := mwi_8 (v := (ps_i s 1131 4)) J29 (show 0 ≤ (ps_i s 1131 4).toInt from by omega) (show (ps_i s 1131 4).toInt ≤ 1601 from by omega)
      have K32 := kpi K30 (q := 8) (v := (ps_i s 1131 4)) rfl
      exact k _ J31 K32 (show (ps_i s 1131 4).toInt ≤ (ps_i s 1131 4).toInt from by omega)
  · have f33 : (ps_i s 1131 7).toInt < (ps_i s 1131 4).toInt := xlt h3
    refine ps_nd_i (show pm_in (ps_i s 1131 7) 1600 = true from xgi (show 0 ≤ (ps_i s 1131 7).toInt from by omega) (show (ps_i s 1131 7).toInt < 1600 from by omega)) ?_
    have n34 : 0 ≤ ((ps_a s 1133 (Int32.toNatClampNeg (ps_i s 1131 7))) &&& 255).toInt ∧ ((ps_a s 1133 (Int32.toNatClampNeg (ps_i s 1131 7))) &&& 255).toInt ≤ 255 := xN (ps_a s 1133 (Int32.toNatClampNeg (ps_i s 1131 7))) (c := 255) (n := 255) (by decide) (by decide)
    have a35 : ((ps_i s 1131 7) + 1).toInt = (ps_i s 1131 7).toInt + (1 : Int) := xIa (show -2147483648 ≤ (ps_i s 1131 7).toInt + (1 : Int) from by omega) (show (ps_i s 1131 7).toInt + (1 : Int) < 2147483648 from by omega)
    have J36 := mwi_8 (v := ((ps_i s 1131 7) + 1)) J (show 0 ≤ ((ps_i s 1131 7) + 1).toInt from by omega) (show ((ps_i s 1131 7) + 1).toInt ≤ 1601 from by omega)
    have K37 := kpi K (q := 8) (v := ((ps_i s 1131 7) + 1)) rfl
    refine And.intro (fun h38 => ?_) (fun h38 => ?_)
    · have f39 : (ps_i s 1131 7).toInt < (ps_i s 1131 4).toInt := xlt h38
      refine ms_189 J36  (fun v40 p40_0 b40 => ?_)
      have p40_0' : v40.toInt = 0 ∨ 97 ≤ ((ps_a s 1133 (Int32.toNatClampNeg (ps_i s 1131 7))) &&& 255).toInt := p40_0
      refine And.intro (fun h41 => ?_) (fun h41 => ?_)
      · have f42 : v40.toInt = (0 : Int) := xeq h41
        refine ms_190 J36  (fun v43 p43_0 b43 => ?_)
        have p43_0' : v43.toInt = 0 ∨ (48 ≤ ((ps_a s 1133 (Int32.toNatClampNeg (ps_i s 1131 7))) &&& 255).toInt ∧ ((ps_a s 1133 (Int32.toNatClampNeg (ps_i s 1131 7))) &&& 255).toInt ≤ 57) := p43_0
        refine And.intro (fun h44 => ?_) (fun h44 => ?_)
        · have f45 : v43.toInt = (0 : Int) := xeq h44
          refine And.intro (fun h46 => ?_) (fun h46 => ?_)
          · have f47 : ((ps_a s 1133 (Int32.toNatClampNeg (ps_i s 1131 7))) &&& 255).toInt ≠ (59 : Int) := xne h46
            have J48 := mwi_9 (v := (1 : Int32)) J36 (show 0 ≤ (1 : Int) from by omega) (show (1 : Int) ≤ 5 from by omega)
            have K49 := kpi K37 (q := 9) (v := (1 : Int32)) rfl
            exact k _ J48 K49 (show ((ps_i s 1131 7) + 1).toInt ≤ (ps_i s 1131 4).toInt from by omega)
          · have f50 : ((ps_a s 1133 (Int32.toNatClampNeg (ps_i s 1131 7))) &&& 255).toInt = (59 : Int) := xeq h46
            have J51 := mwi_9 (v := (5 : Int32)) J36 (show 0 ≤ (5 : Int) from by omega) (show (5 : Int) ≤ 5 from by omega)
            have K52 := kpi K37 (q := 9) (v := (5 : Int32)) rfl
            exact k _ J51 K52 (show ((ps_i s 1131 7) + 1).toInt ≤ (ps_i s 1131 4).toInt from by omega)
        · have f53 : v43.toInt ≠ (0 : Int) := xne h44
          have J54 := mwi_10 (v := (0 : Int32)) J36 (show 0 ≤ (0 : Int) from by omega) (show (0 : Int) ≤ 9999 from by omega)
          have K55 := kpi K37 (q := 10) (v := (0 : Int32)) rfl
          have J56 := mwi_8 (v := (ps_i s 1131 7)) J54 (show 0 ≤ (ps_i s 1131 7).toInt from by omega) (show (ps_i s 1131 7).toInt ≤ 1601 from by omega)
          have K57 := kpi K55 (q := 8) (v := (ps_i s 1131 7)) rfl
          exact ms_194_259  k  ((ps_i s 1131 4).toInt - (ps_i s 1131 7).toInt).toNat  _ J56 K57 (show (ps_i s 1131 7).toInt ≤ (ps_i s 1131 7).toInt from by omega) (show (ps_i s 1131 7).toInt ≤ (ps_i s 1131 4).toInt from by omega) (show ((ps_i s 1131 7).toInt - (ps_i s 1131 7).toInt ≤ 0 ∧ (0 : Int) = 0) ∨ ((ps_i s 1131 7).toInt - (ps_i s 1131 7).toInt = 1 ∧ (0 : Int) ≤ 9) ∨ ((ps_i s 1131 7).toInt - (ps_i s 1131 7).toInt = 2 ∧ (0 : Int) ≤ 99) ∨ ((ps_i s 1131 7).toInt - (ps_i s 1131 7).toInt = 3 ∧ (0 : Int) ≤ 999) ∨ 4 ≤ (ps_i s 1131 7).toInt - (ps_i s 1131 7).toInt from by omega) (show (ps_i s 1131 4).toInt - (ps_i s 1131 7).toInt ≤ ((((ps_i s 1131 4).toInt - (ps_i s 1131 7).toInt).toNat : Nat) : Int) from by omega)
      · have f58 : v40.toInt ≠ (0 : Int) := xne h41
        exact ms_194_119  k  ((ps_i s 1131 4).toInt - ((ps_i s 1131 7) + 1).toInt).toNat  _ J36 K37 (show (ps_i s 1131 7).toInt < (ps_i s 1131 4).toInt from by omega) (show ((ps_i s 1131 7) + 1).toInt ≤ (ps_i s 1131 4).toInt from by omega) (show (ps_i s 1131 4).toInt - ((ps_i s 1131 7) + 1).toInt ≤ ((((ps_i s 1131 4).toInt - ((ps_i s 1131 7) + 1).toInt).toNat : Nat) : Int) from by omega)
    · have f59 : (ps_i s 1131 4).toInt ≤ (ps_i s 1131 7).toInt := xle h38
      have J60 := mwi_9 (v := (0 : Int32)) J36 (show 0 ≤ (0 : Int) from by omega) (show (0 : Int) ≤ 5 from by omega)
      have K61 := kpi K37 (q := 9) (v := (0 : Int32)) rfl
      have J62 := mwi_7 (v := (ps_i s 1131 4)) J60 (show 0 ≤ (ps_i s 1131 4).toInt from by omega) (show (ps_i s 1131 4).toInt ≤ 1600 from by omega)
      have K63 := kpi K61 (q := 7) (v := (ps_i s 1131 4)) rfl
      have J64 := mwi_8 (v := (ps_i s 1131 4)) J62 (show 0 ≤ (ps_i s 1131 4).toInt from by omega) (show (ps_i s 1131 4).toInt ≤ 1601 from by omega)
      have K65 := kpi K63 (q := 8) (v := (ps_i s 1131 4)) rfl
      exact k _ J64 K65 (show (ps_i s 1131 4).toInt ≤ (ps_i s 1131 4).toInt from by omega)

