set_option maxRecDepth 100000
theorem ms_194_119 {x : Nat → Nat → Nat} {t : Int32} {d : Nat} {s0 : ps_S} {Q : Option Value → ps_S → Prop} (k : ∀ (s' : ps_S), mJ x t s' → kp [] [7, 8, 9, 10, 11] s0 s' → ((ps_i s' 1131 8).toInt ≤ (ps_i s' 1131 4).toInt) → Q none s') : ∀ (n : Nat) (s : ps_S), (mJ x t s) → (kp [] [7, 8, 9, 10, 11] s0 s) → ((ps_i s 1131 7).toInt < (ps_i s 1131 4).toInt) → ((ps_i s 1131 8).toInt ≤ (ps_i s 1131 4).toInt) → (ps_i s 1131 4).toInt - (ps_i s 1131 8).toInt ≤ (n : Int) → ps_At (d + 1) 194 119 [(0, .ref 1131)] [] s Q := by
  refine xstr (fun n ih => ?_)
  intro s J K i0 i1 hm
  have r1 := mf_7 J
  have r2 := mf_4 J
  have r3 := mf_8 J
  refine pg_194_119 (d := d) ?_
  refine pg_188_0 ?_
  refine And.intro (fun h4 => ?_) (fun h4 => ?_)
  · have f5 : (ps_i s 1131 4).toInt ≤ (ps_i s 1131 8).toInt := xle h4
    refine ms_189 J  (fun v6 p6_0 b6 => ?_)
    have p6_0' : v6.toInt = 0 ∨ 97 ≤ (0 : Int) := p6_0
    refine And.intro (fun h7 => ?_) (fun h7 => ?_)
    · have f8 : v6.toInt = (0 : Int) := xeq h7
      have J9 := mw_j (q := 11) (v := (0 : Int64)) J
      have K10 := kpj K (q := 11) (v := (0 : Int64)) rfl
      exact ms_194_156  k  (1700 - (ps_i s 1131 7).toInt).toNat (ps_i s 1131 7) _ J9 K10 (show (ps_i s 1131 8).toInt ≤ (ps_i s 1131 4).toInt from by omega) (show 0 ≤ (ps_i s 1131 7).toInt from by omega) (show (ps_i s 1131 7).toInt ≤ 1601 from by omega) (show 1700 - (ps_i s 1131 7).toInt ≤ (((1700 - (ps_i s 1131 7).toInt).toNat : Nat) : Int) from by omega)
    · have f11 : v6.toInt ≠ (0 : Int) := xne h7
      have a12 : ((ps_i s 1131 8) + 1).toInt = (ps_i s 1131 8).toInt + (1 : Int) := xIa (show -2147483648 ≤ (ps_i s 1131 8).toInt + (1 : Int) from by omega) (show (ps_i s 1131 8).toInt + (1 : Int) < 2147483648 from by omega)
      have J13 := mwi_8 (v := ((ps_i s 1131 8) + 1)) J (show 0 ≤ ((ps_i s 1131 8) + 1).toInt from by omega) (show ((ps_i s 1131 8) + 1).toInt ≤ 1601 from by omega)
      have K14 := kpi K (q := 8) (v := ((ps_i s 1131 8) + 1)) rfl
      exact ih (n - 1) (show n - 1 < n from by omega)  _ J13 K14 (show (ps_i s 1131 7).toInt < (ps_i s 1131 4).toInt from by omega) (show ((ps_i s 1131 8) + 1).toInt ≤ (ps_i s 1131 4).toInt from by omega) (show (ps_i s 1131 4).toInt - ((ps_i s 1131 8) + 1).toInt ≤ ((n - 1 : Nat) : Int) from by omega)
  · have f15 : (ps_i s 1131 8).toInt < (ps_i s 1131 4).toInt := xlt h4
    refine ps_nd_i (show pm_in (ps_i s 1131 8) 1600 = true from xgi (show 0 ≤ (ps_i s 1131 8).toInt from by omega) (show (ps_i s 1131 8).toInt < 1600 from by omega)) ?_
    have n16 : 0 ≤ ((ps_a s 1133 (Int32.toNatClampNeg (ps_i s 1131 8))) &&& 255).toInt ∧ ((ps_a s 1133 (Int32.toNatClampNeg (ps_i s 1131 8))) &&& 255).toInt ≤ 255 := xN (ps_a s 1133 (Int32.toNatClampNeg (ps_i s 1131 8))) (c := 255) (n := 255) (by decide) (by decide)
    refine ms_189 J  (fun v17 p17_0 b17 => ?_)
    have p17_0' : v17.toInt = 0 ∨ 97 ≤ ((ps_a s 1133 (Int32.toNatClampNeg (ps_i s 1131 8))) &&& 255).toInt := p17_0
    refine And.intro (fun h18 => ?_) (fun h18 => ?_)
    · have f19 : v17.toInt = (0 : Int) := xeq h18
      have J20 := mw_j (q := 11) (v := (0 : Int64)) J
      have K21 := kpj K (q := 11) (v := (0 : Int64)) rfl
      exact ms_194_156  k  (1700 - (ps_i s 1131 7).toInt).toNat (ps_i s 1131 7) _ J20 K21 (show (ps_i s 1131 8).toInt ≤ (ps_i s 1131 4).toInt from by omega) (show 0 ≤ (ps_i s 1131 7).toInt from by omega) (show (ps_i s 1131 7).toInt ≤ 1601 from by omega) (show 1700 - (ps_i s 1131 7).toInt ≤ (((1700 - (ps_i s 1131 7).toInt).toNat : Nat) : Int) from by omega)
    · have f22 : v17.toInt ≠ (0 : Int) := xne h18
      have a23 : ((ps_i s 1131 8) + 1).toInt = (ps_i s 1131 8).toInt + (1 : Int) := xIa (show -2147483648 ≤ (ps_i s 1131 8).toInt + (1 : Int) from by omega) (show (ps_i s 1131 8).toInt + (1 : Int) < 2147483648 from by omega)
      have J24 := mwi_8 (v := ((ps_i s 1131 8) + 1)) J (show 0 ≤ ((ps_i s 1131 8) + 1).toInt from by omega) (show ((ps_i s 1131 8) + 1).toInt ≤ 1601 from by omega)
      have K25 := kpi K (q := 8) (v := ((ps_i s 1131 8) + 1)) rfl
      exact ih (n - 1) (show n - 1 < n from by omega)  _ J24 K25 (show (ps_i s 1131 7).toInt < (ps_i s 1131 4).toInt from by omega) (show ((ps_i s 1131 8) + 1).toInt ≤ (ps_i s 1131 4).toInt from by omega) (show (ps_i s 1131 4).toInt - ((ps_i s 1131 8) + 1).toInt ≤ ((n - 1 : Nat) : Int) from by omega)

