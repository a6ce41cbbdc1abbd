set_option maxRecDepth 100000
theorem ms_194_156 {x : Nat → Nat → Nat} {t : Int32} {d : Nat} {s0 : ps_S} {Q : Option Value → ps_S → Prop} (k : ∀ (s' : ps_S), mJ x t s' → kp [] [7, 8, 9, 10, 11] s0 s' → ((ps_i s' 1131 8).toInt ≤ (ps_i s' 1131 4).toInt) → Q none s') : ∀ (n : Nat) (x2 : Int32) (s : ps_S), (mJ x t s) → (kp [] [7, 8, 9, 10, 11] s0 s) → ((ps_i s 1131 8).toInt ≤ (ps_i s 1131 4).toInt) → (0 ≤ x2.toInt) → (x2.toInt ≤ 1601) → 1700 - x2.toInt ≤ (n : Int) → ps_At (d + 1) 194 156 [(0, .ref 1131), (2, .int x2)] [] s Q := by
  refine xstr (fun n ih => ?_)
  intro x2 s J K i0 i1 i2 hm
  have r1 := mf_8 J
  have r2 := mf_4 J
  refine pg_194_156 (d := d) ?_
  refine And.intro (fun h3 => ?_) (fun h3 => ?_)
  · have f4 : (ps_i s 1131 8).toInt ≤ x2.toInt := xle h3
    exact ms_194_199  k   _ J K (show (ps_i s 1131 8).toInt ≤ (ps_i s 1131 4).toInt from by omega)
  · have f5 : x2.toInt < (ps_i s 1131 8).toInt := xlt h3
    have r6 := mf_7 J
    have a7 : ((ps_i s 1131 7) + 8).toInt = (ps_i s 1131 7).toInt + (8 : Int) := xIa (show -2147483648 ≤ (ps_i s 1131 7).toInt + (8 : Int) from by omega) (show (ps_i s 1131 7).toInt + (8 : Int) < 2147483648 from by omega)
    refine And.intro (fun h8 => ?_) (fun h8 => ?_)
    · have f9 : ((ps_i s 1131 7) + 8).toInt ≤ x2.toInt := xle h8
      exact ms_194_199  k   _ J K (show (ps_i s 1131 8).toInt ≤ (ps_i s 1131 4).toInt from by omega)
    · have f10 : x2.toInt < ((ps_i s 1131 7) + 8).toInt := xlt h8
      refine pg_188_0 ?_
      refine And.intro (fun h11 => ?_) (fun h11 => ?_)
      · have f12 : (ps_i s 1131 4).toInt ≤ x2.toInt := xle h11
        have J13 := mw_j (q := 11) (v := (((ps_j s 1131 11) <<< (Int32.toInt64 (8 : Int32) &&& 63)) ||| (Int32.toInt64 0))) J
        have K14 := kpj K (q := 11) (v := (((ps_j s 1131 11) <<< (Int32.toInt64 (8 : Int32) &&& 63)) ||| (Int32.toInt64 0))) rfl
        have a15 : (x2 + 1).toInt = x2.toInt + (1 : Int) := xIa (show -2147483648 ≤ x2.toInt + (1 : Int) from by omega) (show x2.toInt + (1 : Int) < 2147483648 from by omega)
        exact ih (n - 1) (show n - 1 < n from by omega) (x2 + 1) _ J13 K14 (show (ps_i s 1131 8).toInt ≤ (ps_i s 1131 4).toInt from by omega) (show 0 ≤ (x2 + 1).toInt from by omega) (show (x2 + 1).toInt ≤ 1601 from by omega) (show 1700 - (x2 + 1).toInt ≤ ((n - 1 : Nat) : Int) from by omega)
      · have f16 : x2.toInt < (ps_i s 1131 4).toInt := xlt h11
        refine ps_nd_i (show pm_in x2 1600 = true from xgi (show 0 ≤ x2.toInt from by omega) (show x2.toInt < 1600 from by omega)) ?_
        have n17 : 0 ≤ ((ps_a s 1133 (Int32.toNatClampNeg x2)) &&& 255).toInt ∧ ((ps_a s 1133 (Int32.toNatClampNeg x2)) &&& 255).toInt ≤ 255 := xN (ps_a s 1133 (Int32.toNatClampNeg x2)) (c := 255) (n := 255) (by decide) (by decide)
        have J18 := mw_j (q := 11) (v := (((ps_j s 1131 11) <<< (Int32.toInt64 (8 : Int32) &&& 63)) ||| (Int32.toInt64 ((ps_a s 1133 (Int32.toNatClampNeg x2)) &&& 255)))) J
        have K19 := kpj K (q := 11) (v := (((ps_j s 1131 11) <<< (Int32.toInt64 (8 : Int32) &&& 63)) ||| (Int32.toInt64 ((ps_a s 1133 (Int32.toNatClampNeg x2)) &&& 255)))) rfl
        have a20 : (x2 + 1).toInt = x2.toInt + (1 : Int) := xIa (show -2147483648 ≤ x2.toInt + (1 : Int) from by omega) (show x2.toInt + (1 : Int) < 2147483648 from by omega)
        exact ih (n - 1) (show n - 1 < n from by omega) (x2 + 1) _ J18 K19 (show (ps_i s 1131 8).toInt ≤ (ps_i s 1131 4).toInt from by omega) (show 0 ≤ (x2 + 1).toInt from by omega) (show (x2 + 1).toInt ≤ 1601 from by omega) (show 1700 - (x2 + 1).toInt ≤ ((n - 1 : Nat) : Int) from by omega)

