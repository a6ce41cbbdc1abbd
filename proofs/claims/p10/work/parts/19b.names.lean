set_option maxRecDepth 100000
-- ProofBenchModel.axiomHere()I
theorem pg_205_0 {d : Nat} {s : ps_S} {Q : Option Value → ps_S → Prop} (h :
  ps_At d 205 2 [(0, .ref 1131), (1, .int 0)] [] s Q) : ps_At d 205 0 [(0, .ref 1131)] [] s Q :=
  ps_wp_at (stops := [(2, [0, 1])]) (n := 4) h rfl

theorem pg_205_2 {d : Nat} {x1 : Int32} {s : ps_S} {Q : Option Value → ps_S → Prop} (h :
  ps_nd (pm_in (ps_i s 1131 22) 2) (((ps_a s 1137 (Int32.toNatClampNeg (ps_i s 1131 22))) ≤ x1 →
    Q (some (.int (-1))) s) ∧
  (x1 < (ps_a s 1137 (Int32.toNatClampNeg (ps_i s 1131 22))) →
    ((ps_i s 1131 9) ≠ 2 →
      ps_At d 205 2 [(0, .ref 1131), (1, .int (x1 + 1))] [] s Q) ∧
    ((ps_i s 1131 9) = 2 →
      ps_nd (pm_in (((8 : Int32) * (ps_i s 1131 22)) + x1) 16) (((lg_cmp (ps_b s 1142 (Int32.toNatClampNeg (((8 : Int32) * (ps_i s 1131 22)) + x1))) (ps_j s 1131 11)) ≠ 0 →
        ps_At d 205 2 [(0, .ref 1131), (1, .int (x1 + 1))] [] s Q) ∧
      ((lg_cmp (ps_b s 1142 (Int32.toNatClampNeg (((8 : Int32) * (ps_i s 1131 22)) + x1))) (ps_j s 1131 11)) = 0 →
        Q (some (.int x1)) s)))))) : ps_At d 205 2 [(0, .ref 1131), (1, .int x1)] [] s Q :=
  ps_wp_at (stops := [(2, [0, 1])]) (n := 34) h rfl

theorem ms_205_2 {x : Nat → Nat → Nat} {t : Int32} {d : Nat} {s : ps_S} {Q : Option Value → ps_S → Prop} (k : ∀ (v : Int32), (-1 ≤ v.toInt) → (v.toInt < (ps_a s 1137 (Int32.toNatClampNeg (ps_i s 1131 22))).toInt) → Q (some (.int v)) s) : ∀ (n : Nat) (x1 : Int32), (mJ x t s) → (0 ≤ x1.toInt) → (x1.toInt ≤ (ps_a s 1137 (Int32.toNatClampNeg (ps_i s 1131 22))).toInt) → 20 - x1.toInt ≤ (n : Int) → ps_At d 205 2 [(0, .ref 1131), (1, .int x1)] [] s Q := by
  refine xstr (fun n ih => ?_)
  intro x1 J i0 i1 hm
  have r1 := mf_22 J
  have r2 : 0 ≤ (ps_a s 1137 (Int32.toNatClampNeg (ps_i s 1131 22))).toInt ∧ (ps_a s 1137 (Int32.toNatClampNeg (ps_i s 1131 22))).toInt ≤ 8 := ma_1137 (i := (ps_i s 1131 22)) J (show 0 ≤ (ps_i s 1131 22).toInt from by omega) (show (ps_i s 1131 22).toInt < 2 from by omega)
  refine pg_205_2 ?_
  refine ps_nd_i (show pm_in (ps_i s 1131 22) 2 = true from xgi (show 0 ≤ (ps_i s 1131 22).toInt from by omega) (show (ps_i s 1131 22).toInt < 2 from by omega)) ?_
  refine And.intro (fun h3 => ?_) (fun h3 => ?_)
  · have f4 : (ps_a s 1137 (Int32.toNatClampNeg (ps_i s 1131 22))).toInt ≤ x1.toInt := xle h3
    exact k (-1 : Int32) (show -1 ≤ (-1 : Int) from by omega) (show (-1 : Int) < (ps_a s 1137 (Int32.toNatClampNeg (ps_i s 1131 22))).toInt from by omega)
  · have f5 : x1.toInt < (ps_a s 1137 (Int32.toNatClampNeg (ps_i s 1131 22))).toInt := xlt h3
    have r6 := mf_9 J
    refine And.intro (fun h7 => ?_) (fun h7 => ?_)
    · have f8 : (ps_i s 1131 9).toInt ≠ (2 : Int) := xne h7
      have a9 : (x1 + 1).toInt = x1.toInt + (1 : Int) := xIa (show -2147483648 ≤ x1.toInt + (1 : Int) from by omega) (show x1.toInt + (1 : Int) < 2147483648 from by omega)
      exact ih (n - 1) (show n - 1 < n from by omega) (x1 + 1) J (show 0 ≤ (x1 + 1).toInt from by omega) (show (x1 + 1).toInt ≤ (ps_a s 1137 (Int32.toNatClampNeg (ps_i s 1131 22))).toInt from by omega) (show 20 - (x1 + 1).toInt ≤ ((n - 1 : Nat) : Int) from by omega)
    · have f10 : (ps_i s 1131 9).toInt = (2 : Int) := xeq h7
      have a11 : ((8 : Int32) * (ps_i s 1131 22)).toInt = (8 : Int) * (ps_i s 1131 22).toInt := xIm (show -2147483648 ≤ (8 : Int) * (ps_i s 1131 22).toInt from by omega) (show (8 : Int) * (ps_i s 1131 22).toInt < 2147483648 from by omega)
      have a12 : (((8 : Int32) * (ps_i s 1131 22)) + x1).toInt = ((8 : Int32) * (ps_i s 1131 22)).toInt + x1.toInt := xIa (show -2147483648 ≤ ((8 : Int32) * (ps_i s 1131 22)).toInt + x1.toInt from by omega) (show ((8 : Int32) * (ps_i s 1131 22)).toInt + x1.toInt < 2147483648 from by omega)
      refine ps_nd_i (show pm_in (((8 : Int32) * (ps_i s 1131 22)) + x1) 16 = true from xgi (show 0 ≤ (((8 : Int32) * (ps_i s 1131 22)) + x1).toInt from by omega) (show (((8 : Int32) * (ps_i s 1131 22)) + x1).toInt < 16 from by omega)) ?_
      refine And.intro (fun h13 => ?_) (fun h13 => ?_)
      · have f14 : (lg_cmp (ps_b s 1142 (Int32.toNatClampNeg (((8 : Int32) * (ps_i s 1131 22)) + x1))) (ps_j s 1131 11)).toInt ≠ (0 : Int) := xne h13
        have a15 : (x1 + 1).toInt = x1.toInt + (1 : Int) := xIa (show -2147483648 ≤ x1.toInt + (1 : Int) from by omega) (show x1.toInt + (1 : Int) < 2147483648 from by omega)
        exact ih (n - 1) (show n - 1 < n from by omega) (x1 + 1) J (show 0 ≤ (x1 + 1).toInt from by omega) (show (x1 + 1).toInt ≤ (ps_a s 1137 (Int32.toNatClampNeg (ps_i s 1131 22))).toInt from by omega) (show 20 - (x1 + 1).toInt ≤ ((n - 1 : Nat) : Int) from by omega)
      · have f16 : (lg_cmp (ps_b s 1142 (Int32.toNatClampNeg (((8 : Int32) * (ps_i s 1131 22)) + x1))) (ps_j s 1131 11)).toInt = (0 : Int) := xeq h13
        exact k x1 (show -1 ≤ x1.toInt from by omega) (show x1.toInt < (ps_a s 1137 (Int32.toNatClampNeg (ps_i s 1131 22))).toInt from by omega)

theorem ms_205 {x : Nat → Nat → Nat} {t : Int32} {s : ps_S} {d : Nat} {f : Int32 → ps_S → Prop} (J : mJ x t s) (k : ∀ (v : Int32), (-1 ≤ v.toInt) → (v.toInt < (ps_a s 1137 (Int32.toNatClampNeg (ps_i s 1131 22))).toInt) → f v s) : ps_Cl d 205 [.ref 1131] s (ps_rI f) := by
  refine pg_205_0 ?_
  have r1 := mf_22 J
  have r2 : 0 ≤ (ps_a s 1137 (Int32.toNatClampNeg (ps_i s 1131 22))).toInt ∧ (ps_a s 1137 (Int32.toNatClampNeg (ps_i s 1131 22))).toInt ≤ 8 := ma_1137 (i := (ps_i s 1131 22)) J (show 0 ≤ (ps_i s 1131 22).toInt from by omega) (show (ps_i s 1131 22).toInt < 2 from by omega)
  exact ms_205_2  k  (20 - (0 : Int)).toNat (0) J (show 0 ≤ (0 : Int) from by omega) (show (0 : Int) ≤ (ps_a s 1137 (Int32.toNatClampNeg (ps_i s 1131 22))).toInt from by omega) (show 20 - (0 : Int) ≤ (((20 - (0 : Int)).toNat : Nat) : Int) from by omega)

-- ProofBenchModel.relHere()I
theorem pg_206_0 {d : Nat} {s : ps_S} {Q : Option Value → ps_S → Prop} (h :
  ps_At d 206 2 [(0, .ref 1131), (1, .int 0)] [] s Q) : ps_At d 206 0 [(0, .ref 1131)] [] s Q :=
  ps_wp_at (stops := [(2, [0, 1])]) (n := 4) h rfl

theorem pg_206_2 {d : Nat} {x1 : Int32} {s : ps_S} {Q : Option Value → ps_S → Prop} (h :
  ps_nd (pm_in (ps_i s 1131 22) 2) (((ps_a s 1135 (Int32.toNatClampNeg (ps_i s 1131 22))) ≤ x1 →
    Q (some (.int (-1))) s) ∧
  (x1 < (ps_a s 1135 (Int32.toNatClampNeg (ps_i s 1131 22))) →
    ((ps_i s 1131 9) ≠ 2 →
      ps_At d 206 2 [(0, .ref 1131), (1, .int (x1 + 1))] [] s Q) ∧
    ((ps_i s 1131 9) = 2 →
      ps_nd (pm_in (((6 : Int32) * (ps_i s 1131 22)) + x1) 12) (((lg_cmp (ps_b s 1140 (Int32.toNatClampNeg (((6 : Int32) * (ps_i s 1131 22)) + x1))) (ps_j s 1131 11)) ≠ 0 →
        ps_At d 206 2 [(0, .ref 1131), (1, .int (x1 + 1))] [] s Q) ∧
      ((lg_cmp (ps_b s 1140 (Int32.toNatClampNeg (((6 : Int32) * (ps_i s 1131 22)) + x1))) (ps_j s 1131 11)) = 0 →
        Q (some (.int x1)) s)))))) : ps_At d 206 2 [(0, .ref 1131), (1, .int x1)] [] s Q :=
  ps_wp_at (stops := [(2, [0, 1])]) (n := 34) h rfl

theorem ms_206_2 {x : Nat → Nat → Nat} {t : Int32} {d : Nat} {s : ps_S} {Q : Option Value → ps_S → Prop} (k : ∀ (v : Int32), (-1 ≤ v.toInt) → (v.toInt < (ps_a s 1135 (Int32.toNatClampNeg (ps_i s 1131 22))).toInt) → Q (some (.int v)) s) : ∀ (n : Nat) (x1 : Int32), (mJ x t s) → (0 ≤ x1.toInt) → (x1.toInt ≤ (ps_a s 1135 (Int32.toNatClampNeg (ps_i s 1131 22))).toInt) → 20 - x1.toInt ≤ (n : Int) → ps_At d 206 2 [(0, .ref 1131), (1, .int x1)] [] s Q := by
  refine xstr (fun n ih => ?_)
  intro x1 J i0 i1 hm
  have r1 := mf_22 J
  have r2 : 0 ≤ (ps_a s 1135 (Int32.toNatClampNeg (ps_i s 1131 22))).toInt ∧ (ps_a s 1135 (Int32.toNatClampNeg (ps_i s 1131 22))).toInt ≤ 6 := ma_1135 (i := (ps_i s 1131 22)) J (show 0 ≤ (ps_i s 1131 22).toInt from by omega) (show (ps_i s 1131 22).toInt < 2 from by omega)
  refine pg_206_2 ?_
  refine ps_nd_i (show pm_in (ps_i s 1131 22) 2 = true from xgi (show 0 ≤ (ps_i s 1131 22).toInt from by omega) (show (ps_i s 1131 22).toInt < 2 from by omega)) ?_
  refine And.intro (fun h3 => ?_) (fun h3 => ?_)
  · have f4 : (ps_a s 1135 (Int32.toNatClampNeg (ps_i s 1131 22))).toInt ≤ x1.toInt := xle h3
    exact k (-1 : Int32) (show -1 ≤ (-1 : Int) from by omega) (show (-1 : Int) < (ps_a s 1135 (Int32.toNatClampNeg (ps_i s 1131 22))).toInt from by omega)
  · have f5 : x1.toInt < (ps_a s 1135 (Int32.toNatClampNeg (ps_i s 1131 22))).toInt := xlt h3
    have r6 := mf_9 J
    refine And.intro (fun h7 => ?_) (fun h7 => ?_)
    · have f8 : (ps_i s 1131 9).toInt ≠ (2 : Int) := xne h7
      have a9 : (x1 + 1).toInt = x1.toInt + (1 : Int) := xIa (show -2147483648 ≤ x1.toInt + (1 : Int) from by omega) (show x1.toInt + (1 : Int) < 2147483648 from by omega)
      exact ih (n - 1) (show n - 1 < n from by omega) (x1 + 1) J (show 0 ≤ (x1 + 1).toInt from by omega) (show (x1 + 1).toInt ≤ (ps_a s 1135 (Int32.toNatClampNeg (ps_i s 1131 22))).toInt from by omega) (show 20 - (x1 + 1).toInt ≤ ((n - 1 : Nat) : Int) from by omega)
    · have f10 : (ps_i s 1131 9).toInt = (2 : Int) := xeq h7
      have a11 : ((6 : Int32) * (ps_i s 1131 22)).toInt = (6 : Int) * (ps_i s 1131 22).toInt := xIm (show -2147483648 ≤ (6 : Int) * (ps_i s 1131 22).toInt from by omega) (show (6 : Int) * (ps_i s 1131 22).toInt < 2147483648 from by omega)
      have a12 : (((6 : Int32) * (ps_i s 1131 22)) + x1).toInt = ((6 : Int32) * (ps_i s 1131 22)).toInt + x1.toInt := xIa (show -2147483648 ≤ ((6 : Int32) * (ps_i s 1131 22)).toInt + x1.toInt from by omega) (show ((6 : Int32) * (ps_i s 1131 22)).toInt + x1.toInt < 2147483648 from by omega)
      refine ps_nd_i (show pm_in (((6 : Int32) * (ps_i s 1131 22)) + x1) 12 = true from xgi (show 0 ≤ (((6 : Int32) * (ps_i s 1131 22)) + x1).toInt from by omega) (show (((6 : Int32) * (ps_i s 1131 22)) + x1).toInt < 12 from by omega)) ?_
      refine And.intro (fun h13 => ?_) (fun h13 => ?_)
      · have f14 : (lg_cmp (ps_b s 1140 (Int32.toNatClampNeg (((6 : Int32) * (ps_i s 1131 22)) + x1))) (ps_j s 1131 11)).toInt ≠ (0 : Int) := xne h13
        have a15 : (x1 + 1).toInt = x1.toInt + (1 : Int) := xIa (show -2147483648 ≤ x1.toInt + (1 : Int) from by omega) (show x1.toInt + (1 : Int) < 2147483648 from by omega)
        exact ih (n - 1) (show n - 1 < n from by omega) (x1 + 1) J (show 0 ≤ (x1 + 1).toInt from by omega) (show (x1 + 1).toInt ≤ (ps_a s 1135 (Int32.toNatClampNeg (ps_i s 1131 22))).toInt from by omega) (show 20 - (x1 + 1).toInt ≤ ((n - 1 : Nat) : Int) from by omega)
      · have f16 : (lg_cmp (ps_b s 1140 (Int32.toNatClampNeg (((6 : Int32) * (ps_i s 1131 22)) + x1))) (ps_j s 1131 11)).toInt = (0 : Int) := xeq h13
        exact k x1 (show -1 ≤ x1.toInt from by omega) (show x1.toInt < (ps_a s 1135 (Int32.toNatClampNeg (ps_i s 1131 22))).toInt from by omega)

theorem ms_206 {x : Nat → Nat → Nat} {t : Int32} {s : ps_S} {d : Nat} {f : Int32 → ps_S → Prop} (J : mJ x t s) (k : ∀ (v : Int32), (-1 ≤ v.toInt) → (v.toInt < (ps_a s 1135 (Int32.toNatClampNeg (ps_i s 1131 22))).toInt) → f v s) : ps_Cl d 206 [.ref 1131] s (ps_rI f) := by
  refine pg_206_0 ?_
  have r1 := mf_22 J
  have r2 : 0 ≤ (ps_a s 1135 (Int32.toNatClampNeg (ps_i s 1131 22))).toInt ∧ (ps_a s 1135 (Int32.toNatClampNeg (ps_i s 1131 22))).toInt ≤ 6 := ma_1135 (i := (ps_i s 1131 22)) J (show 0 ≤ (ps_i s 1131 22).toInt from by omega) (show (ps_i s 1131 22).toInt < 2 from by omega)
  exact ms_206_2  k  (20 - (0 : Int)).toNat (0) J (show 0 ≤ (0 : Int) from by omega) (show (0 : Int) ≤ (ps_a s 1135 (Int32.toNatClampNeg (ps_i s 1131 22))).toInt from by omega) (show 20 - (0 : Int) ≤ (((20 - (0 : Int)).toNat : Nat) : Int) from by omega)

-- ProofBenchModel.funHere()I
theorem pg_207_0 {d : Nat} {s : ps_S} {Q : Option Value → ps_S → Prop} (h :
  ps_At d 207 2 [(0, .ref 1131), (1, .int 0)] [] s Q) : ps_At d 207 0 [(0, .ref 1131)] [] s Q :=
  ps_wp_at (stops := [(2, [0, 1])]) (n := 4) h rfl

theorem pg_207_2 {d : Nat} {x1 : Int32} {s : ps_S} {Q : Option Value → ps_S → Prop} (h :
  ps_nd (pm_in (ps_i s 1131 22) 2) (((ps_a s 1136 (Int32.toNatClampNeg (ps_i s 1131 22))) ≤ x1 →
    Q (some (.int (-1))) s) ∧
  (x1 < (ps_a s 1136 (Int32.toNatClampNeg (ps_i s 1131 22))) →
    ((ps_i s 1131 9) ≠ 2 →
      ps_At d 207 2 [(0, .ref 1131), (1, .int (x1 + 1))] [] s Q) ∧
    ((ps_i s 1131 9) = 2 →
      ps_nd (pm_in (((4 : Int32) * (ps_i s 1131 22)) + x1) 8) (((lg_cmp (ps_b s 1141 (Int32.toNatClampNeg (((4 : Int32) * (ps_i s 1131 22)) + x1))) (ps_j s 1131 11)) ≠ 0 →
        ps_At d 207 2 [(0, .ref 1131), (1, .int (x1 + 1))] [] s Q) ∧
      ((lg_cmp (ps_b s 1141 (Int32.toNatClampNeg (((4 : Int32) * (ps_i s 1131 22)) + x1))) (ps_j s 1131 11)) = 0 →
        Q (some (.int x1)) s)))))) : ps_At d 207 2 [(0, .ref 1131), (1, .int x1)] [] s Q :=
  ps_wp_at (stops := [(2, [0, 1])]) (n := 34) h rfl

theorem ms_207_2 {x : Nat → Nat → Nat} {t : Int32} {d : Nat} {s : ps_S} {Q : Option Value → ps_S → Prop} (k : ∀ (v : Int32), (-1 ≤ v.toInt) → (v.toInt < (ps_a s 1136 (Int32.toNatClampNeg (ps_i s 1131 22))).toInt) → Q (some (.int v)) s) : ∀ (n : Nat) (x1 : Int32), (mJ x t s) → (0 ≤ x1.toInt) → (x1.toInt ≤ (ps_a s 1136 (Int32.toNatClampNeg (ps_i s 1131 22))).toInt) → 20 - x1.toInt ≤ (n : Int) → ps_At d 207 2 [(0, .ref 1131), (1, .int x1)] [] s Q := by
  refine xstr (fun n ih => ?_)
  intro x1 J i0 i1 hm
  have r1 := mf_22 J
  have r2 : 0 ≤ (ps_a s 1136 (Int32.toNatClampNeg (ps_i s 1131 22))).toInt ∧ (ps_a s 1136 (Int32.toNatClampNeg (ps_i s 1131 22))).toInt ≤ 4 := ma_1136 (i := (ps_i s 1131 22)) J (show 0 ≤ (ps_i s 1131 22).toInt from by omega) (show (ps_i s 1131 22).toInt < 2 from by omega)
  refine pg_207_2 ?_
  refine ps_nd_i (show pm_in (ps_i s 1131 22) 2 = true from xgi (show 0 ≤ (ps_i s 1131 22).toInt from by omega) (show (ps_i s 1131 22).toInt < 2 from by omega)) ?_
  refine And.intro (fun h3 => ?_) (fun h3 => ?_)
  · have f4 : (ps_a s 1136 (Int32.toNatClampNeg (ps_i s 1131 22))).toInt ≤ x1.toInt := xle h3
    exact k (-1 : Int32) (show -1 ≤ (-1 : Int) from by omega) (show (-1 : Int) < (ps_a s 1136 (Int32.toNatClampNeg (ps_i s 1131 22))).toInt from by omega)
  · have f5 : x1.toInt < (ps_a s 1136 (Int32.toNatClampNeg (ps_i s 1131 22))).toInt := xlt h3
    have r6 := mf_9 J
    refine And.intro (fun h7 => ?_) (fun h7 => ?_)
    · have f8 : (ps_i s 1131 9).toInt ≠ (2 : Int) := xne h7
      have a9 : (x1 + 1).toInt = x1.toInt + (1 : Int) := xIa (show -2147483648 ≤ x1.toInt + (1 : Int) from by omega) (show x1.toInt + (1 : Int) < 2147483648 from by omega)
      exact ih (n - 1) (show n - 1 < n from by omega) (x1 + 1) J (show 0 ≤ (x1 + 1).toInt from by omega) (show (x1 + 1).toInt ≤ (ps_a s 1136 (Int32.toNatClampNeg (ps_i s 1131 22))).toInt from by omega) (show 20 - (x1 + 1).toInt ≤ ((n - 1 : Nat) : Int) from by omega)
    · have f10 : (ps_i s 1131 9).toInt = (2 : Int) := xeq h7
      have a11 : ((4 : Int32) * (ps_i s 1131 22)).toInt = (4 : Int) * (ps_i s 1131 22).toInt := xIm (show -2147483648 ≤ (4 : Int) * (ps_i s 1131 22).toInt from by omega) (show (4 : Int) * (ps_i s 1131 22).toInt < 2147483648 from by omega)
      have a12 : (((4 : Int32) * (ps_i s 1131 22)) + x1).toInt = ((4 : Int32) * (ps_i s 1131 22)).toInt + x1.toInt := xIa (show -2147483648 ≤ ((4 : Int32) * (ps_i s 1131 22)).toInt + x1.toInt from by omega) (show ((4 : Int32) * (ps_i s 1131 22)).toInt + x1.toInt < 2147483648 from by omega)
      refine ps_nd_i (show pm_in (((4 : Int32) * (ps_i s 1131 22)) + x1) 8 = true from xgi (show 0 ≤ (((4 : Int32) * (ps_i s 1131 22)) + x1).toInt from by omega) (show (((4 : Int32) * (ps_i s 1131 22)) + x1).toInt < 8 from by omega)) ?_
      refine And.intro (fun h13 => ?_) (fun h13 => ?_)
      · have f14 : (lg_cmp (ps_b s 1141 (Int32.toNatClampNeg (((4 : Int32) * (ps_i s 1131 22)) + x1))) (ps_j s 1131 11)).toInt ≠ (0 : Int) := xne h13
        have a15 : (x1 + 1).toInt = x1.toInt + (1 : Int) := xIa (show -2147483648 ≤ x1.toInt + (1 : Int) from by omega) (show x1.toInt + (1 : Int) < 2147483648 from by omega)
        exact ih (n - 1) (show n - 1 < n from by omega) (x1 + 1) J (show 0 ≤ (x1 + 1).toInt from by omega) (show (x1 + 1).toInt ≤ (ps_a s 1136 (Int32.toNatClampNeg (ps_i s 1131 22))).toInt from by omega) (show 20 - (x1 + 1).toInt ≤ ((n - 1 : Nat) : Int) from by omega)
      · have f16 : (lg_cmp (ps_b s 1141 (Int32.toNatClampNeg (((4 : Int32) * (ps_i s 1131 22)) + x1))) (ps_j s 1131 11)).toInt = (0 : Int) := xeq h13
        exact k x1 (show -1 ≤ x1.toInt from by omega) (show x1.toInt < (ps_a s 1136 (Int32.toNatClampNeg (ps_i s 1131 22))).toInt from by omega)

theorem ms_207 {x : Nat → Nat → Nat} {t : Int32} {s : ps_S} {d : Nat} {f : Int32 → ps_S → Prop} (J : mJ x t s) (k : ∀ (v : Int32), (-1 ≤ v.toInt) → (v.toInt < (ps_a s 1136 (Int32.toNatClampNeg (ps_i s 1131 22))).toInt) → f v s) : ps_Cl d 207 [.ref 1131] s (ps_rI f) := by
  refine pg_207_0 ?_
  have r1 := mf_22 J
  have r2 : 0 ≤ (ps_a s 1136 (Int32.toNatClampNeg (ps_i s 1131 22))).toInt ∧ (ps_a s 1136 (Int32.toNatClampNeg (ps_i s 1131 22))).toInt ≤ 4 := ma_1136 (i := (ps_i s 1131 22)) J (show 0 ≤ (ps_i s 1131 22).toInt from by omega) (show (ps_i s 1131 22).toInt < 2 from by omega)
  exact ms_207_2  k  (20 - (0 : Int)).toNat (0) J (show 0 ≤ (0 : Int) from by omega) (show (0 : Int) ≤ (ps_a s 1136 (Int32.toNatClampNeg (ps_i s 1131 22))).toInt from by omega) (show 20 - (0 : Int) ≤ (((20 - (0 : Int)).toNat : Nat) : Int) from by omega)

-- ProofBenchModel.isX()Z
theorem pg_208_0 {d : Nat} {s : ps_S} {Q : Option Value → ps_S → Prop} (h :
  ((ps_i s 1131 9) ≠ 2 →
    Q (some (.int 0)) s) ∧
  ((ps_i s 1131 9) = 2 →
    ps_Cl d 206 [.ref 1131] s (ps_rI (fun v1 s1 =>
      (0 ≤ v1 →
        Q (some (.int 0)) s1) ∧
      (v1 < 0 →
        ps_Cl d 207 [.ref 1131] s1 (ps_rI (fun v2 s2 =>
          (0 ≤ v2 →
            Q (some (.int 0)) s2) ∧
          (v2 < 0 →
            Q (some (.int 1)) s2)))))))) : ps_At (d + 1) 208 0 [(0, .ref 1131)] [] s Q :=
  ps_wp_at (stops := []) (n := 21) h rfl

theorem ms_208 {x : Nat → Nat → Nat} {t : Int32} {s : ps_S} {d : Nat} {f : Int32 → ps_S → Prop} (J : mJ x t s) (k : ∀ (v : Int32), v &&& 1 = v → f v s) : ps_Cl (d + 1) 208 [.ref 1131] s (ps_rI f) := by
  refine pg_208_0 (d := d) ?_
  have r1 := mf_9 J
  refine And.intro (fun h2 => ?_) (fun h2 => ?_)
  · have f3 : (ps_i s 1131 9).toInt ≠ (2 : Int) := xne h2
    exact k (0 : Int32) (by decide)
  · have f4 : (ps_i s 1131 9).toInt = (2 : Int) := xeq h2
    refine ms_206 J  (fun v5 p5_0 p5_1 => ?_)
    have p5_0' : -1 ≤ v5.toInt := p5_0
    have p5_1' : v5.toInt < (ps_a s 1135 (Int32.toNatClampNeg (ps_i s 1131 22))).toInt := p5_1
    have r6 := mf_22 J
    have r7 : 0 ≤ (ps_a s 1135 (Int32.toNatClampNeg (ps_i s 1131 22))).toInt ∧ (ps_a s 1135 (Int32.toNatClampNeg (ps_i s 1131 22))).toInt ≤ 6 := ma_1135 (i := (ps_i s 1131 22)) J (show 0 ≤ (ps_i s 1131 22).toInt from by omega) (show (ps_i s 1131 22).toInt < 2 from by omega)
    refine And.intro (fun h8 => ?_) (fun h8 => ?_)
    · have f9 : (0 : Int) ≤ v5.toInt := xle h8
      exact k (0 : Int32) (by decide)
    · have f10 : v5.toInt < (0 : Int) := xlt h8
      refine ms_207 J  (fun v11 p11_0 p11_1 => ?_)
      have p11_0' : -1 ≤ v11.toInt := p11_0
      have p11_1' : v11.toInt < (ps_a s 1136 (Int32.toNatClampNeg (ps_i s 1131 22))).toInt := p11_1
      have r12 : 0 ≤ (ps_a s 1136 (Int32.toNatClampNeg (ps_i s 1131 22))).toInt ∧ (ps_a s 1136 (Int32.toNatClampNeg (ps_i s 1131 22))).toInt ≤ 4 := ma_1136 (i := (ps_i s 1131 22)) J (show 0 ≤ (ps_i s 1131 22).toInt from by omega) (show (ps_i s 1131 22).toInt < 2 from by omega)
      refine And.intro (fun h13 => ?_) (fun h13 => ?_)
      · have f14 : (0 : Int) ≤ v11.toInt := xle h13
        exact k (0 : Int32) (by decide)
      · have f15 : v11.toInt < (0 : Int) := xlt h13
        exact k (1 : Int32) (by decide)

-- ProofBenchModel.freeHere()I
theorem pg_217_0 {d : Nat} {s : ps_S} {Q : Option Value → ps_S → Prop} (h :
  ps_At (d + 1) 217 2 [(0, .ref 1131), (1, .int 0)] [] s Q) : ps_At (d + 1) 217 0 [(0, .ref 1131)] [] s Q :=
  ps_wp_at (stops := [(2, [0, 1])]) (n := 4) h rfl

theorem pg_217_2 {d : Nat} {x1 : Int32} {s : ps_S} {Q : Option Value → ps_S → Prop} (h :
  ((ps_i s 1131 23) ≤ x1 →
    ((ps_i s 1131 23) ≠ 12 →
      ps_nd (pm_in (ps_i s 1131 23) 12) (Q (some (.int ((ps_i (ps_ui (ps_ub s 1143 (Int32.toNatClampNeg (ps_i s 1131 23)) (ps_j s 1131 11)) 1131 23 ((ps_i (ps_ub s 1143 (Int32.toNatClampNeg (ps_i s 1131 23)) (ps_j s 1131 11)) 1131 23) + 1)) 1131 23) - 1))) (ps_ui (ps_ub s 1143 (Int32.toNatClampNeg (ps_i s 1131 23)) (ps_j s 1131 11)) 1131 23 ((ps_i (ps_ub s 1143 (Int32.toNatClampNeg (ps_i s 1131 23)) (ps_j s 1131 11)) 1131 23) + 1)))) ∧
    ((ps_i s 1131 23) = 12 →
      ps_Cl d 196 [.ref 1131] s (ps_rV (fun s1 =>
        Q (some (.int 0)) s1)))) ∧
  (x1 < (ps_i s 1131 23) →
    ps_nd (pm_in x1 12) (((lg_cmp (ps_b s 1143 (Int32.toNatClampNeg x1)) (ps_j s 1131 11)) ≠ 0 →
      ps_At (d + 1) 217 2 [(0, .ref 1131), (1, .int (x1 + 1))] [] s Q) ∧
    ((lg_cmp (ps_b s 1143 (Int32.toNatClampNeg x1)) (ps_j s 1131 11)) = 0 →
      Q (some (.int x1)) s)))) : ps_At (d + 1) 217 2 [(0, .ref 1131), (1, .int x1)] [] s Q :=
  ps_wp_at (stops := [(2, [0, 1])]) (n := 44) h rfl

theorem ms_217_2 {x : Nat → Nat → Nat} {t : Int32} {d : Nat} {s0 : ps_S} {Q : Option Value → ps_S → Prop} (k : ∀ (v : Int32) (s' : ps_S), mJ x t s' → kp [1143] [5, 6, 23] s0 s' → (0 ≤ v.toInt) → (v.toInt ≤ 11) → (1 ≤ (ps_i s0 1131 5).toInt → 1 ≤ (ps_i s' 1131 5).toInt) → Q (some (.int v)) s') : ∀ (n : Nat) (x1 : Int32) (s : ps_S), (mJ x t s) → (kp [1143] [5, 6, 23] s0 s) → (0 ≤ x1.toInt) → (x1.toInt ≤ (ps_i s 1131 23).toInt) → ((ps_i s0 1131 5).toInt = (ps_i s 1131 5).toInt) → 20 - x1.toInt ≤ (n : Int) → ps_At (d + 2) 217 2 [(0, .ref 1131), (1, .int x1)] [] s Q := by
  refine xstr (fun n ih => ?_)
  intro x1 s J K i0 i1 i2 hm
  have r1 := mf_23 J
  have r2 := mf_5 J
  refine pg_217_2 (d := d + 1) ?_
  refine And.intro (fun h3 => ?_) (fun h3 => ?_)
  · have f4 : (ps_i s 1131 23).toInt ≤ x1.toInt := xle h3
    refine And.intro (fun h5 => ?_) (fun h5 => ?_)
    · have f6 : (ps_i s 1131 23).toInt ≠ (12 : Int) := xne h5
      refine ps_nd_i (show pm_in (ps_i s 1131 23) 12 = true from xgi (show 0 ≤ (ps_i s 1131 23).toInt from by omega) (show (ps_i s 1131 23).toInt < 12 from by omega)) ?_
      have J7 := mw_b (r := 1143) (i := (Int32.toNatClampNeg (ps_i s 1131 23))) (v := (ps_j s 1131 11)) J
      have K8 := kpb' K (r := 1143) (i := (Int32.toNatClampNeg (ps_i s 1131 23))) (v := (ps_j s 1131 11)) rfl
      have a9 : ((ps_i s 1131 23) + 1).toInt = (ps_i s 1131 23).toInt + (1 : Int) := xIa (show -2147483648 ≤ (ps_i s 1131 23).toInt + (1 : Int) from by omega) (show (ps_i s 1131 23).toInt + (1 : Int) < 2147483648 from by omega)
      have J10 := mwi_23 (v := ((ps_i s 1131 23) + 1)) J7 (show 0 ≤ ((ps_i s 1131 23) + 1).toInt from by omega) (show ((ps_i s 1131 23) + 1).toInt ≤ 12 from by omega)
      have K11 := kpi K8 (q := 23) (v := ((ps_i s 1131 23) + 1)) rfl
      have a12 : (((ps_i s 1131 23) + 1) - 1).toInt = ((ps_i s 1131 23) + 1).toInt - (1 : Int) := xIs (show -2147483648 ≤ ((ps_i s 1131 23) + 1).toInt - (1 : Int) from by omega) (show ((ps_i s 1131 23) + 1).toInt - (1 : Int) < 2147483648 from by omega)
      exact k (((ps_i s 1131 23) + 1) - 1) _ J10 K11 (show 0 ≤ (((ps_i s 1131 23) + 1) - 1).toInt from by omega) (show (((ps_i s 1131 23) + 1) - 1).toInt ≤ 11 from by omega) (show 1 ≤ (ps_i s0 1131 5).toInt → 1 ≤ (ps_i s 1131 5).toInt from by omega)
    · have f13 : (ps_i s 1131 23).toInt = (12 : Int) := xeq h5
      refine ms_196 J  (fun s14 J14 K14 p14_0 => ?_)
      have K15 := kpt K K14 rfl rfl
      have p14_0' : 1 ≤ (ps_i s14 1131 5).toInt := p14_0
      have r16 := mf_5 J14
      exact k (0 : Int32) _ J14 K15 (show 0 ≤ (0 : Int) from by omega) (show (0 : Int) ≤ 11 from by omega) (show 1 ≤ (ps_i s0 1131 5).toInt → 1 ≤ (ps_i s14 1131 5).toInt from by omega)
  · have f17 : x1.toInt < (ps_i s 1131 23).toInt := xlt h3
    refine ps_nd_i (show pm_in x1 12 = true from xgi (show 0 ≤ x1.toInt from by omega) (show x1.toInt < 12 from by omega)) ?_
    refine And.intro (fun h18 => ?_) (fun h18 => ?_)
    · have f19 : (lg_cmp (ps_b s 1143 (Int32.toNatClampNeg x1)) (ps_j s 1131 11)).toInt ≠ (0 : Int) := xne h18
      have a20 : (x1 + 1).toInt = x1.toInt + (1 : Int) := xIa (show -2147483648 ≤ x1.toInt + (1 : Int) from by omega) (show x1.toInt + (1 : Int) < 2147483648 from by omega)
      exact ih (n - 1) (show n - 1 < n from by omega) (x1 + 1) _ J K (show 0 ≤ (x1 + 1).toInt from by omega) (show (x1 + 1).toInt ≤ (ps_i s 1131 23).toInt from by omega) (show (ps_i s0 1131 5).toInt = (ps_i s 1131 5).toInt from by omega) (show 20 - (x1 + 1).toInt ≤ ((n - 1 : Nat) : Int) from by omega)
    · have f21 : (lg_cmp (ps_b s 1143 (Int32.toNatClampNeg x1)) (ps_j s 1131 11)).toInt = (0 : Int) := xeq h18
      exact k x1 _ J K (show 0 ≤ x1.toInt from by omega) (show x1.toInt ≤ 11 from by omega) (show 1 ≤ (ps_i s0 1131 5).toInt → 1 ≤ (ps_i s 1131 5).toInt from by omega)

theorem ms_217 {x : Nat → Nat → Nat} {t : Int32} {s : ps_S} {d : Nat} {f : Int32 → ps_S → Prop} (J : mJ x t s) (k : ∀ (v : Int32) (s' : ps_S), mJ x t s' → kp [1143] [5, 6, 23] s s' → (0 ≤ v.toInt) → (v.toInt ≤ 11) → (1 ≤ (ps_i s 1131 5).toInt → 1 ≤ (ps_i s' 1131 5).toInt) → f v s') : ps_Cl (d + 2) 217 [.ref 1131] s (ps_rI f) := by
  have K : kp [1143] [5, 6, 23] s s := kp_refl
  refine pg_217_0 (d := d + 1) ?_
  have r1 := mf_23 J
  have r2 := mf_5 J
  exact ms_217_2  k  (20 - (0 : Int)).toNat (0) _ J K (show 0 ≤ (0 : Int) from by omega) (show (0 : Int) ≤ (ps_i s 1131 23).toInt from by omega) (show (ps_i s 1131 5).toInt = (ps_i s 1131 5).toInt from by omega) (show 20 - (0 : Int) ≤ (((20 - (0 : Int)).toNat : Nat) : Int) from by omega)

-- ProofBenchModel.xHere()I
theorem pg_216_0 {d : Nat} {s : ps_S} {Q : Option Value → ps_S → Prop} (h :
  ps_At (d + 1) 216 9 [(0, .ref 1131), (1, .int 0), (2, .int ((ps_i s 1131 29) - 1))] [] s Q) : ps_At (d + 1) 216 0 [(0, .ref 1131)] [] s Q :=
  ps_wp_at (stops := [(9, [0, 1, 2])]) (n := 9) h rfl

theorem pg_216_9 {d : Nat} {x1 : Int32} {x2 : Int32} {s : ps_S} {Q : Option Value → ps_S → Prop} (h :
  (x2 < 0 →
    ((ps_i s 1131 32) = 0 →
      ps_Cl d 217 [.ref 1131] s (ps_rI (fun v1 s1 =>
        Q (some (.int ((60 : Int32) + v1))) s1))) ∧
    ((ps_i s 1131 32) ≠ 0 →
      ps_Cl d 191 [.ref 1131, .int 5, .int (ps_i s 1131 7)] s (ps_rV (fun s2 =>
        Q (some (.int 0)) s2)))) ∧
  (0 ≤ x2 →
    ps_nd (pm_in x2 16) (((ps_a s 1147 (Int32.toNatClampNeg x2)) ≠ 0 →
      ps_nd (pm_in x2 16) (((lg_cmp (ps_b s 1148 (Int32.toNatClampNeg x2)) (ps_j s 1131 11)) ≠ 0 →
        ps_At (d + 1) 216 9 [(0, .ref 1131), (1, .int (x1 + 1)), (2, .int (x2 + (-1)))] [] s Q) ∧
      ((lg_cmp (ps_b s 1148 (Int32.toNatClampNeg x2)) (ps_j s 1131 11)) = 0 →
        Q (some (.int ((40 : Int32) + x1))) s))) ∧
    ((ps_a s 1147 (Int32.toNatClampNeg x2)) = 0 →
      ps_At (d + 1) 216 9 [(0, .ref 1131), (1, .int x1), (2, .int (x2 + (-1)))] [] s Q)))) : ps_At (d + 1) 216 9 [(0, .ref 1131), (1, .int x1), (2, .int x2)] [] s Q :=
  ps_wp_at (stops := [(9, [0, 1, 2])]) (n := 42) h rfl

theorem ms_216_9 {x : Nat → Nat → Nat} {t : Int32} {d : Nat} {s0 : ps_S} {Q : Option Value → ps_S → Prop} (k : ∀ (v : Int32) (s' : ps_S), mJ x t s' → kp [1143] [5, 6, 23] s0 s' → ((v.toInt = 0 ∧ 1 ≤ (ps_i s' 1131 5).toInt) ∨ (40 ≤ v.toInt ∧ v.toInt < 60) ∨ (60 ≤ v.toInt ∧ v.toInt ≤ 71 ∧ (ps_i s' 1131 32).toInt = 0)) → (1 ≤ (ps_i s0 1131 5).toInt → 1 ≤ (ps_i s' 1131 5).toInt) → Q (some (.int v)) s') : ∀ (n : Nat) (x1 : Int32) (x2 : Int32) (s : ps_S), (mJ x t s) → (kp [1143] [5, 6, 23] s0 s) → (-1 ≤ x2.toInt) → (x2.toInt < (ps_i s 1131 29).toInt) → (0 ≤ x1.toInt) → (x1.toInt + x2.toInt + 1 ≤ (ps_i s 1131 29).toInt) → ((ps_i s0 1131 5).toInt = (ps_i s 1131 5).toInt) → ((ps_i s0 1131 29).toInt = (ps_i s 1131 29).toInt) → x2.toInt + 1 ≤ (n : Int) → ps_At (d + 3) 216 9 [(0, .ref 1131), (1, .int x1), (2, .int x2)] [] s Q := by
  refine xstr (fun n ih => ?_)
  intro x1 x2 s J K i0 i1 i2 i3 i4 i5 hm
  have r1 := mf_29 J
  have r2 := mf_5 J
  refine pg_216_9 (d := d + 2) ?_
  refine And.intro (fun h3 => ?_) (fun h3 => ?_)
  · have f4 : x2.toInt < (0 : Int) := xlt h3
    refine And.intro (fun h5 => ?_) (fun h5 => ?_)
    · have f6 : (ps_i s 1131 32).toInt = (0 : Int) := xeq h5
      refine ms_217 J  (fun v7 s7 J7 K7 p7_0 p7_1 p7_2 => ?_)
      have K8 := kpt K K7 rfl rfl
      have p7_0' : 0 ≤ v7.toInt := p7_0
      have p7_1' : v7.toInt ≤ 11 := p7_1
      have p7_2' : 1 ≤ (ps_i s 1131 5).toInt → 1 ≤ (ps_i s7 1131 5).toInt := p7_2
      have r9 := mf_5 J7
      have a10 : ((60 : Int32) + v7).toInt = (60 : Int) + v7.toInt := xIa (show -2147483648 ≤ (60 : Int) + v7.toInt from by omega) (show (60 : Int) + v7.toInt < 2147483648 from by omega)
      have u11 : (ps_i s7 1131 32).toInt = (ps_i s 1131 32).toInt := xeq (kp_i K7 32 rfl)
      exact k ((60 : Int32) + v7) _ J7 K8 (show (((60 : Int32) + v7).toInt = 0 ∧ 1 ≤ (ps_i s7 1131 5).toInt) ∨ (40 ≤ ((60 : Int32) + v7).toInt ∧ ((60 : Int32) + v7).toInt < 60) ∨ (60 ≤ ((60 : Int32) + v7).toInt ∧ ((60 : Int32) + v7).toInt ≤ 71 ∧ (ps_i s7 1131 32).toInt = 0) from by omega) (show 1 ≤ (ps_i s0 1131 5).toInt → 1 ≤ (ps_i s7 1131 5).toInt from by omega)
    · have f12 : (ps_i s 1131 32).toInt ≠ (0 : Int) := xne h5
      have r13 := mf_7 J
      refine ms_191 J (show 1 ≤ (5 : Int) from by omega) (show (5 : Int) ≤ 6 from by omega) (fun s14 J14 K14 p14_0 => ?_)
      have K15 := kpt K K14 rfl rfl
      have p14_0' : 1 ≤ (ps_i s14 1131 5).toInt := p14_0
      have r16 := mf_5 J14
      have u17 : (ps_i s14 1131 32).toInt = (ps_i s 1131 32).toInt := xeq (kp_i K14 32 rfl)
      exact k (0 : Int32) _ J14 K15 (show ((0 : Int) = 0 ∧ 1 ≤ (ps_i s14 1131 5).toInt) ∨ (40 ≤ (0 : Int) ∧ (0 : Int) < 60) ∨ (60 ≤ (0 : Int) ∧ (0 : Int) ≤ 71 ∧ (ps_i s14 1131 32).toInt = 0) from by omega) (show 1 ≤ (ps_i s0 1131 5).toInt → 1 ≤ (ps_i s14 1131 5).toInt from by omega)
  · have f18 : (0 : Int) ≤ x2.toInt := xle h3
    refine ps_nd_i (show pm_in x2 16 = true from xgi (show 0 ≤ x2.toInt from by omega) (show x2.toInt < 16 from by omega)) ?_
    refine And.intro (fun h19 => ?_) (fun h19 => ?_)
    · have f20 : (ps_a s 1147 (Int32.toNatClampNeg x2)).toInt ≠ (0 : Int) := xne h19
      refine ps_nd_i (show pm_in x2 16 = true from xgi (show 0 ≤ x2.toInt from by omega) (show x2.toInt < 16 from by omega)) ?_
      refine And.intro (fun h21 => ?_) (fun h21 => ?_)
      · have f22 : (lg_cmp (ps_b s 1148 (Int32.toNatClampNeg x2)) (ps_j s 1131 11)).toInt ≠ (0 : Int) := xne h21
        have a23 : (x1 + 1).toInt = x1.toInt + (1 : Int) := xIa (show -2147483648 ≤ x1.toInt + (1 : Int) from by omega) (show x1.toInt + (1 : Int) < 2147483648 from by omega)
        have a24 : (x2 + (-1)).toInt = x2.toInt + (-1 : Int) := xIa (show -2147483648 ≤ x2.toInt + (-1 : Int) from by omega) (show x2.toInt + (-1 : Int) < 2147483648 from by omega)
        exact ih (n - 1) (show n - 1 < n from by omega) (x1 + 1) (x2 + (-1)) _ J K (show -1 ≤ (x2 + (-1)).toInt from by omega) (show (x2 + (-1)).toInt < (ps_i s 1131 29).toInt from by omega) (show 0 ≤ (x1 + 1).toInt from by omega) (show (x1 + 1).toInt + (x2 + (-1)).toInt + 1 ≤ (ps_i s 1131 29).toInt from by omega) (show (ps_i s0 1131 5).toInt = (ps_i s 1131 5).toInt from by omega) (show (ps_i s0 1131 29).toInt = (ps_i s 1131 29).toInt from by omega) (show (x2 + (-1)).toInt + 1 ≤ ((n - 1 : Nat) : Int) from by omega)
      · have f25 : (lg_cmp (ps_b s 1148 (Int32.toNatClampNeg x2)) (ps_j s 1131 11)).toInt = (0 : Int) := xeq h21
        have a26 : ((40 : Int32) + x1).toInt = (40 : Int) + x1.toInt := xIa (show -2147483648 ≤ (40 : Int) + x1.toInt from by omega) (show (40 : Int) + x1.toInt < 2147483648 from by omega)
        exact k ((40 : Int32) + x1) _ J K (show (((40 : Int32) + x1).toInt = 0 ∧ 1 ≤ (ps_i s 1131 5).toInt) ∨ (40 ≤ ((40 : Int32) + x1).toInt ∧ ((40 : Int32) + x1).toInt < 60) ∨ (60 ≤ ((40 : Int32) + x1).toInt ∧ ((40 : Int32) + x1).toInt ≤ 71 ∧ (ps_i s 1131 32).toInt = 0) from by omega) (show 1 ≤ (ps_i s0 1131 5).toInt → 1 ≤ (ps_i s 1131 5).toInt from by omega)
    · have f27 : (ps_a s 1147 (Int32.toNatClampNeg x2)).toInt = (0 : Int) := xeq h19
      have a28 : (x2 + (-1)).toInt = x2.toInt + (-1 : Int) := xIa (show -2147483648 ≤ x2.toInt + (-1 : Int) from by omega) (show x2.toInt + (-1 : Int) < 2147483648 from by omega)
      exact ih (n - 1) (show n - 1 < n from by omega) x1 (x2 + (-1)) _ J K (show -1 ≤ (x2 + (-1)).toInt from by omega) (show (x2 + (-1)).toInt < (ps_i s 1131 29).toInt from by omega) (show 0 ≤ x1.toInt from by omega) (show x1.toInt + (x2 + (-1)).toInt + 1 ≤ (ps_i s 1131 29).toInt from by omega) (show (ps_i s0 1131 5).toInt = (ps_i s 1131 5).toInt from by omega) (show (ps_i s0 1131 29).toInt = (ps_i s 1131 29).toInt from by omega) (show (x2 + (-1)).toInt + 1 ≤ ((n - 1 : Nat) : Int) from by omega)

theorem ms_216 {x : Nat → Nat → Nat} {t : Int32} {s : ps_S} {d : Nat} {f : Int32 → ps_S → Prop} (J : mJ x t s) (k : ∀ (v : Int32) (s' : ps_S), mJ x t s' → kp [1143] [5, 6, 23] s s' → ((v.toInt = 0 ∧ 1 ≤ (ps_i s' 1131 5).toInt) ∨ (40 ≤ v.toInt ∧ v.toInt < 60) ∨ (60 ≤ v.toInt ∧ v.toInt ≤ 71 ∧ (ps_i s' 1131 32).toInt = 0)) → (1 ≤ (ps_i s 1131 5).toInt → 1 ≤ (ps_i s' 1131 5).toInt) → f v s') : ps_Cl (d + 3) 216 [.ref 1131] s (ps_rI f) := by
  have K : kp [1143] [5, 6, 23] s s := kp_refl
  refine pg_216_0 (d := d + 2) ?_
  have r1 := mf_29 J
  have a2 : ((ps_i s 1131 29) - 1).toInt = (ps_i s 1131 29).toInt - (1 : Int) := xIs (show -2147483648 ≤ (ps_i s 1131 29).toInt - (1 : Int) from by omega) (show (ps_i s 1131 29).toInt - (1 : Int) < 2147483648 from by omega)
  have r3 := mf_5 J
  exact ms_216_9  k  (((ps_i s 1131 29) - 1).toInt + 1).toNat (0) ((ps_i s 1131 29) - 1) _ J K (show -1 ≤ ((ps_i s 1131 29) - 1).toInt from by omega) (show ((ps_i s 1131 29) - 1).toInt < (ps_i s 1131 29).toInt from by omega) (show 0 ≤ (0 : Int) from by omega) (show (0 : Int) + ((ps_i s 1131 29) - 1).toInt + 1 ≤ (ps_i s 1131 29).toInt from by omega) (show (ps_i s 1131 5).toInt = (ps_i s 1131 5).toInt from by omega) (show (ps_i s 1131 29).toInt = (ps_i s 1131 29).toInt from by omega) (show ((ps_i s 1131 29) - 1).toInt + 1 ≤ (((((ps_i s 1131 29) - 1).toInt + 1).toNat : Nat) : Int) from by omega)
