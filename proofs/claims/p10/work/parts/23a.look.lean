set_option maxRecDepth 100000
theorem mx_205_2 {x : Nat → Nat → Nat} {t : Int32} {d : Nat} {s : ps_S} {Q : Option Value → ps_S → Prop} (k : ∀ (v : Int32), (-1 ≤ v.toInt) → (v.toInt < (ps_a s 1137 (Int32.toNatClampNeg (ps_i s 1131 22))).toInt) → (0 ≤ v.toInt → ((ps_i s 1131 9).toInt = 2 ∧ (lg_cmp (ps_b s 1142 (Int32.toNatClampNeg (((8 : Int32) * (ps_i s 1131 22)) + v))) (ps_j s 1131 11)).toInt = 0)) → (v.toInt = -1 → ∀ z : Int32, 0 ≤ z.toInt → z.toInt < (ps_a s 1137 (Int32.toNatClampNeg (ps_i s 1131 22))).toInt → ¬ ((ps_i s 1131 9).toInt = 2 ∧ (lg_cmp (ps_b s 1142 (Int32.toNatClampNeg (((8 : Int32) * (ps_i s 1131 22)) + z))) (ps_j s 1131 11)).toInt = 0)) → Q (some (.int v)) s) : ∀ (n : Nat) (x1 : Int32), (mJ x t s) → (0 ≤ x1.toInt) → (x1.toInt ≤ (ps_a s 1137 (Int32.toNatClampNeg (ps_i s 1131 22))).toInt) → (∀ z : Int32, 0 ≤ z.toInt → z.toInt < x1.toInt → ¬ ((ps_i s 1131 9).toInt = 2 ∧ (lg_cmp (ps_b s 1142 (Int32.toNatClampNeg (((8 : Int32) * (ps_i s 1131 22)) + z))) (ps_j s 1131 11)).toInt = 0)) → 20 - x1.toInt ≤ (n : Int) → ps_At d 205 2 [(0, .ref 1131), (1, .int x1)] [] s Q := by
  refine xstr (fun n ih => ?_)
  intro x1 J i0 i1 i2 hm
  have r1 := mf_22 J
  have r2 : 0 ≤ (ps_a s 1137 (Int32.toNatClampNeg (ps_i s 1131 22))).toInt ∧ (ps_a s 1137 (Int32.toNatClampNeg (ps_i s 1131 22))).toInt ≤ 8 := ma_1137 (i := (ps_i s 1131 22)) J (show 0 ≤ (ps_i s 1131 22).toInt from by omega) (show (ps_i s 1131 22).toInt < 2 from by omega)
  refine pg_205_2 ?_
  refine ps_nd_i (show pm_in (ps_i s 1131 22) 2 = true from xgi (show 0 ≤ (ps_i s 1131 22).toInt from by omega) (show (ps_i s 1131 22).toInt < 2 from by omega)) ?_
  refine And.intro (fun h3 => ?_) (fun h3 => ?_)
  · have f4 : (ps_a s 1137 (Int32.toNatClampNeg (ps_i s 1131 22))).toInt ≤ x1.toInt := xle h3
    exact k (-1 : Int32) (show -1 ≤ (-1 : Int) from by omega) (show (-1 : Int) < (ps_a s 1137 (Int32.toNatClampNeg (ps_i s 1131 22))).toInt from by omega) (fun z => absurd z (by decide)) (fun _ z h0 h1 => i2 z h0 (by omega))
  · have f5 : x1.toInt < (ps_a s 1137 (Int32.toNatClampNeg (ps_i s 1131 22))).toInt := xlt h3
    have r6 := mf_9 J
    refine And.intro (fun h7 => ?_) (fun h7 => ?_)
    · have f8 : (ps_i s 1131 9).toInt ≠ (2 : Int) := xne h7
      have a9 : (x1 + 1).toInt = x1.toInt + (1 : Int) := xIa (show -2147483648 ≤ x1.toInt + (1 : Int) from by omega) (show x1.toInt + (1 : Int) < 2147483648 from by omega)
      exact ih (n - 1) (show n - 1 < n from by omega) (x1 + 1) J (show 0 ≤ (x1 + 1).toInt from by omega) (show (x1 + 1).toInt ≤ (ps_a s 1137 (Int32.toNatClampNeg (ps_i s 1131 22))).toInt from by omega) (fun z h0 h1 => (by
      have h1 : z.toInt < ((x1 + 1)).toInt := h1
      by_cases e : z = x1
      · subst e; rintro ⟨p, q⟩; omega
      · have e2 := xne e; exact i2 z h0 (by omega))) (show 20 - (x1 + 1).toInt ≤ ((n - 1 : Nat) : Int) from by omega)
    · have f10 : (ps_i s 1131 9).toInt = (2 : Int) := xeq h7
      have a11 : ((8 : Int32) * (ps_i s 1131 22)).toInt = (8 : Int) * (ps_i s 1131 22).toInt := xIm (show -2147483648 ≤ (8 : Int) * (ps_i s 1131 22).toInt from by omega) (show (8 : Int) * (ps_i s 1131 22).toInt < 2147483648 from by omega)
      have a12 : (((8 : Int32) * (ps_i s 1131 22)) + x1).toInt = ((8 : Int32) * (ps_i s 1131 22)).toInt + x1.toInt := xIa (show -2147483648 ≤ ((8 : Int32) * (ps_i s 1131 22)).toInt + x1.toInt from by omega) (show ((8 : Int32) * (ps_i s 1131 22)).toInt + x1.toInt < 2147483648 from by omega)
      refine ps_nd_i (show pm_in (((8 : Int32) * (ps_i s 1131 22)) + x1) 16 = true from xgi (show 0 ≤ (((8 : Int32) * (ps_i s 1131 22)) + x1).toInt from by omega) (show (((8 : Int32) * (ps_i s 1131 22)) + x1).toInt < 16 from by omega)) ?_
      refine And.intro (fun h13 => ?_) (fun h13 => ?_)
      · have f14 : (lg_cmp (ps_b s 1142 (Int32.toNatClampNeg (((8 : Int32) * (ps_i s 1131 22)) + x1))) (ps_j s 1131 11)).toInt ≠ (0 : Int) := xne h13
        have a15 : (x1 + 1).toInt = x1.toInt + (1 : Int) := xIa (show -2147483648 ≤ x1.toInt + (1 : Int) from by omega) (show x1.toInt + (1 : Int) < 2147483648 from by omega)
        exact ih (n - 1) (show n - 1 < n from by omega) (x1 + 1) J (show 0 ≤ (x1 + 1).toInt from by omega) (show (x1 + 1).toInt ≤ (ps_a s 1137 (Int32.toNatClampNeg (ps_i s 1131 22))).toInt from by omega) (fun z h0 h1 => (by
      have h1 : z.toInt < ((x1 + 1)).toInt := h1
      by_cases e : z = x1
      · subst e; rintro ⟨p, q⟩; omega
      · have e2 := xne e; exact i2 z h0 (by omega))) (show 20 - (x1 + 1).toInt ≤ ((n - 1 : Nat) : Int) from by omega)
      · have f16 : (lg_cmp (ps_b s 1142 (Int32.toNatClampNeg (((8 : Int32) * (ps_i s 1131 22)) + x1))) (ps_j s 1131 11)).toInt = (0 : Int) := xeq h13
        exact k x1 (show -1 ≤ x1.toInt from by omega) (show x1.toInt < (ps_a s 1137 (Int32.toNatClampNeg (ps_i s 1131 22))).toInt from by omega) (fun _ => ⟨by omega, by omega⟩) (fun z => absurd z (by omega))

theorem mx_205 {x : Nat → Nat → Nat} {t : Int32} {s : ps_S} {d : Nat} {f : Int32 → ps_S → Prop} (J : mJ x t s) (k : ∀ (v : Int32), (-1 ≤ v.toInt) → (v.toInt < (ps_a s 1137 (Int32.toNatClampNeg (ps_i s 1131 22))).toInt) → (0 ≤ v.toInt → ((ps_i s 1131 9).toInt = 2 ∧ (lg_cmp (ps_b s 1142 (Int32.toNatClampNeg (((8 : Int32) * (ps_i s 1131 22)) + v))) (ps_j s 1131 11)).toInt = 0)) → (v.toInt = -1 → ∀ z : Int32, 0 ≤ z.toInt → z.toInt < (ps_a s 1137 (Int32.toNatClampNeg (ps_i s 1131 22))).toInt → ¬ ((ps_i s 1131 9).toInt = 2 ∧ (lg_cmp (ps_b s 1142 (Int32.toNatClampNeg (((8 : Int32) * (ps_i s 1131 22)) + z))) (ps_j s 1131 11)).toInt = 0)) → f v s) : ps_Cl d 205 [.ref 1131] s (ps_rI f) := by
  refine pg_205_0 ?_
  have r1 := mf_22 J
  have r2 : 0 ≤ (ps_a s 1137 (Int32.toNatClampNeg (ps_i s 1131 22))).toInt ∧ (ps_a s 1137 (Int32.toNatClampNeg (ps_i s 1131 22))).toInt ≤ 8 := ma_1137 (i := (ps_i s 1131 22)) J (show 0 ≤ (ps_i s 1131 22).toInt from by omega) (show (ps_i s 1131 22).toInt < 2 from by omega)
  exact mx_205_2  k  (20 - (0 : Int)).toNat (0) J (show 0 ≤ (0 : Int) from by omega) (show (0 : Int) ≤ (ps_a s 1137 (Int32.toNatClampNeg (ps_i s 1131 22))).toInt from by omega) (fun z h0 h1 => absurd h0 (by rw [Int32.toInt_zero] at h1; omega)) (show 20 - (0 : Int) ≤ (((20 - (0 : Int)).toNat : Nat) : Int) from by omega)

theorem mx_206_2 {x : Nat → Nat → Nat} {t : Int32} {d : Nat} {s : ps_S} {Q : Option Value → ps_S → Prop} (k : ∀ (v : Int32), (-1 ≤ v.toInt) → (v.toInt < (ps_a s 1135 (Int32.toNatClampNeg (ps_i s 1131 22))).toInt) → (0 ≤ v.toInt → ((ps_i s 1131 9).toInt = 2 ∧ (lg_cmp (ps_b s 1140 (Int32.toNatClampNeg (((6 : Int32) * (ps_i s 1131 22)) + v))) (ps_j s 1131 11)).toInt = 0)) → (v.toInt = -1 → ∀ z : Int32, 0 ≤ z.toInt → z.toInt < (ps_a s 1135 (Int32.toNatClampNeg (ps_i s 1131 22))).toInt → ¬ ((ps_i s 1131 9).toInt = 2 ∧ (lg_cmp (ps_b s 1140 (Int32.toNatClampNeg (((6 : Int32) * (ps_i s 1131 22)) + z))) (ps_j s 1131 11)).toInt = 0)) → Q (some (.int v)) s) : ∀ (n : Nat) (x1 : Int32), (mJ x t s) → (0 ≤ x1.toInt) → (x1.toInt ≤ (ps_a s 1135 (Int32.toNatClampNeg (ps_i s 1131 22))).toInt) → (∀ z : Int32, 0 ≤ z.toInt → z.toInt < x1.toInt → ¬ ((ps_i s 1131 9).toInt = 2 ∧ (lg_cmp (ps_b s 1140 (Int32.toNatClampNeg (((6 : Int32) * (ps_i s 1131 22)) + z))) (ps_j s 1131 11)).toInt = 0)) → 20 - x1.toInt ≤ (n : Int) → ps_At d 206 2 [(0, .ref 1131), (1, .int x1)] [] s Q := by
  refine xstr (fun n ih => ?_)
  intro x1 J i0 i1 i2 hm
  have r1 := mf_22 J
  have r2 : 0 ≤ (ps_a s 1135 (Int32.toNatClampNeg (ps_i s 1131 22))).toInt ∧ (ps_a s 1135 (Int32.toNatClampNeg (ps_i s 1131 22))).toInt ≤ 6 := ma_1135 (i := (ps_i s 1131 22)) J (show 0 ≤ (ps_i s 1131 22).toInt from by omega) (show (ps_i s 1131 22).toInt < 2 from by omega)
  refine pg_206_2 ?_
  refine ps_nd_i (show pm_in (ps_i s 1131 22) 2 = true from xgi (show 0 ≤ (ps_i s 1131 22).toInt from by omega) (show (ps_i s 1131 22).toInt < 2 from by omega)) ?_
  refine And.intro (fun h3 => ?_) (fun h3 => ?_)
  · have f4 : (ps_a s 1135 (Int32.toNatClampNeg (ps_i s 1131 22))).toInt ≤ x1.toInt := xle h3
    exact k (-1 : Int32) (show -1 ≤ (-1 : Int) from by omega) (show (-1 : Int) < (ps_a s 1135 (Int32.toNatClampNeg (ps_i s 1131 22))).toInt from by omega) (fun z => absurd z (by decide)) (fun _ z h0 h1 => i2 z h0 (by omega))
  · have f5 : x1.toInt < (ps_a s 1135 (Int32.toNatClampNeg (ps_i s 1131 22))).toInt := xlt h3
    have r6 := mf_9 J
    refine And.intro (fun h7 => ?_) (fun h7 => ?_)
    · have f8 : (ps_i s 1131 9).toInt ≠ (2 : Int) := xne h7
      have a9 : (x1 + 1).toInt = x1.toInt + (1 : Int) := xIa (show -2147483648 ≤ x1.toInt + (1 : Int) from by omega) (show x1.toInt + (1 : Int) < 2147483648 from by omega)
      exact ih (n - 1) (show n - 1 < n from by omega) (x1 + 1) J (show 0 ≤ (x1 + 1).toInt from by omega) (show (x1 + 1).toInt ≤ (ps_a s 1135 (Int32.toNatClampNeg (ps_i s 1131 22))).toInt from by omega) (fun z h0 h1 => (by
      have h1 : z.toInt < ((x1 + 1)).toInt := h1
      by_cases e : z = x1
      · subst e; rintro ⟨p, q⟩; omega
      · have e2 := xne e; exact i2 z h0 (by omega))) (show 20 - (x1 + 1).toInt ≤ ((n - 1 : Nat) : Int) from by omega)
    · have f10 : (ps_i s 1131 9).toInt = (2 : Int) := xeq h7
      have a11 : ((6 : Int32) * (ps_i s 1131 22)).toInt = (6 : Int) * (ps_i s 1131 22).toInt := xIm (show -2147483648 ≤ (6 : Int) * (ps_i s 1131 22).toInt from by omega) (show (6 : Int) * (ps_i s 1131 22).toInt < 2147483648 from by omega)
      have a12 : (((6 : Int32) * (ps_i s 1131 22)) + x1).toInt = ((6 : Int32) * (ps_i s 1131 22)).toInt + x1.toInt := xIa (show -2147483648 ≤ ((6 : Int32) * (ps_i s 1131 22)).toInt + x1.toInt from by omega) (show ((6 : Int32) * (ps_i s 1131 22)).toInt + x1.toInt < 2147483648 from by omega)
      refine ps_nd_i (show pm_in (((6 : Int32) * (ps_i s 1131 22)) + x1) 12 = true from xgi (show 0 ≤ (((6 : Int32) * (ps_i s 1131 22)) + x1).toInt from by omega) (show (((6 : Int32) * (ps_i s 1131 22)) + x1).toInt < 12 from by omega)) ?_
      refine And.intro (fun h13 => ?_) (fun h13 => ?_)
      · have f14 : (lg_cmp (ps_b s 1140 (Int32.toNatClampNeg (((6 : Int32) * (ps_i s 1131 22)) + x1))) (ps_j s 1131 11)).toInt ≠ (0 : Int) := xne h13
        have a15 : (x1 + 1).toInt = x1.toInt + (1 : Int) := xIa (show -2147483648 ≤ x1.toInt + (1 : Int) from by omega) (show x1.toInt + (1 : Int) < 2147483648 from by omega)
        exact ih (n - 1) (show n - 1 < n from by omega) (x1 + 1) J (show 0 ≤ (x1 + 1).toInt from by omega) (show (x1 + 1).toInt ≤ (ps_a s 1135 (Int32.toNatClampNeg (ps_i s 1131 22))).toInt from by omega) (fun z h0 h1 => (by
      have h1 : z.toInt < ((x1 + 1)).toInt := h1
      by_cases e : z = x1
      · subst e; rintro ⟨p, q⟩; omega
      · have e2 := xne e; exact i2 z h0 (by omega))) (show 20 - (x1 + 1).toInt ≤ ((n - 1 : Nat) : Int) from by omega)
      · have f16 : (lg_cmp (ps_b s 1140 (Int32.toNatClampNeg (((6 : Int32) * (ps_i s 1131 22)) + x1))) (ps_j s 1131 11)).toInt = (0 : Int) := xeq h13
        exact k x1 (show -1 ≤ x1.toInt from by omega) (show x1.toInt < (ps_a s 1135 (Int32.toNatClampNeg (ps_i s 1131 22))).toInt from by omega) (fun _ => ⟨by omega, by omega⟩) (fun z => absurd z (by omega))

theorem mx_206 {x : Nat → Nat → Nat} {t : Int32} {s : ps_S} {d : Nat} {f : Int32 → ps_S → Prop} (J : mJ x t s) (k : ∀ (v : Int32), (-1 ≤ v.toInt) → (v.toInt < (ps_a s 1135 (Int32.toNatClampNeg (ps_i s 1131 22))).toInt) → (0 ≤ v.toInt → ((ps_i s 1131 9).toInt = 2 ∧ (lg_cmp (ps_b s 1140 (Int32.toNatClampNeg (((6 : Int32) * (ps_i s 1131 22)) + v))) (ps_j s 1131 11)).toInt = 0)) → (v.toInt = -1 → ∀ z : Int32, 0 ≤ z.toInt → z.toInt < (ps_a s 1135 (Int32.toNatClampNeg (ps_i s 1131 22))).toInt → ¬ ((ps_i s 1131 9).toInt = 2 ∧ (lg_cmp (ps_b s 1140 (Int32.toNatClampNeg (((6 : Int32) * (ps_i s 1131 22)) + z))) (ps_j s 1131 11)).toInt = 0)) → f v s) : ps_Cl d 206 [.ref 1131] s (ps_rI f) := by
  refine pg_206_0 ?_
  have r1 := mf_22 J
  have r2 : 0 ≤ (ps_a s 1135 (Int32.toNatClampNeg (ps_i s 1131 22))).toInt ∧ (ps_a s 1135 (Int32.toNatClampNeg (ps_i s 1131 22))).toInt ≤ 6 := ma_1135 (i := (ps_i s 1131 22)) J (show 0 ≤ (ps_i s 1131 22).toInt from by omega) (show (ps_i s 1131 22).toInt < 2 from by omega)
  exact mx_206_2  k  (20 - (0 : Int)).toNat (0) J (show 0 ≤ (0 : Int) from by omega) (show (0 : Int) ≤ (ps_a s 1135 (Int32.toNatClampNeg (ps_i s 1131 22))).toInt from by omega) (fun z h0 h1 => absurd h0 (by rw [Int32.toInt_zero] at h1; omega)) (show 20 - (0 : Int) ≤ (((20 - (0 : Int)).toNat : Nat) : Int) from by omega)

theorem mx_207_2 {x : Nat → Nat → Nat} {t : Int32} {d : Nat} {s : ps_S} {Q : Option Value → ps_S → Prop} (k : ∀ (v : Int32), (-1 ≤ v.toInt) → (v.toInt < (ps_a s 1136 (Int32.toNatClampNeg (ps_i s 1131 22))).toInt) → (0 ≤ v.toInt → ((ps_i s 1131 9).toInt = 2 ∧ (lg_cmp (ps_b s 1141 (Int32.toNatClampNeg (((4 : Int32) * (ps_i s 1131 22)) + v))) (ps_j s 1131 11)).toInt = 0)) → (v.toInt = -1 → ∀ z : Int32, 0 ≤ z.toInt → z.toInt < (ps_a s 1136 (Int32.toNatClampNeg (ps_i s 1131 22))).toInt → ¬ ((ps_i s 1131 9).toInt = 2 ∧ (lg_cmp (ps_b s 1141 (Int32.toNatClampNeg (((4 : Int32) * (ps_i s 1131 22)) + z))) (ps_j s 1131 11)).toInt = 0)) → Q (some (.int v)) s) : ∀ (n : Nat) (x1 : Int32), (mJ x t s) → (0 ≤ x1.toInt) → (x1.toInt ≤ (ps_a s 1136 (Int32.toNatClampNeg (ps_i s 1131 22))).toInt) → (∀ z : Int32, 0 ≤ z.toInt → z.toInt < x1.toInt → ¬ ((ps_i s 1131 9).toInt = 2 ∧ (lg_cmp (ps_b s 1141 (Int32.toNatClampNeg (((4 : Int32) * (ps_i s 1131 22)) + z))) (ps_j s 1131 11)).toInt = 0)) → 20 - x1.toInt ≤ (n : Int) → ps_At d 207 2 [(0, .ref 1131), (1, .int x1)] [] s Q := by
  refine xstr (fun n ih => ?_)
  intro x1 J i0 i1 i2 hm
  have r1 := mf_22 J
  have r2 : 0 ≤ (ps_a s 1136 (Int32.toNatClampNeg (ps_i s 1131 22))).toInt ∧ (ps_a s 1136 (Int32.toNatClampNeg (ps_i s 1131 22))).toInt ≤ 4 := ma_1136 (i := (ps_i s 1131 22)) J (show 0 ≤ (ps_i s 1131 22).toInt from by omega) (show (ps_i s 1131 22).toInt < 2 from by omega)
  refine pg_207_2 ?_
  refine ps_nd_i (show pm_in (ps_i s 1131 22) 2 = true from xgi (show 0 ≤ (ps_i s 1131 22).toInt from by omega) (show (ps_i s 1131 22).toInt < 2 from by omega)) ?_
  refine And.intro (fun h3 => ?_) (fun h3 => ?_)
  · have f4 : (ps_a s 1136 (Int32.toNatClampNeg (ps_i s 1131 22))).toInt ≤ x1.toInt := xle h3
    exact k (-1 : Int32) (show -1 ≤ (-1 : Int) from by omega) (show (-1 : Int) < (ps_a s 1136 (Int32.toNatClampNeg (ps_i s 1131 22))).toInt from by omega) (fun z => absurd z (by decide)) (fun _ z h0 h1 => i2 z h0 (by omega))
  · have f5 : x1.toInt < (ps_a s 1136 (Int32.toNatClampNeg (ps_i s 1131 22))).toInt := xlt h3
    have r6 := mf_9 J
    refine And.intro (fun h7 => ?_) (fun h7 => ?_)
    · have f8 : (ps_i s 1131 9).toInt ≠ (2 : Int) := xne h7
      have a9 : (x1 + 1).toInt = x1.toInt + (1 : Int) := xIa (show -2147483648 ≤ x1.toInt + (1 : Int) from by omega) (show x1.toInt + (1 : Int) < 2147483648 from by omega)
      exact ih (n - 1) (show n - 1 < n from by omega) (x1 + 1) J (show 0 ≤ (x1 + 1).toInt from by omega) (show (x1 + 1).toInt ≤ (ps_a s 1136 (Int32.toNatClampNeg (ps_i s 1131 22))).toInt from by omega) (fun z h0 h1 => (by
      have h1 : z.toInt < ((x1 + 1)).toInt := h1
      by_cases e : z = x1
      · subst e; rintro ⟨p, q⟩; omega
      · have e2 := xne e; exact i2 z h0 (by omega))) (show 20 - (x1 + 1).toInt ≤ ((n - 1 : Nat) : Int) from by omega)
    · have f10 : (ps_i s 1131 9).toInt = (2 : Int) := xeq h7
      have a11 : ((4 : Int32) * (ps_i s 1131 22)).toInt = (4 : Int) * (ps_i s 1131 22).toInt := xIm (show -2147483648 ≤ (4 : Int) * (ps_i s 1131 22).toInt from by omega) (show (4 : Int) * (ps_i s 1131 22).toInt < 2147483648 from by omega)
      have a12 : (((4 : Int32) * (ps_i s 1131 22)) + x1).toInt = ((4 : Int32) * (ps_i s 1131 22)).toInt + x1.toInt := xIa (show -2147483648 ≤ ((4 : Int32) * (ps_i s 1131 22)).toInt + x1.toInt from by omega) (show ((4 : Int32) * (ps_i s 1131 22)).toInt + x1.toInt < 2147483648 from by omega)
      refine ps_nd_i (show pm_in (((4 : Int32) * (ps_i s 1131 22)) + x1) 8 = true from xgi (show 0 ≤ (((4 : Int32) * (ps_i s 1131 22)) + x1).toInt from by omega) (show (((4 : Int32) * (ps_i s 1131 22)) + x1).toInt < 8 from by omega)) ?_
      refine And.intro (fun h13 => ?_) (fun h13 => ?_)
      · have f14 : (lg_cmp (ps_b s 1141 (Int32.toNatClampNeg (((4 : Int32) * (ps_i s 1131 22)) + x1))) (ps_j s 1131 11)).toInt ≠ (0 : Int) := xne h13
        have a15 : (x1 + 1).toInt = x1.toInt + (1 : Int) := xIa (show -2147483648 ≤ x1.toInt + (1 : Int) from by omega) (show x1.toInt + (1 : Int) < 2147483648 from by omega)
        exact ih (n - 1) (show n - 1 < n from by omega) (x1 + 1) J (show 0 ≤ (x1 + 1).toInt from by omega) (show (x1 + 1).toInt ≤ (ps_a s 1136 (Int32.toNatClampNeg (ps_i s 1131 22))).toInt from by omega) (fun z h0 h1 => (by
      have h1 : z.toInt < ((x1 + 1)).toInt := h1
      by_cases e : z = x1
      · subst e; rintro ⟨p, q⟩; omega
      · have e2 := xne e; exact i2 z h0 (by omega))) (show 20 - (x1 + 1).toInt ≤ ((n - 1 : Nat) : Int) from by omega)
      · have f16 : (lg_cmp (ps_b s 1141 (Int32.toNatClampNeg (((4 : Int32) * (ps_i s 1131 22)) + x1))) (ps_j s 1131 11)).toInt = (0 : Int) := xeq h13
        exact k x1 (show -1 ≤ x1.toInt from by omega) (show x1.toInt < (ps_a s 1136 (Int32.toNatClampNeg (ps_i s 1131 22))).toInt from by omega) (fun _ => ⟨by omega, by omega⟩) (fun z => absurd z (by omega))

theorem mx_207 {x : Nat → Nat → Nat} {t : Int32} {s : ps_S} {d : Nat} {f : Int32 → ps_S → Prop} (J : mJ x t s) (k : ∀ (v : Int32), (-1 ≤ v.toInt) → (v.toInt < (ps_a s 1136 (Int32.toNatClampNeg (ps_i s 1131 22))).toInt) → (0 ≤ v.toInt → ((ps_i s 1131 9).toInt = 2 ∧ (lg_cmp (ps_b s 1141 (Int32.toNatClampNeg (((4 : Int32) * (ps_i s 1131 22)) + v))) (ps_j s 1131 11)).toInt = 0)) → (v.toInt = -1 → ∀ z : Int32, 0 ≤ z.toInt → z.toInt < (ps_a s 1136 (Int32.toNatClampNeg (ps_i s 1131 22))).toInt → ¬ ((ps_i s 1131 9).toInt = 2 ∧ (lg_cmp (ps_b s 1141 (Int32.toNatClampNeg (((4 : Int32) * (ps_i s 1131 22)) + z))) (ps_j s 1131 11)).toInt = 0)) → f v s) : ps_Cl d 207 [.ref 1131] s (ps_rI f) := by
  refine pg_207_0 ?_
  have r1 := mf_22 J
  have r2 : 0 ≤ (ps_a s 1136 (Int32.toNatClampNeg (ps_i s 1131 22))).toInt ∧ (ps_a s 1136 (Int32.toNatClampNeg (ps_i s 1131 22))).toInt ≤ 4 := ma_1136 (i := (ps_i s 1131 22)) J (show 0 ≤ (ps_i s 1131 22).toInt from by omega) (show (ps_i s 1131 22).toInt < 2 from by omega)
  exact mx_207_2  k  (20 - (0 : Int)).toNat (0) J (show 0 ≤ (0 : Int) from by omega) (show (0 : Int) ≤ (ps_a s 1136 (Int32.toNatClampNeg (ps_i s 1131 22))).toInt from by omega) (fun z h0 h1 => absurd h0 (by rw [Int32.toInt_zero] at h1; omega)) (show 20 - (0 : Int) ≤ (((20 - (0 : Int)).toNat : Nat) : Int) from by omega)
