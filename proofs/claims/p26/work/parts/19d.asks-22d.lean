section
set_option maxRecDepth 100000
-- ProofBenchModel.haveSame(IIIII)Z
theorem pg_259_0 {d : Nat} {x1 : Int32} {x2 : Int32} {x3 : Int32} {x4 : Int32} {x5 : Int32} {s : ps_S} {Q : Option Value → ps_S → Prop} (h :
  ps_Cl d 219 [.ref 1131, .int x4] s (ps_rI (fun v1 s1 =>
    ((x5 + x3) ≤ v1 →
      ps_At (d + 1) 259 18 [(0, .ref 1131), (1, .int x1), (2, .int x2), (3, .int x3), (4, .int x4), (5, .int x5), (6, .int 0)] [] s1 Q) ∧
    (v1 < (x5 + x3) →
      Q (some (.int 0)) s1)))) : ps_At (d + 1) 259 0 [(0, .ref 1131), (1, .int x1), (2, .int x2), (3, .int x3), (4, .int x4), (5, .int x5)] [] s Q :=
  ps_wp_at (stops := [(18, [0, 1, 2, 3, 4, 5, 6])]) (n := 13) h rfl

theorem pg_259_18 {d : Nat} {x1 : Int32} {x2 : Int32} {x3 : Int32} {x4 : Int32} {x5 : Int32} {x6 : Int32} {s : ps_S} {Q : Option Value → ps_S → Prop} (h :
  (x3 ≤ x6 →
    Q (some (.int 1)) s) ∧
  (x6 < x3 →
    ps_Cl d 220 [.ref 1131, .int x1, .int (x2 + x6)] s (ps_rI (fun v1 s1 =>
      ps_Cl d 220 [.ref 1131, .int x4, .int (x5 + x6)] s1 (ps_rI (fun v2 s2 =>
        (v1 = v2 →
          ps_At (d + 1) 259 18 [(0, .ref 1131), (1, .int x1), (2, .int x2), (3, .int x3), (4, .int x4), (5, .int x5), (6, .int (x6 + 1))] [] s2 Q) ∧
        (v1 ≠ v2 →
          Q (some (.int 0)) s2))))))) : ps_At (d + 1) 259 18 [(0, .ref 1131), (1, .int x1), (2, .int x2), (3, .int x3), (4, .int x4), (5, .int x5), (6, .int x6)] [] s Q :=
  ps_wp_at (stops := [(18, [0, 1, 2, 3, 4, 5, 6])]) (n := 24) h rfl

theorem ms_259_18 {x : Nat → Nat → Nat} {t : Int32} {d : Nat} {s : ps_S} {x1 : Int32} {x2 : Int32} {x3 : Int32} {x4 : Int32} {x5 : Int32} {Q : Option Value → ps_S → Prop} (k : ∀ (v : Int32), (v.toInt = 0 ∨ x5.toInt + x3.toInt ≤ (ps_a s 1134 (Int32.toNatClampNeg x4)).toInt) → v &&& 1 = v → Q (some (.int v)) s) : ∀ (n : Nat) (x6 : Int32), (mJ x t s) → (x1.toInt % 41 = 0) → (0 ≤ x1.toInt) → (x1.toInt < 27306) → (x4.toInt % 41 = 0) → (0 ≤ x4.toInt) → (x4.toInt < 27306) → (0 ≤ x2.toInt) → (x2.toInt ≤ 41) → (0 ≤ x3.toInt) → (x3.toInt ≤ 41) → (0 ≤ x5.toInt) → (x5.toInt ≤ 41) → (0 ≤ x6.toInt) → (x6.toInt ≤ x3.toInt) → (x5.toInt + x3.toInt ≤ (ps_a s 1134 (Int32.toNatClampNeg x4)).toInt) → 50 - x6.toInt ≤ (n : Int) → ps_At (d + 1) 259 18 [(0, .ref 1131), (1, .int x1), (2, .int x2), (3, .int x3), (4, .int x4), (5, .int x5), (6, .int x6)] [] s Q := by
  refine xstr (fun n ih => ?_)
  intro x6 J i0 i1 i2 i3 i4 i5 i6 i7 i8 i9 i10 i11 i12 i13 i14 hm
  have r1 : x4.toInt % 41 = 0 → x4.toInt < 27306 → 0 ≤ (ps_a s 1134 (Int32.toNatClampNeg x4)).toInt ∧ (ps_a s 1134 (Int32.toNatClampNeg x4)).toInt ≤ 40 := fun z1 z2 => mp_row (i := x4) J z1 (show 0 ≤ x4.toInt from by omega) z2
  refine pg_259_18 (d := d) ?_
  refine And.intro (fun h2 => ?_) (fun h2 => ?_)
  · have f3 : x3.toInt ≤ x6.toInt := xle h2
    exact k (1 : Int32) (show (1 : Int) = 0 ∨ x5.toInt + x3.toInt ≤ (ps_a s 1134 (Int32.toNatClampNeg x4)).toInt from by omega) (by decide)
  · have f4 : x6.toInt < x3.toInt := xlt h2
    have a5 : (x2 + x6).toInt = x2.toInt + x6.toInt := xIa (show -2147483648 ≤ x2.toInt + x6.toInt from by omega) (show x2.toInt + x6.toInt < 2147483648 from by omega)
    refine pg_220_0 ?_
    have a6 : (x1 + 1).toInt = x1.toInt + (1 : Int) := xIa (show -2147483648 ≤ x1.toInt + (1 : Int) from by omega) (show x1.toInt + (1 : Int) < 2147483648 from by omega)
    have a7 : ((x1 + 1) + (x2 + x6)).toInt = (x1 + 1).toInt + (x2 + x6).toInt := xIa (show -2147483648 ≤ (x1 + 1).toInt + (x2 + x6).toInt from by omega) (show (x1 + 1).toInt + (x2 + x6).toInt < 2147483648 from by omega)
    refine ps_nd_i (show pm_in ((x1 + 1) + (x2 + x6)) 27400 = true from xgi (show 0 ≤ ((x1 + 1) + (x2 + x6)).toInt from by omega) (show ((x1 + 1) + (x2 + x6)).toInt < 27400 from by omega)) ?_
    have r8 : ((x1 + 1) + (x2 + x6)).toInt % 41 = 0 → ((x1 + 1) + (x2 + x6)).toInt < 27306 → 0 ≤ (ps_a s 1134 (Int32.toNatClampNeg ((x1 + 1) + (x2 + x6)))).toInt ∧ (ps_a s 1134 (Int32.toNatClampNeg ((x1 + 1) + (x2 + x6)))).toInt ≤ 40 := fun z1 z2 => mp_row (i := ((x1 + 1) + (x2 + x6))) J z1 (show 0 ≤ ((x1 + 1) + (x2 + x6)).toInt from by omega) z2
    have a9 : (x5 + x6).toInt = x5.toInt + x6.toInt := xIa (show -2147483648 ≤ x5.toInt + x6.toInt from by omega) (show x5.toInt + x6.toInt < 2147483648 from by omega)
    refine pg_220_0 ?_
    have a10 : (x4 + 1).toInt = x4.toInt + (1 : Int) := xIa (show -2147483648 ≤ x4.toInt + (1 : Int) from by omega) (show x4.toInt + (1 : Int) < 2147483648 from by omega)
    have a11 : ((x4 + 1) + (x5 + x6)).toInt = (x4 + 1).toInt + (x5 + x6).toInt := xIa (show -2147483648 ≤ (x4 + 1).toInt + (x5 + x6).toInt from by omega) (show (x4 + 1).toInt + (x5 + x6).toInt < 2147483648 from by omega)
    refine ps_nd_i (show pm_in ((x4 + 1) + (x5 + x6)) 27400 = true from xgi (show 0 ≤ ((x4 + 1) + (x5 + x6)).toInt from by omega) (show ((x4 + 1) + (x5 + x6)).toInt < 27400 from by omega)) ?_
    have r12 : ((x4 + 1) + (x5 + x6)).toInt % 41 = 0 → ((x4 + 1) + (x5 + x6)).toInt < 27306 → 0 ≤ (ps_a s 1134 (Int32.toNatClampNeg ((x4 + 1) + (x5 + x6)))).toInt ∧ (ps_a s 1134 (Int32.toNatClampNeg ((x4 + 1) + (x5 + x6)))).toInt ≤ 40 := fun z1 z2 => mp_row (i := ((x4 + 1) + (x5 + x6))) J z1 (show 0 ≤ ((x4 + 1) + (x5 + x6)).toInt from by omega) z2
    refine And.intro (fun h13 => ?_) (fun h13 => ?_)
    · have f14 : (ps_a s 1134 (Int32.toNatClampNeg ((x1 + 1) + (x2 + x6)))).toInt = (ps_a s 1134 (Int32.toNatClampNeg ((x4 + 1) + (x5 + x6)))).toInt := xeq h13
      have a15 : (x6 + 1).toInt = x6.toInt + (1 : Int) := xIa (show -2147483648 ≤ x6.toInt + (1 : Int) from by omega) (show x6.toInt + (1 : Int) < 2147483648 from by omega)
      exact ih (n - 1) (show n - 1 < n from by omega) (x6 + 1) J (show x1.toInt % 41 = 0 from by omega) (show 0 ≤ x1.toInt from by omega) (show x1.toInt < 27306 from by omega) (show x4.toInt % 41 = 0 from by omega) (show 0 ≤ x4.toInt from by omega) (show x4.toInt < 27306 from by omega) (show 0 ≤ x2.toInt from by omega) (show x2.toInt ≤ 41 from by omega) (show 0 ≤ x3.toInt from by omega) (show x3.toInt ≤ 41 from by omega) (show 0 ≤ x5.toInt from by omega) (show x5.toInt ≤ 41 from by omega) (show 0 ≤ (x6 + 1).toInt from by omega) (show (x6 + 1).toInt ≤ x3.toInt from by omega) (show x5.toInt + x3.toInt ≤ (ps_a s 1134 (Int32.toNatClampNeg x4)).toInt from by omega) (show 50 - (x6 + 1).toInt ≤ ((n - 1 : Nat) : Int) from by omega)
    · have f16 : (ps_a s 1134 (Int32.toNatClampNeg ((x1 + 1) + (x2 + x6)))).toInt ≠ (ps_a s 1134 (Int32.toNatClampNeg ((x4 + 1) + (x5 + x6)))).toInt := xne h13
      exact k (0 : Int32) (show (0 : Int) = 0 ∨ x5.toInt + x3.toInt ≤ (ps_a s 1134 (Int32.toNatClampNeg x4)).toInt from by omega) (by decide)

theorem ms_259 {x : Nat → Nat → Nat} {t : Int32} {s : ps_S} {d : Nat} {x1 : Int32} {x2 : Int32} {x3 : Int32} {x4 : Int32} {x5 : Int32} {f : Int32 → ps_S → Prop} (J : mJ x t s) (q0 : x1.toInt % 41 = 0) (q1 : 0 ≤ x1.toInt) (q2 : x1.toInt < 27306) (q3 : x4.toInt % 41 = 0) (q4 : 0 ≤ x4.toInt) (q5 : x4.toInt < 27306) (q6 : 0 ≤ x2.toInt) (q7 : x2.toInt ≤ 41) (q8 : 0 ≤ x3.toInt) (q9 : x3.toInt ≤ 41) (q10 : 0 ≤ x5.toInt) (q11 : x5.toInt ≤ 41) (k : ∀ (v : Int32), (v.toInt = 0 ∨ x5.toInt + x3.toInt ≤ (ps_a s 1134 (Int32.toNatClampNeg x4)).toInt) → v &&& 1 = v → f v s) : ps_Cl (d + 1) 259 [.ref 1131, .int x1, .int x2, .int x3, .int x4, .int x5] s (ps_rI f) := by
  refine pg_259_0 (d := d) ?_
  have a1 : (x5 + x3).toInt = x5.toInt + x3.toInt := xIa (show -2147483648 ≤ x5.toInt + x3.toInt from by omega) (show x5.toInt + x3.toInt < 2147483648 from by omega)
  refine pg_219_0 ?_
  refine ps_nd_i (show pm_in x4 27400 = true from xgi (show 0 ≤ x4.toInt from by omega) (show x4.toInt < 27400 from by omega)) ?_
  have r2 : x4.toInt % 41 = 0 → x4.toInt < 27306 → 0 ≤ (ps_a s 1134 (Int32.toNatClampNeg x4)).toInt ∧ (ps_a s 1134 (Int32.toNatClampNeg x4)).toInt ≤ 40 := fun z1 z2 => mp_row (i := x4) J z1 (show 0 ≤ x4.toInt from by omega) z2
  refine And.intro (fun h3 => ?_) (fun h3 => ?_)
  · have f4 : (x5 + x3).toInt ≤ (ps_a s 1134 (Int32.toNatClampNeg x4)).toInt := xle h3
    exact ms_259_18 (x1 := x1) (x2 := x2) (x3 := x3) (x4 := x4) (x5 := x5) k  (50 - (0 : Int)).toNat (0) J (show x1.toInt % 41 = 0 from by omega) (show 0 ≤ x1.toInt from by omega) (show x1.toInt < 27306 from by omega) (show x4.toInt % 41 = 0 from by omega) (show 0 ≤ x4.toInt from by omega) (show x4.toInt < 27306 from by omega) (show 0 ≤ x2.toInt from by omega) (show x2.toInt ≤ 41 from by omega) (show 0 ≤ x3.toInt from by omega) (show x3.toInt ≤ 41 from by omega) (show 0 ≤ x5.toInt from by omega) (show x5.toInt ≤ 41 from by omega) (show 0 ≤ (0 : Int) from by omega) (show (0 : Int) ≤ x3.toInt from by omega) (show x5.toInt + x3.toInt ≤ (ps_a s 1134 (Int32.toNatClampNeg x4)).toInt from by omega) (show 50 - (0 : Int) ≤ (((50 - (0 : Int)).toNat : Nat) : Int) from by omega)
  · have f5 : (ps_a s 1134 (Int32.toNatClampNeg x4)).toInt < (x5 + x3).toInt := xlt h3
    exact k (0 : Int32) (show (0 : Int) = 0 ∨ x5.toInt + x3.toInt ≤ (ps_a s 1134 (Int32.toNatClampNeg x4)).toInt from by omega) (by decide)

-- ProofBenchModel.refused(I)I
theorem pg_261_0 {d : Nat} {x1 : Int32} {s : ps_S} {Q : Option Value → ps_S → Prop} (h :
  (x1 ≠ 0 →
    (x1 ≠ 1 →
      Q (some (.int (-1))) s) ∧
    (x1 = 1 →
      Q (some (.int (ps_i s 1131 49))) s)) ∧
  (x1 = 0 →
    Q (some (.int (ps_i s 1131 48))) s)) : ps_At d 261 0 [(0, .ref 1131), (1, .int x1)] [] s Q :=
  ps_wp_at (stops := []) (n := 17) h rfl

theorem ms_261 {x : Nat → Nat → Nat} {t : Int32} {s : ps_S} {d : Nat} {x1 : Int32} {f : Int32 → ps_S → Prop} (J : mJ x t s) (k : ∀ (v : Int32), f v s) : ps_Cl d 261 [.ref 1131, .int x1] s (ps_rI f) := by
  refine pg_261_0 ?_
  refine And.intro (fun h1 => ?_) (fun h1 => ?_)
  · have f2 : x1.toInt ≠ (0 : Int) := xne h1
    refine And.intro (fun h3 => ?_) (fun h3 => ?_)
    · have f4 : x1.toInt ≠ (1 : Int) := xne h3
      exact k (-1 : Int32)
    · have f5 : x1.toInt = (1 : Int) := xeq h3
      exact k (ps_i s 1131 49)
  · have f6 : x1.toInt = (0 : Int) := xeq h1
    have r7 := mf_48 J
    exact k (ps_i s 1131 48)

-- ProofBenchModel.isStep(I)Z
theorem pg_262_0 {d : Nat} {x1 : Int32} {s : ps_S} {Q : Option Value → ps_S → Prop} (h :
  ps_Cl d 200 [.int x1, .int 0, .int ((ps_i s 1131 47) - 1)] s (ps_rI (fun v1 s1 =>
    ps_nd (decide (v1 &&& 1 = v1)) (Q (some (.int v1)) s1)))) : ps_At (d + 1) 262 0 [(0, .ref 1131), (1, .int x1)] [] s Q :=
  ps_wp_at (stops := []) (n := 10) h rfl

theorem ms_262 {x : Nat → Nat → Nat} {t : Int32} {s : ps_S} {d : Nat} {x1 : Int32} {f : Int32 → ps_S → Prop} (J : mJ x t s) (k : ∀ (v : Int32), (v.toInt = 0 ∨ (0 ≤ x1.toInt ∧ x1.toInt < (ps_i s 1131 47).toInt)) → v &&& 1 = v → f v s) : ps_Cl (d + 1) 262 [.ref 1131, .int x1] s (ps_rI f) := by
  refine pg_262_0 (d := d) ?_
  have r1 := mf_47 J
  have a2 : ((ps_i s 1131 47) - 1).toInt = (ps_i s 1131 47).toInt - (1 : Int) := xIs (show -2147483648 ≤ (ps_i s 1131 47).toInt - (1 : Int) from by omega) (show (ps_i s 1131 47).toInt - (1 : Int) < 2147483648 from by omega)
  refine ms_200 J  (fun v3 p3_0 b3 => ?_)
  have p3_0' : v3.toInt = 0 ∨ ((0 : Int) ≤ x1.toInt ∧ x1.toInt ≤ ((ps_i s 1131 47) - 1).toInt) := p3_0
  refine ps_nd_i (decide_eq_true b3) ?_
  exact k v3 (show v3.toInt = 0 ∨ (0 ≤ x1.toInt ∧ x1.toInt < (ps_i s 1131 47).toInt) from by omega) b3

-- ProofBenchModel.step(II)I
theorem pg_263_0 {d : Nat} {x1 : Int32} {x2 : Int32} {s : ps_S} {Q : Option Value → ps_S → Prop} (h :
  ps_Cl d 262 [.ref 1131, .int x1] s (ps_rI (fun v1 s1 =>
    (v1 ≠ 0 →
      (x2 = 0 →
        ps_Cl d 242 [.int x1] s1 (ps_rI (fun v2 s2 =>
          ps_Cl d 219 [.ref 1131, .int v2] s2 (ps_rI (fun v3 s3 =>
            Q (some (.int v3)) s3))))) ∧
      (x2 ≠ 0 →
        (x2 = 1 →
        ps_nd (pm_in x1 41) (Q (some (.int (ps_a s1 1157 (Int32.toNatClampNeg x1)))) s1)) ∧
      (x2 ≠ 1 →
        (x2 = 2 →
        ps_nd (pm_in x1 40) (Q (some (.int (ps_a s1 1158 (Int32.toNatClampNeg x1)))) s1)) ∧
      (x2 ≠ 2 →
        (x2 = 3 →
        ps_nd (pm_in x1 40) (Q (some (.int (ps_a s1 1159 (Int32.toNatClampNeg x1)))) s1)) ∧
      (x2 ≠ 3 →
        Q (some (.int (-1))) s1))))) ∧
    (v1 = 0 →
      Q (some (.int (-1))) s1)))) : ps_At (d + 1) 263 0 [(0, .ref 1131), (1, .int x1), (2, .int x2)] [] s Q :=
  ps_wp_at (stops := []) (n := 32) h rfl

theorem ms_263 {x : Nat → Nat → Nat} {t : Int32} {s : ps_S} {d : Nat} {x1 : Int32} {x2 : Int32} {f : Int32 → ps_S → Prop} (J : mJ x t s) (k : ∀ (v : Int32), f v s) : ps_Cl (d + 2) 263 [.ref 1131, .int x1, .int x2] s (ps_rI f) := by
  refine pg_263_0 (d := d + 1) ?_
  refine ms_262 J  (fun v1 p1_0 b1 => ?_)
  have p1_0' : v1.toInt = 0 ∨ (0 ≤ x1.toInt ∧ x1.toInt < (ps_i s 1131 47).toInt) := p1_0
  have r2 := mf_47 J
  refine And.intro (fun h3 => ?_) (fun h3 => ?_)
  · have f4 : v1.toInt ≠ (0 : Int) := xne h3
    refine And.intro (fun h5 => ?_) (fun h5 => ?_)
    · have f6 : x2.toInt = (0 : Int) := xeq h5
      refine pg_242_0 ?_
      have a7 : ((41 : Int32) * x1).toInt = (41 : Int) * x1.toInt := xIm (show -2147483648 ≤ (41 : Int) * x1.toInt from by omega) (show (41 : Int) * x1.toInt < 2147483648 from by omega)
      have a8 : ((0 : Int32) + ((41 : Int32) * x1)).toInt = (0 : Int) + ((41 : Int32) * x1).toInt := xIa (show -2147483648 ≤ (0 : Int) + ((41 : Int32) * x1).toInt from by omega) (show (0 : Int) + ((41 : Int32) * x1).toInt < 2147483648 from by omega)
      refine pg_219_0 ?_
      refine ps_nd_i (show pm_in ((0 : Int32) + ((41 : Int32) * x1)) 27400 = true from xgi (show 0 ≤ ((0 : Int32) + ((41 : Int32) * x1)).toInt from by omega) (show ((0 : Int32) + ((41 : Int32) * x1)).toInt < 27400 from by omega)) ?_
      have r9 : ((0 : Int32) + ((41 : Int32) * x1)).toInt % 41 = 0 → ((0 : Int32) + ((41 : Int32) * x1)).toInt < 27306 → 0 ≤ (ps_a s 1134 (Int32.toNatClampNeg ((0 : Int32) + ((41 : Int32) * x1)))).toInt ∧ (ps_a s 1134 (Int32.toNatClampNeg ((0 : Int32) + ((41 : Int32) * x1)))).toInt ≤ 40 := fun z1 z2 => mp_row (i := ((0 : Int32) + ((41 : Int32) * x1))) J z1 (show 0 ≤ ((0 : Int32) + ((41 : Int32) * x1)).toInt from by omega) z2
      exact k (ps_a s 1134 (Int32.toNatClampNeg ((0 : Int32) + ((41 : Int32) * x1))))
    have f10 : x2.toInt ≠ (0 : Int) := xne h5
    refine And.intro (fun h11 => ?_) (fun h11 => ?_)
    · have f12 : x2.toInt = (1 : Int) := xeq h11
      refine ps_nd_i (show pm_in x1 41 = true from xgi (show 0 ≤ x1.toInt from by omega) (show x1.toInt < 41 from by omega)) ?_
      have r13 : 0 ≤ (ps_a s 1157 (Int32.toNatClampNeg x1)).toInt ∧ (ps_a s 1157 (Int32.toNatClampNeg x1)).toInt ≤ 12 := ma_1157 (i := x1) J (show 0 ≤ x1.toInt from by omega) (show x1.toInt < 41 from by omega)
      exact k (ps_a s 1157 (Int32.toNatClampNeg x1))
    have f14 : x2.toInt ≠ (1 : Int) := xne h11
    refine And.intro (fun h15 => ?_) (fun h15 => ?_)
    · have f16 : x2.toInt = (2 : Int) := xeq h15
      refine ps_nd_i (show pm_in x1 40 = true from xgi (show 0 ≤ x1.toInt from by omega) (show x1.toInt < 40 from by omega)) ?_
      exact k (ps_a s 1158 (Int32.toNatClampNeg x1))
    have f17 : x2.toInt ≠ (2 : Int) := xne h15
    refine And.intro (fun h18 => ?_) (fun h18 => ?_)
    · have f19 : x2.toInt = (3 : Int) := xeq h18
      refine ps_nd_i (show pm_in x1 40 = true from xgi (show 0 ≤ x1.toInt from by omega) (show x1.toInt < 40 from by omega)) ?_
      exact k (ps_a s 1159 (Int32.toNatClampNeg x1))
    have f20 : x2.toInt ≠ (3 : Int) := xne h18
    exact k (-1 : Int32)
  · have f21 : v1.toInt = (0 : Int) := xeq h3
    exact k (-1 : Int32)

-- ProofBenchModel.pieceOf(II)I
theorem pg_264_0 {d : Nat} {x1 : Int32} {x2 : Int32} {s : ps_S} {Q : Option Value → ps_S → Prop} (h :
  ps_Cl d 219 [.ref 1131, .int x1] s (ps_rI (fun v1 s1 =>
    ps_Cl d 200 [.int x2, .int 0, .int (v1 - 1)] s1 (ps_rI (fun v2 s2 =>
      (v2 = 0 →
        Q (some (.int (-1))) s2) ∧
      (v2 ≠ 0 →
        ps_Cl d 220 [.ref 1131, .int x1, .int x2] s2 (ps_rI (fun v3 s3 =>
          Q (some (.int v3)) s3)))))))) : ps_At (d + 1) 264 0 [(0, .ref 1131), (1, .int x1), (2, .int x2)] [] s Q :=
  ps_wp_at (stops := []) (n := 19) h rfl

theorem ms_264 {x : Nat → Nat → Nat} {t : Int32} {s : ps_S} {d : Nat} {x1 : Int32} {x2 : Int32} {f : Int32 → ps_S → Prop} (J : mJ x t s) (q0 : x1.toInt % 41 = 0) (q1 : 0 ≤ x1.toInt) (q2 : x1.toInt < 27306) (k : ∀ (v : Int32), f v s) : ps_Cl (d + 1) 264 [.ref 1131, .int x1, .int x2] s (ps_rI f) := by
  refine pg_264_0 (d := d) ?_
  refine pg_219_0 ?_
  refine ps_nd_i (show pm_in x1 27400 = true from xgi (show 0 ≤ x1.toInt from by omega) (show x1.toInt < 27400 from by omega)) ?_
  have r1 : x1.toInt % 41 = 0 → x1.toInt < 27306 → 0 ≤ (ps_a s 1134 (Int32.toNatClampNeg x1)).toInt ∧ (ps_a s 1134 (Int32.toNatClampNeg x1)).toInt ≤ 40 := fun z1 z2 => mp_row (i := x1) J z1 (show 0 ≤ x1.toInt from by omega) z2
  have a2 : ((ps_a s 1134 (Int32.toNatClampNeg x1)) - 1).toInt = (ps_a s 1134 (Int32.toNatClampNeg x1)).toInt - (1 : Int) := xIs (show -2147483648 ≤ (ps_a s 1134 (Int32.toNatClampNeg x1)).toInt - (1 : Int) from by omega) (show (ps_a s 1134 (Int32.toNatClampNeg x1)).toInt - (1 : Int) < 2147483648 from by omega)
  refine ms_200 J  (fun v3 p3_0 b3 => ?_)
  have p3_0' : v3.toInt = 0 ∨ ((0 : Int) ≤ x2.toInt ∧ x2.toInt ≤ ((ps_a s 1134 (Int32.toNatClampNeg x1)) - 1).toInt) := p3_0
  refine And.intro (fun h4 => ?_) (fun h4 => ?_)
  · have f5 : v3.toInt = (0 : Int) := xeq h4
    exact k (-1 : Int32)
  · have f6 : v3.toInt ≠ (0 : Int) := xne h4
    refine pg_220_0 ?_
    have a7 : (x1 + 1).toInt = x1.toInt + (1 : Int) := xIa (show -2147483648 ≤ x1.toInt + (1 : Int) from by omega) (show x1.toInt + (1 : Int) < 2147483648 from by omega)
    have a8 : ((x1 + 1) + x2).toInt = (x1 + 1).toInt + x2.toInt := xIa (show -2147483648 ≤ (x1 + 1).toInt + x2.toInt from by omega) (show (x1 + 1).toInt + x2.toInt < 2147483648 from by omega)
    refine ps_nd_i (show pm_in ((x1 + 1) + x2) 27400 = true from xgi (show 0 ≤ ((x1 + 1) + x2).toInt from by omega) (show ((x1 + 1) + x2).toInt < 27400 from by omega)) ?_
    have r9 : ((x1 + 1) + x2).toInt % 41 = 0 → ((x1 + 1) + x2).toInt < 27306 → 0 ≤ (ps_a s 1134 (Int32.toNatClampNeg ((x1 + 1) + x2))).toInt ∧ (ps_a s 1134 (Int32.toNatClampNeg ((x1 + 1) + x2))).toInt ≤ 40 := fun z1 z2 => mp_row (i := ((x1 + 1) + x2)) J z1 (show 0 ≤ ((x1 + 1) + x2).toInt from by omega) z2
    exact k (ps_a s 1134 (Int32.toNatClampNeg ((x1 + 1) + x2)))

-- ProofBenchModel.line(II)I
theorem pg_265_0 {d : Nat} {x1 : Int32} {x2 : Int32} {s : ps_S} {Q : Option Value → ps_S → Prop} (h :
  ps_Cl d 262 [.ref 1131, .int x1] s (ps_rI (fun v1 s1 =>
    (v1 = 0 →
      Q (some (.int (-1))) s1) ∧
    (v1 ≠ 0 →
      ps_Cl d 242 [.int x1] s1 (ps_rI (fun v2 s2 =>
        ps_Cl d 264 [.ref 1131, .int v2, .int x2] s2 (ps_rI (fun v3 s3 =>
          Q (some (.int v3)) s3)))))))) : ps_At (d + 1) 265 0 [(0, .ref 1131), (1, .int x1), (2, .int x2)] [] s Q :=
  ps_wp_at (stops := []) (n := 15) h rfl

theorem ms_265 {x : Nat → Nat → Nat} {t : Int32} {s : ps_S} {d : Nat} {x1 : Int32} {x2 : Int32} {f : Int32 → ps_S → Prop} (J : mJ x t s) (k : ∀ (v : Int32), f v s) : ps_Cl (d + 2) 265 [.ref 1131, .int x1, .int x2] s (ps_rI f) := by
  refine pg_265_0 (d := d + 1) ?_
  refine ms_262 J  (fun v1 p1_0 b1 => ?_)
  have p1_0' : v1.toInt = 0 ∨ (0 ≤ x1.toInt ∧ x1.toInt < (ps_i s 1131 47).toInt) := p1_0
  have r2 := mf_47 J
  refine And.intro (fun h3 => ?_) (fun h3 => ?_)
  · have f4 : v1.toInt = (0 : Int) := xeq h3
    exact k (-1 : Int32)
  · have f5 : v1.toInt ≠ (0 : Int) := xne h3
    refine pg_242_0 ?_
    have a6 : ((41 : Int32) * x1).toInt = (41 : Int) * x1.toInt := xIm (show -2147483648 ≤ (41 : Int) * x1.toInt from by omega) (show (41 : Int) * x1.toInt < 2147483648 from by omega)
    have a7 : ((0 : Int32) + ((41 : Int32) * x1)).toInt = (0 : Int) + ((41 : Int32) * x1).toInt := xIa (show -2147483648 ≤ (0 : Int) + ((41 : Int32) * x1).toInt from by omega) (show (0 : Int) + ((41 : Int32) * x1).toInt < 2147483648 from by omega)
    refine ms_264 J (show ((0 : Int32) + ((41 : Int32) * x1)).toInt % 41 = 0 from by omega) (show 0 ≤ ((0 : Int32) + ((41 : Int32) * x1)).toInt from by omega) (show ((0 : Int32) + ((41 : Int32) * x1)).toInt < 27306 from by omega) (fun v8 => ?_)
    exact k v8

-- ProofBenchModel.assumed(III)I
theorem pg_266_0 {d : Nat} {x1 : Int32} {x2 : Int32} {x3 : Int32} {s : ps_S} {Q : Option Value → ps_S → Prop} (h :
  ps_Cl d 262 [.ref 1131, .int x1] s (ps_rI (fun v1 s1 =>
    (v1 = 0 →
      Q (some (.int (-1))) s1) ∧
    (v1 ≠ 0 →
      ps_nd (pm_in x1 41) (ps_Cl d 200 [.int x2, .int 0, .int ((ps_a s1 1157 (Int32.toNatClampNeg x1)) - 1)] s1 (ps_rI (fun v2 s2 =>
        (v2 = 0 →
          Q (some (.int (-1))) s2) ∧
        (v2 ≠ 0 →
          ps_Cl d 243 [.int x1, .int x2] s2 (ps_rI (fun v3 s3 =>
            ps_Cl d 264 [.ref 1131, .int v3, .int x3] s3 (ps_rI (fun v4 s4 =>
              Q (some (.int v4)) s4)))))))))))) : ps_At (d + 1) 266 0 [(0, .ref 1131), (1, .int x1), (2, .int x2), (3, .int x3)] [] s Q :=
  ps_wp_at (stops := []) (n := 28) h rfl

theorem ms_266 {x : Nat → Nat → Nat} {t : Int32} {s : ps_S} {d : Nat} {x1 : Int32} {x2 : Int32} {x3 : Int32} {f : Int32 → ps_S → Prop} (J : mJ x t s) (k : ∀ (v : Int32), f v s) : ps_Cl (d + 2) 266 [.ref 1131, .int x1, .int x2, .int x3] s (ps_rI f) := by
  refine pg_266_0 (d := d + 1) ?_
  refine ms_262 J  (fun v1 p1_0 b1 => ?_)
  have p1_0' : v1.toInt = 0 ∨ (0 ≤ x1.toInt ∧ x1.toInt < (ps_i s 1131 47).toInt) := p1_0
  have r2 := mf_47 J
  refine And.intro (fun h3 => ?_) (fun h3 => ?_)
  · have f4 : v1.toInt = (0 : Int) := xeq h3
    exact k (-1 : Int32)
  · have f5 : v1.toInt ≠ (0 : Int) := xne h3
    refine ps_nd_i (show pm_in x1 41 = true from xgi (show 0 ≤ x1.toInt from by omega) (show x1.toInt < 41 from by omega)) ?_
    have r6 : 0 ≤ (ps_a s 1157 (Int32.toNatClampNeg x1)).toInt ∧ (ps_a s 1157 (Int32.toNatClampNeg x1)).toInt ≤ 12 := ma_1157 (i := x1) J (show 0 ≤ x1.toInt from by omega) (show x1.toInt < 41 from by omega)
    have a7 : ((ps_a s 1157 (Int32.toNatClampNeg x1)) - 1).toInt = (ps_a s 1157 (Int32.toNatClampNeg x1)).toInt - (1 : Int) := xIs (show -2147483648 ≤ (ps_a s 1157 (Int32.toNatClampNeg x1)).toInt - (1 : Int) from by omega) (show (ps_a s 1157 (Int32.toNatClampNeg x1)).toInt - (1 : Int) < 2147483648 from by omega)
    refine ms_200 J  (fun v8 p8_0 b8 => ?_)
    have p8_0' : v8.toInt = 0 ∨ ((0 : Int) ≤ x2.toInt ∧ x2.toInt ≤ ((ps_a s 1157 (Int32.toNatClampNeg x1)) - 1).toInt) := p8_0
    refine And.intro (fun h9 => ?_) (fun h9 => ?_)
    · have f10 : v8.toInt = (0 : Int) := xeq h9
      exact k (-1 : Int32)
    · have f11 : v8.toInt ≠ (0 : Int) := xne h9
      refine pg_243_0 ?_
      have a12 : ((12 : Int32) * x1).toInt = (12 : Int) * x1.toInt := xIm (show -2147483648 ≤ (12 : Int) * x1.toInt from by omega) (show (12 : Int) * x1.toInt < 2147483648 from by omega)
      have a13 : (((12 : Int32) * x1) + x2).toInt = ((12 : Int32) * x1).toInt + x2.toInt := xIa (show -2147483648 ≤ ((12 : Int32) * x1).toInt + x2.toInt from by omega) (show ((12 : Int32) * x1).toInt + x2.toInt < 2147483648 from by omega)
      have a14 : ((41 : Int32) * (((12 : Int32) * x1) + x2)).toInt = (41 : Int) * (((12 : Int32) * x1) + x2).toInt := xIm (show -2147483648 ≤ (41 : Int) * (((12 : Int32) * x1) + x2).toInt from by omega) (show (41 : Int) * (((12 : Int32) * x1) + x2).toInt < 2147483648 from by omega)
      have a15 : ((1640 : Int32) + ((41 : Int32) * (((12 : Int32) * x1) + x2))).toInt = (1640 : Int) + ((41 : Int32) * (((12 : Int32) * x1) + x2)).toInt := xIa (show -2147483648 ≤ (1640 : Int) + ((41 : Int32) * (((12 : Int32) * x1) + x2)).toInt from by omega) (show (1640 : Int) + ((41 : Int32) * (((12 : Int32) * x1) + x2)).toInt < 2147483648 from by omega)
      refine ms_264 J (show ((1640 : Int32) + ((41 : Int32) * (((12 : Int32) * x1) + x2))).toInt % 41 = 0 from by omega) (show 0 ≤ ((1640 : Int32) + ((41 : Int32) * (((12 : Int32) * x1) + x2))).toInt from by omega) (show ((1640 : Int32) + ((41 : Int32) * (((12 : Int32) * x1) + x2))).toInt < 27306 from by omega) (fun v16 => ?_)
      exact k v16

-- ProofBenchModel.needs(I)J
theorem pg_267_0 {d : Nat} {x1 : Int32} {s : ps_S} {Q : Option Value → ps_S → Prop} (h :
  ps_Cl d 262 [.ref 1131, .int x1] s (ps_rI (fun v1 s1 =>
    (v1 = 0 →
      Q (some (.long (-1 : Int64))) s1) ∧
    (v1 ≠ 0 →
      ps_nd (pm_in x1 40) (Q (some (.long (ps_b s1 1160 (Int32.toNatClampNeg x1)))) s1))))) : ps_At (d + 1) 267 0 [(0, .ref 1131), (1, .int x1)] [] s Q :=
  ps_wp_at (stops := []) (n := 14) h rfl

theorem ms_267 {x : Nat → Nat → Nat} {t : Int32} {s : ps_S} {d : Nat} {x1 : Int32} {f : Int64 → ps_S → Prop} (J : mJ x t s) (k : ∀ (v : Int64), f v s) : ps_Cl (d + 2) 267 [.ref 1131, .int x1] s (ps_rJ f) := by
  refine pg_267_0 (d := d + 1) ?_
  refine ms_262 J  (fun v1 p1_0 b1 => ?_)
  have p1_0' : v1.toInt = 0 ∨ (0 ≤ x1.toInt ∧ x1.toInt < (ps_i s 1131 47).toInt) := p1_0
  have r2 := mf_47 J
  refine And.intro (fun h3 => ?_) (fun h3 => ?_)
  · have f4 : v1.toInt = (0 : Int) := xeq h3
    exact k (-1 : Int64)
  · have f5 : v1.toInt ≠ (0 : Int) := xne h3
    refine ps_nd_i (show pm_in x1 40 = true from xgi (show 0 ≤ x1.toInt from by omega) (show x1.toInt < 40 from by omega)) ?_
    exact k (ps_b s 1160 (Int32.toNatClampNeg x1))

-- ProofBenchModel.theorem(II)I
theorem pg_269_0 {d : Nat} {x1 : Int32} {x2 : Int32} {s : ps_S} {Q : Option Value → ps_S → Prop} (h :
  ps_Cl d 200 [.int x1, .int 0, .int ((ps_i s 1131 54) - 1)] s (ps_rI (fun v1 s1 =>
    (v1 = 0 →
      Q (some (.int (-1))) s1) ∧
    (v1 ≠ 0 →
      ps_Cl d 264 [.ref 1131, .int ((21320 : Int32) + ((41 : Int32) * x1)), .int x2] s1 (ps_rI (fun v2 s2 =>
        Q (some (.int v2)) s2)))))) : ps_At (d + 1) 269 0 [(0, .ref 1131), (1, .int x1), (2, .int x2)] [] s Q :=
  ps_wp_at (stops := []) (n := 22) h rfl

theorem ms_269 {x : Nat → Nat → Nat} {t : Int32} {s : ps_S} {d : Nat} {x1 : Int32} {x2 : Int32} {f : Int32 → ps_S → Prop} (J : mJ x t s) (k : ∀ (v : Int32), f v s) : ps_Cl (d + 2) 269 [.ref 1131, .int x1, .int x2] s (ps_rI f) := by
  refine pg_269_0 (d := d + 1) ?_
  have r1 := mf_54 J
  have a2 : ((ps_i s 1131 54) - 1).toInt = (ps_i s 1131 54).toInt - (1 : Int) := xIs (show -2147483648 ≤ (ps_i s 1131 54).toInt - (1 : Int) from by omega) (show (ps_i s 1131 54).toInt - (1 : Int) < 2147483648 from by omega)
  refine ms_200 J  (fun v3 p3_0 b3 => ?_)
  have p3_0' : v3.toInt = 0 ∨ ((0 : Int) ≤ x1.toInt ∧ x1.toInt ≤ ((ps_i s 1131 54) - 1).toInt) := p3_0
  refine And.intro (fun h4 => ?_) (fun h4 => ?_)
  · have f5 : v3.toInt = (0 : Int) := xeq h4
    exact k (-1 : Int32)
  · have f6 : v3.toInt ≠ (0 : Int) := xne h4
    have a7 : ((41 : Int32) * x1).toInt = (41 : Int) * x1.toInt := xIm (show -2147483648 ≤ (41 : Int) * x1.toInt from by omega) (show (41 : Int) * x1.toInt < 2147483648 from by omega)
    have a8 : ((21320 : Int32) + ((41 : Int32) * x1)).toInt = (21320 : Int) + ((41 : Int32) * x1).toInt := xIa (show -2147483648 ≤ (21320 : Int) + ((41 : Int32) * x1).toInt from by omega) (show (21320 : Int) + ((41 : Int32) * x1).toInt < 2147483648 from by omega)
    refine ms_264 J (show ((21320 : Int32) + ((41 : Int32) * x1)).toInt % 41 = 0 from by omega) (show 0 ≤ ((21320 : Int32) + ((41 : Int32) * x1)).toInt from by omega) (show ((21320 : Int32) + ((41 : Int32) * x1)).toInt < 27306 from by omega) (fun v9 => ?_)
    exact k v9

-- ProofBenchModel.through(I)I
theorem pg_270_0 {d : Nat} {x1 : Int32} {s : ps_S} {Q : Option Value → ps_S → Prop} (h :
  ps_At d 270 9 [(0, .ref 1131), (2, .int ((1 : Int32) <<< (x1 &&& 31))), (3, .int 0), (4, .int x1)] [] s Q) : ps_At d 270 0 [(0, .ref 1131), (1, .int x1)] [] s Q :=
  ps_wp_at (stops := [(9, [0, 2, 3, 4])]) (n := 10) h rfl

theorem pg_270_9 {d : Nat} {x2 : Int32} {x3 : Int32} {x4 : Int32} {s : ps_S} {Q : Option Value → ps_S → Prop} (h :
  (x4 < 0 →
    Q (some (.int x3)) s) ∧
  (0 ≤ x4 →
    (((x2 >>> (x4 &&& 31)) &&& 1) ≠ 0 →
      ps_nd (pm_in x4 12) (ps_nd (pm_in x4 12) (ps_At d 270 9 [(0, .ref 1131), (2, .int (x2 ||| (ps_a s 1162 (Int32.toNatClampNeg x4)))), (3, .int (x3 ||| (ps_a s 1161 (Int32.toNatClampNeg x4)))), (4, .int (x4 + (-1)))] [] s Q))) ∧
    (((x2 >>> (x4 &&& 31)) &&& 1) = 0 →
      ps_At d 270 9 [(0, .ref 1131), (2, .int x2), (3, .int x3), (4, .int (x4 + (-1)))] [] s Q))) : ps_At d 270 9 [(0, .ref 1131), (2, .int x2), (3, .int x3), (4, .int x4)] [] s Q :=
  ps_wp_at (stops := [(9, [0, 2, 3, 4])]) (n := 31) h rfl

theorem ms_270_9 {x : Nat → Nat → Nat} {t : Int32} {d : Nat} {s : ps_S} {x1 : Int32} {Q : Option Value → ps_S → Prop} (k : ∀ (v : Int32), Q (some (.int v)) s) : ∀ (n : Nat) (x2 : Int32) (x3 : Int32) (x4 : Int32), (mJ x t s) → (-1 ≤ x4.toInt) → (x4.toInt ≤ 11) → x4.toInt + 1 ≤ (n : Int) → ps_At d 270 9 [(0, .ref 1131), (2, .int x2), (3, .int x3), (4, .int x4)] [] s Q := by
  refine xstr (fun n ih => ?_)
  intro x2 x3 x4 J i0 i1 hm
  refine pg_270_9 ?_
  refine And.intro (fun h1 => ?_) (fun h1 => ?_)
  · have f2 : x4.toInt < (0 : Int) := xlt h1
    exact k x3
  · have f3 : (0 : Int) ≤ x4.toInt := xle h1
    have n4 : 0 ≤ ((x2 >>> (x4 &&& 31)) &&& 1).toInt ∧ ((x2 >>> (x4 &&& 31)) &&& 1).toInt ≤ 1 := xN (x2 >>> (x4 &&& 31)) (c := 1) (n := 1) (by decide) (by decide)
    refine And.intro (fun h5 => ?_) (fun h5 => ?_)
    · have f6 : ((x2 >>> (x4 &&& 31)) &&& 1).toInt ≠ (0 : Int) := xne h5
      refine ps_nd_i (show pm_in x4 12 = true from xgi (show 0 ≤ x4.toInt from by omega) (show x4.toInt < 12 from by omega)) ?_
      refine ps_nd_i (show pm_in x4 12 = true from xgi (show 0 ≤ x4.toInt from by omega) (show x4.toInt < 12 from by omega)) ?_
      have a7 : (x4 + (-1)).toInt = x4.toInt + (-1 : Int) := xIa (show -2147483648 ≤ x4.toInt + (-1 : Int) from by omega) (show x4.toInt + (-1 : Int) < 2147483648 from by omega)
      exact ih (n - 1) (show n - 1 < n from by omega) (x2 ||| (ps_a s 1162 (Int32.toNatClampNeg x4))) (x3 ||| (ps_a s 1161 (Int32.toNatClampNeg x4))) (x4 + (-1)) J (show -1 ≤ (x4 + (-1)).toInt from by omega) (show (x4 + (-1)).toInt ≤ 11 from by omega) (show (x4 + (-1)).toInt + 1 ≤ ((n - 1 : Nat) : Int) from by omega)
    · have f8 : ((x2 >>> (x4 &&& 31)) &&& 1).toInt = (0 : Int) := xeq h5
      have a9 : (x4 + (-1)).toInt = x4.toInt + (-1 : Int) := xIa (show -2147483648 ≤ x4.toInt + (-1 : Int) from by omega) (show x4.toInt + (-1 : Int) < 2147483648 from by omega)
      exact ih (n - 1) (show n - 1 < n from by omega) x2 x3 (x4 + (-1)) J (show -1 ≤ (x4 + (-1)).toInt from by omega) (show (x4 + (-1)).toInt ≤ 11 from by omega) (show (x4 + (-1)).toInt + 1 ≤ ((n - 1 : Nat) : Int) from by omega)

theorem ms_270 {x : Nat → Nat → Nat} {t : Int32} {s : ps_S} {d : Nat} {x1 : Int32} {f : Int32 → ps_S → Prop} (J : mJ x t s) (q0 : 0 ≤ x1.toInt) (q1 : x1.toInt ≤ 11) (k : ∀ (v : Int32), f v s) : ps_Cl d 270 [.ref 1131, .int x1] s (ps_rI f) := by
  refine pg_270_0 ?_
  exact ms_270_9 (x1 := x1) k  (x1.toInt + 1).toNat ((1 : Int32) <<< (x1 &&& 31)) (0) x1 J (show -1 ≤ x1.toInt from by omega) (show x1.toInt ≤ 11 from by omega) (show x1.toInt + 1 ≤ (((x1.toInt + 1).toNat : Nat) : Int) from by omega)

-- ProofBenchModel.leans(II)I
theorem pg_271_0 {d : Nat} {x1 : Int32} {x2 : Int32} {s : ps_S} {Q : Option Value → ps_S → Prop} (h :
  ps_Cl d 200 [.int x1, .int 0, .int ((ps_i s 1131 54) - 1)] s (ps_rI (fun v1 s1 =>
    (v1 ≠ 0 →
      (x2 ≠ 0 →
        (x2 ≠ 1 →
          (x2 ≠ 2 →
            Q (some (.int (-1))) s1) ∧
          (x2 = 2 →
            ps_Cl d 270 [.ref 1131, .int x1] s1 (ps_rI (fun v2 s2 =>
              Q (some (.int v2)) s2)))) ∧
        (x2 = 1 →
          ps_nd (pm_in x1 12) (Q (some (.int (ps_a s1 1162 (Int32.toNatClampNeg x1)))) s1))) ∧
      (x2 = 0 →
        ps_nd (pm_in x1 12) (Q (some (.int (ps_a s1 1161 (Int32.toNatClampNeg x1)))) s1))) ∧
    (v1 = 0 →
      Q (some (.int (-1))) s1)))) : ps_At (d + 1) 271 0 [(0, .ref 1131), (1, .int x1), (2, .int x2)] [] s Q :=
  ps_wp_at (stops := []) (n := 40) h rfl

theorem ms_271 {x : Nat → Nat → Nat} {t : Int32} {s : ps_S} {d : Nat} {x1 : Int32} {x2 : Int32} {f : Int32 → ps_S → Prop} (J : mJ x t s) (k : ∀ (v : Int32), f v s) : ps_Cl (d + 1) 271 [.ref 1131, .int x1, .int x2] s (ps_rI f) := by
  refine pg_271_0 (d := d) ?_
  have r1 := mf_54 J
  have a2 : ((ps_i s 1131 54) - 1).toInt = (ps_i s 1131 54).toInt - (1 : Int) := xIs (show -2147483648 ≤ (ps_i s 1131 54).toInt - (1 : Int) from by omega) (show (ps_i s 1131 54).toInt - (1 : Int) < 2147483648 from by omega)
  refine ms_200 J  (fun v3 p3_0 b3 => ?_)
  have p3_0' : v3.toInt = 0 ∨ ((0 : Int) ≤ x1.toInt ∧ x1.toInt ≤ ((ps_i s 1131 54) - 1).toInt) := p3_0
  refine And.intro (fun h4 => ?_) (fun h4 => ?_)
  · have f5 : v3.toInt ≠ (0 : Int) := xne h4
    refine And.intro (fun h6 => ?_) (fun h6 => ?_)
    · have f7 : x2.toInt ≠ (0 : Int) := xne h6
      refine And.intro (fun h8 => ?_) (fun h8 => ?_)
      · have f9 : x2.toInt ≠ (1 : Int) := xne h8
        refine And.intro (fun h10 => ?_) (fun h10 => ?_)
        · have f11 : x2.toInt ≠ (2 : Int) := xne h10
          exact k (-1 : Int32)
        · have f12 : x2.toInt = (2 : Int) := xeq h10
          refine ms_270 J (show 0 ≤ x1.toInt from by omega) (show x1.toInt ≤ 11 from by omega) (fun v13 => ?_)
          exact k v13
      · have f14 : x2.toInt = (1 : Int) := xeq h8
        refine ps_nd_i (show pm_in x1 12 = true from xgi (show 0 ≤ x1.toInt from by omega) (show x1.toInt < 12 from by omega)) ?_
        exact k (ps_a s 1162 (Int32.toNatClampNeg x1))
    · have f15 : x2.toInt = (0 : Int) := xeq h6
      refine ps_nd_i (show pm_in x1 12 = true from xgi (show 0 ≤ x1.toInt from by omega) (show x1.toInt < 12 from by omega)) ?_
      exact k (ps_a s 1161 (Int32.toNatClampNeg x1))
  · have f16 : v3.toInt = (0 : Int) := xeq h4
    exact k (-1 : Int32)

-- ProofBenchModel.piece(I)I
theorem pg_275_0 {d : Nat} {x1 : Int32} {s : ps_S} {Q : Option Value → ps_S → Prop} (h :
  ps_Cl d 264 [.ref 1131, .int 25748, .int x1] s (ps_rI (fun v1 s1 =>
    Q (some (.int v1)) s1))) : ps_At (d + 1) 275 0 [(0, .ref 1131), (1, .int x1)] [] s Q :=
  ps_wp_at (stops := []) (n := 7) h rfl

theorem ms_275 {x : Nat → Nat → Nat} {t : Int32} {s : ps_S} {d : Nat} {x1 : Int32} {f : Int32 → ps_S → Prop} (J : mJ x t s) (k : ∀ (v : Int32), f v s) : ps_Cl (d + 2) 275 [.ref 1131, .int x1] s (ps_rI f) := by
  refine pg_275_0 (d := d + 1) ?_
  refine ms_264 J (show (25748 : Int) % 41 = 0 from by omega) (show 0 ≤ (25748 : Int) from by omega) (show (25748 : Int) < 27306 from by omega) (fun v1 => ?_)
  exact k v1

-- ProofBenchModel.alike()I
theorem pg_276_0 {d : Nat} {s : ps_S} {Q : Option Value → ps_S → Prop} (h :
  ps_At (d + 1) 276 2 [(0, .ref 1131), (1, .int 0)] [] s Q) : ps_At (d + 1) 276 0 [(0, .ref 1131)] [] s Q :=
  ps_wp_at (stops := [(2, [0, 1])]) (n := 4) h rfl

theorem pg_276_2 {d : Nat} {x1 : Int32} {s : ps_S} {Q : Option Value → ps_S → Prop} (h :
  ((ps_i s 1131 47) ≤ x1 →
    Q (some (.int (-1))) s) ∧
  (x1 < (ps_i s 1131 47) →
    ps_Cl d 219 [.ref 1131, .int 25748] s (ps_rI (fun v1 s1 =>
      (v1 ≤ 0 →
        ps_At (d + 1) 276 2 [(0, .ref 1131), (1, .int (x1 + 1))] [] s1 Q) ∧
      (0 < v1 →
        ps_Cl d 242 [.int x1] s1 (ps_rI (fun v2 s2 =>
          ps_Cl d 222 [.ref 1131, .int v2, .int 25748] s2 (ps_rI (fun v3 s3 =>
            (v3 = 0 →
              ps_At (d + 1) 276 2 [(0, .ref 1131), (1, .int (x1 + 1))] [] s3 Q) ∧
            (v3 ≠ 0 →
              Q (some (.int x1)) s3)))))))))) : ps_At (d + 1) 276 2 [(0, .ref 1131), (1, .int x1)] [] s Q :=
  ps_wp_at (stops := [(2, [0, 1])]) (n := 24) h rfl

theorem ms_276_2 {x : Nat → Nat → Nat} {t : Int32} {d : Nat} {s : ps_S} {Q : Option Value → ps_S → Prop} (k : ∀ (v : Int32), Q (some (.int v)) s) : ∀ (n : Nat) (x1 : Int32), (mJ x t s) → (0 ≤ x1.toInt) → (x1.toInt ≤ (ps_i s 1131 47).toInt) → 50 - x1.toInt ≤ (n : Int) → ps_At (d + 2) 276 2 [(0, .ref 1131), (1, .int x1)] [] s Q := by
  refine xstr (fun n ih => ?_)
  intro x1 J i0 i1 hm
  have r1 := mf_47 J
  refine pg_276_2 (d := d + 1) ?_
  refine And.intro (fun h2 => ?_) (fun h2 => ?_)
  · have f3 : (ps_i s 1131 47).toInt ≤ x1.toInt := xle h2
    exact k (-1 : Int32)
  · have f4 : x1.toInt < (ps_i s 1131 47).toInt := xlt h2
    refine pg_219_0 ?_
    refine ps_nd_i (show pm_in (25748 : Int32) 27400 = true from xgi (show 0 ≤ (25748 : Int) from by omega) (show (25748 : Int) < 27400 from by omega)) ?_
    have r5 : (25748 : Int) % 41 = 0 → (25748 : Int) < 27306 → 0 ≤ (ps_a s 1134 (Int32.toNatClampNeg (25748 : Int32))).toInt ∧ (ps_a s 1134 (Int32.toNatClampNeg (25748 : Int32))).toInt ≤ 40 := fun z1 z2 => mp_row (i := (25748 : Int32)) J z1 (show 0 ≤ (25748 : Int) from by omega) z2
    refine And.intro (fun h6 => ?_) (fun h6 => ?_)
    · have f7 : (ps_a s 1134 (Int32.toNatClampNeg (25748 : Int32))).toInt ≤ (0 : Int) := xle h6
      have a8 : (x1 + 1).toInt = x1.toInt + (1 : Int) := xIa (show -2147483648 ≤ x1.toInt + (1 : Int) from by omega) (show x1.toInt + (1 : Int) < 2147483648 from by omega)
      exact ih (n - 1) (show n - 1 < n from by omega) (x1 + 1) J (show 0 ≤ (x1 + 1).toInt from by omega) (show (x1 + 1).toInt ≤ (ps_i s 1131 47).toInt from by omega) (show 50 - (x1 + 1).toInt ≤ ((n - 1 : Nat) : Int) from by omega)
    · have f9 : (0 : Int) < (ps_a s 1134 (Int32.toNatClampNeg (25748 : Int32))).toInt := xlt h6
      refine pg_242_0 ?_
      have a10 : ((41 : Int32) * x1).toInt = (41 : Int) * x1.toInt := xIm (show -2147483648 ≤ (41 : Int) * x1.toInt from by omega) (show (41 : Int) * x1.toInt < 2147483648 from by omega)
      have a11 : ((0 : Int32) + ((41 : Int32) * x1)).toInt = (0 : Int) + ((41 : Int32) * x1).toInt := xIa (show -2147483648 ≤ (0 : Int) + ((41 : Int32) * x1).toInt from by omega) (show (0 : Int) + ((41 : Int32) * x1).toInt < 2147483648 from by omega)
      refine ms_222 J (show ((0 : Int32) + ((41 : Int32) * x1)).toInt % 41 = 0 from by omega) (show 0 ≤ ((0 : Int32) + ((41 : Int32) * x1)).toInt from by omega) (show ((0 : Int32) + ((41 : Int32) * x1)).toInt < 27306 from by omega) (show (25748 : Int) % 41 = 0 from by omega) (show 0 ≤ (25748 : Int) from by omega) (show (25748 : Int) < 27306 from by omega) (fun v12 b12 => ?_)
      refine And.intro (fun h13 => ?_) (fun h13 => ?_)
      · have f14 : v12.toInt = (0 : Int) := xeq h13
        have a15 : (x1 + 1).toInt = x1.toInt + (1 : Int) := xIa (show -2147483648 ≤ x1.toInt + (1 : Int) from by omega) (show x1.toInt + (1 : Int) < 2147483648 from by omega)
        exact ih (n - 1) (show n - 1 < n from by omega) (x1 + 1) J (show 0 ≤ (x1 + 1).toInt from by omega) (show (x1 + 1).toInt ≤ (ps_i s 1131 47).toInt from by omega) (show 50 - (x1 + 1).toInt ≤ ((n - 1 : Nat) : Int) from by omega)
      · have f16 : v12.toInt ≠ (0 : Int) := xne h13
        exact k x1

theorem ms_276 {x : Nat → Nat → Nat} {t : Int32} {s : ps_S} {d : Nat} {f : Int32 → ps_S → Prop} (J : mJ x t s) (k : ∀ (v : Int32), f v s) : ps_Cl (d + 2) 276 [.ref 1131] s (ps_rI f) := by
  refine pg_276_0 (d := d + 1) ?_
  have r1 := mf_47 J
  exact ms_276_2  k  (50 - (0 : Int)).toNat (0) J (show 0 ≤ (0 : Int) from by omega) (show (0 : Int) ≤ (ps_i s 1131 47).toInt from by omega) (show 50 - (0 : Int) ≤ (((50 - (0 : Int)).toNat : Nat) : Int) from by omega)

-- ProofBenchModel.normal(I)I
theorem pg_289_0 {d : Nat} {x1 : Int32} {s : ps_S} {Q : Option Value → ps_S → Prop} (h :
  ps_Cl d 264 [.ref 1131, .int 25789, .int x1] s (ps_rI (fun v1 s1 =>
    Q (some (.int v1)) s1))) : ps_At (d + 1) 289 0 [(0, .ref 1131), (1, .int x1)] [] s Q :=
  ps_wp_at (stops := []) (n := 7) h rfl

theorem ms_289 {x : Nat → Nat → Nat} {t : Int32} {s : ps_S} {d : Nat} {x1 : Int32} {f : Int32 → ps_S → Prop} (J : mJ x t s) (k : ∀ (v : Int32), f v s) : ps_Cl (d + 2) 289 [.ref 1131, .int x1] s (ps_rI f) := by
  refine pg_289_0 (d := d + 1) ?_
  refine ms_264 J (show (25789 : Int) % 41 = 0 from by omega) (show 0 ≤ (25789 : Int) from by omega) (show (25789 : Int) < 27306 from by omega) (fun v1 => ?_)
  exact k v1

-- ProofBenchModel.about(I)I
theorem pg_307_0 {d : Nat} {x1 : Int32} {s : ps_S} {Q : Option Value → ps_S → Prop} (h :
  (x1 = 0 →
    ps_nd (pm_in (ps_i s 1131 21) 2) (Q (some (.int (ps_a s 1135 (Int32.toNatClampNeg (ps_i s 1131 21))))) s)) ∧
  (x1 ≠ 0 →
    (x1 = 1 →
    ps_nd (pm_in (ps_i s 1131 21) 2) (Q (some (.int (ps_a s 1136 (Int32.toNatClampNeg (ps_i s 1131 21))))) s)) ∧
  (x1 ≠ 1 →
    (x1 = 2 →
    ps_nd (pm_in (ps_i s 1131 21) 2) (Q (some (.int (ps_a s 1137 (Int32.toNatClampNeg (ps_i s 1131 21))))) s)) ∧
  (x1 ≠ 2 →
    (x1 = 3 →
    Q (some (.int (ps_i s 1131 47))) s) ∧
  (x1 ≠ 3 →
    (x1 = 4 →
    Q (some (.int (ps_i s 1131 54))) s) ∧
  (x1 ≠ 4 →
    (x1 = 5 →
    Q (some (.int (ps_i s 1131 3))) s) ∧
  (x1 ≠ 5 →
    (x1 = 6 →
    ps_Cl d 219 [.ref 1131, .int 25748] s (ps_rI (fun v1 s1 =>
      Q (some (.int v1)) s1))) ∧
  (x1 ≠ 6 →
    Q (some (.int (-1))) s)))))))) : ps_At (d + 1) 307 0 [(0, .ref 1131), (1, .int x1)] [] s Q :=
  ps_wp_at (stops := []) (n := 37) h rfl

theorem ms_307 {x : Nat → Nat → Nat} {t : Int32} {s : ps_S} {d : Nat} {x1 : Int32} {f : Int32 → ps_S → Prop} (J : mJ x t s) (k : ∀ (v : Int32), f v s) : ps_Cl (d + 1) 307 [.ref 1131, .int x1] s (ps_rI f) := by
  refine pg_307_0 (d := d) ?_
  refine And.intro (fun h1 => ?_) (fun h1 => ?_)
  · have f2 : x1.toInt = (0 : Int) := xeq h1
    have r3 := mf_21 J
    refine ps_nd_i (show pm_in (ps_i s 1131 21) 2 = true from xgi (show 0 ≤ (ps_i s 1131 21).toInt from by omega) (show (ps_i s 1131 21).toInt < 2 from by omega)) ?_
    have r4 : 0 ≤ (ps_a s 1135 (Int32.toNatClampNeg (ps_i s 1131 21))).toInt ∧ (ps_a s 1135 (Int32.toNatClampNeg (ps_i s 1131 21))).toInt ≤ 6 := ma_1135 (i := (ps_i s 1131 21)) J (show 0 ≤ (ps_i s 1131 21).toInt from by omega) (show (ps_i s 1131 21).toInt < 2 from by omega)
    exact k (ps_a s 1135 (Int32.toNatClampNeg (ps_i s 1131 21)))
  have f5 : x1.toInt ≠ (0 : Int) := xne h1
  refine And.intro (fun h6 => ?_) (fun h6 => ?_)
  · have f7 : x1.toInt = (1 : Int) := xeq h6
    have r8 := mf_21 J
    refine ps_nd_i (show pm_in (ps_i s 1131 21) 2 = true from xgi (show 0 ≤ (ps_i s 1131 21).toInt from by omega) (show (ps_i s 1131 21).toInt < 2 from by omega)) ?_
    have r9 : 0 ≤ (ps_a s 1136 (Int32.toNatClampNeg (ps_i s 1131 21))).toInt ∧ (ps_a s 1136 (Int32.toNatClampNeg (ps_i s 1131 21))).toInt ≤ 4 := ma_1136 (i := (ps_i s 1131 21)) J (show 0 ≤ (ps_i s 1131 21).toInt from by omega) (show (ps_i s 1131 21).toInt < 2 from by omega)
    exact k (ps_a s 1136 (Int32.toNatClampNeg (ps_i s 1131 21)))
  have f10 : x1.toInt ≠ (1 : Int) := xne h6
  refine And.intro (fun h11 => ?_) (fun h11 => ?_)
  · have f12 : x1.toInt = (2 : Int) := xeq h11
    have r13 := mf_21 J
    refine ps_nd_i (show pm_in (ps_i s 1131 21) 2 = true from xgi (show 0 ≤ (ps_i s 1131 21).toInt from by omega) (show (ps_i s 1131 21).toInt < 2 from by omega)) ?_
    have r14 : 0 ≤ (ps_a s 1137 (Int32.toNatClampNeg (ps_i s 1131 21))).toInt ∧ (ps_a s 1137 (Int32.toNatClampNeg (ps_i s 1131 21))).toInt ≤ 8 := ma_1137 (i := (ps_i s 1131 21)) J (show 0 ≤ (ps_i s 1131 21).toInt from by omega) (show (ps_i s 1131 21).toInt < 2 from by omega)
    exact k (ps_a s 1137 (Int32.toNatClampNeg (ps_i s 1131 21)))
  have f15 : x1.toInt ≠ (2 : Int) := xne h11
  refine And.intro (fun h16 => ?_) (fun h16 => ?_)
  · have f17 : x1.toInt = (3 : Int) := xeq h16
    have r18 := mf_47 J
    exact k (ps_i s 1131 47)
  have f19 : x1.toInt ≠ (3 : Int) := xne h16
  refine And.intro (fun h20 => ?_) (fun h20 => ?_)
  · have f21 : x1.toInt = (4 : Int) := xeq h20
    have r22 := mf_54 J
    exact k (ps_i s 1131 54)
  have f23 : x1.toInt ≠ (4 : Int) := xne h20
  refine And.intro (fun h24 => ?_) (fun h24 => ?_)
  · have f25 : x1.toInt = (5 : Int) := xeq h24
    have r26 := mf_3 J
    exact k (ps_i s 1131 3)
  have f27 : x1.toInt ≠ (5 : Int) := xne h24
  refine And.intro (fun h28 => ?_) (fun h28 => ?_)
  · have f29 : x1.toInt = (6 : Int) := xeq h28
    refine pg_219_0 ?_
    refine ps_nd_i (show pm_in (25748 : Int32) 27400 = true from xgi (show 0 ≤ (25748 : Int) from by omega) (show (25748 : Int) < 27400 from by omega)) ?_
    have r30 : (25748 : Int) % 41 = 0 → (25748 : Int) < 27306 → 0 ≤ (ps_a s 1134 (Int32.toNatClampNeg (25748 : Int32))).toInt ∧ (ps_a s 1134 (Int32.toNatClampNeg (25748 : Int32))).toInt ≤ 40 := fun z1 z2 => mp_row (i := (25748 : Int32)) J z1 (show 0 ≤ (25748 : Int) from by omega) z2
    exact k (ps_a s 1134 (Int32.toNatClampNeg (25748 : Int32)))
  have f31 : x1.toInt ≠ (6 : Int) := xne h28
  exact k (-1 : Int32)

-- ProofBenchModel.feed(IIIII)I
theorem pg_308_0 {d : Nat} {x1 : Int32} {x2 : Int32} {x3 : Int32} {x4 : Int32} {x5 : Int32} {s : ps_S} {Q : Option Value → ps_S → Prop} (h :
  (((ps_i s 1131 3) + 20) ≤ 1600 →
    ps_At d 308 18 [(0, .ref 1131), (1, .int x1), (2, .int x2), (3, .int x3), (4, .int x4), (5, .int x5), (6, .int 0)] [] s Q) ∧
  (1600 < ((ps_i s 1131 3) + 20) →
    Q (some (.int (-1))) s)) : ps_At d 308 0 [(0, .ref 1131), (1, .int x1), (2, .int x2), (3, .int x3), (4, .int x4), (5, .int x5)] [] s Q :=
  ps_wp_at (stops := [(18, [0, 1, 2, 3, 4, 5, 6])]) (n := 12) h rfl

theorem pg_308_18 {d : Nat} {x1 : Int32} {x2 : Int32} {x3 : Int32} {x4 : Int32} {x5 : Int32} {x6 : Int32} {s : ps_S} {Q : Option Value → ps_S → Prop} (h :
  (20 ≤ x6 →
    Q (some (.int (ps_i (ps_ui s 1131 3 ((ps_i s 1131 3) + 20)) 1131 3))) (ps_ui s 1131 3 ((ps_i s 1131 3) + 20))) ∧
  (x6 < 20 →
    (4 ≤ x6 →
      (8 ≤ x6 →
        (12 ≤ x6 →
          (16 ≤ x6 →
            ps_nd (pm_in ((ps_i s 1131 3) + x6) 1620) (ps_At d 308 18 [(0, .ref 1131), (1, .int x1), (2, .int x2), (3, .int x3), (4, .int x4), (5, .int x5), (6, .int (x6 + 1))] [] (ps_ua s 1132 (Int32.toNatClampNeg ((ps_i s 1131 3) + x6)) (Int8.toInt32 (Int32.toInt8 (Int8.toInt32 (Int32.toInt8 (x5 >>> (((24 : Int32) - ((8 : Int32) * (x6 &&& 3))) &&& 31))))))) Q)) ∧
          (x6 < 16 →
            ps_nd (pm_in ((ps_i s 1131 3) + x6) 1620) (ps_At d 308 18 [(0, .ref 1131), (1, .int x1), (2, .int x2), (3, .int x3), (4, .int x4), (5, .int x5), (6, .int (x6 + 1))] [] (ps_ua s 1132 (Int32.toNatClampNeg ((ps_i s 1131 3) + x6)) (Int8.toInt32 (Int32.toInt8 (Int8.toInt32 (Int32.toInt8 (x4 >>> (((24 : Int32) - ((8 : Int32) * (x6 &&& 3))) &&& 31))))))) Q))) ∧
        (x6 < 12 →
          ps_nd (pm_in ((ps_i s 1131 3) + x6) 1620) (ps_At d 308 18 [(0, .ref 1131), (1, .int x1), (2, .int x2), (3, .int x3), (4, .int x4), (5, .int x5), (6, .int (x6 + 1))] [] (ps_ua s 1132 (Int32.toNatClampNeg ((ps_i s 1131 3) + x6)) (Int8.toInt32 (Int32.toInt8 (Int8.toInt32 (Int32.toInt8 (x3 >>> (((24 : Int32) - ((8 : Int32) * (x6 &&& 3))) &&& 31))))))) Q))) ∧
      (x6 < 8 →
        ps_nd (pm_in ((ps_i s 1131 3) + x6) 1620) (ps_At d 308 18 [(0, .ref 1131), (1, .int x1), (2, .int x2), (3, .int x3), (4, .int x4), (5, .int x5), (6, .int (x6 + 1))] [] (ps_ua s 1132 (Int32.toNatClampNeg ((ps_i s 1131 3) + x6)) (Int8.toInt32 (Int32.toInt8 (Int8.toInt32 (Int32.toInt8 (x2 >>> (((24 : Int32) - ((8 : Int32) * (x6 &&& 3))) &&& 31))))))) Q))) ∧
    (x6 < 4 →
      ps_nd (pm_in ((ps_i s 1131 3) + x6) 1620) (ps_At d 308 18 [(0, .ref 1131), (1, .int x1), (2, .int x2), (3, .int x3), (4, .int x4), (5, .int x5), (6, .int (x6 + 1))] [] (ps_ua s 1132 (Int32.toNatClampNeg ((ps_i s 1131 3) + x6)) (Int8.toInt32 (Int32.toInt8 (Int8.toInt32 (Int32.toInt8 (x1 >>> (((24 : Int32) - ((8 : Int32) * (x6 &&& 3))) &&& 31))))))) Q)))) : ps_At d 308 18 [(0, .ref 1131), (1, .int x1), (2, .int x2), (3, .int x3), (4, .int x4), (5, .int x5), (6, .int x6)] [] s Q :=
  ps_wp_at (stops := [(18, [0, 1, 2, 3, 4, 5, 6])]) (n := 135) h rfl

theorem ms_308_18 {x : Nat → Nat → Nat} {t : Int32} {d : Nat} {s0 : ps_S} {x1 : Int32} {x2 : Int32} {x3 : Int32} {x4 : Int32} {x5 : Int32} {Q : Option Value → ps_S → Prop} (k : ∀ (v : Int32) (s' : ps_S), mJ x t s' → kp [1132] [3] s0 s' → ((v.toInt = -1 ∧ (ps_i s' 1131 3).toInt = (ps_i s0 1131 3).toInt ∧ 1580 < (ps_i s0 1131 3).toInt) ∨ (v.toInt = (ps_i s0 1131 3).toInt + 20 ∧ (ps_i s' 1131 3).toInt = (ps_i s0 1131 3).toInt + 20 ∧ (ps_i s0 1131 3).toInt ≤ 1580)) → Q (some (.int v)) s') : ∀ (n : Nat) (x6 : Int32) (s : ps_S), (mJ x t s) → (kp [1132] [3] s0 s) → (0 ≤ x6.toInt) → (x6.toInt ≤ 20) → ((ps_i s 1131 3).toInt ≤ 1580) → ((ps_i s 1131 3).toInt = (ps_i s0 1131 3).toInt) → 20 - x6.toInt ≤ (n : Int) → ps_At d 308 18 [(0, .ref 1131), (1, .int x1), (2, .int x2), (3, .int x3), (4, .int x4), (5, .int x5), (6, .int x6)] [] s Q := by
  refine xstr (fun n ih => ?_)
  intro x6 s J K i0 i1 i2 i3 hm
  have r1 := mf_3 J
  refine pg_308_18 ?_
  refine And.intro (fun h2 => ?_) (fun h2 => ?_)
  · have f3 : (20 : Int) ≤ x6.toInt := xle h2
    have a4 : ((ps_i s 1131 3) + 20).toInt = (ps_i s 1131 3).toInt + (20 : Int) := xIa (show -2147483648 ≤ (ps_i s 1131 3).toInt + (20 : Int) from by omega) (show (ps_i s 1131 3).toInt + (20 : Int) < 2147483648 from by omega)
    have J5 := mwi_3 (v := ((ps_i s 1131 3) + 20)) J (show 0 ≤ ((ps_i s 1131 3) + 20).toInt from by omega) (show ((ps_i s 1131 3) + 20).toInt ≤ 1600 from by omega)
    have K6 := kpi K (q := 3) (v := ((ps_i s 1131 3) + 20)) rfl
    exact k ((ps_i s 1131 3) + 20) _ J5 K6 (show (((ps_i s 1131 3) + 20).toInt = -1 ∧ ((ps_i s 1131 3) + 20).toInt = (ps_i s0 1131 3).toInt ∧ 1580 < (ps_i s0 1131 3).toInt) ∨ (((ps_i s 1131 3) + 20).toInt = (ps_i s0 1131 3).toInt + 20 ∧ ((ps_i s 1131 3) + 20).toInt = (ps_i s0 1131 3).toInt + 20 ∧ (ps_i s0 1131 3).toInt ≤ 1580) from by omega)
  · have f7 : x6.toInt < (20 : Int) := xlt h2
    refine And.intro (fun h8 => ?_) (fun h8 => ?_)
    · have f9 : (4 : Int) ≤ x6.toInt := xle h8
      refine And.intro (fun h10 => ?_) (fun h10 => ?_)
      · have f11 : (8 : Int) ≤ x6.toInt := xle h10
        refine And.intro (fun h12 => ?_) (fun h12 => ?_)
        · have f13 : (12 : Int) ≤ x6.toInt := xle h12
          refine And.intro (fun h14 => ?_) (fun h14 => ?_)
          · have f15 : (16 : Int) ≤ x6.toInt := xle h14
            have a16 : ((ps_i s 1131 3) + x6).toInt = (ps_i s 1131 3).toInt + x6.toInt := xIa (show -2147483648 ≤ (ps_i s 1131 3).toInt + x6.toInt from by omega) (show (ps_i s 1131 3).toInt + x6.toInt < 2147483648 from by omega)
            have n17 : 0 ≤ (x6 &&& 3).toInt ∧ (x6 &&& 3).toInt ≤ 3 := xN x6 (c := 3) (n := 3) (by decide) (by decide)
            have a18 : ((8 : Int32) * (x6 &&& 3)).toInt = (8 : Int) * (x6 &&& 3).toInt := xIm (show -2147483648 ≤ (8 : Int) * (x6 &&& 3).toInt from by omega) (show (8 : Int) * (x6 &&& 3).toInt < 2147483648 from by omega)
            have a19 : ((24 : Int32) - ((8 : Int32) * (x6 &&& 3))).toInt = (24 : Int) - ((8 : Int32) * (x6 &&& 3)).toInt := xIs (show -2147483648 ≤ (24 : Int) - ((8 : Int32) * (x6 &&& 3)).toInt from by omega) (show (24 : Int) - ((8 : Int32) * (x6 &&& 3)).toInt < 2147483648 from by omega)
            refine ps_nd_i (show pm_in ((ps_i s 1131 3) + x6) 1620 = true from xgi (show 0 ≤ ((ps_i s 1131 3) + x6).toInt from by omega) (show ((ps_i s 1131 3) + x6).toInt < 1620 from by omega)) ?_
            have J20 := mwa_n 1132 (i := (Int32.toNatClampNeg ((ps_i s 1131 3) + x6))) (v := (Int8.toInt32 (Int32.toInt8 (Int8.toInt32 (Int32.toInt8 (x5 >>> (((24 : Int32) - ((8 : Int32) * (x6 &&& 3))) &&& 31))))))) J rfl (by decide)
            have K21 := kpa' K (r := 1132) (i := (Int32.toNatClampNeg ((ps_i s 1131 3) + x6))) (v := (Int8.toInt32 (Int32.toInt8 (Int8.toInt32 (Int32.toInt8 (x5 >>> (((24 : Int32) - ((8 : Int32) * (x6 &&& 3))) &&& 31))))))) rfl
            have a22 : (x6 + 1).toInt = x6.toInt + (1 : Int) := xIa (show -2147483648 ≤ x6.toInt + (1 : Int) from by omega) (show x6.toInt + (1 : Int) < 2147483648 from by omega)
            exact ih (n - 1) (show n - 1 < n from by omega) (x6 + 1) _ J20 K21 (show 0 ≤ (x6 + 1).toInt from by omega) (show (x6 + 1).toInt ≤ 20 from by omega) (show (ps_i s 1131 3).toInt ≤ 1580 from by omega) (show (ps_i s 1131 3).toInt = (ps_i s0 1131 3).toInt from by omega) (show 20 - (x6 + 1).toInt ≤ ((n - 1 : Nat) : Int) from by omega)
          · have f23 : x6.toInt < (16 : Int) := xlt h14
            have a24 : ((ps_i s 1131 3) + x6).toInt = (ps_i s 1131 3).toInt + x6.toInt := xIa (show -2147483648 ≤ (ps_i s 1131 3).toInt + x6.toInt from by omega) (show (ps_i s 1131 3).toInt + x6.toInt < 2147483648 from by omega)
            have n25 : 0 ≤ (x6 &&& 3).toInt ∧ (x6 &&& 3).toInt ≤ 3 := xN x6 (c := 3) (n := 3) (by decide) (by decide)
            have a26 : ((8 : Int32) * (x6 &&& 3)).toInt = (8 : Int) * (x6 &&& 3).toInt := xIm (show -2147483648 ≤ (8 : Int) * (x6 &&& 3).toInt from by omega) (show (8 : Int) * (x6 &&& 3).toInt < 2147483648 from by omega)
            have a27 : ((24 : Int32) - ((8 : Int32) * (x6 &&& 3))).toInt = (24 : Int) - ((8 : Int32) * (x6 &&& 3)).toInt := xIs (show -2147483648 ≤ (24 : Int) - ((8 : Int32) * (x6 &&& 3)).toInt from by omega) (show (24 : Int) - ((8 : Int32) * (x6 &&& 3)).toInt < 2147483648 from by omega)
            refine ps_nd_i (show pm_in ((ps_i s 1131 3) + x6) 1620 = true from xgi (show 0 ≤ ((ps_i s 1131 3) + x6).toInt from by omega) (show ((ps_i s 1131 3) + x6).toInt < 1620 from by omega)) ?_
            have J28 := mwa_n 1132 (i := (Int32.toNatClampNeg ((ps_i s 1131 3) + x6))) (v := (Int8.toInt32 (Int32.toInt8 (Int8.toInt32 (Int32.toInt8 (x4 >>> (((24 : Int32) - ((8 : Int32) * (x6 &&& 3))) &&& 31))))))) J rfl (by decide)
            have K29 := kpa' K (r := 1132) (i := (Int32.toNatClampNeg ((ps_i s 1131 3) + x6))) (v := (Int8.toInt32 (Int32.toInt8 (Int8.toInt32 (Int32.toInt8 (x4 >>> (((24 : Int32) - ((8 : Int32) * (x6 &&& 3))) &&& 31))))))) rfl
            have a30 : (x6 + 1).toInt = x6.toInt + (1 : Int) := xIa (show -2147483648 ≤ x6.toInt + (1 : Int) from by omega) (show x6.toInt + (1 : Int) < 2147483648 from by omega)
            exact ih (n - 1) (show n - 1 < n from by omega) (x6 + 1) _ J28 K29 (show 0 ≤ (x6 + 1).toInt from by omega) (show (x6 + 1).toInt ≤ 20 from by omega) (show (ps_i s 1131 3).toInt ≤ 1580 from by omega) (show (ps_i s 1131 3).toInt = (ps_i s0 1131 3).toInt from by omega) (show 20 - (x6 + 1).toInt ≤ ((n - 1 : Nat) : Int) from by omega)
        · have f31 : x6.toInt < (12 : Int) := xlt h12
          have a32 : ((ps_i s 1131 3) + x6).toInt = (ps_i s 1131 3).toInt + x6.toInt := xIa (show -2147483648 ≤ (ps_i s 1131 3).toInt + x6.toInt from by omega) (show (ps_i s 1131 3).toInt + x6.toInt < 2147483648 from by omega)
          have n33 : 0 ≤ (x6 &&& 3).toInt ∧ (x6 &&& 3).toInt ≤ 3 := xN x6 (c := 3) (n := 3) (by decide) (by decide)
          have a34 : ((8 : Int32) * (x6 &&& 3)).toInt = (8 : Int) * (x6 &&& 3).toInt := xIm (show -2147483648 ≤ (8 : Int) * (x6 &&& 3).toInt from by omega) (show (8 : Int) * (x6 &&& 3).toInt < 2147483648 from by omega)
          have a35 : ((24 : Int32) - ((8 : Int32) * (x6 &&& 3))).toInt = (24 : Int) - ((8 : Int32) * (x6 &&& 3)).toInt := xIs (show -2147483648 ≤ (24 : Int) - ((8 : Int32) * (x6 &&& 3)).toInt from by omega) (show (24 : Int) - ((8 : Int32) * (x6 &&& 3)).toInt < 2147483648 from by omega)
          refine ps_nd_i (show pm_in ((ps_i s 1131 3) + x6) 1620 = true from xgi (show 0 ≤ ((ps_i s 1131 3) + x6).toInt from by omega) (show ((ps_i s 1131 3) + x6).toInt < 1620 from by omega)) ?_
          have J36 := mwa_n 1132 (i := (Int32.toNatClampNeg ((ps_i s 1131 3) + x6))) (v := (Int8.toInt32 (Int32.toInt8 (Int8.toInt32 (Int32.toInt8 (x3 >>> (((24 : Int32) - ((8 : Int32) * (x6 &&& 3))) &&& 31))))))) J rfl (by decide)
          have K37 := kpa' K (r := 1132) (i := (Int32.toNatClampNeg ((ps_i s 1131 3) + x6))) (v := (Int8.toInt32 (Int32.toInt8 (Int8.toInt32 (Int32.toInt8 (x3 >>> (((24 : Int32) - ((8 : Int32) * (x6 &&& 3))) &&& 31))))))) rfl
          have a38 : (x6 + 1).toInt = x6.toInt + (1 : Int) := xIa (show -2147483648 ≤ x6.toInt + (1 : Int) from by omega) (show x6.toInt + (1 : Int) < 2147483648 from by omega)
          exact ih (n - 1) (show n - 1 < n from by omega) (x6 + 1) _ J36 K37 (show 0 ≤ (x6 + 1).toInt from by omega) (show (x6 + 1).toInt ≤ 20 from by omega) (show (ps_i s 1131 3).toInt ≤ 1580 from by omega) (show (ps_i s 1131 3).toInt = (ps_i s0 1131 3).toInt from by omega) (show 20 - (x6 + 1).toInt ≤ ((n - 1 : Nat) : Int) from by omega)
      · have f39 : x6.toInt < (8 : Int) := xlt h10
        have a40 : ((ps_i s 1131 3) + x6).toInt = (ps_i s 1131 3).toInt + x6.toInt := xIa (show -2147483648 ≤ (ps_i s 1131 3).toInt + x6.toInt from by omega) (show (ps_i s 1131 3).toInt + x6.toInt < 2147483648 from by omega)
        have n41 : 0 ≤ (x6 &&& 3).toInt ∧ (x6 &&& 3).toInt ≤ 3 := xN x6 (c := 3) (n := 3) (by decide) (by decide)
        have a42 : ((8 : Int32) * (x6 &&& 3)).toInt = (8 : Int) * (x6 &&& 3).toInt := xIm (show -2147483648 ≤ (8 : Int) * (x6 &&& 3).toInt from by omega) (show (8 : Int) * (x6 &&& 3).toInt < 2147483648 from by omega)
        have a43 : ((24 : Int32) - ((8 : Int32) * (x6 &&& 3))).toInt = (24 : Int) - ((8 : Int32) * (x6 &&& 3)).toInt := xIs (show -2147483648 ≤ (24 : Int) - ((8 : Int32) * (x6 &&& 3)).toInt from by omega) (show (24 : Int) - ((8 : Int32) * (x6 &&& 3)).toInt < 2147483648 from by omega)
        refine ps_nd_i (show pm_in ((ps_i s 1131 3) + x6) 1620 = true from xgi (show 0 ≤ ((ps_i s 1131 3) + x6).toInt from by omega) (show ((ps_i s 1131 3) + x6).toInt < 1620 from by omega)) ?_
        have J44 := mwa_n 1132 (i := (Int32.toNatClampNeg ((ps_i s 1131 3) + x6))) (v := (Int8.toInt32 (Int32.toInt8 (Int8.toInt32 (Int32.toInt8 (x2 >>> (((24 : Int32) - ((8 : Int32) * (x6 &&& 3))) &&& 31))))))) J rfl (by decide)
        have K45 := kpa' K (r := 1132) (i := (Int32.toNatClampNeg ((ps_i s 1131 3) + x6))) (v := (Int8.toInt32 (Int32.toInt8 (Int8.toInt32 (Int32.toInt8 (x2 >>> (((24 : Int32) - ((8 : Int32) * (x6 &&& 3))) &&& 31))))))) rfl
        have a46 : (x6 + 1).toInt = x6.toInt + (1 : Int) := xIa (show -2147483648 ≤ x6.toInt + (1 : Int) from by omega) (show x6.toInt + (1 : Int) < 2147483648 from by omega)
        exact ih (n - 1) (show n - 1 < n from by omega) (x6 + 1) _ J44 K45 (show 0 ≤ (x6 + 1).toInt from by omega) (show (x6 + 1).toInt ≤ 20 from by omega) (show (ps_i s 1131 3).toInt ≤ 1580 from by omega) (show (ps_i s 1131 3).toInt = (ps_i s0 1131 3).toInt from by omega) (show 20 - (x6 + 1).toInt ≤ ((n - 1 : Nat) : Int) from by omega)
    · have f47 : x6.toInt < (4 : Int) := xlt h8
      have a48 : ((ps_i s 1131 3) + x6).toInt = (ps_i s 1131 3).toInt + x6.toInt := xIa (show -2147483648 ≤ (ps_i s 1131 3).toInt + x6.toInt from by omega) (show (ps_i s 1131 3).toInt + x6.toInt < 2147483648 from by omega)
      have n49 : 0 ≤ (x6 &&& 3).toInt ∧ (x6 &&& 3).toInt ≤ 3 := xN x6 (c := 3) (n := 3) (by decide) (by decide)
      have a50 : ((8 : Int32) * (x6 &&& 3)).toInt = (8 : Int) * (x6 &&& 3).toInt := xIm (show -2147483648 ≤ (8 : Int) * (x6 &&& 3).toInt from by omega) (show (8 : Int) * (x6 &&& 3).toInt < 2147483648 from by omega)
      have a51 : ((24 : Int32) - ((8 : Int32) * (x6 &&& 3))).toInt = (24 : Int) - ((8 : Int32) * (x6 &&& 3)).toInt := xIs (show -2147483648 ≤ (24 : Int) - ((8 : Int32) * (x6 &&& 3)).toInt from by omega) (show (24 : Int) - ((8 : Int32) * (x6 &&& 3)).toInt < 2147483648 from by omega)
      refine ps_nd_i (show pm_in ((ps_i s 1131 3) + x6) 1620 = true from xgi (show 0 ≤ ((ps_i s 1131 3) + x6).toInt from by omega) (show ((ps_i s 1131 3) + x6).toInt < 1620 from by omega)) ?_
      have J52 := mwa_n 1132 (i := (Int32.toNatClampNeg ((ps_i s 1131 3) + x6))) (v := (Int8.toInt32 (Int32.toInt8 (Int8.toInt32 (Int32.toInt8 (x1 >>> (((24 : Int32) - ((8 : Int32) * (x6 &&& 3))) &&& 31))))))) J rfl (by decide)
      have K53 := kpa' K (r := 1132) (i := (Int32.toNatClampNeg ((ps_i s 1131 3) + x6))) (v := (Int8.toInt32 (Int32.toInt8 (Int8.toInt32 (Int32.toInt8 (x1 >>> (((24 : Int32) - ((8 : Int32) * (x6 &&& 3))) &&& 31))))))) rfl
      have a54 : (x6 + 1).toInt = x6.toInt + (1 : Int) := xIa (show -2147483648 ≤ x6.toInt + (1 : Int) from by omega) (show x6.toInt + (1 : Int) < 2147483648 from by omega)
      exact ih (n - 1) (show n - 1 < n from by omega) (x6 + 1) _ J52 K53 (show 0 ≤ (x6 + 1).toInt from by omega) (show (x6 + 1).toInt ≤ 20 from by omega) (show (ps_i s 1131 3).toInt ≤ 1580 from by omega) (show (ps_i s 1131 3).toInt = (ps_i s0 1131 3).toInt from by omega) (show 20 - (x6 + 1).toInt ≤ ((n - 1 : Nat) : Int) from by omega)

theorem ms_308 {x : Nat → Nat → Nat} {t : Int32} {s : ps_S} {d : Nat} {x1 : Int32} {x2 : Int32} {x3 : Int32} {x4 : Int32} {x5 : Int32} {f : Int32 → ps_S → Prop} (J : mJ x t s) (k : ∀ (v : Int32) (s' : ps_S), mJ x t s' → kp [1132] [3] s s' → ((v.toInt = -1 ∧ (ps_i s' 1131 3).toInt = (ps_i s 1131 3).toInt ∧ 1580 < (ps_i s 1131 3).toInt) ∨ (v.toInt = (ps_i s 1131 3).toInt + 20 ∧ (ps_i s' 1131 3).toInt = (ps_i s 1131 3).toInt + 20 ∧ (ps_i s 1131 3).toInt ≤ 1580)) → f v s') : ps_Cl d 308 [.ref 1131, .int x1, .int x2, .int x3, .int x4, .int x5] s (ps_rI f) := by
  have K : kp [1132] [3] s s := kp_refl
  refine pg_308_0 ?_
  have r1 := mf_3 J
  have a2 : ((ps_i s 1131 3) + 20).toInt = (ps_i s 1131 3).toInt + (20 : Int) := xIa (show -2147483648 ≤ (ps_i s 1131 3).toInt + (20 : Int) from by omega) (show (ps_i s 1131 3).toInt + (20 : Int) < 2147483648 from by omega)
  refine And.intro (fun h3 => ?_) (fun h3 => ?_)
  · have f4 : ((ps_i s 1131 3) + 20).toInt ≤ (1600 : Int) := xle h3
    exact ms_308_18 (x1 := x1) (x2 := x2) (x3 := x3) (x4 := x4) (x5 := x5) k  (20 - (0 : Int)).toNat (0) _ J K (show 0 ≤ (0 : Int) from by omega) (show (0 : Int) ≤ 20 from by omega) (show (ps_i s 1131 3).toInt ≤ 1580 from by omega) (show (ps_i s 1131 3).toInt = (ps_i s 1131 3).toInt from by omega) (show 20 - (0 : Int) ≤ (((20 - (0 : Int)).toNat : Nat) : Int) from by omega)
  · have f5 : (1600 : Int) < ((ps_i s 1131 3) + 20).toInt := xlt h3
    exact k (-1 : Int32) _ J K (show ((-1 : Int) = -1 ∧ (ps_i s 1131 3).toInt = (ps_i s 1131 3).toInt ∧ 1580 < (ps_i s 1131 3).toInt) ∨ ((-1 : Int) = (ps_i s 1131 3).toInt + 20 ∧ (ps_i s 1131 3).toInt = (ps_i s 1131 3).toInt + 20 ∧ (ps_i s 1131 3).toInt ≤ 1580) from by omega)

-- ProofBenchModel.end(I)I
theorem pg_309_0 {d : Nat} {x1 : Int32} {s : ps_S} {Q : Option Value → ps_S → Prop} (h :
  (x1 < 0 →
    Q (some (.int (-1))) s) ∧
  (0 ≤ x1 →
    (x1 ≤ (ps_i s 1131 3) →
      Q (some (.int x1)) (ps_ui s 1131 3 x1)) ∧
    ((ps_i s 1131 3) < x1 →
      Q (some (.int (-1))) s))) : ps_At d 309 0 [(0, .ref 1131), (1, .int x1)] [] s Q :=
  ps_wp_at (stops := []) (n := 17) h rfl

theorem ms_309 {x : Nat → Nat → Nat} {t : Int32} {s : ps_S} {d : Nat} {x1 : Int32} {f : Int32 → ps_S → Prop} (J : mJ x t s) (k : ∀ (v : Int32) (s' : ps_S), mJ x t s' → kp [] [3] s s' → ((v.toInt = -1 ∧ (ps_i s' 1131 3).toInt = (ps_i s 1131 3).toInt ∧ (x1.toInt < 0 ∨ (ps_i s 1131 3).toInt < x1.toInt)) ∨ (v.toInt = x1.toInt ∧ (ps_i s' 1131 3).toInt = x1.toInt ∧ 0 ≤ x1.toInt ∧ x1.toInt ≤ (ps_i s 1131 3).toInt)) → f v s') : ps_Cl d 309 [.ref 1131, .int x1] s (ps_rI f) := by
  have K : kp [] [3] s s := kp_refl
  refine pg_309_0 ?_
  refine And.intro (fun h1 => ?_) (fun h1 => ?_)
  · have f2 : x1.toInt < (0 : Int) := xlt h1
    have r3 := mf_3 J
    exact k (-1 : Int32) _ J K (show ((-1 : Int) = -1 ∧ (ps_i s 1131 3).toInt = (ps_i s 1131 3).toInt ∧ (x1.toInt < 0 ∨ (ps_i s 1131 3).toInt < x1.toInt)) ∨ ((-1 : Int) = x1.toInt ∧ (ps_i s 1131 3).toInt = x1.toInt ∧ 0 ≤ x1.toInt ∧ x1.toInt ≤ (ps_i s 1131 3).toInt) from by omega)
  · have f4 : (0 : Int) ≤ x1.toInt := xle h1
    have r5 := mf_3 J
    refine And.intro (fun h6 => ?_) (fun h6 => ?_)
    · have f7 : x1.toInt ≤ (ps_i s 1131 3).toInt := xle h6
      have J8 := mwi_3 (v := x1) J (show 0 ≤ x1.toInt from by omega) (show x1.toInt ≤ 1600 from by omega)
      have K9 := kpi K (q := 3) (v := x1) rfl
      exact k x1 _ J8 K9 (show (x1.toInt = -1 ∧ x1.toInt = (ps_i s 1131 3).toInt ∧ (x1.toInt < 0 ∨ (ps_i s 1131 3).toInt < x1.toInt)) ∨ (x1.toInt = x1.toInt ∧ x1.toInt = x1.toInt ∧ 0 ≤ x1.toInt ∧ x1.toInt ≤ (ps_i s 1131 3).toInt) from by omega)
    · have f10 : (ps_i s 1131 3).toInt < x1.toInt := xlt h6
      exact k (-1 : Int32) _ J K (show ((-1 : Int) = -1 ∧ (ps_i s 1131 3).toInt = (ps_i s 1131 3).toInt ∧ (x1.toInt < 0 ∨ (ps_i s 1131 3).toInt < x1.toInt)) ∨ ((-1 : Int) = x1.toInt ∧ (ps_i s 1131 3).toInt = x1.toInt ∧ 0 ≤ x1.toInt ∧ x1.toInt ≤ (ps_i s 1131 3).toInt) from by omega)
end
section
/-! rows as lists of pieces: sorts (true: a formula, false: a term), levels (how many quantifiers stand around) -/
abbrev mSig : Type := (Nat × Nat) × ((Nat → Nat) × (Nat → Nat))
def kS (σ : mSig) (b : Bool) (p : Nat) : Option (List Bool) :=
  cond b (if p = 0 then some [] else if p < 4 then some [true, true] else if p < 6 then some [true] else if p = 6 then some [false, false] else if 10 ≤ p ∧ p < 10 + σ.1.1 then some (List.replicate (σ.2.1 (p - 10)) false) else none)
    (if 20 ≤ p ∧ p < 20 + σ.1.2 then some (List.replicate (σ.2.2 (p - 20)) false) else if 40 ≤ p ∧ p < 72 then some [] else none)
theorem kS_cases {σ : mSig} {b : Bool} {p : Nat} {ks : List Bool} (h : kS σ b p = some ks) : (b = true ∧ p = 0 ∧ ks = []) ∨ (b = true ∧ 1 ≤ p ∧ p ≤ 3 ∧ ks = [true, true]) ∨ (b = true ∧ (p = 4 ∨ p = 5) ∧ ks = [true]) ∨ (b = true ∧ p = 6 ∧ ks = [false, false]) ∨ (b = true ∧ 10 ≤ p ∧ p < 10 + σ.1.1 ∧ ks = List.replicate (σ.2.1 (p - 10)) false) ∨ (b = false ∧ 20 ≤ p ∧ p < 20 + σ.1.2 ∧ ks = List.replicate (σ.2.2 (p - 20)) false) ∨ (b = false ∧ 40 ≤ p ∧ p < 72 ∧ ks = []) := by
  unfold kS at h
  cases b
  · rw [cond_false] at h
    split at h
    · next q => cases h; simp [q]
    · split at h
      · next q => cases h; simp [q]
      · cases h
  · rw [cond_true] at h
    split at h
    · next q => cases h; simp [q]
    · next q0 =>
      split at h
      · next q => cases h; right; left; exact ⟨rfl, by omega, by omega, rfl⟩
      · next q1 =>
        split at h
        · next q => cases h; right; right; left; exact ⟨rfl, by omega, rfl⟩
        · split at h
          · next q => cases h; simp [q]
          · split at h
            · next q => cases h; right; right; right; right; left; exact ⟨rfl, q.1, q.2, rfl⟩
            · cases h
theorem kS_f0 {σ : mSig} : kS σ true 0 = some [] := rfl
theorem kS_f2 {σ : mSig} {p : Nat} (h : 1 ≤ p) (h' : p ≤ 3) : kS σ true p = some [true, true] := by
  unfold kS; rw [cond_true, if_neg (by omega), if_pos (by omega)]
theorem kS_f1 {σ : mSig} {p : Nat} (h : p = 4 ∨ p = 5) : kS σ true p = some [true] := by
  unfold kS; rw [cond_true, if_neg (by omega), if_neg (by omega), if_pos (by omega)]
theorem kS_f6 {σ : mSig} : kS σ true 6 = some [false, false] := rfl
theorem kS_fr {σ : mSig} {p : Nat} (h : 10 ≤ p) (h' : p < 10 + σ.1.1) : kS σ true p = some (List.replicate (σ.2.1 (p - 10)) false) := by
  unfold kS; rw [cond_true, if_neg (by omega), if_neg (by omega), if_neg (by omega), if_neg (by omega), if_pos ⟨h, h'⟩]
theorem kS_tf {σ : mSig} {p : Nat} (h : 20 ≤ p) (h' : p < 20 + σ.1.2) : kS σ false p = some (List.replicate (σ.2.2 (p - 20)) false) := by
  unfold kS; rw [cond_false, if_pos ⟨h, h'⟩]
theorem kS_tx {σ : mSig} {p : Nat} (hF : σ.1.2 ≤ 4) (h : 40 ≤ p) (h' : p < 72) : kS σ false p = some [] := by
  unfold kS; rw [cond_false, if_neg (by omega), if_pos ⟨h, h'⟩]
def ws (σ : mSig) : List Nat → List Bool → Prop
  | [], W => W = []
  | p :: l, W => match W with
    | [] => False
    | b :: W' => match kS σ b p with
      | some ks => ws σ l (ks ++ W')
      | none => False
theorem ws_cons {σ : mSig} {p : Nat} {l : List Nat} {W : List Bool} : ws σ (p :: l) W ↔ ∃ b W' ks, W = b :: W' ∧ kS σ b p = some ks ∧ ws σ l (ks ++ W') := by
  cases W with
  | nil => exact ⟨fun h => h.elim, fun ⟨_, _, _, h, _⟩ => by cases h⟩
  | cons b W' =>
    constructor
    · intro h
      unfold ws at h
      dsimp only at h
      split at h
      · next ks hk => exact ⟨b, W', ks, rfl, hk, h⟩
      · exact h.elim
    · rintro ⟨b', W'', ks, e, hk, h⟩
      cases e
      unfold ws
      dsimp only
      rw [hk]
      exact h
theorem ws_c {σ : mSig} {p : Nat} {l : List Nat} {b : Bool} {W' : List Bool} {ks : List Bool} (hk : kS σ b p = some ks) (h : ws σ l (ks ++ W')) : ws σ (p :: l) (b :: W') := ws_cons.mpr ⟨b, W', ks, rfl, hk, h⟩
theorem ws_app {σ : mSig} : ∀ {l1 l2 : List Nat} {W1 W2 : List Bool}, ws σ l1 W1 → ws σ l2 W2 → ws σ (l1 ++ l2) (W1 ++ W2)
  | [], l2, W1, W2, h1, h2 => by
    have : W1 = [] := h1
    subst this
    exact h2
  | p :: l1, l2, W1, W2, h1, h2 => by
    obtain ⟨b, W', ks, rfl, hk, h⟩ := ws_cons.mp h1
    show ws σ (p :: (l1 ++ l2)) (b :: (W' ++ W2))
    refine ws_c hk ?_
    rw [← List.append_assoc]
    exact ws_app h h2
theorem ws_split {σ : mSig} : ∀ {l : List Nat} {W1 W2 : List Bool}, ws σ l (W1 ++ W2) → ∃ l1 l2, l = l1 ++ l2 ∧ ws σ l1 W1 ∧ ws σ l2 W2
  | [], W1, W2, h => by
    have : W1 ++ W2 = [] := h
    obtain ⟨rfl, rfl⟩ := List.append_eq_nil_iff.mp this
    exact ⟨[], [], rfl, rfl, rfl⟩
  | p :: l, [], W2, h => ⟨[], p :: l, rfl, rfl, h⟩
  | p :: l, b :: W1, W2, h => by
    obtain ⟨b', W', ks, e, hk, h⟩ := ws_cons.mp h
    cases e
    have h : ws σ l (ks ++ (W1 ++ W2)) := h
    rw [← List.append_assoc] at h
    obtain ⟨l1, l2, rfl, h1, h2⟩ := ws_split h
    exact ⟨p :: l1, l2, rfl, ws_c hk h1, h2⟩
theorem ws_ne {σ : mSig} {l : List Nat} {b : Bool} {W : List Bool} (h : ws σ l (b :: W)) : ∃ p l', l = p :: l' := by
  cases l with
  | nil => cases h
  | cons p l' => exact ⟨p, l', rfl⟩
theorem ws_nil {σ : mSig} {l : List Nat} (h : ws σ l []) : l = [] := by
  cases l with
  | nil => rfl
  | cons p l' => exact h.elim
/-- with levels, none above c -/
def kL (p k : Nat) (ks : List Bool) : List (Bool × Nat) := ks.map (fun b => (b, if p = 4 ∨ p = 5 then k + 1 else k))
def wf (σ : mSig) (c : Nat) : List Nat → List (Bool × Nat) → Prop
  | [], W => W = []
  | p :: l, W => match W with
    | [] => False
    | w :: W' => w.2 ≤ c ∧ match kS σ w.1 p with
      | some ks => wf σ c l (kL p w.2 ks ++ W')
      | none => False
theorem wf_cons {σ : mSig} {c p : Nat} {l : List Nat} {W : List (Bool × Nat)} : wf σ c (p :: l) W ↔ ∃ b k W' ks, W = (b, k) :: W' ∧ k ≤ c ∧ kS σ b p = some ks ∧ wf σ c l (kL p k ks ++ W') := by
  cases W with
  | nil => exact ⟨fun h => h.elim, fun ⟨_, _, _, _, h, _⟩ => by cases h⟩
  | cons w W' =>
    obtain ⟨b, k⟩ := w
    constructor
    · intro h
      unfold wf at h
      dsimp only at h
      obtain ⟨h1, h⟩ := h
      split at h
      · next ks hk => exact ⟨b, k, W', ks, rfl, h1, hk, h⟩
      · exact h.elim
    · rintro ⟨b', k', W'', ks, e, h1, hk, h⟩
      cases e
      unfold wf
      dsimp only
      rw [hk]
      exact ⟨h1, h⟩
theorem wf_c {σ : mSig} {c p : Nat} {l : List Nat} {b : Bool} {k : Nat} {W' : List (Bool × Nat)} {ks : List Bool} (h1 : k ≤ c) (hk : kS σ b p = some ks) (h : wf σ c l (kL p k ks ++ W')) : wf σ c (p :: l) ((b, k) :: W') := wf_cons.mpr ⟨b, k, W', ks, rfl, h1, hk, h⟩
theorem kL_fst {p k : Nat} {ks : List Bool} : (kL p k ks).map Prod.fst = ks := by
  unfold kL
  rw [List.map_map]
  exact (List.map_congr_left (fun _ _ => rfl)).trans (List.map_id _)
theorem wf_ws {σ : mSig} {c : Nat} : ∀ {l : List Nat} {W : List (Bool × Nat)}, wf σ c l W → ws σ l (W.map Prod.fst)
  | [], W, h => by
    have : W = [] := h
    subst this
    rfl
  | p :: l, W, h => by
    obtain ⟨b, k, W', ks, rfl, h1, hk, h⟩ := wf_cons.mp h
    have := wf_ws h
    rw [List.map_append, kL_fst] at this
    exact ws_c hk this
theorem wf_app {σ : mSig} {c : Nat} : ∀ {l1 l2 : List Nat} {W1 W2 : List (Bool × Nat)}, wf σ c l1 W1 → wf σ c l2 W2 → wf σ c (l1 ++ l2) (W1 ++ W2)
  | [], l2, W1, W2, h1, h2 => by
    have : W1 = [] := h1
    subst this
    exact h2
  | p :: l1, l2, W1, W2, h1, h2 => by
    obtain ⟨b, k, W', ks, rfl, hc, hk, h⟩ := wf_cons.mp h1
    show wf σ c (p :: (l1 ++ l2)) ((b, k) :: (W' ++ W2))
    refine wf_c hc hk ?_
    rw [← List.append_assoc]
    exact wf_app h h2
theorem wf_split {σ : mSig} {c : Nat} : ∀ {l : List Nat} {W1 W2 : List (Bool × Nat)}, wf σ c l (W1 ++ W2) → ∃ l1 l2, l = l1 ++ l2 ∧ wf σ c l1 W1 ∧ wf σ c l2 W2
  | [], W1, W2, h => by
    have : W1 ++ W2 = [] := h
    obtain ⟨rfl, rfl⟩ := List.append_eq_nil_iff.mp this
    exact ⟨[], [], rfl, rfl, rfl⟩
  | p :: l, [], W2, h => ⟨[], p :: l, rfl, rfl, h⟩
  | p :: l, w :: W1, W2, h => by
    obtain ⟨b, k, W', ks, e, hc, hk, h⟩ := wf_cons.mp h
    cases e
    have h : wf σ c l (kL p k ks ++ (W1 ++ W2)) := h
    rw [← List.append_assoc] at h
    obtain ⟨l1, l2, rfl, h1, h2⟩ := wf_split h
    exact ⟨p :: l1, l2, rfl, wf_c hc hk h1, h2⟩
/-- how many quantifiers a row can have -/
def qn : List Nat → Nat
  | [] => 0
  | p :: l => (if p = 4 ∨ p = 5 then 1 else 0) + qn l
def qw : List (Bool × Nat) → Int
  | [] => 0
  | w :: W => cond w.1 (5 - 2 * (w.2 : Int)) 0 + qw W
theorem qw_app : ∀ {W1 W2 : List (Bool × Nat)}, qw (W1 ++ W2) = qw W1 + qw W2
  | [], W2 => by show qw W2 = 0 + qw W2; omega
  | w :: W1, W2 => by
    show cond w.1 (5 - 2 * (w.2 : Int)) 0 + qw (W1 ++ W2) = cond w.1 (5 - 2 * (w.2 : Int)) 0 + qw W1 + qw W2
    rw [qw_app]; omega
theorem qw_f {p k n : Nat} : qw (kL p k (List.replicate n false)) = 0 := by
  induction n with
  | zero => rfl
  | succ n ih =>
    show (0 : Int) + qw (kL p k (List.replicate n false)) = 0
    rw [ih]; rfl
theorem wf_q {σ : mSig} : ∀ {l : List Nat} {W : List (Bool × Nat)}, wf σ 5 l W → 7 * (qn l : Int) ≤ 5 * (l.length : Int) + qw W
  | [], W, h => by
    have : W = [] := h
    subst this
    exact Int.le_refl _
  | p :: l, W, h => by
    obtain ⟨b, k, W', ks, rfl, hc, hk, h⟩ := wf_cons.mp h
    have ih := wf_q h
    rw [qw_app] at ih
    rw [List.length_cons]
    show 7 * (((if p = 4 ∨ p = 5 then 1 else 0) + qn l : Nat) : Int) ≤ 5 * ((l.length + 1 : Nat) : Int) + (cond b (5 - 2 * (k : Int)) 0 + qw W')
    rcases kS_cases hk with ⟨rfl, hp, rfl⟩ | ⟨rfl, hp, hp', rfl⟩ | ⟨rfl, hp, rfl⟩ | ⟨rfl, hp, rfl⟩ | ⟨rfl, hp, hp', rfl⟩ | ⟨rfl, hp, hp', rfl⟩ | ⟨rfl, hp, hp', rfl⟩
    · rw [if_neg (by omega)]; have : qw (kL p k []) = 0 := rfl; rw [cond_true]; omega
    · rw [if_neg (by omega)]
      have : qw (kL p k [true, true]) = (5 - 2 * (k : Int)) + ((5 - 2 * (k : Int)) + 0) := by
        unfold kL; rw [List.map_cons, List.map_cons, if_neg (by omega)]; rfl
      rw [cond_true]; omega
    · rw [if_pos hp]
      have : qw (kL p k [true]) = (5 - 2 * ((k + 1 : Nat) : Int)) + 0 := by
        unfold kL; rw [List.map_cons, if_pos hp]; rfl
      rw [cond_true]; omega
    · rw [if_neg (by omega)]; have : qw (kL p k [false, false]) = 0 := rfl; rw [cond_true]; omega
    · rw [if_neg (by omega)]; rw [qw_f] at ih; rw [cond_true]; omega
    · rw [if_neg (by omega)]; rw [qw_f] at ih; rw [cond_false]; omega
    · rw [if_neg (by omega)]; have : qw (kL p k []) = 0 := rfl; rw [cond_false]; omega
theorem qn_app : ∀ {l1 l2 : List Nat}, qn (l1 ++ l2) = qn l1 + qn l2
  | [], l2 => by show qn l2 = 0 + qn l2; omega
  | p :: l1, l2 => by
    show (if p = 4 ∨ p = 5 then 1 else 0) + qn (l1 ++ l2) = (if p = 4 ∨ p = 5 then 1 else 0) + qn l1 + qn l2
    rw [qn_app]; omega
theorem wf_29 {σ : mSig} {l : List Nat} {b : Bool} (h : wf σ 5 l [(b, 0)]) (hl : l.length ≤ 40) : qn l ≤ 29 := by
  have := wf_q h
  have e : qw [(b, 0)] ≤ 5 := by cases b <;> decide
  omega
/-- pieces put in the place of leaves -/
def rp (σ : mSig) : List Nat → List Nat → Prop
  | [], m => m = []
  | p :: l, m => ∃ r m', m = r ++ m' ∧ (r = [p] ∨ (40 ≤ p ∧ p < 72 ∧ ws σ r [false])) ∧ rp σ l m'
theorem rp_snoc {σ : mSig} : ∀ {l m r : List Nat} {p : Nat}, rp σ l m → (r = [p] ∨ (40 ≤ p ∧ p < 72 ∧ ws σ r [false])) → rp σ (l ++ [p]) (m ++ r)
  | [], m, r, p, h, hr => by
    have : m = [] := h
    subst this
    exact ⟨r, [], by simp, hr, rfl⟩
  | q :: l, m, r, p, h, hr => by
    obtain ⟨r', m', rfl, h1, h2⟩ := h
    exact ⟨r', m' ++ r, by rw [List.append_assoc], h1, rp_snoc h2 hr⟩
theorem rp_ws {σ : mSig} (hσ : σ.1.1 ≤ 6 ∧ σ.1.2 ≤ 4) : ∀ {l m : List Nat} {W : List Bool}, rp σ l m → ws σ l W → ws σ m W
  | [], m, W, h, hw => by
    have : m = [] := h
    subst this
    exact hw
  | p :: l, m, W, h, hw => by
    obtain ⟨r, m', rfl, h1, h2⟩ := h
    obtain ⟨b, W', ks, rfl, hk, hw⟩ := ws_cons.mp hw
    have ih := rp_ws hσ h2 hw
    rcases h1 with rfl | ⟨h3, h4, h5⟩
    · exact ws_c hk ih
    · rcases kS_cases hk with ⟨rfl, hp, rfl⟩ | ⟨rfl, hp, hp', rfl⟩ | ⟨rfl, hp, rfl⟩ | ⟨rfl, hp, rfl⟩ | ⟨rfl, hp, hp', rfl⟩ | ⟨rfl, hp, hp', rfl⟩ | ⟨rfl, hp, hp', rfl⟩
      · omega
      · omega
      · omega
      · omega
      · omega
      · omega
      · exact ws_app h5 ih
end
section
/-- the signature told in bank b -/
def Sg (g5 g6 g8 g9 : Nat → Int32) (b : Int) (σ : mSig) : Prop := 0 ≤ b ∧ b ≤ 1 ∧ (g5 b.toNat).toInt = σ.1.1 ∧ σ.1.1 ≤ 6 ∧ (g6 b.toNat).toInt = σ.1.2 ∧ σ.1.2 ≤ 4 ∧ (∀ r, r < σ.1.1 → (g8 (6 * b.toNat + r)).toInt = σ.2.1 r ∧ σ.2.1 r ≤ 2) ∧ (∀ f, f < σ.1.2 → (g9 (4 * b.toNat + f)).toInt = σ.2.2 f ∧ σ.2.2 f ≤ 2)
theorem Sg_σ {g5 g6 g8 g9 : Nat → Int32} {b : Int} {σ : mSig} (h : Sg g5 g6 g8 g9 b σ) : σ.1.1 ≤ 6 ∧ σ.1.2 ≤ 4 := ⟨h.2.2.2.1, h.2.2.2.2.2.1⟩
theorem Sg_r {g5 g6 g8 g9 : Nat → Int32} {b : Int} {σ : mSig} (h : Sg g5 g6 g8 g9 b σ) {r : Nat} {i : Int32} (hr : r < σ.1.1) (hi : i.toInt = 6 * b + r) : (g8 (Int32.toNatClampNeg i)).toInt = σ.2.1 r ∧ σ.2.1 r ≤ 2 := by
  have e : Int32.toNatClampNeg i = 6 * b.toNat + r := by
    show i.toInt.toNat = _
    have := h.1
    omega
  rw [e]
  exact h.2.2.2.2.2.2.1 r hr
theorem Sg_f {g5 g6 g8 g9 : Nat → Int32} {b : Int} {σ : mSig} (h : Sg g5 g6 g8 g9 b σ) {r : Nat} {i : Int32} (hr : r < σ.1.2) (hi : i.toInt = 4 * b + r) : (g9 (Int32.toNatClampNeg i)).toInt = σ.2.2 r ∧ σ.2.2 r ≤ 2 := by
  have e : Int32.toNatClampNeg i = 4 * b.toNat + r := by
    show i.toInt.toNat = _
    have := h.1
    omega
  rw [e]
  exact h.2.2.2.2.2.2.2 r hr
/-- the row at a holds the pieces l -/
def Rw (g : Nat → Int32) (a : Int) (l : List Nat) : Prop := a % 41 = 0 ∧ 0 ≤ a ∧ a < 27306 ∧ l.length ≤ 40 ∧ (g a.toNat).toInt = l.length ∧ ∀ (l1 : List Nat) (p : Nat) (l2 : List Nat), l = l1 ++ p :: l2 → (g (a.toNat + 1 + l1.length)).toInt = p
theorem Rw_n {g : Nat → Int32} {a : Int32} {l : List Nat} (h : Rw g a.toInt l) : (g (Int32.toNatClampNeg a)).toInt = l.length := h.2.2.2.2.1
theorem Rw_p {g : Nat → Int32} {a i : Int32} {l l1 l2 : List Nat} {p : Nat} (h : Rw g a.toInt l) (e : l = l1 ++ p :: l2) (hi : i.toInt = l1.length) : (g (Int32.toNatClampNeg (a + 1 + i))).toInt = p := by
  obtain ⟨h1, h2, h3, h4, h5, h6⟩ := h
  have hl : l1.length < 40 := by
    rw [e, List.length_append, List.length_cons] at h4
    omega
  have e1 : (a + 1).toInt = a.toInt + 1 := by rw [xI_add (by rw [xone]; omega) (by rw [xone]; omega), xone]
  have e2 : (a + 1 + i).toInt = a.toInt + 1 + i.toInt := by rw [xI_add (by omega) (by omega), e1]
  have e3 : Int32.toNatClampNeg (a + 1 + i) = a.toInt.toNat + 1 + l1.length := by
    show (a + 1 + i).toInt.toNat = _
    omega
  rw [e3]
  exact h6 l1 p l2 e
/-- what was made -/
def Md (g : Nat → Int32) (n : Int) (l : List Nat) : Prop := n = l.length ∧ l.length ≤ 90000 ∧ ∀ (l1 : List Nat) (p : Nat) (l2 : List Nat), l = l1 ++ p :: l2 → l1.length < 260 → (g l1.length).toInt = p
theorem kS_num {σ : mSig} {b : Bool} {p : Nat} {ks : List Bool} (h : kS σ b p = some ks) : (p = 0 ∧ ks.length = 0) ∨ (1 ≤ p ∧ p ≤ 3 ∧ ks.length = 2) ∨ ((p = 4 ∨ p = 5) ∧ ks.length = 1) ∨ (p = 6 ∧ ks.length = 2) ∨ (10 ≤ p ∧ p < 10 + σ.1.1 ∧ ks.length = σ.2.1 (p - 10)) ∨ (20 ≤ p ∧ p < 20 + σ.1.2 ∧ ks.length = σ.2.2 (p - 20)) ∨ (40 ≤ p ∧ p < 72 ∧ ks.length = 0) := by
  rcases kS_cases h with ⟨rfl, hp, rfl⟩ | ⟨rfl, hp, hp', rfl⟩ | ⟨rfl, hp, rfl⟩ | ⟨rfl, hp, rfl⟩ | ⟨rfl, hp, hp', rfl⟩ | ⟨rfl, hp, hp', rfl⟩ | ⟨rfl, hp, hp', rfl⟩
  · left; exact ⟨hp, rfl⟩
  · right; left; exact ⟨hp, hp', rfl⟩
  · right; right; left; exact ⟨hp, rfl⟩
  · right; right; right; left; exact ⟨hp, rfl⟩
  · right; right; right; right; left; exact ⟨hp, hp', by rw [List.length_replicate]⟩
  · right; right; right; right; right; left; exact ⟨hp, hp', by rw [List.length_replicate]⟩
  · right; right; right; right; right; right; exact ⟨hp, hp', rfl⟩
theorem kS_le {g5 g6 g8 g9 : Nat → Int32} {bk : Int} {σ : mSig} {b : Bool} {p : Nat} {ks : List Bool} (hS : Sg g5 g6 g8 g9 bk σ) (h : kS σ b p = some ks) : ks.length ≤ 2 := by
  rcases kS_num h with h | h | h | h | h | h | h
  · omega
  · omega
  · omega
  · omega
  · have := (hS.2.2.2.2.2.2.1 (p - 10) (by omega)).2; omega
  · have := (hS.2.2.2.2.2.2.2 (p - 20) (by omega)).2; omega
  · omega
theorem kS_72 {σ : mSig} {b : Bool} {p : Nat} {ks : List Bool} (hσ : σ.1.1 ≤ 6 ∧ σ.1.2 ≤ 4) (h : kS σ b p = some ks) : p < 72 := by
  rcases kS_num h with h | h | h | h | h | h | h <;> omega
theorem ws_le {σ : mSig} : ∀ {l : List Nat} {W : List Bool}, ws σ l W → W.length ≤ l.length
  | [], W, h => by
    have : W = [] := h
    subst this
    exact Nat.le_refl _
  | p :: l, W, h => by
    obtain ⟨b, W', ks, rfl, hk, h⟩ := ws_cons.mp h
    have := ws_le h
    rw [List.length_append] at this
    rw [List.length_cons, List.length_cons]
    omega
theorem lpos {α : Type} {W : List α} (h : 0 < (W.length : Int)) : ∃ b W', W = b :: W' := by
  cases W with
  | nil => rw [List.length_nil] at h; omega
  | cons b W' => exact ⟨b, W', rfl⟩
theorem lnil {α : Type} {W : List α} (h : (W.length : Int) ≤ 0) : W = [] := by
  cases W with
  | nil => rfl
  | cons b W' => rw [List.length_cons] at h; omega
theorem lcat {α : Type} (p : List α) (c : α) (q : List α) : p ++ c :: q = (p ++ [c]) ++ q := by simp
theorem llen {α : Type} {l1 l2 : List α} : ((l1 ++ l2).length : Int) = l1.length + l2.length := by rw [List.length_append]; omega
theorem llenc {α : Type} {c : α} {l2 : List α} : ((c :: l2).length : Int) = l2.length + 1 := by rw [List.length_cons]; omega
theorem ua_ne {s : ps_S} {r i r' j : Nat} {v : Int32} (h : j ≠ i) : ps_a (ps_ua s r i v) r' j = ps_a s r' j := by rw [ps_a_ua, if_neg (fun z => h z.2)]
theorem ua_eq {s : ps_S} {r i : Nat} {v : Int32} : ps_a (ps_ua s r i v) r i = v := by rw [ps_a_ua, if_pos ⟨rfl, rfl⟩]
theorem Rw_copy {g g0 : Nat → Int32} {a b : Int} {l : List Nat} (h : Rw g0 a l) (h1 : b % 41 = 0) (h2 : 0 ≤ b) (h3 : b < 27306) (hj : ∀ j : Nat, j ≤ l.length → g (b.toNat + j) = g0 (a.toNat + j)) : Rw g b l := by
  obtain ⟨-, -, -, h4, h5, h6⟩ := h
  refine ⟨h1, h2, h3, h4, ?_, fun l1 p l2 e => ?_⟩
  · have := hj 0 (by omega)
    rw [Nat.add_zero, Nat.add_zero] at this
    rw [this]; exact h5
  · have := hj (1 + l1.length) (by rw [e, List.length_append, List.length_cons]; omega)
    rw [← Nat.add_assoc, ← Nat.add_assoc] at this
    rw [this]; exact h6 l1 p l2 e
theorem Rw_keep {g g' : Nat → Int32} {a : Int} {l : List Nat} (h : Rw g a l) (hj : ∀ i : Nat, a ≤ i → (i : Int) < a + 41 → g' i = g i) : Rw g' a l := by
  refine Rw_copy h h.1 h.2.1 h.2.2.1 (fun j hj' => hj _ ?_ ?_)
  · have := h.2.1; omega
  · have := h.2.1; have := h.2.2.2.1; omega
theorem Md_nil {g : Nat → Int32} {n : Int} (h : n = 0) : Md g n [] := ⟨h, by decide, fun l1 p l2 e => by simp at e⟩
theorem Md_mk {g g' : Nat → Int32} {n n' : Int} {ml : List Nat} {c : Nat} (h : Md g n ml) (hl : ml.length < 90000) (hn : n' = n + 1) (h1 : ∀ i, i < ml.length → i < 260 → g' i = g i) (h2 : ml.length < 260 → (g' ml.length).toInt = c) : Md g' n' (ml ++ [c]) := by
  obtain ⟨a1, a2, a3⟩ := h
  refine ⟨by rw [hn, a1, llen]; rfl, by rw [List.length_append]; show ml.length + 1 ≤ _; omega, fun l1 p l2 e hl1 => ?_⟩
  rcases List.append_eq_append_iff.mp e with ⟨r, e1, e2⟩ | ⟨r, e1, e2⟩
  · cases r with
    | nil =>
      rw [List.append_nil] at e1
      rw [List.nil_append] at e2
      cases e2
      rw [e1]; rw [e1] at hl1
      exact h2 hl1
    | cons q r =>
      rw [List.cons_append] at e2
      have := congrArg List.length e2
      simp at this
  · cases r with
    | nil =>
      rw [List.append_nil] at e1
      rw [List.nil_append] at e2
      cases e2
      rw [← e1]; rw [← e1] at hl1
      exact h2 hl1
    | cons q r =>
      rw [List.cons_append] at e2
      cases e2
      rw [h1 l1.length (by rw [e1, List.length_append, List.length_cons]; omega) hl1]
      exact a3 l1 p r e1 hl1
theorem Md_make {s : ps_S} {ml : List Nat} {c : Nat} {v : Int32} (h : Md (ps_a s 1149) (ps_i s 1131 34).toInt ml) (hc : v.toInt = c) (hl : ml.length < 90000) : Md (ps_a (ps_ua s 1149 (Int32.toNatClampNeg (ps_i s 1131 34)) v) 1149) ((ps_i s 1131 34) + 1).toInt (ml ++ [c]) := by
  have e : Int32.toNatClampNeg (ps_i s 1131 34) = ml.length := by
    show (ps_i s 1131 34).toInt.toNat = _
    rw [h.1]; omega
  have h1 := h.1
  refine Md_mk h hl (by rw [xIa (by rw [xone]; omega) (by rw [xone]; omega), xone]) (fun i hi _ => ua_ne (by omega)) (fun _ => ?_)
  rw [e, ua_eq]
  exact hc
theorem Md_make' {s : ps_S} {ml : List Nat} {c : Nat} (h : Md (ps_a s 1149) (ps_i s 1131 34).toInt ml) (hl : ml.length < 90000) (h2 : 260 ≤ (ps_i s 1131 34).toInt) : Md (ps_a s 1149) ((ps_i s 1131 34) + 1).toInt (ml ++ [c]) := by
  have h1 := h.1
  exact Md_mk h hl (by rw [xIa (by rw [xone]; omega) (by rw [xone]; omega), xone]) (fun i hi _ => rfl) (fun z => by omega)
theorem Md_p {g : Nat → Int32} {n : Int} {l1 l2 : List Nat} {p : Nat} {i : Int32} (h : Md g n (l1 ++ p :: l2)) (hi : i.toInt = l1.length) (hl : l1.length < 260) : (g (Int32.toNatClampNeg i)).toInt = p := by
  have e : Int32.toNatClampNeg i = l1.length := by
    show i.toInt.toNat = _
    omega
  rw [e]
  exact h.2.2 l1 p l2 rfl hl
theorem l1c {α : Type} {c : α} {l : List α} : ((l ++ [c]).length : Int) = l.length + 1 := by rw [List.length_append]; rfl
theorem Rw_made {g gm : Nat → Int32} {b n : Int} {l : List Nat} (h : Md gm n l) (hl : l.length ≤ 40) (h1 : b % 41 = 0) (h2 : 0 ≤ b) (h3 : b < 27306) (hn : (g b.toNat).toInt = (l.length : Int)) (hj : ∀ j : Nat, j < l.length → g (b.toNat + 1 + j) = gm j) : Rw g b l := by
  refine ⟨h1, h2, h3, hl, hn, fun l1 p l2 e => ?_⟩
  have : l1.length < l.length := by rw [e, List.length_append, List.length_cons]; omega
  rw [hj _ this]
  exact h.2.2 l1 p l2 e (by omega)
theorem kS_rep {σ : mSig} {b : Bool} {p : Nat} {ks : List Bool} (h : kS σ b p = some ks) : ∃ bb, ks = List.replicate ks.length bb := by
  rcases kS_cases h with ⟨rfl, hp, rfl⟩ | ⟨rfl, hp, hp', rfl⟩ | ⟨rfl, hp, rfl⟩ | ⟨rfl, hp, rfl⟩ | ⟨rfl, hp, hp', rfl⟩ | ⟨rfl, hp, hp', rfl⟩ | ⟨rfl, hp, hp', rfl⟩
  · exact ⟨true, rfl⟩
  · exact ⟨true, rfl⟩
  · exact ⟨true, rfl⟩
  · exact ⟨false, rfl⟩
  · exact ⟨false, by rw [List.length_replicate]⟩
  · exact ⟨false, by rw [List.length_replicate]⟩
  · exact ⟨true, rfl⟩
theorem kL_rep {p k n : Nat} {bb : Bool} : kL p k (List.replicate n bb) = List.replicate n (bb, if p = 4 ∨ p = 5 then k + 1 else k) := by
  unfold kL
  rw [List.map_replicate]
/-- the stack of a walk from the left: what is still wanted, level by level -/
def Stk (gl gb : Nat → Int32) : Nat → Int → List (Bool × Nat) → Prop
  | 0, k, W => k = 0 ∧ W = []
  | n + 1, k, W => ∃ (c : Nat) (b : Bool) (W' : List (Bool × Nat)), (gl n).toInt = c ∧ 0 ≤ k ∧ W = List.replicate c (b, k.toNat) ++ W' ∧ Stk gl gb n (k - if gb n = 0 then 0 else 1) W'
theorem Stk_nn {gl gb : Nat → Int32} : ∀ {n : Nat} {k : Int} {W : List (Bool × Nat)}, Stk gl gb n k W → 0 ≤ k
  | 0, k, W, h => by rw [h.1]; omega
  | n + 1, k, W, ⟨_, _, _, _, h, _, _⟩ => h
theorem Stk_ext {gl gb gl' gb' : Nat → Int32} : ∀ {n : Nat} {k : Int} {W : List (Bool × Nat)}, (∀ i, i < n → gl' i = gl i ∧ gb' i = gb i) → Stk gl gb n k W → Stk gl' gb' n k W
  | 0, k, W, _, h => h
  | n + 1, k, W, he, ⟨c, b, W', h1, h2, h3, h4⟩ => by
    obtain ⟨e1, e2⟩ := he n (by omega)
    exact ⟨c, b, W', by rw [e1]; exact h1, h2, h3, by rw [e2]; exact Stk_ext (fun i hi => he i (by omega)) h4⟩
/-- what isRow knows at a piece -/
def R17 (σ : mSig) (gl gb : Nat → Int32) (n k : Int) (m2 ml : List Nat) (b : Bool) : Prop := (m2 = [] ∧ wf σ 5 ml [(b, 0)]) ∨ ∃ (b0 : Bool) (W : List (Bool × Nat)), Stk gl gb n.toNat k W ∧ ws σ m2 (b0 :: W.map Prod.fst) ∧ (wf σ 5 m2 ((b0, k.toNat) :: W) → wf σ 5 ml [(b, 0)])
def R110 (σ : mSig) (gl gb : Nat → Int32) (n k : Int) (m3 ml : List Nat) (b : Bool) : Prop := ∃ W : List (Bool × Nat), Stk gl gb n.toNat k W ∧ ws σ m3 (W.map Prod.fst) ∧ (wf σ 5 m3 W → wf σ 5 ml [(b, 0)])
theorem R17_0 {σ : mSig} {gl gb : Nat → Int32} {ml : List Nat} {b : Bool} (h : ws σ ml [b]) : R17 σ gl gb 0 0 ml ml b := Or.inr ⟨b, [], ⟨rfl, rfl⟩, h, fun z => z⟩
theorem R17_nil {σ : mSig} {gl gb : Nat → Int32} {n k : Int} {ml : List Nat} {b : Bool} (h : R17 σ gl gb n k [] ml b) : wf σ 5 ml [(b, 0)] := by
  rcases h with h | ⟨b0, W, h1, h2, h3⟩
  · exact h.2
  · cases h2
/-- a piece taken: its children on the stack -/
theorem R17_c {σ : mSig} {gl gb gl' gb' : Nat → Int32} {n k k' : Int} {c : Nat} {m3 ml : List Nat} {b : Bool} (h : R17 σ gl gb n k (c :: m3) ml b) (hn : 0 ≤ n) (hk : k ≤ 5) (hb : k' = k + if c = 4 ∨ c = 5 then 1 else 0) (h5 : gb' n.toNat = 0 ↔ ¬ (c = 4 ∨ c = 5)) (he : ∀ i, i < n.toNat → gl' i = gl i ∧ gb' i = gb i) (hl : ∀ b0 ks, kS σ b0 c = some ks → (gl' n.toNat).toInt = ks.length) : R110 σ gl' gb' (n + 1) k' m3 ml b := by
  rcases h with h | ⟨b0, W, h1, h2, h3⟩
  · cases h.1
  · obtain ⟨b1, W1, ks, e1, hks, hw⟩ := ws_cons.mp h2
    cases e1
    obtain ⟨bb, hbb⟩ := kS_rep hks
    have hk0 := Stk_nn h1
    have hlev : (if c = 4 ∨ c = 5 then k.toNat + 1 else k.toNat) = k'.toNat := by
      split at hb
      · next z => rw [if_pos z]; omega
      · next z => rw [if_neg z]; omega
    refine ⟨List.replicate ks.length (bb, k'.toNat) ++ W, ?_, ?_, fun z => h3 (wf_c (by omega) hks ?_)⟩
    · rw [show (n + 1).toNat = n.toNat + 1 from by omega]
      refine ⟨ks.length, bb, W, hl _ _ hks, ?_, rfl, ?_⟩
      · split at hb <;> omega
      · have : (k' - if gb' n.toNat = 0 then 0 else 1) = k := by
          by_cases z : c = 4 ∨ c = 5
          · rw [if_neg (fun q => (h5.mp q) z), hb, if_pos z]; omega
          · rw [if_pos (h5.mpr z), hb, if_neg z]; omega
        rw [this]
        exact Stk_ext he h1
    · rw [List.map_append, List.map_replicate]
      rw [hbb] at hw
      exact hw
    · rw [hbb, kL_rep, hlev]
      exact z
theorem R110_pop {σ : mSig} {gl gb : Nat → Int32} {n k k' : Int} {m3 ml : List Nat} {b : Bool} (h : R110 σ gl gb n k m3 ml b) (hn : 0 < n) (h0 : (gl (n - 1).toNat).toInt = 0) (hk : k' = k - if gb (n - 1).toNat = 0 then 0 else 1) : R110 σ gl gb (n - 1) k' m3 ml b := by
  obtain ⟨W, h1, h2, h3⟩ := h
  rw [show n.toNat = (n - 1).toNat + 1 from by omega] at h1
  obtain ⟨c, b0, W', e1, e2, e3, e4⟩ := h1
  rw [h0] at e1
  have : c = 0 := by omega
  subst this
  rw [List.replicate_zero, List.nil_append] at e3
  subst e3
  exact ⟨W, by rw [hk]; exact e4, h2, h3⟩
theorem R110_0 {σ : mSig} {gl gb gl' gb' : Nat → Int32} {k : Int} {m3 ml : List Nat} {b : Bool} (h : R110 σ gl gb 0 k m3 ml b) : R17 σ gl' gb' 0 k m3 ml b := by
  obtain ⟨W, h1, h2, h3⟩ := h
  obtain ⟨e1, e2⟩ : k = 0 ∧ W = [] := h1
  subst e2
  have := ws_nil h2
  subst this
  exact Or.inl ⟨rfl, h3 rfl⟩
theorem R110_t {σ : mSig} {gl gb gl' : Nat → Int32} {n k : Int} {m3 ml : List Nat} {b : Bool} (h : R110 σ gl gb n k m3 ml b) (hn : 0 < n) (h0 : (gl (n - 1).toNat).toInt ≠ 0) (he : ∀ i, i < (n - 1).toNat → gl' i = gl i) (hd : (gl' (n - 1).toNat).toInt = (gl (n - 1).toNat).toInt - 1) : R17 σ gl' gb n k m3 ml b := by
  obtain ⟨W, h1, h2, h3⟩ := h
  rw [show n.toNat = (n - 1).toNat + 1 from by omega] at h1
  obtain ⟨c, b0, W', e1, e2, e3, e4⟩ := h1
  obtain ⟨c', rfl⟩ : ∃ c', c = c' + 1 := ⟨c - 1, by omega⟩
  rw [List.replicate_succ, List.cons_append] at e3
  subst e3
  refine Or.inr ⟨b0, List.replicate c' (b0, k.toNat) ++ W', ?_, h2, h3⟩
  rw [show n.toNat = (n - 1).toNat + 1 from by omega]
  exact ⟨c', b0, W', by rw [hd, e1]; omega, e2, rfl, Stk_ext (fun i hi => ⟨he i hi, rfl⟩) e4⟩
theorem ws_hd {σ : mSig} {c : Nat} {l : List Nat} {b : Bool} {W : List Bool} (h : ws σ (c :: l) (b :: W)) : ∃ ks, kS σ b c = some ks ∧ ws σ l (ks ++ W) := by
  unfold ws at h
  dsimp only at h
  split at h
  · next ks hk => exact ⟨ks, hk, h⟩
  · exact h.elim
end
section
theorem R17_k {σ : mSig} {gl gb : Nat → Int32} {n k : Int} {c : Nat} {m3 ml : List Nat} {b : Bool} (h : R17 σ gl gb n k (c :: m3) ml b) : ∃ b0 ks, kS σ b0 c = some ks := by
  rcases h with h | ⟨b0, W, h1, h2, h3⟩
  · cases h.1
  · obtain ⟨ks, hk, -⟩ := ws_hd h2
    exact ⟨b0, ks, hk⟩
theorem kS_len {σ : mSig} {b b' : Bool} {p : Nat} {ks ks' : List Bool} (hσ : σ.1.1 ≤ 6 ∧ σ.1.2 ≤ 4) (h : kS σ b p = some ks) (h' : kS σ b' p = some ks') : ks.length = ks'.length := by
  have h1 := kS_num h
  have h2 := kS_num h'
  omega
theorem R110_nn {σ : mSig} {gl gb : Nat → Int32} {n k : Int} {m3 ml : List Nat} {b : Bool} (h : R110 σ gl gb n k m3 ml b) (hn : 0 < n) : 0 ≤ k - if gb (n - 1).toNat = 0 then 0 else 1 := by
  obtain ⟨W, h1, h2, h3⟩ := h
  rw [show n.toNat = (n - 1).toNat + 1 from by omega] at h1
  obtain ⟨c, b0, W', e1, e2, e3, e4⟩ := h1
  exact Stk_nn e4
theorem R110_c {σ : mSig} {gl gb : Nat → Int32} {n k : Int} {m3 ml : List Nat} {b : Bool} (h : R110 σ gl gb n k m3 ml b) (hn : 0 < n) : ∃ c : Nat, (gl (n - 1).toNat).toInt = c := by
  obtain ⟨W, h1, h2, h3⟩ := h
  rw [show n.toNat = (n - 1).toNat + 1 from by omega] at h1
  obtain ⟨c, b0, W', e1, e2, e3, e4⟩ := h1
  exact ⟨c, e1⟩
theorem ws_72 {σ : mSig} (hσ : σ.1.1 ≤ 6 ∧ σ.1.2 ≤ 4) : ∀ {l : List Nat} {W : List Bool}, ws σ l W → ∀ p, p ∈ l → p < 72
  | [], W, h, p, hp => by cases hp
  | c :: l, W, h, p, hp => by
    obtain ⟨b, W', ks, rfl, hk, h⟩ := ws_cons.mp h
    rcases List.mem_cons.mp hp with rfl | hp
    · exact kS_72 hσ hk
    · exact ws_72 hσ h p hp
theorem ws_W {σ : mSig} {c : Nat} {l : List Nat} {W : List Bool} (h : ws σ (c :: l) W) : ∃ b W', W = b :: W' := by
  obtain ⟨b, W', ks, e, -, -⟩ := ws_cons.mp h
  exact ⟨b, W', e⟩
theorem ws_1 {σ : mSig} {p : Nat} (hσ : σ.1.1 ≤ 6 ∧ σ.1.2 ≤ 4) (h : 40 ≤ p) (h' : p < 72) : ws σ [p] [false] := ws_c (kS_tx hσ.2 h h') rfl
theorem R110_z {σ : mSig} {gl gb gl' gb' : Nat → Int32} {n k : Int} {m3 ml : List Nat} {b : Bool} (hn : n = 0) (h : R110 σ gl gb n k m3 ml b) : R17 σ gl' gb' n k m3 ml b := by
  subst hn
  exact R110_0 h
theorem xm1 : (Int32.ofInt (-1)).toInt = -1 := by decide
theorem xdec {a : Int32} (h : -2147483648 < a.toInt) : (a + (Int32.ofInt (-1))).toInt = a.toInt + (-1) := by
  have := Int32.toInt_lt a
  rw [xI_add (by rw [xm1]; omega) (by rw [xm1]; omega), xm1]
end
section
/-- a row that is a formula, a term -/
def Fm (σ : mSig) (g : Nat → Int32) (a : Int) : Prop := ∃ l, Rw g a l ∧ wf σ 5 l [(true, 0)]
def Tm (σ : mSig) (g : Nat → Int32) (a : Int) : Prop := ∃ l, Rw g a l ∧ wf σ 5 l [(false, 0)]
theorem Fm_keep {σ : mSig} {g g' : Nat → Int32} {a : Int} (h : Fm σ g a) (hj : ∀ i : Nat, a ≤ i → (i : Int) < a + 41 → g' i = g i) : Fm σ g' a := by
  obtain ⟨l, h1, h2⟩ := h
  exact ⟨l, Rw_keep h1 hj, h2⟩
theorem Tm_keep {σ : mSig} {g g' : Nat → Int32} {a : Int} (h : Tm σ g a) (hj : ∀ i : Nat, a ≤ i → (i : Int) < a + 41 → g' i = g i) : Tm σ g' a := by
  obtain ⟨l, h1, h2⟩ := h
  exact ⟨l, Rw_keep h1 hj, h2⟩
theorem Fm_r {σ : mSig} {g : Nat → Int32} {a : Int} (h : Fm σ g a) : a % 41 = 0 ∧ 0 ≤ a ∧ a < 27306 := by
  obtain ⟨l, h1, h2⟩ := h
  exact ⟨h1.1, h1.2.1, h1.2.2.1⟩
theorem Tm_r {σ : mSig} {g : Nat → Int32} {a : Int} (h : Tm σ g a) : a % 41 = 0 ∧ 0 ≤ a ∧ a < 27306 := by
  obtain ⟨l, h1, h2⟩ := h
  exact ⟨h1.1, h1.2.1, h1.2.2.1⟩
/-- the first n assumed rows of step i -/
def As (σ : mSig) (g : Nat → Int32) (i n : Int) : Prop := ∀ k : Nat, (k : Int) < n → k < 12 → Fm σ g (1640 + 41 * (12 * i + k))
/-- all but step i's assumed rows is as it was -/
def OutB (g g' : Nat → Int32) (i : Int) : Prop := ∀ k : Nat, (k : Int) < 1640 + 492 * i ∨ 1640 + 492 * i + 492 ≤ (k : Int) → g' k = g k
theorem OutB_refl {g : Nat → Int32} {i : Int} : OutB g g i := fun _ _ => rfl
theorem OutB_tr {g g' g'' : Nat → Int32} {i : Int} (h : OutB g g' i) (h' : OutB g' g'' i) : OutB g g'' i := fun k hk => (h' k hk).trans (h k hk)
theorem Fm_out {σ : mSig} {g g' : Nat → Int32} {a i : Int} (h : Fm σ g a) (ho : OutB g g' i) (hi : a + 41 ≤ 1640 + 492 * i ∨ 1640 + 492 * i + 492 ≤ a) : Fm σ g' a := Fm_keep h (fun k h1 h2 => ho k (by omega))
theorem Tm_out {σ : mSig} {g g' : Nat → Int32} {a i : Int} (h : Tm σ g a) (ho : OutB g g' i) (hi : a + 41 ≤ 1640 + 492 * i ∨ 1640 + 492 * i + 492 ≤ a) : Tm σ g' a := Tm_keep h (fun k h1 h2 => ho k (by omega))
theorem As_0 {σ : mSig} {g : Nat → Int32} {i : Int} : As σ g i 0 := fun k hk _ => by omega
theorem As_more {σ : mSig} {g : Nat → Int32} {i n n' : Int} (h : As σ g i n) (hn : 12 ≤ n) : As σ g i n' := fun k _ h12 => h k (by omega) h12
theorem As_put {σ : mSig} {g g' : Nat → Int32} {i n : Int} (h : As σ g i n) (h0 : 0 ≤ n) (hf : Fm σ g' (1640 + 41 * (12 * i + n))) (ho : ∀ k : Nat, (k : Int) < 1640 + 41 * (12 * i + n) ∨ 1640 + 41 * (12 * i + n) + 41 ≤ (k : Int) → g' k = g k) : As σ g' i (n + 1) := by
  intro k hk h12
  by_cases e : (k : Int) = n
  · rw [e]; exact hf
  · exact Fm_keep (h k (by omega) h12) (fun j h1 h2 => ho j (by omega))
/-- the steps before i: rows, what each assumes -/
def PSt (σ : mSig) (g ga : Nat → Int32) (i : Int) : Prop := ∀ j : Nat, (j : Int) < i → Fm σ g (41 * j) ∧ As σ g j (ga j).toInt
theorem PSt_out {σ : mSig} {g g' ga : Nat → Int32} {i : Int} (h : PSt σ g ga i) (ho : OutB g g' i) (h40 : i ≤ 40) : PSt σ g' ga i := by
  intro j hj
  obtain ⟨h1, h2⟩ := h j hj
  refine ⟨Fm_out h1 ho (by omega), fun k hk h12 => Fm_out (h2 k hk h12) ho (by omega)⟩
end
section
set_option maxRecDepth 100000
-- ProofBenchModel.takes(I)I
theorem pg_218_0 {d : Nat} {x1 : Int32} {s : ps_S} {Q : Option Value → ps_S → Prop} (h :
  (x1 = 0 →
    Q (some (.int 0)) s) ∧
  (x1 ≠ 0 →
    (x1 < 40 →
      (x1 < 4 →
        Q (some (.int 2)) s) ∧
      (4 ≤ x1 →
        (x1 ≠ 6 →
          (6 ≤ x1 →
            (20 ≤ x1 →
              ps_nd (pm_in ((((4 : Int32) * (ps_i s 1131 21)) + x1) - 20) 8) (Q (some (.int (ps_a s 1139 (Int32.toNatClampNeg ((((4 : Int32) * (ps_i s 1131 21)) + x1) - 20))))) s)) ∧
            (x1 < 20 →
              ps_nd (pm_in ((((6 : Int32) * (ps_i s 1131 21)) + x1) - 10) 12) (Q (some (.int (ps_a s 1138 (Int32.toNatClampNeg ((((6 : Int32) * (ps_i s 1131 21)) + x1) - 10))))) s))) ∧
          (x1 < 6 →
            Q (some (.int 1)) s)) ∧
        (x1 = 6 →
          Q (some (.int 2)) s))) ∧
    (40 ≤ x1 →
      Q (some (.int 0)) s))) : ps_At d 218 0 [(0, .ref 1131), (1, .int x1)] [] s Q :=
  ps_wp_at (stops := []) (n := 54) h rfl

theorem ms_218 {x : Nat → Nat → Nat} {t : Int32} {s : ps_S} {d : Nat} {x1 : Int32} {f : Int32 → ps_S → Prop} (J : mJ x t s) {σ : mSig} {p : Nat} {b : Bool} {ks : List Bool} (hS : Sg (ps_a s 1135) (ps_a s 1136) (ps_a s 1138) (ps_a s 1139) (ps_i s 1131 21).toInt σ) (q1 : kS σ b p = some ks) (q2 : x1.toInt = (p : Int)) (k : ∀ (v : Int32), (v.toInt = (ks.length : Int)) → f v s) : ps_Cl d 218 [.ref 1131, .int x1] s (ps_rI f) := by
  refine pg_218_0 ?_
  obtain ⟨hb0, hb1, h5, hR, h6, hF, h8, h9⟩ := id hS
  have hn := kS_num q1
  have q2 : x1.toInt = (p : Int) := q2
  refine And.intro (fun h1 => ?_) (fun h1 => ?_)
  · have f2 : x1.toInt = (0 : Int) := xeq h1
    exact k (0 : Int32) ((show (0 : Int) = (ks.length : Int) from by omega))
  · have f3 : x1.toInt ≠ (0 : Int) := xne h1
    refine And.intro (fun h4 => ?_) (fun h4 => ?_)
    · have f5 : x1.toInt < (40 : Int) := xlt h4
      refine And.intro (fun h6 => ?_) (fun h6 => ?_)
      · have f7 : x1.toInt < (4 : Int) := xlt h6
        exact k (2 : Int32) ((show (2 : Int) = (ks.length : Int) from by omega))
      · have f8 : (4 : Int) ≤ x1.toInt := xle h6
        refine And.intro (fun h9 => ?_) (fun h9 => ?_)
        · have f10 : x1.toInt ≠ (6 : Int) := xne h9
          refine And.intro (fun h11 => ?_) (fun h11 => ?_)
          · have f12 : (6 : Int) ≤ x1.toInt := xle h11
            refine And.intro (fun h13 => ?_) (fun h13 => ?_)
            · have f14 : (20 : Int) ≤ x1.toInt := xle h13
              have r15 := mf_21 J
              have a16 : ((4 : Int32) * (ps_i s 1131 21)).toInt = (4 : Int) * (ps_i s 1131 21).toInt := xIm (show -2147483648 ≤ (4 : Int) * (ps_i s 1131 21).toInt from by omega) (show (4 : Int) * (ps_i s 1131 21).toInt < 2147483648 from by omega)
              have a17 : (((4 : Int32) * (ps_i s 1131 21)) + x1).toInt = ((4 : Int32) * (ps_i s 1131 21)).toInt + x1.toInt := xIa (show -2147483648 ≤ ((4 : Int32) * (ps_i s 1131 21)).toInt + x1.toInt from by omega) (show ((4 : Int32) * (ps_i s 1131 21)).toInt + x1.toInt < 2147483648 from by omega)
              have a18 : ((((4 : Int32) * (ps_i s 1131 21)) + x1) - 20).toInt = (((4 : Int32) * (ps_i s 1131 21)) + x1).toInt - (20 : Int) := xIs (show -2147483648 ≤ (((4 : Int32) * (ps_i s 1131 21)) + x1).toInt - (20 : Int) from by omega) (show (((4 : Int32) * (ps_i s 1131 21)) + x1).toInt - (20 : Int) < 2147483648 from by omega)
              refine ps_nd_i (show pm_in ((((4 : Int32) * (ps_i s 1131 21)) + x1) - 20) 8 = true from xgi (show 0 ≤ ((((4 : Int32) * (ps_i s 1131 21)) + x1) - 20).toInt from by omega) (show ((((4 : Int32) * (ps_i s 1131 21)) + x1) - 20).toInt < 8 from by omega)) ?_
              have r19 : 0 ≤ (ps_a s 1139 (Int32.toNatClampNeg ((((4 : Int32) * (ps_i s 1131 21)) + x1) - 20))).toInt ∧ (ps_a s 1139 (Int32.toNatClampNeg ((((4 : Int32) * (ps_i s 1131 21)) + x1) - 20))).toInt ≤ 9999 := ma_1139 (i := ((((4 : Int32) * (ps_i s 1131 21)) + x1) - 20)) J (show 0 ≤ ((((4 : Int32) * (ps_i s 1131 21)) + x1) - 20).toInt from by omega) (show ((((4 : Int32) * (ps_i s 1131 21)) + x1) - 20).toInt < 8 from by omega)
              try have e : ((ps_a s 1139 (Int32.toNatClampNeg ((((4 : Int32) * (ps_i s 1131 21)) + x1) - 20)))).toInt = σ.2.2 (p - 20) ∧ σ.2.2 (p - 20) ≤ 2 := Sg_f hS (by omega) (by omega)
              exact k (ps_a s 1139 (Int32.toNatClampNeg ((((4 : Int32) * (ps_i s 1131 21)) + x1) - 20))) ((show ((ps_a s 1139 (Int32.toNatClampNeg ((((4 : Int32) * (ps_i s 1131 21)) + x1) - 20)))).toInt = (ks.length : Int) from by omega))
            · have f20 : x1.toInt < (20 : Int) := xlt h13
              have r21 := mf_21 J
              have a22 : ((6 : Int32) * (ps_i s 1131 21)).toInt = (6 : Int) * (ps_i s 1131 21).toInt := xIm (show -2147483648 ≤ (6 : Int) * (ps_i s 1131 21).toInt from by omega) (show (6 : Int) * (ps_i s 1131 21).toInt < 2147483648 from by omega)
              have a23 : (((6 : Int32) * (ps_i s 1131 21)) + x1).toInt = ((6 : Int32) * (ps_i s 1131 21)).toInt + x1.toInt := xIa (show -2147483648 ≤ ((6 : Int32) * (ps_i s 1131 21)).toInt + x1.toInt from by omega) (show ((6 : Int32) * (ps_i s 1131 21)).toInt + x1.toInt < 2147483648 from by omega)
              have a24 : ((((6 : Int32) * (ps_i s 1131 21)) + x1) - 10).toInt = (((6 : Int32) * (ps_i s 1131 21)) + x1).toInt - (10 : Int) := xIs (show -2147483648 ≤ (((6 : Int32) * (ps_i s 1131 21)) + x1).toInt - (10 : Int) from by omega) (show (((6 : Int32) * (ps_i s 1131 21)) + x1).toInt - (10 : Int) < 2147483648 from by omega)
              refine ps_nd_i (show pm_in ((((6 : Int32) * (ps_i s 1131 21)) + x1) - 10) 12 = true from xgi (show 0 ≤ ((((6 : Int32) * (ps_i s 1131 21)) + x1) - 10).toInt from by omega) (show ((((6 : Int32) * (ps_i s 1131 21)) + x1) - 10).toInt < 12 from by omega)) ?_
              have r25 : 0 ≤ (ps_a s 1138 (Int32.toNatClampNeg ((((6 : Int32) * (ps_i s 1131 21)) + x1) - 10))).toInt ∧ (ps_a s 1138 (Int32.toNatClampNeg ((((6 : Int32) * (ps_i s 1131 21)) + x1) - 10))).toInt ≤ 9999 := ma_1138 (i := ((((6 : Int32) * (ps_i s 1131 21)) + x1) - 10)) J (show 0 ≤ ((((6 : Int32) * (ps_i s 1131 21)) + x1) - 10).toInt from by omega) (show ((((6 : Int32) * (ps_i s 1131 21)) + x1) - 10).toInt < 12 from by omega)
              have e : ((ps_a s 1138 (Int32.toNatClampNeg ((((6 : Int32) * (ps_i s 1131 21)) + x1) - 10)))).toInt = σ.2.1 (p - 10) ∧ σ.2.1 (p - 10) ≤ 2 := Sg_r hS (by omega) (by omega)
              try have e : ((ps_a s 1138 (Int32.toNatClampNeg ((((6 : Int32) * (ps_i s 1131 21)) + x1) - 10)))).toInt = σ.2.2 (p - 20) ∧ σ.2.2 (p - 20) ≤ 2 := Sg_f hS (by omega) (by omega)
              exact k (ps_a s 1138 (Int32.toNatClampNeg ((((6 : Int32) * (ps_i s 1131 21)) + x1) - 10))) ((show ((ps_a s 1138 (Int32.toNatClampNeg ((((6 : Int32) * (ps_i s 1131 21)) + x1) - 10)))).toInt = (ks.length : Int) from by omega))
          · have f26 : x1.toInt < (6 : Int) := xlt h11
            exact k (1 : Int32) ((show (1 : Int) = (ks.length : Int) from by omega))
        · have f27 : x1.toInt = (6 : Int) := xeq h9
          exact k (2 : Int32) ((show (2 : Int) = (ks.length : Int) from by omega))
    · have f28 : (40 : Int) ≤ x1.toInt := xle h4
      exact k (0 : Int32) ((show (0 : Int) = (ks.length : Int) from by omega))

-- ProofBenchModel.endOf(II)I
theorem pg_221_0 {d : Nat} {x1 : Int32} {x2 : Int32} {s : ps_S} {Q : Option Value → ps_S → Prop} (h :
  ps_At (d + 1) 221 5 [(0, .ref 1131), (1, .int x1), (3, .int x2), (4, .int 1)] [] s Q) : ps_At (d + 1) 221 0 [(0, .ref 1131), (1, .int x1), (2, .int x2)] [] s Q :=
  ps_wp_at (stops := [(5, [0, 1, 3, 4])]) (n := 6) h rfl

theorem pg_221_5 {d : Nat} {x1 : Int32} {x3 : Int32} {x4 : Int32} {s : ps_S} {Q : Option Value → ps_S → Prop} (h :
  (x4 ≤ 0 →
    Q (some (.int x3)) s) ∧
  (0 < x4 →
    ps_Cl d 220 [.ref 1131, .int x1, .int x3] s (ps_rI (fun v1 s1 =>
      ps_Cl d 218 [.ref 1131, .int v1] s1 (ps_rI (fun v2 s2 =>
        ps_At (d + 1) 221 5 [(0, .ref 1131), (1, .int x1), (3, .int (x3 + 1)), (4, .int (x4 + (v2 - 1)))] [] s2 Q)))))) : ps_At (d + 1) 221 5 [(0, .ref 1131), (1, .int x1), (3, .int x3), (4, .int x4)] [] s Q :=
  ps_wp_at (stops := [(5, [0, 1, 3, 4])]) (n := 19) h rfl

theorem ms_221_5 {x : Nat → Nat → Nat} {t : Int32} {d : Nat} {s : ps_S} {σ : mSig} {l1 p q : List Nat} {b : Bool} {x1 : Int32} {x2 : Int32} {Q : Option Value → ps_S → Prop} (k : ∀ (v : Int32), (v.toInt = (l1.length + p.length : Int)) → Q (some (.int v)) s) : ∀ (n : Nat) (x3 : Int32) (x4 : Int32) (p1 : List Nat) (p2 : List Nat) (W : List Bool), (mJ x t s) → (Sg (ps_a s 1135) (ps_a s 1136) (ps_a s 1138) (ps_a s 1139) (ps_i s 1131 21).toInt σ) → (Rw (ps_a s 1134) x1.toInt (l1 ++ (p ++ q))) → (p = p1 ++ p2) → (ws σ p2 W) → (x4.toInt = (W.length : Int)) → (x3.toInt = (l1.length + p1.length : Int)) → (p2.length : Int) ≤ (n : Int) → ps_At (d + 1) 221 5 [(0, .ref 1131), (1, .int x1), (3, .int x3), (4, .int x4)] [] s Q := by
  refine xstr (fun n ih => ?_)
  intro x3 x4 p1 p2 W J hS hR i2 i3 i4 i5 hm
  refine pg_221_5 (d := d) ?_
  have i4 : x4.toInt = (W.length : Int) := i4
  have i5 : x3.toInt = (l1.length + p1.length : Int) := i5
  obtain ⟨hr1, hr2, hr3, hr4, hr5, hr6⟩ := id hR
  rw [i2, List.length_append, List.length_append, List.length_append] at hr4
  have hr1 : x1.toInt % 41 = 0 := hr1
  have hr2 : 0 ≤ x1.toInt := hr2
  have hr3 : x1.toInt < 27306 := hr3
  refine And.intro (fun h1 => ?_) (fun h1 => ?_)
  · have f2 : x4.toInt ≤ (0 : Int) := xle h1
    have e0 := lnil (W := W) (by omega)
    subst e0
    have e2 := ws_nil i3
    subst e2
    rw [List.append_nil] at i2
    subst i2
    exact k x3 (i5)
  · have f3 : (0 : Int) < x4.toInt := xlt h1
    obtain ⟨b0, W0, rfl⟩ := lpos (W := W) (by omega)
    obtain ⟨c, p3, rfl⟩ := ws_ne i3
    obtain ⟨ks, hk, hw⟩ := ws_hd i3
    have hn := kS_le hS hk
    have hw1 := ws_le i3
    rw [List.length_cons, List.length_cons] at hw1
    rw [List.length_cons] at hr4
    rw [llenc] at i4 hm
    refine pg_220_0 ?_
    have a4 : (x1 + 1).toInt = x1.toInt + (1 : Int) := xIa (show -2147483648 ≤ x1.toInt + (1 : Int) from by omega) (show x1.toInt + (1 : Int) < 2147483648 from by omega)
    have a5 : ((x1 + 1) + x3).toInt = (x1 + 1).toInt + x3.toInt := xIa (show -2147483648 ≤ (x1 + 1).toInt + x3.toInt from by omega) (show (x1 + 1).toInt + x3.toInt < 2147483648 from by omega)
    refine ps_nd_i (show pm_in ((x1 + 1) + x3) 27400 = true from xgi (show 0 ≤ ((x1 + 1) + x3).toInt from by omega) (show ((x1 + 1) + x3).toInt < 27400 from by omega)) ?_
    have r6 : ((x1 + 1) + x3).toInt % 41 = 0 → ((x1 + 1) + x3).toInt < 27306 → 0 ≤ (ps_a s 1134 (Int32.toNatClampNeg ((x1 + 1) + x3))).toInt ∧ (ps_a s 1134 (Int32.toNatClampNeg ((x1 + 1) + x3))).toInt ≤ 40 := fun z1 z2 => mp_row (i := ((x1 + 1) + x3)) J z1 (show 0 ≤ ((x1 + 1) + x3).toInt from by omega) z2
    refine ms_218 J hS (hk) (Rw_p hR (l1 := l1 ++ p1) (p := c) (l2 := p3 ++ q) (by rw [i2]; simp) (by rw [llen]; exact i5)) (fun v7 p7_0 => ?_)
    have hv : v7.toInt = (ks.length : Int) := p7_0
    have a8 : (v7 - 1).toInt = v7.toInt - (1 : Int) := xIs (show -2147483648 ≤ v7.toInt - (1 : Int) from by omega) (show v7.toInt - (1 : Int) < 2147483648 from by omega)
    have a9 : (x4 + (v7 - 1)).toInt = x4.toInt + (v7 - 1).toInt := xIa (show -2147483648 ≤ x4.toInt + (v7 - 1).toInt from by omega) (show x4.toInt + (v7 - 1).toInt < 2147483648 from by omega)
    have a10 : (x3 + 1).toInt = x3.toInt + (1 : Int) := xIa (show -2147483648 ≤ x3.toInt + (1 : Int) from by omega) (show x3.toInt + (1 : Int) < 2147483648 from by omega)
    exact ih (n - 1) (show n - 1 < n from by omega) (x3 + 1) (x4 + (v7 - 1)) (p1 ++ [c]) p3 (ks ++ W0) J hS hR (i2.trans (lcat p1 c p3)) (hw) ((show ((x4 + (v7 - 1))).toInt = ((ks ++ W0).length : Int) from by rw [llen]; omega)) ((show ((x3 + 1)).toInt = (l1.length + (p1 ++ [c]).length : Int) from by rw [llen]; have : (([c] : List Nat).length : Int) = 1 := rfl; omega)) (show (p3.length : Int) ≤ ((n - 1 : Nat) : Int) from by omega)

theorem ms_221 {x : Nat → Nat → Nat} {t : Int32} {s : ps_S} {d : Nat} {x1 : Int32} {x2 : Int32} {f : Int32 → ps_S → Prop} (J : mJ x t s) {σ : mSig} {l1 p q : List Nat} {b : Bool} (hS : Sg (ps_a s 1135) (ps_a s 1136) (ps_a s 1138) (ps_a s 1139) (ps_i s 1131 21).toInt σ) (hR : Rw (ps_a s 1134) x1.toInt (l1 ++ (p ++ q))) (q2 : x2.toInt = (l1.length : Int)) (q3 : ws σ p [b]) (k : ∀ (v : Int32), (v.toInt = (l1.length + p.length : Int)) → f v s) : ps_Cl (d + 1) 221 [.ref 1131, .int x1, .int x2] s (ps_rI f) := by
  refine pg_221_0 (d := d) ?_
  exact ms_221_5 (x1 := x1) (x2 := x2) (σ := σ) (l1 := l1) (p := p) (q := q) (b := b) k  ((p.length : Int)).toNat x2 (1) [] p [b] J hS hR (rfl) (q3) (rfl) ((show x2.toInt = ((l1.length : Int) + (([] : List Nat).length : Int)) from by rw [List.length_nil]; exact q2.trans (Int.add_zero _).symm)) (show (p.length : Int) ≤ ((((p.length : Int)).toNat : Nat) : Int) from by omega)
end
section
set_option maxRecDepth 100000
-- ProofBenchModel.isFree(II)Z
theorem pg_223_0 {d : Nat} {x1 : Int32} {x2 : Int32} {s : ps_S} {Q : Option Value → ps_S → Prop} (h :
  ps_At (d + 1) 223 2 [(0, .ref 1131), (1, .int x1), (2, .int x2), (3, .int 0)] [] s Q) : ps_At (d + 1) 223 0 [(0, .ref 1131), (1, .int x1), (2, .int x2)] [] s Q :=
  ps_wp_at (stops := [(2, [0, 1, 2, 3])]) (n := 4) h rfl

theorem pg_223_2 {d : Nat} {x1 : Int32} {x2 : Int32} {x3 : Int32} {s : ps_S} {Q : Option Value → ps_S → Prop} (h :
  ps_Cl d 219 [.ref 1131, .int x1] s (ps_rI (fun v1 s1 =>
    (v1 ≤ x3 →
      Q (some (.int 0)) s1) ∧
    (x3 < v1 →
      ps_Cl d 220 [.ref 1131, .int x1, .int x3] s1 (ps_rI (fun v2 s2 =>
        (v2 ≠ ((60 : Int32) + x2) →
          ps_At (d + 1) 223 2 [(0, .ref 1131), (1, .int x1), (2, .int x2), (3, .int (x3 + 1))] [] s2 Q) ∧
        (v2 = ((60 : Int32) + x2) →
          Q (some (.int 1)) s2))))))) : ps_At (d + 1) 223 2 [(0, .ref 1131), (1, .int x1), (2, .int x2), (3, .int x3)] [] s Q :=
  ps_wp_at (stops := [(2, [0, 1, 2, 3])]) (n := 21) h rfl

theorem ms_223_2 {x : Nat → Nat → Nat} {t : Int32} {d : Nat} {s : ps_S} {l : List Nat} {x1 : Int32} {x2 : Int32} {Q : Option Value → ps_S → Prop} (k : ∀ (v : Int32), (v.toInt = 0 → ∀ p : Nat, p ∈ l → (p : Int) ≠ 60 + x2.toInt) → v &&& 1 = v → Q (some (.int v)) s) : ∀ (n : Nat) (x3 : Int32) (l1 : List Nat) (l2 : List Nat), (mJ x t s) → (Rw (ps_a s 1134) x1.toInt l) → (0 ≤ x2.toInt) → (x2.toInt ≤ 11) → (l = l1 ++ l2) → (x3.toInt = (l1.length : Int)) → (∀ p : Nat, p ∈ l1 → (p : Int) ≠ 60 + x2.toInt) → (l2.length : Int) ≤ (n : Int) → ps_At (d + 1) 223 2 [(0, .ref 1131), (1, .int x1), (2, .int x2), (3, .int x3)] [] s Q := by
  refine xstr (fun n ih => ?_)
  intro x3 l1 l2 J hR i1 i2 i3 i4 i5 hm
  refine pg_223_2 (d := d) ?_
  obtain ⟨hr1, hr2, hr3, hr4, hr5, hr6⟩ := id hR
  have hr1 : x1.toInt % 41 = 0 := hr1
  have hr2 : 0 ≤ x1.toInt := hr2
  have hr3 : x1.toInt < 27306 := hr3
  have hn : (ps_a s 1134 (Int32.toNatClampNeg x1)).toInt = (l.length : Int) := Rw_n hR
  have i4 : x3.toInt = (l1.length : Int) := i4
  have hl : (l.length : Int) = l1.length + l2.length := by rw [i3]; exact llen
  refine pg_219_0 ?_
  refine ps_nd_i (show pm_in x1 27400 = true from xgi (show 0 ≤ x1.toInt from by omega) (show x1.toInt < 27400 from by omega)) ?_
  have r1 : x1.toInt % 41 = 0 → x1.toInt < 27306 → 0 ≤ (ps_a s 1134 (Int32.toNatClampNeg x1)).toInt ∧ (ps_a s 1134 (Int32.toNatClampNeg x1)).toInt ≤ 40 := fun z1 z2 => mp_row (i := x1) J z1 (show 0 ≤ x1.toInt from by omega) z2
  refine And.intro (fun h2 => ?_) (fun h2 => ?_)
  · have f3 : (ps_a s 1134 (Int32.toNatClampNeg x1)).toInt ≤ x3.toInt := xle h2
    have e0 := lnil (W := l2) (by omega)
    subst e0
    rw [List.append_nil] at i3
    subst i3
    exact k (0 : Int32) (fun _ => i5) (by decide)
  · have f4 : x3.toInt < (ps_a s 1134 (Int32.toNatClampNeg x1)).toInt := xlt h2
    obtain ⟨c, l3, rfl⟩ := lpos (W := l2) (by omega)
    rw [llenc] at hl hm
    refine pg_220_0 ?_
    have a5 : (x1 + 1).toInt = x1.toInt + (1 : Int) := xIa (show -2147483648 ≤ x1.toInt + (1 : Int) from by omega) (show x1.toInt + (1 : Int) < 2147483648 from by omega)
    have a6 : ((x1 + 1) + x3).toInt = (x1 + 1).toInt + x3.toInt := xIa (show -2147483648 ≤ (x1 + 1).toInt + x3.toInt from by omega) (show (x1 + 1).toInt + x3.toInt < 2147483648 from by omega)
    refine ps_nd_i (show pm_in ((x1 + 1) + x3) 27400 = true from xgi (show 0 ≤ ((x1 + 1) + x3).toInt from by omega) (show ((x1 + 1) + x3).toInt < 27400 from by omega)) ?_
    have r7 : ((x1 + 1) + x3).toInt % 41 = 0 → ((x1 + 1) + x3).toInt < 27306 → 0 ≤ (ps_a s 1134 (Int32.toNatClampNeg ((x1 + 1) + x3))).toInt ∧ (ps_a s 1134 (Int32.toNatClampNeg ((x1 + 1) + x3))).toInt ≤ 40 := fun z1 z2 => mp_row (i := ((x1 + 1) + x3)) J z1 (show 0 ≤ ((x1 + 1) + x3).toInt from by omega) z2
    have hp : ((ps_a s 1134 (Int32.toNatClampNeg ((x1 + 1) + x3)))).toInt = (c : Int) := Rw_p hR i3 i4
    have a8 : ((60 : Int32) + x2).toInt = (60 : Int) + x2.toInt := xIa (show -2147483648 ≤ (60 : Int) + x2.toInt from by omega) (show (60 : Int) + x2.toInt < 2147483648 from by omega)
    refine And.intro (fun h9 => ?_) (fun h9 => ?_)
    · have f10 : (ps_a s 1134 (Int32.toNatClampNeg ((x1 + 1) + x3))).toInt ≠ ((60 : Int32) + x2).toInt := xne h9
      have a11 : (x3 + 1).toInt = x3.toInt + (1 : Int) := xIa (show -2147483648 ≤ x3.toInt + (1 : Int) from by omega) (show x3.toInt + (1 : Int) < 2147483648 from by omega)
      exact ih (n - 1) (show n - 1 < n from by omega) (x3 + 1) (l1 ++ [c]) l3 J hR (show 0 ≤ x2.toInt from by omega) (show x2.toInt ≤ 11 from by omega) (i3.trans (lcat l1 c l3)) ((show ((x3 + 1)).toInt = ((l1 ++ [c]).length : Int) from by rw [l1c]; omega)) (fun p hp2 => (List.mem_append.mp hp2).elim (i5 p) (fun h => by rw [List.mem_singleton] at h; rw [h]; omega)) (show (l3.length : Int) ≤ ((n - 1 : Nat) : Int) from by omega)
    · have f12 : (ps_a s 1134 (Int32.toNatClampNeg ((x1 + 1) + x3))).toInt = ((60 : Int32) + x2).toInt := xeq h9
      exact k (1 : Int32) (fun z => absurd z (by decide)) (by decide)

theorem ms_223 {x : Nat → Nat → Nat} {t : Int32} {s : ps_S} {d : Nat} {x1 : Int32} {x2 : Int32} {f : Int32 → ps_S → Prop} (J : mJ x t s) {l : List Nat} (hR : Rw (ps_a s 1134) x1.toInt l) (q1 : 0 ≤ x2.toInt) (q2 : x2.toInt ≤ 11) (k : ∀ (v : Int32), (v.toInt = 0 → ∀ p : Nat, p ∈ l → (p : Int) ≠ 60 + x2.toInt) → v &&& 1 = v → f v s) : ps_Cl (d + 1) 223 [.ref 1131, .int x1, .int x2] s (ps_rI f) := by
  refine pg_223_0 (d := d) ?_
  exact ms_223_2 (x1 := x1) (x2 := x2) (l := l) k  ((l.length : Int)).toNat (0) [] l J hR (show 0 ≤ x2.toInt from by omega) (show x2.toInt ≤ 11 from by omega) (rfl) (rfl) ((fun p hp => by cases hp)) (show (l.length : Int) ≤ ((((l.length : Int)).toNat : Nat) : Int) from by omega)

-- ProofBenchModel.copyRow(II)V
theorem pg_224_0 {d : Nat} {x1 : Int32} {x2 : Int32} {s : ps_S} {Q : Option Value → ps_S → Prop} (h :
  ps_At d 224 2 [(0, .ref 1131), (1, .int x1), (2, .int x2), (3, .int 0)] [] s Q) : ps_At d 224 0 [(0, .ref 1131), (1, .int x1), (2, .int x2)] [] s Q :=
  ps_wp_at (stops := [(2, [0, 1, 2, 3])]) (n := 4) h rfl

theorem pg_224_2 {d : Nat} {x1 : Int32} {x2 : Int32} {x3 : Int32} {s : ps_S} {Q : Option Value → ps_S → Prop} (h :
  ps_nd (pm_in x1 27400) (((ps_a s 1134 (Int32.toNatClampNeg x1)) < x3 →
    Q none s) ∧
  (x3 ≤ (ps_a s 1134 (Int32.toNatClampNeg x1)) →
    ps_nd (pm_in (x1 + x3) 27400) (ps_nd (pm_in (x2 + x3) 27400) (ps_At d 224 2 [(0, .ref 1131), (1, .int x1), (2, .int x2), (3, .int (x3 + 1))] [] (ps_ua s 1134 (Int32.toNatClampNeg (x2 + x3)) (ps_a s 1134 (Int32.toNatClampNeg (x1 + x3)))) Q))))) : ps_At d 224 2 [(0, .ref 1131), (1, .int x1), (2, .int x2), (3, .int x3)] [] s Q :=
  ps_wp_at (stops := [(2, [0, 1, 2, 3])]) (n := 23) h rfl

theorem ms_224_2 {x : Nat → Nat → Nat} {t : Int32} {d : Nat} {s0 : ps_S} {l : List Nat} {x1 : Int32} {x2 : Int32} {Q : Option Value → ps_S → Prop} (k : ∀ (s' : ps_S), mJ x t s' → kp [1134] [] s0 s' → (Rw (ps_a s' 1134) x2.toInt l) → (∀ i : Nat, (i : Int) < x2.toInt ∨ x2.toInt + 41 ≤ (i : Int) → ps_a s' 1134 i = ps_a s0 1134 i) → Q none s') : ∀ (n : Nat) (x3 : Int32) (s : ps_S), (mJ x t s) → (kp [1134] [] s0 s) → (Rw (ps_a s0 1134) x1.toInt l) → (x2.toInt % 41 = 0) → (0 ≤ x2.toInt) → (x2.toInt < 27306) → (x1.toInt ≠ x2.toInt) → (0 ≤ x3.toInt) → (x3.toInt ≤ 41) → (∀ i : Nat, (i : Int) < x2.toInt ∨ x2.toInt + 41 ≤ (i : Int) → ps_a s 1134 i = ps_a s0 1134 i) → (∀ j : Nat, (j : Int) < x3.toInt → ps_a s 1134 (x2.toInt.toNat + j) = ps_a s0 1134 (x1.toInt.toNat + j)) → 50 - x3.toInt ≤ (n : Int) → ps_At d 224 2 [(0, .ref 1131), (1, .int x1), (2, .int x2), (3, .int x3)] [] s Q := by
  refine xstr (fun n ih => ?_)
  intro x3 s J K i0 i1 i2 i3 i4 i5 i6 i7 i8 hm
  refine pg_224_2 ?_
  obtain ⟨hr1, hr2, hr3, hr4, hr5, hr6⟩ := id i0
  have hr1 : x1.toInt % 41 = 0 := hr1
  have hr2 : 0 ≤ x1.toInt := hr2
  have hr3 : x1.toInt < 27306 := hr3
  have e0 : ps_a s 1134 x1.toInt.toNat = ps_a s0 1134 x1.toInt.toNat := i7 _ (by omega)
  have hn : (ps_a s 1134 (Int32.toNatClampNeg x1)).toInt = (l.length : Int) := (congrArg Int32.toInt e0).trans hr5
  refine ps_nd_i (show pm_in x1 27400 = true from xgi (show 0 ≤ x1.toInt from by omega) (show x1.toInt < 27400 from by omega)) ?_
  have r1 : x1.toInt % 41 = 0 → x1.toInt < 27306 → 0 ≤ (ps_a s 1134 (Int32.toNatClampNeg x1)).toInt ∧ (ps_a s 1134 (Int32.toNatClampNeg x1)).toInt ≤ 40 := fun z1 z2 => mp_row (i := x1) J z1 (show 0 ≤ x1.toInt from by omega) z2
  refine And.intro (fun h2 => ?_) (fun h2 => ?_)
  · have f3 : (ps_a s 1134 (Int32.toNatClampNeg x1)).toInt < x3.toInt := xlt h2
    exact k _ J K (Rw_copy i0 (show x2.toInt % 41 = 0 from by omega) (show 0 ≤ x2.toInt from by omega) (show x2.toInt < 27306 from by omega) (fun j hj => i8 j (by omega))) (i7)
  · have f4 : x3.toInt ≤ (ps_a s 1134 (Int32.toNatClampNeg x1)).toInt := xle h2
    have a1 : (x1 + x3).toInt = x1.toInt + x3.toInt := xIa (by omega) (by omega)
    have a2 : (x2 + x3).toInt = x2.toInt + x3.toInt := xIa (by omega) (by omega)
    have e1 : ps_a s 1134 (Int32.toNatClampNeg (x1 + x3)) = ps_a s0 1134 (x1.toInt.toNat + x3.toInt.toNat) := (i7 _ (by show ((((x1 + x3).toInt.toNat : Nat) : Int) < x2.toInt) ∨ x2.toInt + 41 ≤ ((((x1 + x3).toInt.toNat : Nat) : Int)); omega)).trans (by show ps_a s0 1134 ((x1 + x3).toInt.toNat) = _; rw [show (x1 + x3).toInt.toNat = x1.toInt.toNat + x3.toInt.toNat from by omega])
    have e2 : Int32.toNatClampNeg (x2 + x3) = x2.toInt.toNat + x3.toInt.toNat := by show (x2 + x3).toInt.toNat = _; omega
    have a5 : (x2 + x3).toInt = x2.toInt + x3.toInt := xIa (show -2147483648 ≤ x2.toInt + x3.toInt from by omega) (show x2.toInt + x3.toInt < 2147483648 from by omega)
    have a6 : (x1 + x3).toInt = x1.toInt + x3.toInt := xIa (show -2147483648 ≤ x1.toInt + x3.toInt from by omega) (show x1.toInt + x3.toInt < 2147483648 from by omega)
    refine ps_nd_i (show pm_in (x1 + x3) 27400 = true from xgi (show 0 ≤ (x1 + x3).toInt from by omega) (show (x1 + x3).toInt < 27400 from by omega)) ?_
    have r7 : (x1 + x3).toInt % 41 = 0 → (x1 + x3).toInt < 27306 → 0 ≤ (ps_a s 1134 (Int32.toNatClampNeg (x1 + x3))).toInt ∧ (ps_a s 1134 (Int32.toNatClampNeg (x1 + x3))).toInt ≤ 40 := fun z1 z2 => mp_row (i := (x1 + x3)) J z1 (show 0 ≤ (x1 + x3).toInt from by omega) z2
    refine ps_nd_i (show pm_in (x2 + x3) 27400 = true from xgi (show 0 ≤ (x2 + x3).toInt from by omega) (show (x2 + x3).toInt < 27400 from by omega)) ?_
    have J8 := mw_p (i := (x2 + x3)) (v := (ps_a s 1134 (Int32.toNatClampNeg (x1 + x3)))) J (show (x2 + x3).toInt % 41 = 0 → 0 ≤ (ps_a s 1134 (Int32.toNatClampNeg (x1 + x3))).toInt ∧ (ps_a s 1134 (Int32.toNatClampNeg (x1 + x3))).toInt ≤ 40 from by omega) (show 0 ≤ (x2 + x3).toInt from by omega)
    have K9 := kpa' K (r := 1134) (i := (Int32.toNatClampNeg (x2 + x3))) (v := (ps_a s 1134 (Int32.toNatClampNeg (x1 + x3)))) rfl
    have a10 : (x3 + 1).toInt = x3.toInt + (1 : Int) := xIa (show -2147483648 ≤ x3.toInt + (1 : Int) from by omega) (show x3.toInt + (1 : Int) < 2147483648 from by omega)
    exact ih (n - 1) (show n - 1 < n from by omega) (x3 + 1) _ J8 K9 (by assumption) (show x2.toInt % 41 = 0 from by omega) (show 0 ≤ x2.toInt from by omega) (show x2.toInt < 27306 from by omega) (show x1.toInt ≠ x2.toInt from by omega) (show 0 ≤ (x3 + 1).toInt from by omega) (show (x3 + 1).toInt ≤ 41 from by omega) (fun i hi => (ua_ne (by omega)).trans (i7 i hi)) (fun j hj => by
      have hj : (j : Int) < ((x3 + 1)).toInt := hj
      by_cases e : j = (x3.toInt).toNat
      · rw [e, ← e2, ua_eq]; exact e1
      · exact (ua_ne (by omega)).trans (i8 j (by omega))) (show 50 - (x3 + 1).toInt ≤ ((n - 1 : Nat) : Int) from by omega)

theorem ms_224 {x : Nat → Nat → Nat} {t : Int32} {s : ps_S} {d : Nat} {x1 : Int32} {x2 : Int32} {f : ps_S → Prop} (J : mJ x t s) {l : List Nat} (hR : Rw (ps_a s 1134) x1.toInt l) (q1 : x2.toInt % 41 = 0) (q2 : 0 ≤ x2.toInt) (q3 : x2.toInt < 27306) (q4 : x1.toInt ≠ x2.toInt) (k : ∀ (s' : ps_S), mJ x t s' → kp [1134] [] s s' → (Rw (ps_a s' 1134) x2.toInt l) → (∀ i : Nat, (i : Int) < x2.toInt ∨ x2.toInt + 41 ≤ (i : Int) → ps_a s' 1134 i = ps_a s 1134 i) → f s') : ps_Cl d 224 [.ref 1131, .int x1, .int x2] s (ps_rV f) := by
  have K : kp [1134] [] s s := kp_refl
  refine pg_224_0 ?_
  exact ms_224_2 (x1 := x1) (x2 := x2) (l := l) k  (50 - (0 : Int)).toNat (0) _ J K (hR) (show x2.toInt % 41 = 0 from by omega) (show 0 ≤ x2.toInt from by omega) (show x2.toInt < 27306 from by omega) (show x1.toInt ≠ x2.toInt from by omega) (show 0 ≤ (0 : Int) from by omega) (show (0 : Int) ≤ 41 from by omega) (fun i _ => rfl) (fun j hj => absurd hj (by rw [Int32.toInt_zero]; omega)) (show 50 - (0 : Int) ≤ (((50 - (0 : Int)).toNat : Nat) : Int) from by omega)

-- ProofBenchModel.makeFrom(III)V
theorem pg_226_0 {d : Nat} {x1 : Int32} {x2 : Int32} {x3 : Int32} {s : ps_S} {Q : Option Value → ps_S → Prop} (h :
  ps_At (d + 1) 226 3 [(0, .ref 1131), (1, .int x1), (3, .int x3), (4, .int x2)] [] s Q) : ps_At (d + 1) 226 0 [(0, .ref 1131), (1, .int x1), (2, .int x2), (3, .int x3)] [] s Q :=
  ps_wp_at (stops := [(3, [0, 1, 3, 4])]) (n := 4) h rfl

theorem pg_226_3 {d : Nat} {x1 : Int32} {x3 : Int32} {x4 : Int32} {s : ps_S} {Q : Option Value → ps_S → Prop} (h :
  (x3 ≤ x4 →
    Q none s) ∧
  (x4 < x3 →
    ps_Cl d 220 [.ref 1131, .int x1, .int x4] s (ps_rI (fun v1 s1 =>
      ps_Cl d 225 [.ref 1131, .int v1] s1 (ps_rV (fun s2 =>
        ps_At (d + 1) 226 3 [(0, .ref 1131), (1, .int x1), (3, .int x3), (4, .int (x4 + 1))] [] s2 Q)))))) : ps_At (d + 1) 226 3 [(0, .ref 1131), (1, .int x1), (3, .int x3), (4, .int x4)] [] s Q :=
  ps_wp_at (stops := [(3, [0, 1, 3, 4])]) (n := 14) h rfl

theorem ms_226_3 {x : Nat → Nat → Nat} {t : Int32} {d : Nat} {s0 : ps_S} {l1 m l2 ml : List Nat} {x1 : Int32} {x2 : Int32} {x3 : Int32} {Q : Option Value → ps_S → Prop} (k : ∀ (s' : ps_S), mJ x t s' → kp [1149] [34] s0 s' → (Md (ps_a s' 1149) (ps_i s' 1131 34).toInt (ml ++ m)) → Q none s') : ∀ (n : Nat) (x4 : Int32) (m1 : List Nat) (m2 : List Nat) (s : ps_S), (mJ x t s) → (kp [1149] [34] s0 s) → (Rw (ps_a s 1134) x1.toInt (l1 ++ (m ++ l2))) → (Md (ps_a s 1149) (ps_i s 1131 34).toInt (ml ++ m1)) → (m = m1 ++ m2) → (x4.toInt = (l1.length + m1.length : Int)) → (x3.toInt = (l1.length + m.length : Int) ∨ (m2 = [] ∧ x3.toInt ≤ x4.toInt)) → (ml.length + m.length ≤ 90000) → (m2.length : Int) ≤ (n : Int) → ps_At (d + 1) 226 3 [(0, .ref 1131), (1, .int x1), (3, .int x3), (4, .int x4)] [] s Q := by
  refine xstr (fun n ih => ?_)
  intro x4 m1 m2 s J K hR i1 i2 i3 i4 i5 hm
  refine pg_226_3 (d := d) ?_
  obtain ⟨hr1, hr2, hr3, hr4, hr5, hr6⟩ := id hR
  have hr1 : x1.toInt % 41 = 0 := hr1
  have hr2 : 0 ≤ x1.toInt := hr2
  have hr3 : x1.toInt < 27306 := hr3
  have i3 : x4.toInt = (l1.length + m1.length : Int) := i3
  rw [i2] at hr4 i5
  rw [List.length_append, List.length_append, List.length_append] at hr4
  rw [List.length_append] at i5
  have i4 : x3.toInt = (l1.length + m1.length + m2.length : Int) ∨ (m2 = [] ∧ x3.toInt ≤ x4.toInt) := i4.imp (fun z => by rw [z, i2, llen]; omega) id
  have h34 := i1.1
  rw [llen] at h34
  refine And.intro (fun h1 => ?_) (fun h1 => ?_)
  · have f2 : x3.toInt ≤ x4.toInt := xle h1
    have e0 : m2 = [] := by rcases i4 with z | ⟨z, z2⟩; exact lnil (by omega); exact z
    subst e0
    rw [List.append_nil] at i2
    subst i2
    exact k _ J K (i1)
  · have f3 : x4.toInt < x3.toInt := xlt h1
    obtain ⟨c, m3, rfl⟩ := lpos (W := m2) (by rcases i4 with z | ⟨z, z2⟩; omega; omega)
    rw [List.length_cons] at hr4 i5
    rw [llenc] at hm
    have hp := Rw_p (i := x4) hR (l1 := l1 ++ m1) (p := c) (l2 := m3 ++ l2) (by rw [i2]; simp) (by rw [llen]; exact i3)
    refine pg_220_0 ?_
    have a4 : (x1 + 1).toInt = x1.toInt + (1 : Int) := xIa (show -2147483648 ≤ x1.toInt + (1 : Int) from by omega) (show x1.toInt + (1 : Int) < 2147483648 from by omega)
    have a5 : ((x1 + 1) + x4).toInt = (x1 + 1).toInt + x4.toInt := xIa (show -2147483648 ≤ (x1 + 1).toInt + x4.toInt from by omega) (show (x1 + 1).toInt + x4.toInt < 2147483648 from by omega)
    refine ps_nd_i (show pm_in ((x1 + 1) + x4) 27400 = true from xgi (show 0 ≤ ((x1 + 1) + x4).toInt from by omega) (show ((x1 + 1) + x4).toInt < 27400 from by omega)) ?_
    have r6 : ((x1 + 1) + x4).toInt % 41 = 0 → ((x1 + 1) + x4).toInt < 27306 → 0 ≤ (ps_a s 1134 (Int32.toNatClampNeg ((x1 + 1) + x4))).toInt ∧ (ps_a s 1134 (Int32.toNatClampNeg ((x1 + 1) + x4))).toInt ≤ 40 := fun z1 z2 => mp_row (i := ((x1 + 1) + x4)) J z1 (show 0 ≤ ((x1 + 1) + x4).toInt from by omega) z2
    refine pg_225_0 ?_
    have r7 := mf_34 J
    refine And.intro (fun h8 => ?_) (fun h8 => ?_)
    · have f9 : (260 : Int) ≤ (ps_i s 1131 34).toInt := xle h8
      have a10 : ((ps_i s 1131 34) + 1).toInt = (ps_i s 1131 34).toInt + (1 : Int) := xIa (show -2147483648 ≤ (ps_i s 1131 34).toInt + (1 : Int) from by omega) (show (ps_i s 1131 34).toInt + (1 : Int) < 2147483648 from by omega)
      have J11 := mwi_34 (v := ((ps_i s 1131 34) + 1)) J (show 0 ≤ ((ps_i s 1131 34) + 1).toInt from by omega) (show ((ps_i s 1131 34) + 1).toInt ≤ 100000 from by omega)
      have K12 := kpi K (q := 34) (v := ((ps_i s 1131 34) + 1)) rfl
      have a13 : (x4 + 1).toInt = x4.toInt + (1 : Int) := xIa (show -2147483648 ≤ x4.toInt + (1 : Int) from by omega) (show x4.toInt + (1 : Int) < 2147483648 from by omega)
      exact ih (n - 1) (show n - 1 < n from by omega) (x4 + 1) (m1 ++ [c]) m3 _ J11 K12 hR ((by rw [← List.append_assoc]; first | exact Md_make i1 hp (by rw [List.length_append]; omega) | exact Md_make' i1 (by rw [List.length_append]; omega) (by omega))) (i2.trans (lcat m1 c m3)) ((show ((x4 + 1)).toInt = (l1.length + (m1 ++ [c]).length : Int) from by rw [l1c]; omega)) ((show x3.toInt = (l1.length + m.length : Int) ∨ (m3 = [] ∧ x3.toInt ≤ ((x4 + 1)).toInt) from by left; rw [i2, llen, llenc]; rcases i4 with z | ⟨z, z2⟩; rw [llenc] at z; omega; cases z)) ((by rw [i2, List.length_append, List.length_cons]; omega)) (show (m3.length : Int) ≤ ((n - 1 : Nat) : Int) from by omega)
    · have f14 : (ps_i s 1131 34).toInt < (260 : Int) := xlt h8
      refine ps_nd_i (show pm_in (ps_i s 1131 34) 260 = true from xgi (show 0 ≤ (ps_i s 1131 34).toInt from by omega) (show (ps_i s 1131 34).toInt < 260 from by omega)) ?_
      have J15 := mwa_n 1149 (i := (Int32.toNatClampNeg (ps_i s 1131 34))) (v := (ps_a s 1134 (Int32.toNatClampNeg ((x1 + 1) + x4)))) J rfl (by decide)
      have K16 := kpa' K (r := 1149) (i := (Int32.toNatClampNeg (ps_i s 1131 34))) (v := (ps_a s 1134 (Int32.toNatClampNeg ((x1 + 1) + x4)))) rfl
      have a17 : ((ps_i s 1131 34) + 1).toInt = (ps_i s 1131 34).toInt + (1 : Int) := xIa (show -2147483648 ≤ (ps_i s 1131 34).toInt + (1 : Int) from by omega) (show (ps_i s 1131 34).toInt + (1 : Int) < 2147483648 from by omega)
      have J18 := mwi_34 (v := ((ps_i s 1131 34) + 1)) J15 (show 0 ≤ ((ps_i s 1131 34) + 1).toInt from by omega) (show ((ps_i s 1131 34) + 1).toInt ≤ 100000 from by omega)
      have K19 := kpi K16 (q := 34) (v := ((ps_i s 1131 34) + 1)) rfl
      have a20 : (x4 + 1).toInt = x4.toInt + (1 : Int) := xIa (show -2147483648 ≤ x4.toInt + (1 : Int) from by omega) (show x4.toInt + (1 : Int) < 2147483648 from by omega)
      exact ih (n - 1) (show n - 1 < n from by omega) (x4 + 1) (m1 ++ [c]) m3 _ J18 K19 hR ((by rw [← List.append_assoc]; first | exact Md_make i1 hp (by rw [List.length_append]; omega) | exact Md_make' i1 (by rw [List.length_append]; omega) (by omega))) (i2.trans (lcat m1 c m3)) ((show ((x4 + 1)).toInt = (l1.length + (m1 ++ [c]).length : Int) from by rw [l1c]; omega)) ((show x3.toInt = (l1.length + m.length : Int) ∨ (m3 = [] ∧ x3.toInt ≤ ((x4 + 1)).toInt) from by left; rw [i2, llen, llenc]; rcases i4 with z | ⟨z, z2⟩; rw [llenc] at z; omega; cases z)) ((by rw [i2, List.length_append, List.length_cons]; omega)) (show (m3.length : Int) ≤ ((n - 1 : Nat) : Int) from by omega)

theorem ms_226 {x : Nat → Nat → Nat} {t : Int32} {s : ps_S} {d : Nat} {x1 : Int32} {x2 : Int32} {x3 : Int32} {f : ps_S → Prop} (J : mJ x t s) {l1 m l2 ml : List Nat} (hR : Rw (ps_a s 1134) x1.toInt (l1 ++ (m ++ l2))) (hM : Md (ps_a s 1149) (ps_i s 1131 34).toInt ml) (q2 : x2.toInt = (l1.length : Int)) (q3 : x3.toInt = (l1.length + m.length : Int) ∨ (m = [] ∧ x3.toInt ≤ x2.toInt)) (q4 : ml.length + m.length ≤ 90000) (k : ∀ (s' : ps_S), mJ x t s' → kp [1149] [34] s s' → (Md (ps_a s' 1149) (ps_i s' 1131 34).toInt (ml ++ m)) → f s') : ps_Cl (d + 1) 226 [.ref 1131, .int x1, .int x2, .int x3] s (ps_rV f) := by
  have K : kp [1149] [34] s s := kp_refl
  refine pg_226_0 (d := d) ?_
  exact ms_226_3 (x1 := x1) (x2 := x2) (x3 := x3) (l1 := l1) (m := m) (l2 := l2) (ml := ml) k  ((m.length : Int)).toNat x2 [] m _ J K hR ((by rw [List.append_nil]; exact hM)) (rfl) ((q2.trans (Int.add_zero _).symm)) (q3.imp id (fun z => ⟨z.1, z.2⟩)) (q4) (show (m.length : Int) ≤ ((((m.length : Int)).toNat : Nat) : Int) from by omega)

-- ProofBenchModel.isMade(I)Z
theorem pg_230_0 {d : Nat} {x1 : Int32} {s : ps_S} {Q : Option Value → ps_S → Prop} (h :
  ps_Cl d 219 [.ref 1131, .int x1] s (ps_rI (fun v1 s1 =>
    (v1 = (ps_i s1 1131 34) →
      ps_At (d + 1) 230 16 [(0, .ref 1131), (1, .int x1), (2, .int 0)] [] s1 Q) ∧
    (v1 ≠ (ps_i s1 1131 34) →
      Q (some (.int 0)) s1)))) : ps_At (d + 1) 230 0 [(0, .ref 1131), (1, .int x1)] [] s Q :=
  ps_wp_at (stops := [(16, [0, 1, 2])]) (n := 12) h rfl

theorem pg_230_16 {d : Nat} {x1 : Int32} {x2 : Int32} {s : ps_S} {Q : Option Value → ps_S → Prop} (h :
  ((ps_i s 1131 34) ≤ x2 →
    Q (some (.int 1)) s) ∧
  (x2 < (ps_i s 1131 34) →
    ps_Cl d 220 [.ref 1131, .int x1, .int x2] s (ps_rI (fun v1 s1 =>
      ps_nd (pm_in x2 260) ((v1 = (ps_a s1 1149 (Int32.toNatClampNeg x2)) →
        ps_At (d + 1) 230 16 [(0, .ref 1131), (1, .int x1), (2, .int (x2 + 1))] [] s1 Q) ∧
      (v1 ≠ (ps_a s1 1149 (Int32.toNatClampNeg x2)) →
        Q (some (.int 0)) s1)))))) : ps_At (d + 1) 230 16 [(0, .ref 1131), (1, .int x1), (2, .int x2)] [] s Q :=
  ps_wp_at (stops := [(16, [0, 1, 2])]) (n := 21) h rfl

theorem ms_230_16 {x : Nat → Nat → Nat} {t : Int32} {d : Nat} {s : ps_S} {x1 : Int32} {Q : Option Value → ps_S → Prop} (k : ∀ (v : Int32), v &&& 1 = v → Q (some (.int v)) s) : ∀ (n : Nat) (x2 : Int32), (mJ x t s) → (x1.toInt % 41 = 0) → (0 ≤ x1.toInt) → (x1.toInt < 27306) → (0 ≤ x2.toInt) → (x2.toInt ≤ 40) → ((ps_i s 1131 34).toInt ≤ 40) → 50 - x2.toInt ≤ (n : Int) → ps_At (d + 1) 230 16 [(0, .ref 1131), (1, .int x1), (2, .int x2)] [] s Q := by
  refine xstr (fun n ih => ?_)
  intro x2 J i0 i1 i2 i3 i4 i5 hm
  have r1 := mf_34 J
  refine pg_230_16 (d := d) ?_
  refine And.intro (fun h2 => ?_) (fun h2 => ?_)
  · have f3 : (ps_i s 1131 34).toInt ≤ x2.toInt := xle h2
    exact k (1 : Int32) (by decide)
  · have f4 : x2.toInt < (ps_i s 1131 34).toInt := xlt h2
    refine pg_220_0 ?_
    have a5 : (x1 + 1).toInt = x1.toInt + (1 : Int) := xIa (show -2147483648 ≤ x1.toInt + (1 : Int) from by omega) (show x1.toInt + (1 : Int) < 2147483648 from by omega)
    have a6 : ((x1 + 1) + x2).toInt = (x1 + 1).toInt + x2.toInt := xIa (show -2147483648 ≤ (x1 + 1).toInt + x2.toInt from by omega) (show (x1 + 1).toInt + x2.toInt < 2147483648 from by omega)
    refine ps_nd_i (show pm_in ((x1 + 1) + x2) 27400 = true from xgi (show 0 ≤ ((x1 + 1) + x2).toInt from by omega) (show ((x1 + 1) + x2).toInt < 27400 from by omega)) ?_
    have r7 : ((x1 + 1) + x2).toInt % 41 = 0 → ((x1 + 1) + x2).toInt < 27306 → 0 ≤ (ps_a s 1134 (Int32.toNatClampNeg ((x1 + 1) + x2))).toInt ∧ (ps_a s 1134 (Int32.toNatClampNeg ((x1 + 1) + x2))).toInt ≤ 40 := fun z1 z2 => mp_row (i := ((x1 + 1) + x2)) J z1 (show 0 ≤ ((x1 + 1) + x2).toInt from by omega) z2
    refine ps_nd_i (show pm_in x2 260 = true from xgi (show 0 ≤ x2.toInt from by omega) (show x2.toInt < 260 from by omega)) ?_
    refine And.intro (fun h8 => ?_) (fun h8 => ?_)
    · have f9 : (ps_a s 1134 (Int32.toNatClampNeg ((x1 + 1) + x2))).toInt = (ps_a s 1149 (Int32.toNatClampNeg x2)).toInt := xeq h8
      have a10 : (x2 + 1).toInt = x2.toInt + (1 : Int) := xIa (show -2147483648 ≤ x2.toInt + (1 : Int) from by omega) (show x2.toInt + (1 : Int) < 2147483648 from by omega)
      exact ih (n - 1) (show n - 1 < n from by omega) (x2 + 1) J (show x1.toInt % 41 = 0 from by omega) (show 0 ≤ x1.toInt from by omega) (show x1.toInt < 27306 from by omega) (show 0 ≤ (x2 + 1).toInt from by omega) (show (x2 + 1).toInt ≤ 40 from by omega) (show (ps_i s 1131 34).toInt ≤ 40 from by omega) (show 50 - (x2 + 1).toInt ≤ ((n - 1 : Nat) : Int) from by omega)
    · have f11 : (ps_a s 1134 (Int32.toNatClampNeg ((x1 + 1) + x2))).toInt ≠ (ps_a s 1149 (Int32.toNatClampNeg x2)).toInt := xne h8
      exact k (0 : Int32) (by decide)

theorem ms_230 {x : Nat → Nat → Nat} {t : Int32} {s : ps_S} {d : Nat} {x1 : Int32} {f : Int32 → ps_S → Prop} (J : mJ x t s) (q0 : x1.toInt % 41 = 0) (q1 : 0 ≤ x1.toInt) (q2 : x1.toInt < 27306) (k : ∀ (v : Int32), v &&& 1 = v → f v s) : ps_Cl (d + 1) 230 [.ref 1131, .int x1] s (ps_rI f) := by
  refine pg_230_0 (d := d) ?_
  refine pg_219_0 ?_
  refine ps_nd_i (show pm_in x1 27400 = true from xgi (show 0 ≤ x1.toInt from by omega) (show x1.toInt < 27400 from by omega)) ?_
  have r1 : x1.toInt % 41 = 0 → x1.toInt < 27306 → 0 ≤ (ps_a s 1134 (Int32.toNatClampNeg x1)).toInt ∧ (ps_a s 1134 (Int32.toNatClampNeg x1)).toInt ≤ 40 := fun z1 z2 => mp_row (i := x1) J z1 (show 0 ≤ x1.toInt from by omega) z2
  have r2 := mf_34 J
  refine And.intro (fun h3 => ?_) (fun h3 => ?_)
  · have f4 : (ps_a s 1134 (Int32.toNatClampNeg x1)).toInt = (ps_i s 1131 34).toInt := xeq h3
    exact ms_230_16 (x1 := x1) k  (50 - (0 : Int)).toNat (0) J (show x1.toInt % 41 = 0 from by omega) (show 0 ≤ x1.toInt from by omega) (show x1.toInt < 27306 from by omega) (show 0 ≤ (0 : Int) from by omega) (show (0 : Int) ≤ 40 from by omega) (show (ps_i s 1131 34).toInt ≤ 40 from by omega) (show 50 - (0 : Int) ≤ (((50 - (0 : Int)).toNat : Nat) : Int) from by omega)
  · have f5 : (ps_a s 1134 (Int32.toNatClampNeg x1)).toInt ≠ (ps_i s 1131 34).toInt := xne h3
    exact k (0 : Int32) (by decide)
end
section
set_option maxRecDepth 100000
-- ProofBenchModel.makeRow(I)V
theorem pg_227_0 {d : Nat} {x1 : Int32} {s : ps_S} {Q : Option Value → ps_S → Prop} (h :
  ps_Cl d 219 [.ref 1131, .int x1] s (ps_rI (fun v1 s1 =>
    ps_Cl d 226 [.ref 1131, .int x1, .int 0, .int v1] s1 (ps_rV (fun s2 =>
      Q none s2))))) : ps_At (d + 1) 227 0 [(0, .ref 1131), (1, .int x1)] [] s Q :=
  ps_wp_at (stops := []) (n := 10) h rfl

theorem ms_227 {x : Nat → Nat → Nat} {t : Int32} {s : ps_S} {d : Nat} {x1 : Int32} {f : ps_S → Prop} (J : mJ x t s) {l ml : List Nat} (hR : Rw (ps_a s 1134) x1.toInt l) (hM : Md (ps_a s 1149) (ps_i s 1131 34).toInt ml) (q2 : ml.length + l.length ≤ 90000) (k : ∀ (s' : ps_S), mJ x t s' → kp [1149] [34] s s' → (Md (ps_a s' 1149) (ps_i s' 1131 34).toInt (ml ++ l)) → f s') : ps_Cl (d + 2) 227 [.ref 1131, .int x1] s (ps_rV f) := by
  have K : kp [1149] [34] s s := kp_refl
  refine pg_227_0 (d := d + 1) ?_
  obtain ⟨hr1, hr2, hr3, hr4, hr5, hr6⟩ := id hR
  have hr1 : x1.toInt % 41 = 0 := hr1
  have hr2 : 0 ≤ x1.toInt := hr2
  have hr3 : x1.toInt < 27306 := hr3
  refine pg_219_0 ?_
  refine ps_nd_i (show pm_in x1 27400 = true from xgi (show 0 ≤ x1.toInt from by omega) (show x1.toInt < 27400 from by omega)) ?_
  have r1 : x1.toInt % 41 = 0 → x1.toInt < 27306 → 0 ≤ (ps_a s 1134 (Int32.toNatClampNeg x1)).toInt ∧ (ps_a s 1134 (Int32.toNatClampNeg x1)).toInt ≤ 40 := fun z1 z2 => mp_row (i := x1) J z1 (show 0 ≤ x1.toInt from by omega) z2
  refine ms_226 J ((show Rw (ps_a s 1134) (x1).toInt ([] ++ (l ++ [])) from by rw [List.append_nil]; exact hR)) hM (rfl) ((Or.inl ((Rw_n hR).trans (by simp)))) (q2) (fun s2 J2 K2 p2_0 => ?_)
  have K3 := kpt K K2 rfl rfl
  have hR : Rw (ps_a s2 1134) x1.toInt l := by rw [show ps_a s2 1134 = ps_a s 1134 from (K2.2 1134 rfl).1]; exact hR
  exact k _ J2 K3 (by assumption)

-- ProofBenchModel.keepMade(I)V
theorem pg_229_0 {d : Nat} {x1 : Int32} {s : ps_S} {Q : Option Value → ps_S → Prop} (h :
  ps_nd (pm_in x1 27400) (ps_At d 229 12 [(0, .ref 1131), (1, .int x1), (2, .int 0)] [] (ps_ua s 1134 (Int32.toNatClampNeg x1) (ps_i s 1131 34)) Q)) : ps_At d 229 0 [(0, .ref 1131), (1, .int x1)] [] s Q :=
  ps_wp_at (stops := [(12, [0, 1, 2])]) (n := 10) h rfl

theorem pg_229_12 {d : Nat} {x1 : Int32} {x2 : Int32} {s : ps_S} {Q : Option Value → ps_S → Prop} (h :
  ((ps_i s 1131 34) ≤ x2 →
    Q none s) ∧
  (x2 < (ps_i s 1131 34) →
    ps_nd (pm_in x2 260) (ps_nd (pm_in ((x1 + 1) + x2) 27400) (ps_At d 229 12 [(0, .ref 1131), (1, .int x1), (2, .int (x2 + 1))] [] (ps_ua s 1134 (Int32.toNatClampNeg ((x1 + 1) + x2)) (ps_a s 1149 (Int32.toNatClampNeg x2))) Q)))) : ps_At d 229 12 [(0, .ref 1131), (1, .int x1), (2, .int x2)] [] s Q :=
  ps_wp_at (stops := [(12, [0, 1, 2])]) (n := 21) h rfl

theorem ms_229_12 {x : Nat → Nat → Nat} {t : Int32} {d : Nat} {s0 : ps_S} {ml : List Nat} {x1 : Int32} {Q : Option Value → ps_S → Prop} (k : ∀ (s' : ps_S), mJ x t s' → kp [1134] [] s0 s' → (Rw (ps_a s' 1134) x1.toInt ml) → (∀ i : Nat, (i : Int) < x1.toInt ∨ x1.toInt + 41 ≤ (i : Int) → ps_a s' 1134 i = ps_a s0 1134 i) → Q none s') : ∀ (n : Nat) (x2 : Int32) (s : ps_S), (mJ x t s) → (kp [1134] [] s0 s) → (x1.toInt % 41 = 0) → (0 ≤ x1.toInt) → (x1.toInt < 27306) → (Md (ps_a s 1149) (ps_i s 1131 34).toInt ml) → (ml.length ≤ 40) → (0 ≤ x2.toInt) → (x2.toInt ≤ 40) → ((ps_a s 1134 (x1.toInt).toNat).toInt = (ml.length : Int)) → (∀ i : Nat, (i : Int) < x1.toInt ∨ x1.toInt + 41 ≤ (i : Int) → ps_a s 1134 i = ps_a s0 1134 i) → (∀ j : Nat, (j : Int) < x2.toInt → ps_a s 1134 ((x1.toInt).toNat + 1 + j) = ps_a s 1149 j) → 50 - x2.toInt ≤ (n : Int) → ps_At d 229 12 [(0, .ref 1131), (1, .int x1), (2, .int x2)] [] s Q := by
  refine xstr (fun n ih => ?_)
  intro x2 s J K i0 i1 i2 hM i4 i5 i6 i7 i8 i9 hm
  refine pg_229_12 ?_
  have h34 := hM.1
  have r1 := mf_34 J
  refine And.intro (fun h2 => ?_) (fun h2 => ?_)
  · have f3 : (ps_i s 1131 34).toInt ≤ x2.toInt := xle h2
    exact k _ J K (Rw_made hM i4 i0 i1 i2 i7 (fun j hj => i9 j (by omega))) (i8)
  · have f4 : x2.toInt < (ps_i s 1131 34).toInt := xlt h2
    have a1 : (x1 + 1).toInt = x1.toInt + (1 : Int) := xIa (show -2147483648 ≤ x1.toInt + (1 : Int) from by omega) (show x1.toInt + (1 : Int) < 2147483648 from by omega)
    have a2 : ((x1 + 1) + x2).toInt = (x1 + 1).toInt + x2.toInt := xIa (by omega) (by omega)
    have e2 : Int32.toNatClampNeg ((x1 + 1) + x2) = x1.toInt.toNat + 1 + x2.toInt.toNat := by show ((x1 + 1) + x2).toInt.toNat = _; omega
    have a5 : (x1 + 1).toInt = x1.toInt + (1 : Int) := xIa (show -2147483648 ≤ x1.toInt + (1 : Int) from by omega) (show x1.toInt + (1 : Int) < 2147483648 from by omega)
    have a6 : ((x1 + 1) + x2).toInt = (x1 + 1).toInt + x2.toInt := xIa (show -2147483648 ≤ (x1 + 1).toInt + x2.toInt from by omega) (show (x1 + 1).toInt + x2.toInt < 2147483648 from by omega)
    refine ps_nd_i (show pm_in x2 260 = true from xgi (show 0 ≤ x2.toInt from by omega) (show x2.toInt < 260 from by omega)) ?_
    refine ps_nd_i (show pm_in ((x1 + 1) + x2) 27400 = true from xgi (show 0 ≤ ((x1 + 1) + x2).toInt from by omega) (show ((x1 + 1) + x2).toInt < 27400 from by omega)) ?_
    have J7 := mw_p (i := ((x1 + 1) + x2)) (v := (ps_a s 1149 (Int32.toNatClampNeg x2))) J (show ((x1 + 1) + x2).toInt % 41 = 0 → 0 ≤ (ps_a s 1149 (Int32.toNatClampNeg x2)).toInt ∧ (ps_a s 1149 (Int32.toNatClampNeg x2)).toInt ≤ 40 from by omega) (show 0 ≤ ((x1 + 1) + x2).toInt from by omega)
    have K8 := kpa' K (r := 1134) (i := (Int32.toNatClampNeg ((x1 + 1) + x2))) (v := (ps_a s 1149 (Int32.toNatClampNeg x2))) rfl
    have a9 : (x2 + 1).toInt = x2.toInt + (1 : Int) := xIa (show -2147483648 ≤ x2.toInt + (1 : Int) from by omega) (show x2.toInt + (1 : Int) < 2147483648 from by omega)
    exact ih (n - 1) (show n - 1 < n from by omega) (x2 + 1) _ J7 K8 (show x1.toInt % 41 = 0 from by omega) (show 0 ≤ x1.toInt from by omega) (show x1.toInt < 27306 from by omega) hM (by assumption) (show 0 ≤ (x2 + 1).toInt from by omega) (show (x2 + 1).toInt ≤ 40 from by omega) ((by rw [ua_ne (by omega)]; exact i7)) (fun i hi => (ua_ne (by omega)).trans (i8 i hi)) (fun j hj => by
      have hj : (j : Int) < ((x2 + 1)).toInt := hj
      by_cases e : j = (x2.toInt).toNat
      · rw [e, ← e2, ua_eq]; rfl
      · exact (ua_ne (by omega)).trans (i9 j (by omega))) (show 50 - (x2 + 1).toInt ≤ ((n - 1 : Nat) : Int) from by omega)

theorem ms_229 {x : Nat → Nat → Nat} {t : Int32} {s : ps_S} {d : Nat} {x1 : Int32} {f : ps_S → Prop} (J : mJ x t s) {ml : List Nat} (hM : Md (ps_a s 1149) (ps_i s 1131 34).toInt ml) (q1 : x1.toInt % 41 = 0) (q2 : 0 ≤ x1.toInt) (q3 : x1.toInt < 27306) (q4 : ml.length ≤ 40) (k : ∀ (s' : ps_S), mJ x t s' → kp [1134] [] s s' → (Rw (ps_a s' 1134) x1.toInt ml) → (∀ i : Nat, (i : Int) < x1.toInt ∨ x1.toInt + 41 ≤ (i : Int) → ps_a s' 1134 i = ps_a s 1134 i) → f s') : ps_Cl d 229 [.ref 1131, .int x1] s (ps_rV f) := by
  have K : kp [1134] [] s s := kp_refl
  refine pg_229_0 ?_
  have ex : Int32.toNatClampNeg x1 = x1.toInt.toNat := rfl
  have h34 := hM.1
  have r1 := mf_34 J
  refine ps_nd_i (show pm_in x1 27400 = true from xgi (show 0 ≤ x1.toInt from by omega) (show x1.toInt < 27400 from by omega)) ?_
  have J2 := mw_p (i := x1) (v := (ps_i s 1131 34)) J (show x1.toInt % 41 = 0 → 0 ≤ (ps_i s 1131 34).toInt ∧ (ps_i s 1131 34).toInt ≤ 40 from by omega) (show 0 ≤ x1.toInt from by omega)
  have K3 := kpa' K (r := 1134) (i := (Int32.toNatClampNeg x1)) (v := (ps_i s 1131 34)) rfl
  exact ms_229_12 (x1 := x1) (ml := ml) k  (50 - (0 : Int)).toNat (0) _ J2 K3 (show x1.toInt % 41 = 0 from by omega) (show 0 ≤ x1.toInt from by omega) (show x1.toInt < 27306 from by omega) hM (q4) (show 0 ≤ (0 : Int) from by omega) (show (0 : Int) ≤ 40 from by omega) ((show (ps_a (ps_ua s 1134 (Int32.toNatClampNeg x1) (ps_i s 1131 34)) 1134 (Int32.toNatClampNeg x1)).toInt = (ml.length : Int) from by rw [ua_eq]; exact hM.1)) (fun i hi => ua_ne (by omega)) (fun j hj => absurd hj (by rw [Int32.toInt_zero]; omega)) (show 50 - (0 : Int) ≤ (((50 - (0 : Int)).toNat : Nat) : Int) from by omega)
end
section
set_option maxRecDepth 100000
-- ProofBenchModel.isRow()Z
theorem pg_228_0 {d : Nat} {s : ps_S} {Q : Option Value → ps_S → Prop} (h :
  ((ps_i s 1131 34) ≤ 40 →
    ps_At (d + 1) 228 17 [(0, .ref 1131), (1, .int 0), (2, .int 0), (3, .int 0)] [] s Q) ∧
  (40 < (ps_i s 1131 34) →
    Q (some (.int 0)) s)) : ps_At (d + 1) 228 0 [(0, .ref 1131)] [] s Q :=
  ps_wp_at (stops := [(17, [0, 1, 2, 3]), (45, [0, 1, 2, 3]), (70, [0, 1, 2, 3, 4]), (110, [0, 1, 2, 3]), (128, [0, 1, 2, 3]), (148, [0, 1, 2, 3])]) (n := 14) h rfl

theorem pg_228_17 {d : Nat} {x1 : Int32} {x2 : Int32} {x3 : Int32} {s : ps_S} {Q : Option Value → ps_S → Prop} (h :
  ((ps_i s 1131 34) ≤ x3 →
    Q (some (.int 1)) s) ∧
  (x3 < (ps_i s 1131 34) →
    ps_nd (pm_in x3 260) (((ps_a s 1149 (Int32.toNatClampNeg x3)) = 4 →
      ps_At (d + 1) 228 45 [(0, .ref 1131), (1, .int x1), (2, .int x2), (3, .int x3)] [] s Q) ∧
    ((ps_a s 1149 (Int32.toNatClampNeg x3)) ≠ 4 →
      ps_nd (pm_in x3 260) (((ps_a s 1149 (Int32.toNatClampNeg x3)) ≠ 5 →
        (12 < x1 →
          Q (some (.int 0)) s) ∧
        (x1 ≤ 12 →
          ((0 : Int32) = 0 →
            ps_At (d + 1) 228 70 [(0, .ref 1131), (1, .int x1), (2, .int x2), (3, .int x3), (4, .int 0)] [] s Q) ∧
          ((0 : Int32) ≠ 0 →
            (x2 ≤ 4 →
              ps_At (d + 1) 228 70 [(0, .ref 1131), (1, .int x1), (2, .int x2), (3, .int x3), (4, .int 0)] [] s Q) ∧
            (4 < x2 →
              Q (some (.int 0)) s)))) ∧
      ((ps_a s 1149 (Int32.toNatClampNeg x3)) = 5 →
        ps_At (d + 1) 228 45 [(0, .ref 1131), (1, .int x1), (2, .int x2), (3, .int x3)] [] s Q)))))) : ps_At (d + 1) 228 17 [(0, .ref 1131), (1, .int x1), (2, .int x2), (3, .int x3)] [] s Q :=
  ps_wp_at (stops := [(17, [0, 1, 2, 3]), (45, [0, 1, 2, 3]), (70, [0, 1, 2, 3, 4]), (110, [0, 1, 2, 3]), (128, [0, 1, 2, 3]), (148, [0, 1, 2, 3])]) (n := 34) h rfl

theorem pg_228_45 {d : Nat} {x1 : Int32} {x2 : Int32} {x3 : Int32} {s : ps_S} {Q : Option Value → ps_S → Prop} (h :
  (12 < x1 →
    Q (some (.int 0)) s) ∧
  (x1 ≤ 12 →
    ((1 : Int32) = 0 →
      ps_At (d + 1) 228 70 [(0, .ref 1131), (1, .int x1), (2, .int x2), (3, .int x3), (4, .int 1)] [] s Q) ∧
    ((1 : Int32) ≠ 0 →
      (x2 ≤ 4 →
        ps_At (d + 1) 228 70 [(0, .ref 1131), (1, .int x1), (2, .int x2), (3, .int x3), (4, .int 1)] [] s Q) ∧
      (4 < x2 →
        Q (some (.int 0)) s)))) : ps_At (d + 1) 228 45 [(0, .ref 1131), (1, .int x1), (2, .int x2), (3, .int x3)] [] s Q :=
  ps_wp_at (stops := [(17, [0, 1, 2, 3]), (45, [0, 1, 2, 3]), (70, [0, 1, 2, 3, 4]), (110, [0, 1, 2, 3]), (128, [0, 1, 2, 3]), (148, [0, 1, 2, 3])]) (n := 17) h rfl

theorem pg_228_70 {d : Nat} {x1 : Int32} {x2 : Int32} {x3 : Int32} {x4 : Int32} {s : ps_S} {Q : Option Value → ps_S → Prop} (h :
  ps_nd (pm_in x3 260) (ps_Cl d 218 [.ref 1131, .int (ps_a s 1149 (Int32.toNatClampNeg x3))] s (ps_rI (fun v1 s1 =>
    ps_nd (pm_in x1 260) (ps_nd (pm_in x1 260) ((x4 = 0 →
      ps_At (d + 1) 228 110 [(0, .ref 1131), (1, .int (x1 + 1)), (2, .int (x2 + 0)), (3, .int x3)] [] (ps_ua (ps_ua s1 1150 (Int32.toNatClampNeg x1) v1) 1151 (Int32.toNatClampNeg x1) (x4 &&& 1)) Q) ∧
    (x4 ≠ 0 →
      ps_At (d + 1) 228 110 [(0, .ref 1131), (1, .int (x1 + 1)), (2, .int (x2 + 1)), (3, .int x3)] [] (ps_ua (ps_ua s1 1150 (Int32.toNatClampNeg x1) v1) 1151 (Int32.toNatClampNeg x1) (x4 &&& 1)) Q))))))) : ps_At (d + 1) 228 70 [(0, .ref 1131), (1, .int x1), (2, .int x2), (3, .int x3), (4, .int x4)] [] s Q :=
  ps_wp_at (stops := [(17, [0, 1, 2, 3]), (45, [0, 1, 2, 3]), (70, [0, 1, 2, 3, 4]), (110, [0, 1, 2, 3]), (128, [0, 1, 2, 3]), (148, [0, 1, 2, 3])]) (n := 29) h rfl

theorem pg_228_110 {d : Nat} {x1 : Int32} {x2 : Int32} {x3 : Int32} {s : ps_S} {Q : Option Value → ps_S → Prop} (h :
  (x1 ≤ 0 →
    ps_At (d + 1) 228 148 [(0, .ref 1131), (1, .int x1), (2, .int x2), (3, .int x3)] [] s Q) ∧
  (0 < x1 →
    ps_nd (pm_in (x1 - 1) 260) (((ps_a s 1150 (Int32.toNatClampNeg (x1 - 1))) ≠ 0 →
      ps_At (d + 1) 228 148 [(0, .ref 1131), (1, .int x1), (2, .int x2), (3, .int x3)] [] s Q) ∧
    ((ps_a s 1150 (Int32.toNatClampNeg (x1 - 1))) = 0 →
      ps_At (d + 1) 228 128 [(0, .ref 1131), (1, .int (x1 + (Int32.ofInt (-1)))), (2, .int x2), (3, .int x3)] [] s Q)))) : ps_At (d + 1) 228 110 [(0, .ref 1131), (1, .int x1), (2, .int x2), (3, .int x3)] [] s Q :=
  ps_wp_at (stops := [(17, [0, 1, 2, 3]), (45, [0, 1, 2, 3]), (70, [0, 1, 2, 3, 4]), (110, [0, 1, 2, 3]), (128, [0, 1, 2, 3]), (148, [0, 1, 2, 3])]) (n := 12) h rfl

theorem pg_228_128 {d : Nat} {x1 : Int32} {x2 : Int32} {x3 : Int32} {s : ps_S} {Q : Option Value → ps_S → Prop} (h :
  ps_nd (pm_in x1 260) (((ps_a s 1151 (Int32.toNatClampNeg x1)) = 0 →
    ps_At (d + 1) 228 110 [(0, .ref 1131), (1, .int x1), (2, .int (x2 - 0)), (3, .int x3)] [] s Q) ∧
  ((ps_a s 1151 (Int32.toNatClampNeg x1)) ≠ 0 →
    ps_At (d + 1) 228 110 [(0, .ref 1131), (1, .int x1), (2, .int (x2 - 1)), (3, .int x3)] [] s Q))) : ps_At (d + 1) 228 128 [(0, .ref 1131), (1, .int x1), (2, .int x2), (3, .int x3)] [] s Q :=
  ps_wp_at (stops := [(17, [0, 1, 2, 3]), (45, [0, 1, 2, 3]), (70, [0, 1, 2, 3, 4]), (110, [0, 1, 2, 3]), (128, [0, 1, 2, 3]), (148, [0, 1, 2, 3])]) (n := 17) h rfl

theorem pg_228_148 {d : Nat} {x1 : Int32} {x2 : Int32} {x3 : Int32} {s : ps_S} {Q : Option Value → ps_S → Prop} (h :
  (x1 ≤ 0 →
    ps_At (d + 1) 228 17 [(0, .ref 1131), (1, .int x1), (2, .int x2), (3, .int (x3 + 1))] [] s Q) ∧
  (0 < x1 →
    ps_nd (pm_in (x1 - 1) 260) (ps_nd (pm_in (x1 - 1) 260) (ps_At (d + 1) 228 17 [(0, .ref 1131), (1, .int x1), (2, .int x2), (3, .int (x3 + 1))] [] (ps_ua s 1150 (Int32.toNatClampNeg (x1 - 1)) ((ps_a s 1150 (Int32.toNatClampNeg (x1 - 1))) - 1)) Q)))) : ps_At (d + 1) 228 148 [(0, .ref 1131), (1, .int x1), (2, .int x2), (3, .int x3)] [] s Q :=
  ps_wp_at (stops := [(17, [0, 1, 2, 3]), (45, [0, 1, 2, 3]), (70, [0, 1, 2, 3, 4]), (110, [0, 1, 2, 3]), (128, [0, 1, 2, 3]), (148, [0, 1, 2, 3])]) (n := 18) h rfl

theorem ms_228_128 {x : Nat → Nat → Nat} {t : Int32} {d : Nat} {s0 : ps_S} {σ : mSig} {ml : List Nat} {b : Bool} {Q : Option Value → ps_S → Prop} (k : ∀ (v : Int32) (s' : ps_S), mJ x t s' → kp [1150, 1151] [] s0 s' → (v.toInt = 0 ∨ (ml.length ≤ 40 ∧ wf σ 5 ml [(b, 0)])) → v &&& 1 = v → Q (some (.int v)) s') (n17 : Nat) (KH17 : ∀ (x1 : Int32) (x2 : Int32) (x3 : Int32) (m1 : List Nat) (m2 : List Nat) (s : ps_S), (mJ x t s) → (kp [1150, 1151] [] s0 s) → (Sg (ps_a s 1135) (ps_a s 1136) (ps_a s 1138) (ps_a s 1139) (ps_i s 1131 21).toInt σ) → (Md (ps_a s 1149) (ps_i s 1131 34).toInt ml) → (ml.length ≤ 40) → (ml = m1 ++ m2) → (x3.toInt = (m1.length : Int)) → (0 ≤ x1.toInt) → (x1.toInt ≤ x3.toInt) → (0 ≤ x2.toInt) → (x2.toInt ≤ 5) → (R17 σ (ps_a s 1150) (ps_a s 1151) x1.toInt x2.toInt m2 ml b) → (40 - x3.toInt ≤ (n17 : Int) - 1) → ps_At (d + 1) 228 17 [(0, .ref 1131), (1, .int x1), (2, .int x2), (3, .int x3)] [] s Q) (n110 : Nat) (KH110 : ∀ (x1 : Int32) (x2 : Int32) (x3 : Int32) (m1 : List Nat) (c : Nat) (m3 : List Nat) (s : ps_S), (mJ x t s) → (kp [1150, 1151] [] s0 s) → (Sg (ps_a s 1135) (ps_a s 1136) (ps_a s 1138) (ps_a s 1139) (ps_i s 1131 21).toInt σ) → (Md (ps_a s 1149) (ps_i s 1131 34).toInt ml) → (ml.length ≤ 40) → (ml = m1 ++ c :: m3) → (x3.toInt = (m1.length : Int)) → (0 ≤ x1.toInt) → (x1.toInt ≤ x3.toInt + 1) → (0 ≤ x2.toInt) → (x2.toInt ≤ 5) → (R110 σ (ps_a s 1150) (ps_a s 1151) x1.toInt x2.toInt m3 ml b) → (40 - x3.toInt ≤ (n17 : Int)) → (x1.toInt ≤ (n110 : Int) - 1) → ps_At (d + 1) 228 110 [(0, .ref 1131), (1, .int x1), (2, .int x2), (3, .int x3)] [] s Q) (x1 : Int32) (x2 : Int32) (x3 : Int32) (m1 : List Nat) (c : Nat) (m3 : List Nat) (s : ps_S) (J : mJ x t s) (K : kp [1150, 1151] [] s0 s) (hS : Sg (ps_a s 1135) (ps_a s 1136) (ps_a s 1138) (ps_a s 1139) (ps_i s 1131 21).toInt σ) (hM : Md (ps_a s 1149) (ps_i s 1131 34).toInt ml) (i2 : ml.length ≤ 40) (i3 : ml = m1 ++ c :: m3) (i4 : x3.toInt = (m1.length : Int)) (i5 : 0 ≤ x1.toInt) (i6 : x1.toInt ≤ x3.toInt) (i7 : 0 ≤ x2.toInt) (i8 : x2.toInt ≤ 5) (i9 : R110 σ (ps_a s 1150) (ps_a s 1151) (x1.toInt + 1) x2.toInt m3 ml b) (i10 : (ps_a s 1150 (x1.toInt).toNat).toInt = 0) (hm17 : 40 - x3.toInt ≤ (n17 : Int)) (hm110 : x1.toInt + 1 ≤ (n110 : Int)) : ps_At (d + 1) 228 128 [(0, .ref 1131), (1, .int x1), (2, .int x2), (3, .int x3)] [] s Q := by
  refine pg_228_128 (d := d) ?_
  have h34 := hM.1
  have hl : (ml.length : Int) = m1.length + (m3.length + 1) := by rw [i3, llen, llenc]
  have i4 : x3.toInt = (m1.length : Int) := i4
  refine ps_nd_i (show pm_in x1 260 = true from xgi (show 0 ≤ x1.toInt from by omega) (show x1.toInt < 260 from by omega)) ?_
  have e7 : Int32.toNatClampNeg x1 = (x1.toInt + 1 - 1).toNat := by show x1.toInt.toNat = _; rw [Int.add_sub_cancel]
  have z0 : (0 : Int32).toInt = 0 := rfl
  refine And.intro (fun h1 => ?_) (fun h1 => ?_)
  · have f2 : (ps_a s 1151 (Int32.toNatClampNeg x1)).toInt = (0 : Int) := xeq h1
    have a3 : (x2 - 0).toInt = x2.toInt - (0 : Int) := xIs (show -2147483648 ≤ x2.toInt - (0 : Int) from by omega) (show x2.toInt - (0 : Int) < 2147483648 from by omega)
    exact KH110 x1 (x2 - 0) x3 m1 c m3 _ J K hS hM (by assumption) (by assumption) (by assumption) (show 0 ≤ x1.toInt from by omega) (show x1.toInt ≤ x3.toInt + 1 from by omega) (show 0 ≤ (x2 - 0).toInt from by have z := R110_nn i9 (by omega); rw [← e7] at z; first | (rw [if_pos (Int32.toInt_inj.mp (by omega))] at z; omega) | (rw [if_neg (fun z => by have z2 := congrArg Int32.toInt z; omega)] at z; omega)) (show (x2 - 0).toInt ≤ 5 from by omega) ((by rw [show x1.toInt = x1.toInt + 1 - 1 from by omega]; exact R110_pop i9 (by omega) (by rw [Int.add_sub_cancel]; exact i10) (by rw [← e7]; first | (rw [if_pos (Int32.toInt_inj.mp (by omega))]; omega) | (rw [if_neg (fun z => by have z2 := congrArg Int32.toInt z; omega)]; omega)))) (show 40 - x3.toInt ≤ (n17 : Int) from by omega) (show x1.toInt ≤ (n110 : Int) - 1 from by omega)
  · have f4 : (ps_a s 1151 (Int32.toNatClampNeg x1)).toInt ≠ (0 : Int) := xne h1
    have a5 : (x2 - 1).toInt = x2.toInt - (1 : Int) := xIs (show -2147483648 ≤ x2.toInt - (1 : Int) from by omega) (show x2.toInt - (1 : Int) < 2147483648 from by omega)
    exact KH110 x1 (x2 - 1) x3 m1 c m3 _ J K hS hM (by assumption) (by assumption) (by assumption) (show 0 ≤ x1.toInt from by omega) (show x1.toInt ≤ x3.toInt + 1 from by omega) (show 0 ≤ (x2 - 1).toInt from by have z := R110_nn i9 (by omega); rw [← e7] at z; first | (rw [if_pos (Int32.toInt_inj.mp (by omega))] at z; omega) | (rw [if_neg (fun z => by have z2 := congrArg Int32.toInt z; omega)] at z; omega)) (show (x2 - 1).toInt ≤ 5 from by omega) ((by rw [show x1.toInt = x1.toInt + 1 - 1 from by omega]; exact R110_pop i9 (by omega) (by rw [Int.add_sub_cancel]; exact i10) (by rw [← e7]; first | (rw [if_pos (Int32.toInt_inj.mp (by omega))]; omega) | (rw [if_neg (fun z => by have z2 := congrArg Int32.toInt z; omega)]; omega)))) (show 40 - x3.toInt ≤ (n17 : Int) from by omega) (show x1.toInt ≤ (n110 : Int) - 1 from by omega)

theorem ms_228_148 {x : Nat → Nat → Nat} {t : Int32} {d : Nat} {s0 : ps_S} {σ : mSig} {ml : List Nat} {b : Bool} {Q : Option Value → ps_S → Prop} (k : ∀ (v : Int32) (s' : ps_S), mJ x t s' → kp [1150, 1151] [] s0 s' → (v.toInt = 0 ∨ (ml.length ≤ 40 ∧ wf σ 5 ml [(b, 0)])) → v &&& 1 = v → Q (some (.int v)) s') (n17 : Nat) (KH17 : ∀ (x1 : Int32) (x2 : Int32) (x3 : Int32) (m1 : List Nat) (m2 : List Nat) (s : ps_S), (mJ x t s) → (kp [1150, 1151] [] s0 s) → (Sg (ps_a s 1135) (ps_a s 1136) (ps_a s 1138) (ps_a s 1139) (ps_i s 1131 21).toInt σ) → (Md (ps_a s 1149) (ps_i s 1131 34).toInt ml) → (ml.length ≤ 40) → (ml = m1 ++ m2) → (x3.toInt = (m1.length : Int)) → (0 ≤ x1.toInt) → (x1.toInt ≤ x3.toInt) → (0 ≤ x2.toInt) → (x2.toInt ≤ 5) → (R17 σ (ps_a s 1150) (ps_a s 1151) x1.toInt x2.toInt m2 ml b) → (40 - x3.toInt ≤ (n17 : Int) - 1) → ps_At (d + 1) 228 17 [(0, .ref 1131), (1, .int x1), (2, .int x2), (3, .int x3)] [] s Q) (x1 : Int32) (x2 : Int32) (x3 : Int32) (m1 : List Nat) (c : Nat) (m3 : List Nat) (s : ps_S) (J : mJ x t s) (K : kp [1150, 1151] [] s0 s) (hS : Sg (ps_a s 1135) (ps_a s 1136) (ps_a s 1138) (ps_a s 1139) (ps_i s 1131 21).toInt σ) (hM : Md (ps_a s 1149) (ps_i s 1131 34).toInt ml) (i2 : ml.length ≤ 40) (i3 : ml = m1 ++ c :: m3) (i4 : x3.toInt = (m1.length : Int)) (i5 : 0 ≤ x1.toInt) (i6 : x1.toInt ≤ x3.toInt + 1) (i7 : 0 ≤ x2.toInt) (i8 : x2.toInt ≤ 5) (i9 : R110 σ (ps_a s 1150) (ps_a s 1151) x1.toInt x2.toInt m3 ml b) (i10 : x1.toInt = 0 ∨ (ps_a s 1150 (x1.toInt - 1).toNat).toInt ≠ 0) (hm17 : 40 - x3.toInt ≤ (n17 : Int)) : ps_At (d + 1) 228 148 [(0, .ref 1131), (1, .int x1), (2, .int x2), (3, .int x3)] [] s Q := by
  refine pg_228_148 (d := d) ?_
  have h34 := hM.1
  have hl : (ml.length : Int) = m1.length + (m3.length + 1) := by rw [i3, llen, llenc]
  have i4 : x3.toInt = (m1.length : Int) := i4
  refine And.intro (fun h1 => ?_) (fun h1 => ?_)
  · have f2 : x1.toInt ≤ (0 : Int) := xle h1
    have a3 : (x3 + 1).toInt = x3.toInt + (1 : Int) := xIa (show -2147483648 ≤ x3.toInt + (1 : Int) from by omega) (show x3.toInt + (1 : Int) < 2147483648 from by omega)
    exact KH17 x1 x2 (x3 + 1) (m1 ++ [c]) m3 _ J K hS hM (by assumption) (i3.trans (lcat m1 c m3)) ((show ((x3 + 1)).toInt = ((m1 ++ [c]).length : Int) from by rw [l1c]; omega)) (show 0 ≤ x1.toInt from by omega) (show x1.toInt ≤ (x3 + 1).toInt from by omega) (show 0 ≤ x2.toInt from by omega) (show x2.toInt ≤ 5 from by omega) ((by first | exact R110_z (show x1.toInt = 0 from by omega) i9 | exact R110_t i9 (by omega) (i10.resolve_left (by omega)) (fun i hi => ua_ne (by omega)) (by rw [← e6, ua_eq]; omega))) (show 40 - (x3 + 1).toInt ≤ (n17 : Int) - 1 from by omega)
  · have f4 : (0 : Int) < x1.toInt := xlt h1
    obtain ⟨cc, hcc⟩ := R110_c i9 (by omega)
    have a1 : (x1 - 1).toInt = x1.toInt - (1 : Int) := xIs (show -2147483648 ≤ x1.toInt - (1 : Int) from by omega) (show x1.toInt - (1 : Int) < 2147483648 from by omega)
    have e6 : Int32.toNatClampNeg (x1 - 1) = (x1.toInt - 1).toNat := by show (x1 - 1).toInt.toNat = _; rw [a1]
    have hxr := xR (ps_a s 1150 (Int32.toNatClampNeg (x1 - 1)))
    have hcc : (ps_a s 1150 (Int32.toNatClampNeg (x1 - 1))).toInt = (cc : Int) := by rw [e6]; exact hcc
    have a5 : (x1 - 1).toInt = x1.toInt - (1 : Int) := xIs (show -2147483648 ≤ x1.toInt - (1 : Int) from by omega) (show x1.toInt - (1 : Int) < 2147483648 from by omega)
    refine ps_nd_i (show pm_in (x1 - 1) 260 = true from xgi (show 0 ≤ (x1 - 1).toInt from by omega) (show (x1 - 1).toInt < 260 from by omega)) ?_
    have a6 : ((ps_a s 1150 (Int32.toNatClampNeg (x1 - 1))) - 1).toInt = (ps_a s 1150 (Int32.toNatClampNeg (x1 - 1))).toInt - (1 : Int) := xIs (show -2147483648 ≤ (ps_a s 1150 (Int32.toNatClampNeg (x1 - 1))).toInt - (1 : Int) from by omega) (show (ps_a s 1150 (Int32.toNatClampNeg (x1 - 1))).toInt - (1 : Int) < 2147483648 from by omega)
    refine ps_nd_i (show pm_in (x1 - 1) 260 = true from xgi (show 0 ≤ (x1 - 1).toInt from by omega) (show (x1 - 1).toInt < 260 from by omega)) ?_
    have J7 := mwa_n 1150 (i := (Int32.toNatClampNeg (x1 - 1))) (v := ((ps_a s 1150 (Int32.toNatClampNeg (x1 - 1))) - 1)) J rfl (by decide)
    have K8 := kpa' K (r := 1150) (i := (Int32.toNatClampNeg (x1 - 1))) (v := ((ps_a s 1150 (Int32.toNatClampNeg (x1 - 1))) - 1)) rfl
    have a9 : (x3 + 1).toInt = x3.toInt + (1 : Int) := xIa (show -2147483648 ≤ x3.toInt + (1 : Int) from by omega) (show x3.toInt + (1 : Int) < 2147483648 from by omega)
    exact KH17 x1 x2 (x3 + 1) (m1 ++ [c]) m3 _ J7 K8 hS hM (by assumption) (i3.trans (lcat m1 c m3)) ((show ((x3 + 1)).toInt = ((m1 ++ [c]).length : Int) from by rw [l1c]; omega)) (show 0 ≤ x1.toInt from by omega) (show x1.toInt ≤ (x3 + 1).toInt from by omega) (show 0 ≤ x2.toInt from by omega) (show x2.toInt ≤ 5 from by omega) ((by first | exact R110_z (show x1.toInt = 0 from by omega) i9 | exact R110_t i9 (by omega) (i10.resolve_left (by omega)) (fun i hi => ua_ne (by omega)) (by rw [← e6, ua_eq]; omega))) (show 40 - (x3 + 1).toInt ≤ (n17 : Int) - 1 from by omega)

theorem ms_228_110 {x : Nat → Nat → Nat} {t : Int32} {d : Nat} {s0 : ps_S} {σ : mSig} {ml : List Nat} {b : Bool} {Q : Option Value → ps_S → Prop} (k : ∀ (v : Int32) (s' : ps_S), mJ x t s' → kp [1150, 1151] [] s0 s' → (v.toInt = 0 ∨ (ml.length ≤ 40 ∧ wf σ 5 ml [(b, 0)])) → v &&& 1 = v → Q (some (.int v)) s') (n17 : Nat) (KH17 : ∀ (x1 : Int32) (x2 : Int32) (x3 : Int32) (m1 : List Nat) (m2 : List Nat) (s : ps_S), (mJ x t s) → (kp [1150, 1151] [] s0 s) → (Sg (ps_a s 1135) (ps_a s 1136) (ps_a s 1138) (ps_a s 1139) (ps_i s 1131 21).toInt σ) → (Md (ps_a s 1149) (ps_i s 1131 34).toInt ml) → (ml.length ≤ 40) → (ml = m1 ++ m2) → (x3.toInt = (m1.length : Int)) → (0 ≤ x1.toInt) → (x1.toInt ≤ x3.toInt) → (0 ≤ x2.toInt) → (x2.toInt ≤ 5) → (R17 σ (ps_a s 1150) (ps_a s 1151) x1.toInt x2.toInt m2 ml b) → (40 - x3.toInt ≤ (n17 : Int) - 1) → ps_At (d + 1) 228 17 [(0, .ref 1131), (1, .int x1), (2, .int x2), (3, .int x3)] [] s Q) : ∀ (n : Nat) (x1 : Int32) (x2 : Int32) (x3 : Int32) (m1 : List Nat) (c : Nat) (m3 : List Nat) (s : ps_S), (mJ x t s) → (kp [1150, 1151] [] s0 s) → (Sg (ps_a s 1135) (ps_a s 1136) (ps_a s 1138) (ps_a s 1139) (ps_i s 1131 21).toInt σ) → (Md (ps_a s 1149) (ps_i s 1131 34).toInt ml) → (ml.length ≤ 40) → (ml = m1 ++ c :: m3) → (x3.toInt = (m1.length : Int)) → (0 ≤ x1.toInt) → (x1.toInt ≤ x3.toInt + 1) → (0 ≤ x2.toInt) → (x2.toInt ≤ 5) → (R110 σ (ps_a s 1150) (ps_a s 1151) x1.toInt x2.toInt m3 ml b) → (40 - x3.toInt ≤ (n17 : Int)) → x1.toInt ≤ (n : Int) → ps_At (d + 1) 228 110 [(0, .ref 1131), (1, .int x1), (2, .int x2), (3, .int x3)] [] s Q := by
  refine xstr (fun n ih => ?_)
  intro x1 x2 x3 m1 c m3 s J K hS hM i2 i3 i4 i5 i6 i7 i8 i9 hm17 hm
  refine pg_228_110 (d := d) ?_
  have h34 := hM.1
  have hl : (ml.length : Int) = m1.length + (m3.length + 1) := by rw [i3, llen, llenc]
  have i4 : x3.toInt = (m1.length : Int) := i4
  refine And.intro (fun h1 => ?_) (fun h1 => ?_)
  · have f2 : x1.toInt ≤ (0 : Int) := xle h1
    exact ms_228_148 (σ := σ) (ml := ml) (b := b) k n17 KH17 x1 x2 x3 m1 c m3 _ J K hS hM (by assumption) (by assumption) (by assumption) (show 0 ≤ x1.toInt from by omega) (show x1.toInt ≤ x3.toInt + 1 from by omega) (show 0 ≤ x2.toInt from by omega) (show x2.toInt ≤ 5 from by omega) (i9) (Or.inl (show x1.toInt = 0 from by omega)) (show 40 - x3.toInt ≤ (n17 : Int) from by omega)
  · have f3 : (0 : Int) < x1.toInt := xlt h1
    have a4 : (x1 - 1).toInt = x1.toInt - (1 : Int) := xIs (show -2147483648 ≤ x1.toInt - (1 : Int) from by omega) (show x1.toInt - (1 : Int) < 2147483648 from by omega)
    refine ps_nd_i (show pm_in (x1 - 1) 260 = true from xgi (show 0 ≤ (x1 - 1).toInt from by omega) (show (x1 - 1).toInt < 260 from by omega)) ?_
    have e6 : Int32.toNatClampNeg (x1 - 1) = (x1.toInt - 1).toNat := by show (x1 - 1).toInt.toNat = _; rw [show (x1 - 1).toInt = x1.toInt - (1 : Int) from by omega]
    refine And.intro (fun h5 => ?_) (fun h5 => ?_)
    · have f6 : (ps_a s 1150 (Int32.toNatClampNeg (x1 - 1))).toInt ≠ (0 : Int) := xne h5
      exact ms_228_148 (σ := σ) (ml := ml) (b := b) k n17 KH17 x1 x2 x3 m1 c m3 _ J K hS hM (by assumption) (by assumption) (by assumption) (show 0 ≤ x1.toInt from by omega) (show x1.toInt ≤ x3.toInt + 1 from by omega) (show 0 ≤ x2.toInt from by omega) (show x2.toInt ≤ 5 from by omega) (i9) (Or.inr (by rw [← e6]; omega)) (show 40 - x3.toInt ≤ (n17 : Int) from by omega)
    · have f7 : (ps_a s 1150 (Int32.toNatClampNeg (x1 - 1))).toInt = (0 : Int) := xeq h5
      generalize hx9 : (x1 + (Int32.ofInt (-1))) = xd8
      have a10 : xd8.toInt = x1.toInt + (-1) := by rw [← hx9]; exact xdec (show -2147483648 < x1.toInt from by omega)
      clear hx9
      exact ms_228_128 (σ := σ) (ml := ml) (b := b) k n17 KH17 n (fun x1z x2z x3z m1z cz m3z sz Jz Kz i0z i1z i2z i3z i4z i5z i6z i7z i8z i9z hm17z hm => ih (n - 1) (show n - 1 < n from by omega) x1z x2z x3z m1z cz m3z sz Jz Kz i0z i1z i2z i3z i4z i5z i6z i7z i8z i9z hm17z (show _ ≤ ((n - 1 : Nat) : Int) from by omega)) xd8 x2 x3 m1 c m3 _ J K hS hM (by assumption) (by assumption) (by assumption) (show 0 ≤ xd8.toInt from by omega) (show xd8.toInt ≤ x3.toInt from by omega) (show 0 ≤ x2.toInt from by omega) (show x2.toInt ≤ 5 from by omega) ((by rw [show (xd8).toInt + 1 = x1.toInt from by omega]; exact i9)) ((by rw [show ((xd8).toInt).toNat = (x1.toInt - 1).toNat from by omega, ← e6]; omega)) (show 40 - x3.toInt ≤ (n17 : Int) from by omega) (show xd8.toInt + 1 ≤ ((n : Nat) : Int) from by omega)

theorem ms_228_70 {x : Nat → Nat → Nat} {t : Int32} {d : Nat} {s0 : ps_S} {σ : mSig} {ml : List Nat} {b : Bool} {Q : Option Value → ps_S → Prop} (k : ∀ (v : Int32) (s' : ps_S), mJ x t s' → kp [1150, 1151] [] s0 s' → (v.toInt = 0 ∨ (ml.length ≤ 40 ∧ wf σ 5 ml [(b, 0)])) → v &&& 1 = v → Q (some (.int v)) s') (n17 : Nat) (KH17 : ∀ (x1 : Int32) (x2 : Int32) (x3 : Int32) (m1 : List Nat) (m2 : List Nat) (s : ps_S), (mJ x t s) → (kp [1150, 1151] [] s0 s) → (Sg (ps_a s 1135) (ps_a s 1136) (ps_a s 1138) (ps_a s 1139) (ps_i s 1131 21).toInt σ) → (Md (ps_a s 1149) (ps_i s 1131 34).toInt ml) → (ml.length ≤ 40) → (ml = m1 ++ m2) → (x3.toInt = (m1.length : Int)) → (0 ≤ x1.toInt) → (x1.toInt ≤ x3.toInt) → (0 ≤ x2.toInt) → (x2.toInt ≤ 5) → (R17 σ (ps_a s 1150) (ps_a s 1151) x1.toInt x2.toInt m2 ml b) → (40 - x3.toInt ≤ (n17 : Int) - 1) → ps_At (d + 1) 228 17 [(0, .ref 1131), (1, .int x1), (2, .int x2), (3, .int x3)] [] s Q) (x1 : Int32) (x2 : Int32) (x3 : Int32) (x4 : Int32) (m1 : List Nat) (c : Nat) (m3 : List Nat) (s : ps_S) (J : mJ x t s) (K : kp [1150, 1151] [] s0 s) (hS : Sg (ps_a s 1135) (ps_a s 1136) (ps_a s 1138) (ps_a s 1139) (ps_i s 1131 21).toInt σ) (hM : Md (ps_a s 1149) (ps_i s 1131 34).toInt ml) (i2 : ml.length ≤ 40) (i3 : ml = m1 ++ c :: m3) (i4 : x3.toInt = (m1.length : Int)) (i5 : 0 ≤ x1.toInt) (i6 : x1.toInt ≤ x3.toInt) (i7 : 0 ≤ x2.toInt) (i8 : x2.toInt ≤ 5) (i9 : R17 σ (ps_a s 1150) (ps_a s 1151) x1.toInt x2.toInt (c :: m3) ml b) (i10 : (x4.toInt = 1 ∧ (c = 4 ∨ c = 5)) ∨ (x4.toInt = 0 ∧ ¬ (c = 4 ∨ c = 5))) (i11 : x1.toInt ≤ 12) (i12 : x4.toInt = 0 ∨ x2.toInt ≤ 4) (hm17 : 40 - x3.toInt ≤ (n17 : Int)) : ps_At (d + 1) 228 70 [(0, .ref 1131), (1, .int x1), (2, .int x2), (3, .int x3), (4, .int x4)] [] s Q := by
  refine pg_228_70 (d := d) ?_
  have h34 := hM.1
  have hl : (ml.length : Int) = m1.length + (m3.length + 1) := by rw [i3, llen, llenc]
  have i4 : x3.toInt = (m1.length : Int) := i4
  have hp : (ps_a s 1149 (Int32.toNatClampNeg x3)).toInt = (c : Int) := Md_p (l1 := m1) (l2 := m3) (by rw [← i3]; exact hM) i4 (by omega)
  obtain ⟨b0, ks, hk⟩ := R17_k i9
  have ex : Int32.toNatClampNeg x1 = x1.toInt.toNat := rfl
  have hlk := kS_le hS hk
  refine ps_nd_i (show pm_in x3 260 = true from xgi (show 0 ≤ x3.toInt from by omega) (show x3.toInt < 260 from by omega)) ?_
  refine ms_218 J hS (hk) (hp) (fun v1 p1_0 => ?_)
  have hv : v1.toInt = (ks.length : Int) := p1_0
  refine ps_nd_i (show pm_in x1 260 = true from xgi (show 0 ≤ x1.toInt from by omega) (show x1.toInt < 260 from by omega)) ?_
  have J2 := mwa_n 1150 (i := (Int32.toNatClampNeg x1)) (v := v1) J rfl (by decide)
  have K3 := kpa' K (r := 1150) (i := (Int32.toNatClampNeg x1)) (v := v1) rfl
  have e4 : (ps_a (ps_ua s 1150 (Int32.toNatClampNeg x1) v1) 1150 x1.toInt.toNat).toInt = (ks.length : Int) := by rw [show ps_a (ps_ua s 1150 (Int32.toNatClampNeg x1) v1) 1150 x1.toInt.toNat = _ from ua_eq]; exact hv
  refine ps_nd_i (show pm_in x1 260 = true from xgi (show 0 ≤ x1.toInt from by omega) (show x1.toInt < 260 from by omega)) ?_
  have J4 := mwa_n 1151 (i := (Int32.toNatClampNeg x1)) (v := (x4 &&& 1)) J2 rfl (by decide)
  have K5 := kpa' K3 (r := 1151) (i := (Int32.toNatClampNeg x1)) (v := (x4 &&& 1)) rfl
  have e5 : ps_a (ps_ua (ps_ua s 1150 (Int32.toNatClampNeg x1) v1) 1151 (Int32.toNatClampNeg x1) (x4 &&& 1)) 1151 x1.toInt.toNat = (x4 &&& 1) := ua_eq
  have e8 : (x4 &&& 1) = x4 := xb1 (by rcases i10 with z | z; right; exact z.1; left; exact z.1)
  refine And.intro (fun h6 => ?_) (fun h6 => ?_)
  · have f7 : x4.toInt = (0 : Int) := xeq h6
    have a8 : (x2 + 0).toInt = x2.toInt + (0 : Int) := xIa (show -2147483648 ≤ x2.toInt + (0 : Int) from by omega) (show x2.toInt + (0 : Int) < 2147483648 from by omega)
    have a9 : (x1 + 1).toInt = x1.toInt + (1 : Int) := xIa (show -2147483648 ≤ x1.toInt + (1 : Int) from by omega) (show x1.toInt + (1 : Int) < 2147483648 from by omega)
    exact ms_228_110 (σ := σ) (ml := ml) (b := b) k n17 KH17 ((x1 + 1).toInt).toNat (x1 + 1) (x2 + 0) x3 m1 c m3 _ J4 K5 hS hM (by assumption) (by assumption) (by assumption) (show 0 ≤ (x1 + 1).toInt from by omega) (show (x1 + 1).toInt ≤ x3.toInt + 1 from by omega) (show 0 ≤ (x2 + 0).toInt from by omega) (show (x2 + 0).toInt ≤ 5 from by omega) ((by rw [show ((x1 + 1)).toInt = x1.toInt + 1 from by omega]; exact R17_c i9 (by omega) (by omega) (by rcases i10 with ⟨z1, z2⟩ | ⟨z1, z2⟩; rw [if_pos z2]; omega; rw [if_neg z2]; omega) (by rw [show ps_a _ 1151 x1.toInt.toNat = _ from e5, e8]; rcases i10 with ⟨z1, z2⟩ | ⟨z1, z2⟩; exact ⟨fun z => absurd z1 (by rw [z]; decide), fun z => absurd z2 z⟩; exact ⟨fun _ => z2, fun _ => Int32.toInt_inj.mp z1⟩) (fun i hi => ⟨(ua_ne (by omega)).trans (ua_ne (by omega)), (ua_ne (by omega)).trans (ua_ne (by omega))⟩) (fun b1 ks1 hk1 => e4.trans (by rw [kS_len (Sg_σ hS) hk hk1])))) (show 40 - x3.toInt ≤ (n17 : Int) from by omega) (show (x1 + 1).toInt ≤ ((((x1 + 1).toInt).toNat : Nat) : Int) from by omega)
  · have f10 : x4.toInt ≠ (0 : Int) := xne h6
    have a11 : (x2 + 1).toInt = x2.toInt + (1 : Int) := xIa (show -2147483648 ≤ x2.toInt + (1 : Int) from by omega) (show x2.toInt + (1 : Int) < 2147483648 from by omega)
    have a12 : (x1 + 1).toInt = x1.toInt + (1 : Int) := xIa (show -2147483648 ≤ x1.toInt + (1 : Int) from by omega) (show x1.toInt + (1 : Int) < 2147483648 from by omega)
    exact ms_228_110 (σ := σ) (ml := ml) (b := b) k n17 KH17 ((x1 + 1).toInt).toNat (x1 + 1) (x2 + 1) x3 m1 c m3 _ J4 K5 hS hM (by assumption) (by assumption) (by assumption) (show 0 ≤ (x1 + 1).toInt from by omega) (show (x1 + 1).toInt ≤ x3.toInt + 1 from by omega) (show 0 ≤ (x2 + 1).toInt from by omega) (show (x2 + 1).toInt ≤ 5 from by omega) ((by rw [show ((x1 + 1)).toInt = x1.toInt + 1 from by omega]; exact R17_c i9 (by omega) (by omega) (by rcases i10 with ⟨z1, z2⟩ | ⟨z1, z2⟩; rw [if_pos z2]; omega; rw [if_neg z2]; omega) (by rw [show ps_a _ 1151 x1.toInt.toNat = _ from e5, e8]; rcases i10 with ⟨z1, z2⟩ | ⟨z1, z2⟩; exact ⟨fun z => absurd z1 (by rw [z]; decide), fun z => absurd z2 z⟩; exact ⟨fun _ => z2, fun _ => Int32.toInt_inj.mp z1⟩) (fun i hi => ⟨(ua_ne (by omega)).trans (ua_ne (by omega)), (ua_ne (by omega)).trans (ua_ne (by omega))⟩) (fun b1 ks1 hk1 => e4.trans (by rw [kS_len (Sg_σ hS) hk hk1])))) (show 40 - x3.toInt ≤ (n17 : Int) from by omega) (show (x1 + 1).toInt ≤ ((((x1 + 1).toInt).toNat : Nat) : Int) from by omega)

theorem ms_228_45 {x : Nat → Nat → Nat} {t : Int32} {d : Nat} {s0 : ps_S} {σ : mSig} {ml : List Nat} {b : Bool} {Q : Option Value → ps_S → Prop} (k : ∀ (v : Int32) (s' : ps_S), mJ x t s' → kp [1150, 1151] [] s0 s' → (v.toInt = 0 ∨ (ml.length ≤ 40 ∧ wf σ 5 ml [(b, 0)])) → v &&& 1 = v → Q (some (.int v)) s') (n17 : Nat) (KH17 : ∀ (x1 : Int32) (x2 : Int32) (x3 : Int32) (m1 : List Nat) (m2 : List Nat) (s : ps_S), (mJ x t s) → (kp [1150, 1151] [] s0 s) → (Sg (ps_a s 1135) (ps_a s 1136) (ps_a s 1138) (ps_a s 1139) (ps_i s 1131 21).toInt σ) → (Md (ps_a s 1149) (ps_i s 1131 34).toInt ml) → (ml.length ≤ 40) → (ml = m1 ++ m2) → (x3.toInt = (m1.length : Int)) → (0 ≤ x1.toInt) → (x1.toInt ≤ x3.toInt) → (0 ≤ x2.toInt) → (x2.toInt ≤ 5) → (R17 σ (ps_a s 1150) (ps_a s 1151) x1.toInt x2.toInt m2 ml b) → (40 - x3.toInt ≤ (n17 : Int) - 1) → ps_At (d + 1) 228 17 [(0, .ref 1131), (1, .int x1), (2, .int x2), (3, .int x3)] [] s Q) (x1 : Int32) (x2 : Int32) (x3 : Int32) (m1 : List Nat) (c : Nat) (m3 : List Nat) (s : ps_S) (J : mJ x t s) (K : kp [1150, 1151] [] s0 s) (hS : Sg (ps_a s 1135) (ps_a s 1136) (ps_a s 1138) (ps_a s 1139) (ps_i s 1131 21).toInt σ) (hM : Md (ps_a s 1149) (ps_i s 1131 34).toInt ml) (i2 : ml.length ≤ 40) (i3 : ml = m1 ++ c :: m3) (i4 : x3.toInt = (m1.length : Int)) (i5 : 0 ≤ x1.toInt) (i6 : x1.toInt ≤ x3.toInt) (i7 : 0 ≤ x2.toInt) (i8 : x2.toInt ≤ 5) (i9 : R17 σ (ps_a s 1150) (ps_a s 1151) x1.toInt x2.toInt (c :: m3) ml b) (i10 : c = 4 ∨ c = 5) (hm17 : 40 - x3.toInt ≤ (n17 : Int)) : ps_At (d + 1) 228 45 [(0, .ref 1131), (1, .int x1), (2, .int x2), (3, .int x3)] [] s Q := by
  refine pg_228_45 (d := d) ?_
  refine And.intro (fun h1 => ?_) (fun h1 => ?_)
  · have f2 : (12 : Int) < x1.toInt := xlt h1
    exact k (0 : Int32) _ J K (Or.inl rfl) (by decide)
  · have f3 : x1.toInt ≤ (12 : Int) := xle h1
    refine And.intro (fun h4 => ?_) (fun h4 => ?_)
    · exact absurd (show (1 : Int32) = (0 : Int32) from h4) (by decide)
    · have f5 : (1 : Int) ≠ (0 : Int) := xne h4
      refine And.intro (fun h6 => ?_) (fun h6 => ?_)
      · have f7 : x2.toInt ≤ (4 : Int) := xle h6
        exact ms_228_70 (σ := σ) (ml := ml) (b := b) k n17 KH17 x1 x2 x3 (1) m1 c m3 _ J K hS hM (by assumption) (by assumption) (by assumption) (show 0 ≤ x1.toInt from by omega) (show x1.toInt ≤ x3.toInt from by omega) (show 0 ≤ x2.toInt from by omega) (show x2.toInt ≤ 5 from by omega) (i9) (Or.inl ⟨rfl, i10⟩) (show x1.toInt ≤ 12 from by omega) (show (1 : Int) = 0 ∨ x2.toInt ≤ 4 from by omega) (show 40 - x3.toInt ≤ (n17 : Int) from by omega)
      · have f8 : (4 : Int) < x2.toInt := xlt h6
        exact k (0 : Int32) _ J K (Or.inl rfl) (by decide)

theorem ms_228_17 {x : Nat → Nat → Nat} {t : Int32} {d : Nat} {s0 : ps_S} {σ : mSig} {ml : List Nat} {b : Bool} {Q : Option Value → ps_S → Prop} (k : ∀ (v : Int32) (s' : ps_S), mJ x t s' → kp [1150, 1151] [] s0 s' → (v.toInt = 0 ∨ (ml.length ≤ 40 ∧ wf σ 5 ml [(b, 0)])) → v &&& 1 = v → Q (some (.int v)) s') : ∀ (n : Nat) (x1 : Int32) (x2 : Int32) (x3 : Int32) (m1 : List Nat) (m2 : List Nat) (s : ps_S), (mJ x t s) → (kp [1150, 1151] [] s0 s) → (Sg (ps_a s 1135) (ps_a s 1136) (ps_a s 1138) (ps_a s 1139) (ps_i s 1131 21).toInt σ) → (Md (ps_a s 1149) (ps_i s 1131 34).toInt ml) → (ml.length ≤ 40) → (ml = m1 ++ m2) → (x3.toInt = (m1.length : Int)) → (0 ≤ x1.toInt) → (x1.toInt ≤ x3.toInt) → (0 ≤ x2.toInt) → (x2.toInt ≤ 5) → (R17 σ (ps_a s 1150) (ps_a s 1151) x1.toInt x2.toInt m2 ml b) → 40 - x3.toInt ≤ (n : Int) → ps_At (d + 1) 228 17 [(0, .ref 1131), (1, .int x1), (2, .int x2), (3, .int x3)] [] s Q := by
  refine xstr (fun n ih => ?_)
  intro x1 x2 x3 m1 m2 s J K hS hM i2 i3 i4 i5 i6 i7 i8 i9 hm
  refine pg_228_17 (d := d) ?_
  have h34 := hM.1
  have hl : (ml.length : Int) = m1.length + m2.length := by rw [i3]; exact llen
  have i4 : x3.toInt = (m1.length : Int) := i4
  have r1 := mf_34 J
  refine And.intro (fun h2 => ?_) (fun h2 => ?_)
  · have f3 : (ps_i s 1131 34).toInt ≤ x3.toInt := xle h2
    have e0 := lnil (W := m2) (by omega)
    subst e0
    exact k (1 : Int32) _ J K (Or.inr ⟨i2, R17_nil i9⟩) (by decide)
  · have f4 : x3.toInt < (ps_i s 1131 34).toInt := xlt h2
    obtain ⟨c, m3, rfl⟩ := lpos (W := m2) (by omega)
    rw [llenc] at hl
    have hp : (ps_a s 1149 (Int32.toNatClampNeg x3)).toInt = (c : Int) := Md_p (l1 := m1) (l2 := m3) (by rw [← i3]; exact hM) i4 (by omega)
    refine ps_nd_i (show pm_in x3 260 = true from xgi (show 0 ≤ x3.toInt from by omega) (show x3.toInt < 260 from by omega)) ?_
    refine And.intro (fun h5 => ?_) (fun h5 => ?_)
    · have f6 : (ps_a s 1149 (Int32.toNatClampNeg x3)).toInt = (4 : Int) := xeq h5
      exact ms_228_45 (σ := σ) (ml := ml) (b := b) k n (fun x1z x2z x3z m1z m2z sz Jz Kz i0z i1z i2z i3z i4z i5z i6z i7z i8z i9z hm => ih (n - 1) (show n - 1 < n from by omega) x1z x2z x3z m1z m2z sz Jz Kz i0z i1z i2z i3z i4z i5z i6z i7z i8z i9z (show _ ≤ ((n - 1 : Nat) : Int) from by omega)) x1 x2 x3 m1 c m3 _ J K hS hM (by assumption) (by assumption) (by assumption) (show 0 ≤ x1.toInt from by omega) (show x1.toInt ≤ x3.toInt from by omega) (show 0 ≤ x2.toInt from by omega) (show x2.toInt ≤ 5 from by omega) (i9) ((by omega)) (show 40 - x3.toInt ≤ ((n : Nat) : Int) from by omega)
    · have f7 : (ps_a s 1149 (Int32.toNatClampNeg x3)).toInt ≠ (4 : Int) := xne h5
      refine ps_nd_i (show pm_in x3 260 = true from xgi (show 0 ≤ x3.toInt from by omega) (show x3.toInt < 260 from by omega)) ?_
      refine And.intro (fun h8 => ?_) (fun h8 => ?_)
      · have f9 : (ps_a s 1149 (Int32.toNatClampNeg x3)).toInt ≠ (5 : Int) := xne h8
        refine And.intro (fun h10 => ?_) (fun h10 => ?_)
        · have f11 : (12 : Int) < x1.toInt := xlt h10
          exact k (0 : Int32) _ J K (Or.inl rfl) (by decide)
        · have f12 : x1.toInt ≤ (12 : Int) := xle h10
          refine And.intro (fun h13 => ?_) (fun h13 => ?_)
          · exact ms_228_70 (σ := σ) (ml := ml) (b := b) k n (fun x1z x2z x3z m1z m2z sz Jz Kz i0z i1z i2z i3z i4z i5z i6z i7z i8z i9z hm => ih (n - 1) (show n - 1 < n from by omega) x1z x2z x3z m1z m2z sz Jz Kz i0z i1z i2z i3z i4z i5z i6z i7z i8z i9z (show _ ≤ ((n - 1 : Nat) : Int) from by omega)) x1 x2 x3 (0) m1 c m3 _ J K hS hM (by assumption) (by assumption) (by assumption) (show 0 ≤ x1.toInt from by omega) (show x1.toInt ≤ x3.toInt from by omega) (show 0 ≤ x2.toInt from by omega) (show x2.toInt ≤ 5 from by omega) (i9) (Or.inr ⟨rfl, by omega⟩) (show x1.toInt ≤ 12 from by omega) (show (0 : Int) = 0 ∨ x2.toInt ≤ 4 from by omega) (show 40 - x3.toInt ≤ ((n : Nat) : Int) from by omega)
          · exact absurd (show (0 : Int32) ≠ (0 : Int32) from h13) (by decide)
      · have f14 : (ps_a s 1149 (Int32.toNatClampNeg x3)).toInt = (5 : Int) := xeq h8
        exact ms_228_45 (σ := σ) (ml := ml) (b := b) k n (fun x1z x2z x3z m1z m2z sz Jz Kz i0z i1z i2z i3z i4z i5z i6z i7z i8z i9z hm => ih (n - 1) (show n - 1 < n from by omega) x1z x2z x3z m1z m2z sz Jz Kz i0z i1z i2z i3z i4z i5z i6z i7z i8z i9z (show _ ≤ ((n - 1 : Nat) : Int) from by omega)) x1 x2 x3 m1 c m3 _ J K hS hM (by assumption) (by assumption) (by assumption) (show 0 ≤ x1.toInt from by omega) (show x1.toInt ≤ x3.toInt from by omega) (show 0 ≤ x2.toInt from by omega) (show x2.toInt ≤ 5 from by omega) (i9) ((by omega)) (show 40 - x3.toInt ≤ ((n : Nat) : Int) from by omega)

theorem ms_228 {x : Nat → Nat → Nat} {t : Int32} {s : ps_S} {d : Nat} {f : Int32 → ps_S → Prop} (J : mJ x t s) {σ : mSig} {ml : List Nat} {b : Bool} (hS : Sg (ps_a s 1135) (ps_a s 1136) (ps_a s 1138) (ps_a s 1139) (ps_i s 1131 21).toInt σ) (hM : Md (ps_a s 1149) (ps_i s 1131 34).toInt ml) (q2 : ws σ ml [b]) (k : ∀ (v : Int32) (s' : ps_S), mJ x t s' → kp [1150, 1151] [] s s' → (v.toInt = 0 ∨ (ml.length ≤ 40 ∧ wf σ 5 ml [(b, 0)])) → v &&& 1 = v → f v s') : ps_Cl (d + 1) 228 [.ref 1131] s (ps_rI f) := by
  have K : kp [1150, 1151] [] s s := kp_refl
  refine pg_228_0 (d := d) ?_
  have h34 := hM.1
  have r1 := mf_34 J
  refine And.intro (fun h2 => ?_) (fun h2 => ?_)
  · have f3 : (ps_i s 1131 34).toInt ≤ (40 : Int) := xle h2
    exact ms_228_17 (σ := σ) (ml := ml) (b := b) k  (40 - (0 : Int)).toNat (0) (0) (0) [] ml _ J K hS hM ((by omega)) (rfl) (rfl) (show 0 ≤ (0 : Int) from by omega) (show (0 : Int) ≤ (0 : Int) from by omega) (show 0 ≤ (0 : Int) from by omega) (show (0 : Int) ≤ 5 from by omega) (R17_0 q2) (show 40 - (0 : Int) ≤ (((40 - (0 : Int)).toNat : Nat) : Int) from by omega)
  · have f4 : (40 : Int) < (ps_i s 1131 34).toInt := xlt h2
    exact k (0 : Int32) _ J K (Or.inl rfl) (by decide)
end
section
set_option maxRecDepth 100000
-- ProofBenchModel.putIn(III)V
theorem pg_231_0 {d : Nat} {x1 : Int32} {x2 : Int32} {x3 : Int32} {s : ps_S} {Q : Option Value → ps_S → Prop} (h :
  ps_At (d + 1) 231 6 [(0, .ref 1131), (1, .int x1), (2, .int x2), (3, .int x3), (4, .int 0), (5, .int 1)] [] s Q) : ps_At (d + 1) 231 0 [(0, .ref 1131), (1, .int x1), (2, .int x2), (3, .int x3)] [] s Q :=
  ps_wp_at (stops := [(6, [0, 1, 2, 3, 4, 5]), (16, [0, 1, 2, 3, 4, 5]), (41, [0, 1, 2, 3, 4, 5]), (89, [0, 1, 2, 3, 4, 5, 6]), (101, [0, 1, 2, 3, 4, 5])]) (n := 6) h rfl

theorem pg_231_6 {d : Nat} {x1 : Int32} {x2 : Int32} {x3 : Int32} {x4 : Int32} {x5 : Int32} {s : ps_S} {Q : Option Value → ps_S → Prop} (h :
  ps_Cl d 219 [.ref 1131, .int x1] s (ps_rI (fun v1 s1 =>
    (v1 ≤ x5 →
      Q none s1) ∧
    (x5 < v1 →
      ps_At (d + 1) 231 16 [(0, .ref 1131), (1, .int x1), (2, .int x2), (3, .int x3), (4, .int x4), (5, .int x5)] [] s1 Q)))) : ps_At (d + 1) 231 6 [(0, .ref 1131), (1, .int x1), (2, .int x2), (3, .int x3), (4, .int x4), (5, .int x5)] [] s Q :=
  ps_wp_at (stops := [(6, [0, 1, 2, 3, 4, 5]), (16, [0, 1, 2, 3, 4, 5]), (41, [0, 1, 2, 3, 4, 5]), (89, [0, 1, 2, 3, 4, 5, 6]), (101, [0, 1, 2, 3, 4, 5])]) (n := 8) h rfl

theorem pg_231_16 {d : Nat} {x1 : Int32} {x2 : Int32} {x3 : Int32} {x4 : Int32} {x5 : Int32} {s : ps_S} {Q : Option Value → ps_S → Prop} (h :
  (x4 ≤ 0 →
    ps_At (d + 1) 231 41 [(0, .ref 1131), (1, .int x1), (2, .int x2), (3, .int x3), (4, .int x4), (5, .int x5)] [] s Q) ∧
  (0 < x4 →
    ps_nd (pm_in (x4 - 1) 260) ((x5 < (ps_a s 1150 (Int32.toNatClampNeg (x4 - 1))) →
      ps_At (d + 1) 231 41 [(0, .ref 1131), (1, .int x1), (2, .int x2), (3, .int x3), (4, .int x4), (5, .int x5)] [] s Q) ∧
    ((ps_a s 1150 (Int32.toNatClampNeg (x4 - 1))) ≤ x5 →
      ps_At (d + 1) 231 16 [(0, .ref 1131), (1, .int x1), (2, .int x2), (3, .int x3), (4, .int (x4 + (Int32.ofInt (-1)))), (5, .int x5)] [] s Q)))) : ps_At (d + 1) 231 16 [(0, .ref 1131), (1, .int x1), (2, .int x2), (3, .int x3), (4, .int x4), (5, .int x5)] [] s Q :=
  ps_wp_at (stops := [(6, [0, 1, 2, 3, 4, 5]), (16, [0, 1, 2, 3, 4, 5]), (41, [0, 1, 2, 3, 4, 5]), (89, [0, 1, 2, 3, 4, 5, 6]), (101, [0, 1, 2, 3, 4, 5])]) (n := 14) h rfl

theorem pg_231_41 {d : Nat} {x1 : Int32} {x2 : Int32} {x3 : Int32} {x4 : Int32} {x5 : Int32} {s : ps_S} {Q : Option Value → ps_S → Prop} (h :
  ps_Cl d 220 [.ref 1131, .int x1, .int x5] s (ps_rI (fun v1 s1 =>
    (v1 ≠ ((40 : Int32) + x4) →
      ps_Cl d 225 [.ref 1131, .int v1] s1 (ps_rV (fun s2 =>
        ps_At (d + 1) 231 89 [(0, .ref 1131), (1, .int x1), (2, .int x2), (3, .int x3), (4, .int x4), (5, .int x5), (6, .int v1)] [] s2 Q))) ∧
    (v1 = ((40 : Int32) + x4) →
      (x2 < 0 →
        ps_Cl d 225 [.ref 1131, .int ((60 : Int32) + x3)] s1 (ps_rV (fun s3 =>
          ps_At (d + 1) 231 89 [(0, .ref 1131), (1, .int x1), (2, .int x2), (3, .int x3), (4, .int x4), (5, .int x5), (6, .int v1)] [] s3 Q))) ∧
      (0 ≤ x2 →
        ps_Cl d 227 [.ref 1131, .int x2] s1 (ps_rV (fun s4 =>
          ps_At (d + 1) 231 89 [(0, .ref 1131), (1, .int x1), (2, .int x2), (3, .int x3), (4, .int x4), (5, .int x5), (6, .int v1)] [] s4 Q))))))) : ps_At (d + 1) 231 41 [(0, .ref 1131), (1, .int x1), (2, .int x2), (3, .int x3), (4, .int x4), (5, .int x5)] [] s Q :=
  ps_wp_at (stops := [(6, [0, 1, 2, 3, 4, 5]), (16, [0, 1, 2, 3, 4, 5]), (41, [0, 1, 2, 3, 4, 5]), (89, [0, 1, 2, 3, 4, 5, 6]), (101, [0, 1, 2, 3, 4, 5])]) (n := 27) h rfl

theorem pg_231_89 {d : Nat} {x1 : Int32} {x2 : Int32} {x3 : Int32} {x4 : Int32} {x5 : Int32} {x6 : Int32} {s : ps_S} {Q : Option Value → ps_S → Prop} (h :
  (x6 = 4 →
    ps_At (d + 1) 231 101 [(0, .ref 1131), (1, .int x1), (2, .int x2), (3, .int x3), (4, .int x4), (5, .int x5)] [] s Q) ∧
  (x6 ≠ 4 →
    (x6 ≠ 5 →
      ps_At (d + 1) 231 6 [(0, .ref 1131), (1, .int x1), (2, .int x2), (3, .int x3), (4, .int x4), (5, .int (x5 + 1))] [] s Q) ∧
    (x6 = 5 →
      ps_At (d + 1) 231 101 [(0, .ref 1131), (1, .int x1), (2, .int x2), (3, .int x3), (4, .int x4), (5, .int x5)] [] s Q))) : ps_At (d + 1) 231 89 [(0, .ref 1131), (1, .int x1), (2, .int x2), (3, .int x3), (4, .int x4), (5, .int x5), (6, .int x6)] [] s Q :=
  ps_wp_at (stops := [(6, [0, 1, 2, 3, 4, 5]), (16, [0, 1, 2, 3, 4, 5]), (41, [0, 1, 2, 3, 4, 5]), (89, [0, 1, 2, 3, 4, 5, 6]), (101, [0, 1, 2, 3, 4, 5])]) (n := 10) h rfl

theorem pg_231_101 {d : Nat} {x1 : Int32} {x2 : Int32} {x3 : Int32} {x4 : Int32} {x5 : Int32} {s : ps_S} {Q : Option Value → ps_S → Prop} (h :
  ps_Cl d 221 [.ref 1131, .int x1, .int x5] s (ps_rI (fun v1 s1 =>
    ps_nd (pm_in x4 260) (ps_At (d + 1) 231 6 [(0, .ref 1131), (1, .int x1), (2, .int x2), (3, .int x3), (4, .int (x4 + 1)), (5, .int (x5 + 1))] [] (ps_ua s1 1150 (Int32.toNatClampNeg x4) v1) Q)))) : ps_At (d + 1) 231 101 [(0, .ref 1131), (1, .int x1), (2, .int x2), (3, .int x3), (4, .int x4), (5, .int x5)] [] s Q :=
  ps_wp_at (stops := [(6, [0, 1, 2, 3, 4, 5]), (16, [0, 1, 2, 3, 4, 5]), (41, [0, 1, 2, 3, 4, 5]), (89, [0, 1, 2, 3, 4, 5, 6]), (101, [0, 1, 2, 3, 4, 5])]) (n := 13) h rfl

theorem ms_231_101 {x : Nat → Nat → Nat} {t : Int32} {d : Nat} {s0 : ps_S} {σ : mSig} {c0 : Nat} {body_k ml : List Nat} {Wb_k : List Bool} {x1 : Int32} {x2 : Int32} {x3 : Int32} {Q : Option Value → ps_S → Prop} (k : ∀ (s' : ps_S), mJ x t s' → kp [1149, 1150] [34] s0 s' → (∃ m : List Nat, m.length ≤ 1600 ∧ rp σ body_k m ∧ Md (ps_a s' 1149) (ps_i s' 1131 34).toInt (ml ++ m)) → Q none s') (n6 : Nat) (KH6 : ∀ (x4 : Int32) (x5 : Int32) (b1_k : List Nat) (b2_k : List Nat) (W_k : List Bool) (m1_k : List Nat) (s : ps_S), (mJ x t s) → (kp [1149, 1150] [34] s0 s) → (Sg (ps_a s 1135) (ps_a s 1136) (ps_a s 1138) (ps_a s 1139) (ps_i s 1131 21).toInt σ) → (Rw (ps_a s 1134) x1.toInt (c0 :: body_k)) → ((x2.toInt < 0 ∧ 0 ≤ x3.toInt ∧ x3.toInt ≤ 11) ∨ (0 ≤ x2.toInt ∧ ∃ tl_k : List Nat, Rw (ps_a s 1134) x2.toInt tl_k ∧ ws σ tl_k [false])) → (ml.length ≤ 1000) → (0 ≤ x4.toInt) → (x4.toInt < x5.toInt) → (x5.toInt ≤ 40) → (x5.toInt = (1 + b1_k.length : Int)) → (body_k = b1_k ++ b2_k) → (ws σ b2_k W_k) → (rp σ b1_k m1_k) → (m1_k.length ≤ 40 * b1_k.length) → (Md (ps_a s 1149) (ps_i s 1131 34).toInt (ml ++ m1_k)) → (41 - x5.toInt ≤ (n6 : Int) - 1) → ps_At (d + 3) 231 6 [(0, .ref 1131), (1, .int x1), (2, .int x2), (3, .int x3), (4, .int x4), (5, .int x5)] [] s Q) (x4 : Int32) (x5 : Int32) (b1_k : List Nat) (c : Nat) (b3_k : List Nat) (W_k : List Bool) (m2_k : List Nat) (s : ps_S) (J : mJ x t s) (K : kp [1149, 1150] [34] s0 s) (hS : Sg (ps_a s 1135) (ps_a s 1136) (ps_a s 1138) (ps_a s 1139) (ps_i s 1131 21).toInt σ) (hR : Rw (ps_a s 1134) x1.toInt (c0 :: body_k)) (hT : (x2.toInt < 0 ∧ 0 ≤ x3.toInt ∧ x3.toInt ≤ 11) ∨ (0 ≤ x2.toInt ∧ ∃ tl_k : List Nat, Rw (ps_a s 1134) x2.toInt tl_k ∧ ws σ tl_k [false])) (i3_k : ml.length ≤ 1000) (i4_k : 0 ≤ x4.toInt) (i5_k : x4.toInt < x5.toInt) (i6_k : x5.toInt ≤ 40) (i7_k : x5.toInt = (1 + b1_k.length : Int)) (i8_k : body_k = b1_k ++ c :: b3_k) (i9_k : ws σ (c :: b3_k) W_k) (i10_k : rp σ (b1_k ++ [c]) m2_k) (i11_k : m2_k.length ≤ 40 * (b1_k.length + 1)) (i12_k : Md (ps_a s 1149) (ps_i s 1131 34).toInt (ml ++ m2_k)) (hm6 : 41 - x5.toInt ≤ (n6 : Int)) : ps_At (d + 3) 231 101 [(0, .ref 1131), (1, .int x1), (2, .int x2), (3, .int x3), (4, .int x4), (5, .int x5)] [] s Q := by
  refine pg_231_101 (d := d + 2) ?_
  obtain ⟨hr1, hr2, hr3, hr4, hr5, hr6⟩ := id hR
  have hr1 : x1.toInt % 41 = 0 := hr1
  have hr2 : 0 ≤ x1.toInt := hr2
  have hr3 : x1.toInt < 27306 := hr3
  have i7_k : x5.toInt = (1 + b1_k.length : Int) := i7_k
  have hl_k : (body_k.length : Int) = b1_k.length + (b3_k.length + 1) := by rw [i8_k, llen, llenc]
  have hr4 : body_k.length + 1 ≤ 40 := hr4
  obtain ⟨bb_k, W2_k, rfl⟩ := ws_W i9_k
  obtain ⟨ks_k, hk_k, hw_k⟩ := ws_hd i9_k
  obtain ⟨p, q, hpq_k, hp1, hp2⟩ := ws_split (W1 := [bb_k]) (W2 := W2_k) i9_k
  refine ms_221 J hS ((show Rw (ps_a s 1134) (x1).toInt ((c0 :: b1_k) ++ (p ++ q)) from by rw [← hpq_k]; have z_k := hR; rw [i8_k] at z_k; exact z_k)) ((i7_k.trans (by rw [llenc]; omega))) (hp1) (fun v1 p1_0 => ?_)
  refine ps_nd_i (show pm_in x4 260 = true from xgi (show 0 ≤ x4.toInt from by omega) (show x4.toInt < 260 from by omega)) ?_
  have J2 := mwa_n 1150 (i := (Int32.toNatClampNeg x4)) (v := v1) J rfl (by decide)
  have K3 := kpa' K (r := 1150) (i := (Int32.toNatClampNeg x4)) (v := v1) rfl
  have a4_k : (x4 + 1).toInt = x4.toInt + (1 : Int) := xIa (show -2147483648 ≤ x4.toInt + (1 : Int) from by omega) (show x4.toInt + (1 : Int) < 2147483648 from by omega)
  have a5_k : (x5 + 1).toInt = x5.toInt + (1 : Int) := xIa (show -2147483648 ≤ x5.toInt + (1 : Int) from by omega) (show x5.toInt + (1 : Int) < 2147483648 from by omega)
  exact KH6 (x4 + 1) (x5 + 1) (b1_k ++ [c]) b3_k (ks_k ++ W2_k) m2_k _ J2 K3 hS hR hT (by assumption) (show 0 ≤ (x4 + 1).toInt from by omega) (show (x4 + 1).toInt < (x5 + 1).toInt from by omega) (show (x5 + 1).toInt ≤ 40 from by omega) ((show ((x5 + 1)).toInt = (1 + (b1_k ++ [c]).length : Int) from by rw [l1c]; omega)) (i8_k.trans (lcat b1_k c b3_k)) (hw_k) (by assumption) ((by rw [List.length_append]; exact i11_k)) (by assumption) (show 41 - (x5 + 1).toInt ≤ (n6 : Int) - 1 from by omega)

theorem ms_231_89 {x : Nat → Nat → Nat} {t : Int32} {d : Nat} {s0 : ps_S} {σ : mSig} {c0 : Nat} {body_k ml : List Nat} {Wb_k : List Bool} {x1 : Int32} {x2 : Int32} {x3 : Int32} {Q : Option Value → ps_S → Prop} (k : ∀ (s' : ps_S), mJ x t s' → kp [1149, 1150] [34] s0 s' → (∃ m : List Nat, m.length ≤ 1600 ∧ rp σ body_k m ∧ Md (ps_a s' 1149) (ps_i s' 1131 34).toInt (ml ++ m)) → Q none s') (n6 : Nat) (KH6 : ∀ (x4 : Int32) (x5 : Int32) (b1_k : List Nat) (b2_k : List Nat) (W_k : List Bool) (m1_k : List Nat) (s : ps_S), (mJ x t s) → (kp [1149, 1150] [34] s0 s) → (Sg (ps_a s 1135) (ps_a s 1136) (ps_a s 1138) (ps_a s 1139) (ps_i s 1131 21).toInt σ) → (Rw (ps_a s 1134) x1.toInt (c0 :: body_k)) → ((x2.toInt < 0 ∧ 0 ≤ x3.toInt ∧ x3.toInt ≤ 11) ∨ (0 ≤ x2.toInt ∧ ∃ tl_k : List Nat, Rw (ps_a s 1134) x2.toInt tl_k ∧ ws σ tl_k [false])) → (ml.length ≤ 1000) → (0 ≤ x4.toInt) → (x4.toInt < x5.toInt) → (x5.toInt ≤ 40) → (x5.toInt = (1 + b1_k.length : Int)) → (body_k = b1_k ++ b2_k) → (ws σ b2_k W_k) → (rp σ b1_k m1_k) → (m1_k.length ≤ 40 * b1_k.length) → (Md (ps_a s 1149) (ps_i s 1131 34).toInt (ml ++ m1_k)) → (41 - x5.toInt ≤ (n6 : Int) - 1) → ps_At (d + 3) 231 6 [(0, .ref 1131), (1, .int x1), (2, .int x2), (3, .int x3), (4, .int x4), (5, .int x5)] [] s Q) (x4 : Int32) (x5 : Int32) (x6 : Int32) (b1_k : List Nat) (c : Nat) (b3_k : List Nat) (W_k : List Bool) (m2_k : List Nat) (s : ps_S) (J : mJ x t s) (K : kp [1149, 1150] [34] s0 s) (hS : Sg (ps_a s 1135) (ps_a s 1136) (ps_a s 1138) (ps_a s 1139) (ps_i s 1131 21).toInt σ) (hR : Rw (ps_a s 1134) x1.toInt (c0 :: body_k)) (hT : (x2.toInt < 0 ∧ 0 ≤ x3.toInt ∧ x3.toInt ≤ 11) ∨ (0 ≤ x2.toInt ∧ ∃ tl_k : List Nat, Rw (ps_a s 1134) x2.toInt tl_k ∧ ws σ tl_k [false])) (i3_k : ml.length ≤ 1000) (i4_k : 0 ≤ x4.toInt) (i5_k : x4.toInt < x5.toInt) (i6_k : x5.toInt ≤ 40) (i7_k : x5.toInt = (1 + b1_k.length : Int)) (i8_k : body_k = b1_k ++ c :: b3_k) (i9_k : ws σ (c :: b3_k) W_k) (i10_k : rp σ (b1_k ++ [c]) m2_k) (i11_k : m2_k.length ≤ 40 * (b1_k.length + 1)) (i12_k : Md (ps_a s 1149) (ps_i s 1131 34).toInt (ml ++ m2_k)) (i13_k : x6.toInt = (c : Int)) (hm6 : 41 - x5.toInt ≤ (n6 : Int)) : ps_At (d + 3) 231 89 [(0, .ref 1131), (1, .int x1), (2, .int x2), (3, .int x3), (4, .int x4), (5, .int x5), (6, .int x6)] [] s Q := by
  refine pg_231_89 (d := d + 2) ?_
  obtain ⟨hr1, hr2, hr3, hr4, hr5, hr6⟩ := id hR
  have hr1 : x1.toInt % 41 = 0 := hr1
  have hr2 : 0 ≤ x1.toInt := hr2
  have hr3 : x1.toInt < 27306 := hr3
  have i7_k : x5.toInt = (1 + b1_k.length : Int) := i7_k
  have hl_k : (body_k.length : Int) = b1_k.length + (b3_k.length + 1) := by rw [i8_k, llen, llenc]
  have hr4 : body_k.length + 1 ≤ 40 := hr4
  obtain ⟨bb_k, W2_k, rfl⟩ := ws_W i9_k
  obtain ⟨ks_k, hk_k, hw_k⟩ := ws_hd i9_k
  refine And.intro (fun h1_k => ?_) (fun h1_k => ?_)
  · have f2_k : x6.toInt = (4 : Int) := xeq h1_k
    exact ms_231_101 (x1 := x1) (x2 := x2) (x3 := x3) (σ := σ) (c0 := c0) (body_k := body_k) (ml := ml) (Wb_k := Wb_k) k n6 KH6 x4 x5 b1_k c b3_k (bb_k :: W2_k) m2_k _ J K hS hR hT (by assumption) (show 0 ≤ x4.toInt from by omega) (show x4.toInt < x5.toInt from by omega) (show x5.toInt ≤ 40 from by omega) (by assumption) (by assumption) (by assumption) (by assumption) (by assumption) (by assumption) (show 41 - x5.toInt ≤ (n6 : Int) from by omega)
  · have f3_k : x6.toInt ≠ (4 : Int) := xne h1_k
    refine And.intro (fun h4_k => ?_) (fun h4_k => ?_)
    · have f5_k : x6.toInt ≠ (5 : Int) := xne h4_k
      have a6_k : (x5 + 1).toInt = x5.toInt + (1 : Int) := xIa (show -2147483648 ≤ x5.toInt + (1 : Int) from by omega) (show x5.toInt + (1 : Int) < 2147483648 from by omega)
      exact KH6 x4 (x5 + 1) (b1_k ++ [c]) b3_k (ks_k ++ W2_k) m2_k _ J K hS hR hT (by assumption) (show 0 ≤ x4.toInt from by omega) (show x4.toInt < (x5 + 1).toInt from by omega) (show (x5 + 1).toInt ≤ 40 from by omega) ((show ((x5 + 1)).toInt = (1 + (b1_k ++ [c]).length : Int) from by rw [l1c]; omega)) (i8_k.trans (lcat b1_k c b3_k)) (hw_k) (by assumption) ((by rw [List.length_append]; exact i11_k)) (by assumption) (show 41 - (x5 + 1).toInt ≤ (n6 : Int) - 1 from by omega)
    · have f7_k : x6.toInt = (5 : Int) := xeq h4_k
      exact ms_231_101 (x1 := x1) (x2 := x2) (x3 := x3) (σ := σ) (c0 := c0) (body_k := body_k) (ml := ml) (Wb_k := Wb_k) k n6 KH6 x4 x5 b1_k c b3_k (bb_k :: W2_k) m2_k _ J K hS hR hT (by assumption) (show 0 ≤ x4.toInt from by omega) (show x4.toInt < x5.toInt from by omega) (show x5.toInt ≤ 40 from by omega) (by assumption) (by assumption) (by assumption) (by assumption) (by assumption) (by assumption) (show 41 - x5.toInt ≤ (n6 : Int) from by omega)

theorem ms_231_41 {x : Nat → Nat → Nat} {t : Int32} {d : Nat} {s0 : ps_S} {σ : mSig} {c0 : Nat} {body_k ml : List Nat} {Wb_k : List Bool} {x1 : Int32} {x2 : Int32} {x3 : Int32} {Q : Option Value → ps_S → Prop} (k : ∀ (s' : ps_S), mJ x t s' → kp [1149, 1150] [34] s0 s' → (∃ m : List Nat, m.length ≤ 1600 ∧ rp σ body_k m ∧ Md (ps_a s' 1149) (ps_i s' 1131 34).toInt (ml ++ m)) → Q none s') (n6 : Nat) (KH6 : ∀ (x4 : Int32) (x5 : Int32) (b1_k : List Nat) (b2_k : List Nat) (W_k : List Bool) (m1_k : List Nat) (s : ps_S), (mJ x t s) → (kp [1149, 1150] [34] s0 s) → (Sg (ps_a s 1135) (ps_a s 1136) (ps_a s 1138) (ps_a s 1139) (ps_i s 1131 21).toInt σ) → (Rw (ps_a s 1134) x1.toInt (c0 :: body_k)) → ((x2.toInt < 0 ∧ 0 ≤ x3.toInt ∧ x3.toInt ≤ 11) ∨ (0 ≤ x2.toInt ∧ ∃ tl_k : List Nat, Rw (ps_a s 1134) x2.toInt tl_k ∧ ws σ tl_k [false])) → (ml.length ≤ 1000) → (0 ≤ x4.toInt) → (x4.toInt < x5.toInt) → (x5.toInt ≤ 40) → (x5.toInt = (1 + b1_k.length : Int)) → (body_k = b1_k ++ b2_k) → (ws σ b2_k W_k) → (rp σ b1_k m1_k) → (m1_k.length ≤ 40 * b1_k.length) → (Md (ps_a s 1149) (ps_i s 1131 34).toInt (ml ++ m1_k)) → (41 - x5.toInt ≤ (n6 : Int) - 1) → ps_At (d + 3) 231 6 [(0, .ref 1131), (1, .int x1), (2, .int x2), (3, .int x3), (4, .int x4), (5, .int x5)] [] s Q) (x4 : Int32) (x5 : Int32) (b1_k : List Nat) (c : Nat) (b3_k : List Nat) (W_k : List Bool) (m1_k : List Nat) (s : ps_S) (J : mJ x t s) (K : kp [1149, 1150] [34] s0 s) (hS : Sg (ps_a s 1135) (ps_a s 1136) (ps_a s 1138) (ps_a s 1139) (ps_i s 1131 21).toInt σ) (hR : Rw (ps_a s 1134) x1.toInt (c0 :: body_k)) (hT : (x2.toInt < 0 ∧ 0 ≤ x3.toInt ∧ x3.toInt ≤ 11) ∨ (0 ≤ x2.toInt ∧ ∃ tl_k : List Nat, Rw (ps_a s 1134) x2.toInt tl_k ∧ ws σ tl_k [false])) (i3_k : ml.length ≤ 1000) (i4_k : 0 ≤ x4.toInt) (i5_k : x4.toInt < x5.toInt) (i6_k : x5.toInt ≤ 40) (i7_k : x5.toInt = (1 + b1_k.length : Int)) (i8_k : body_k = b1_k ++ c :: b3_k) (i9_k : ws σ (c :: b3_k) W_k) (i10_k : rp σ b1_k m1_k) (i11_k : m1_k.length ≤ 40 * b1_k.length) (i12_k : Md (ps_a s 1149) (ps_i s 1131 34).toInt (ml ++ m1_k)) (hm6 : 41 - x5.toInt ≤ (n6 : Int)) : ps_At (d + 3) 231 41 [(0, .ref 1131), (1, .int x1), (2, .int x2), (3, .int x3), (4, .int x4), (5, .int x5)] [] s Q := by
  refine pg_231_41 (d := d + 2) ?_
  obtain ⟨hr1, hr2, hr3, hr4, hr5, hr6⟩ := id hR
  have hr1 : x1.toInt % 41 = 0 := hr1
  have hr2 : 0 ≤ x1.toInt := hr2
  have hr3 : x1.toInt < 27306 := hr3
  have i7_k : x5.toInt = (1 + b1_k.length : Int) := i7_k
  have hl_k : (body_k.length : Int) = b1_k.length + (b3_k.length + 1) := by rw [i8_k, llen, llenc]
  have hr4 : body_k.length + 1 ≤ 40 := hr4
  have hp_k : (ps_a s 1134 (Int32.toNatClampNeg ((x1 + 1) + x5))).toInt = (c : Int) := Rw_p (l1 := c0 :: b1_k) (l2 := b3_k) hR (by rw [i8_k]; rfl) (i7_k.trans (by rw [llenc]; omega))
  have hc_k : c < 72 := ws_72 (Sg_σ hS) i9_k c List.mem_cons_self
  have hml_k : (ml ++ m1_k).length = ml.length + m1_k.length := List.length_append
  have h34_k := i12_k.1
  refine pg_220_0 ?_
  have a1_k : (x1 + 1).toInt = x1.toInt + (1 : Int) := xIa (show -2147483648 ≤ x1.toInt + (1 : Int) from by omega) (show x1.toInt + (1 : Int) < 2147483648 from by omega)
  have a2_k : ((x1 + 1) + x5).toInt = (x1 + 1).toInt + x5.toInt := xIa (show -2147483648 ≤ (x1 + 1).toInt + x5.toInt from by omega) (show (x1 + 1).toInt + x5.toInt < 2147483648 from by omega)
  refine ps_nd_i (show pm_in ((x1 + 1) + x5) 27400 = true from xgi (show 0 ≤ ((x1 + 1) + x5).toInt from by omega) (show ((x1 + 1) + x5).toInt < 27400 from by omega)) ?_
  have r3_k : ((x1 + 1) + x5).toInt % 41 = 0 → ((x1 + 1) + x5).toInt < 27306 → 0 ≤ (ps_a s 1134 (Int32.toNatClampNeg ((x1 + 1) + x5))).toInt ∧ (ps_a s 1134 (Int32.toNatClampNeg ((x1 + 1) + x5))).toInt ≤ 40 := fun z1_k z2_k => mp_row (i := ((x1 + 1) + x5)) J z1_k (show 0 ≤ ((x1 + 1) + x5).toInt from by omega) z2_k
  have a4_k : ((40 : Int32) + x4).toInt = (40 : Int) + x4.toInt := xIa (show -2147483648 ≤ (40 : Int) + x4.toInt from by omega) (show (40 : Int) + x4.toInt < 2147483648 from by omega)
  refine And.intro (fun h5_k => ?_) (fun h5_k => ?_)
  · have f6_k : (ps_a s 1134 (Int32.toNatClampNeg ((x1 + 1) + x5))).toInt ≠ ((40 : Int32) + x4).toInt := xne h5_k
    refine pg_225_0 ?_
    have r7_k := mf_34 J
    refine And.intro (fun h8_k => ?_) (fun h8_k => ?_)
    · have f9_k : (260 : Int) ≤ (ps_i s 1131 34).toInt := xle h8_k
      have a10_k : ((ps_i s 1131 34) + 1).toInt = (ps_i s 1131 34).toInt + (1 : Int) := xIa (show -2147483648 ≤ (ps_i s 1131 34).toInt + (1 : Int) from by omega) (show (ps_i s 1131 34).toInt + (1 : Int) < 2147483648 from by omega)
      have J11 := mwi_34 (v := ((ps_i s 1131 34) + 1)) J (show 0 ≤ ((ps_i s 1131 34) + 1).toInt from by omega) (show ((ps_i s 1131 34) + 1).toInt ≤ 100000 from by omega)
      have K12 := kpi K (q := 34) (v := ((ps_i s 1131 34) + 1)) rfl
      exact ms_231_89 (x1 := x1) (x2 := x2) (x3 := x3) (σ := σ) (c0 := c0) (body_k := body_k) (ml := ml) (Wb_k := Wb_k) k n6 KH6 x4 x5 (ps_a s 1134 (Int32.toNatClampNeg ((x1 + 1) + x5))) b1_k c b3_k W_k (m1_k ++ [c]) _ J11 K12 hS hR hT (by assumption) (show 0 ≤ x4.toInt from by omega) (show x4.toInt < x5.toInt from by omega) (show x5.toInt ≤ 40 from by omega) (by assumption) (by assumption) (by assumption) (rp_snoc i10_k (Or.inl rfl)) ((by rw [List.length_append]; show _ + 1 ≤ _; omega)) ((by rw [← List.append_assoc]; first | exact Md_make i12_k hp_k (by omega) | exact Md_make' i12_k (by omega) (by omega))) (hp_k) (show 41 - x5.toInt ≤ (n6 : Int) from by omega)
    · have f13_k : (ps_i s 1131 34).toInt < (260 : Int) := xlt h8_k
      refine ps_nd_i (show pm_in (ps_i s 1131 34) 260 = true from xgi (show 0 ≤ (ps_i s 1131 34).toInt from by omega) (show (ps_i s 1131 34).toInt < 260 from by omega)) ?_
      have J14 := mwa_n 1149 (i := (Int32.toNatClampNeg (ps_i s 1131 34))) (v := (ps_a s 1134 (Int32.toNatClampNeg ((x1 + 1) + x5)))) J rfl (by decide)
      have K15 := kpa' K (r := 1149) (i := (Int32.toNatClampNeg (ps_i s 1131 34))) (v := (ps_a s 1134 (Int32.toNatClampNeg ((x1 + 1) + x5)))) rfl
      have a16_k : ((ps_i s 1131 34) + 1).toInt = (ps_i s 1131 34).toInt + (1 : Int) := xIa (show -2147483648 ≤ (ps_i s 1131 34).toInt + (1 : Int) from by omega) (show (ps_i s 1131 34).toInt + (1 : Int) < 2147483648 from by omega)
      have J17 := mwi_34 (v := ((ps_i s 1131 34) + 1)) J14 (show 0 ≤ ((ps_i s 1131 34) + 1).toInt from by omega) (show ((ps_i s 1131 34) + 1).toInt ≤ 100000 from by omega)
      have K18 := kpi K15 (q := 34) (v := ((ps_i s 1131 34) + 1)) rfl
      exact ms_231_89 (x1 := x1) (x2 := x2) (x3 := x3) (σ := σ) (c0 := c0) (body_k := body_k) (ml := ml) (Wb_k := Wb_k) k n6 KH6 x4 x5 (ps_a s 1134 (Int32.toNatClampNeg ((x1 + 1) + x5))) b1_k c b3_k W_k (m1_k ++ [c]) _ J17 K18 hS hR hT (by assumption) (show 0 ≤ x4.toInt from by omega) (show x4.toInt < x5.toInt from by omega) (show x5.toInt ≤ 40 from by omega) (by assumption) (by assumption) (by assumption) (rp_snoc i10_k (Or.inl rfl)) ((by rw [List.length_append]; show _ + 1 ≤ _; omega)) ((by rw [← List.append_assoc]; first | exact Md_make i12_k hp_k (by omega) | exact Md_make' i12_k (by omega) (by omega))) (hp_k) (show 41 - x5.toInt ≤ (n6 : Int) from by omega)
  · have f19_k : (ps_a s 1134 (Int32.toNatClampNeg ((x1 + 1) + x5))).toInt = ((40 : Int32) + x4).toInt := xeq h5_k
    refine And.intro (fun h20_k => ?_) (fun h20_k => ?_)
    · have f21_k : x2.toInt < (0 : Int) := xlt h20_k
      have hx_k : 0 ≤ x3.toInt ∧ x3.toInt ≤ 11 := by rcases hT with z_k | z_k; exact z_k.2; omega
      have a22_k : ((60 : Int32) + x3).toInt = (60 : Int) + x3.toInt := xIa (show -2147483648 ≤ (60 : Int) + x3.toInt from by omega) (show (60 : Int) + x3.toInt < 2147483648 from by omega)
      refine pg_225_0 ?_
      have r23_k := mf_34 J
      refine And.intro (fun h24_k => ?_) (fun h24_k => ?_)
      · have f25_k : (260 : Int) ≤ (ps_i s 1131 34).toInt := xle h24_k
        have a26_k : ((ps_i s 1131 34) + 1).toInt = (ps_i s 1131 34).toInt + (1 : Int) := xIa (show -2147483648 ≤ (ps_i s 1131 34).toInt + (1 : Int) from by omega) (show (ps_i s 1131 34).toInt + (1 : Int) < 2147483648 from by omega)
        have J27 := mwi_34 (v := ((ps_i s 1131 34) + 1)) J (show 0 ≤ ((ps_i s 1131 34) + 1).toInt from by omega) (show ((ps_i s 1131 34) + 1).toInt ≤ 100000 from by omega)
        have K28 := kpi K (q := 34) (v := ((ps_i s 1131 34) + 1)) rfl
        exact ms_231_89 (x1 := x1) (x2 := x2) (x3 := x3) (σ := σ) (c0 := c0) (body_k := body_k) (ml := ml) (Wb_k := Wb_k) k n6 KH6 x4 x5 (ps_a s 1134 (Int32.toNatClampNeg ((x1 + 1) + x5))) b1_k c b3_k W_k (m1_k ++ [60 + x3.toInt.toNat]) _ J27 K28 hS hR hT (by assumption) (show 0 ≤ x4.toInt from by omega) (show x4.toInt < x5.toInt from by omega) (show x5.toInt ≤ 40 from by omega) (by assumption) (by assumption) (by assumption) (rp_snoc i10_k (Or.inr ⟨by omega, hc_k, ws_1 (Sg_σ hS) (by omega) (by omega)⟩)) ((by rw [List.length_append]; show _ + 1 ≤ _; omega)) ((by rw [← List.append_assoc]; first | exact Md_make i12_k (by omega) (by omega) | exact Md_make' i12_k (by omega) (by omega))) (hp_k) (show 41 - x5.toInt ≤ (n6 : Int) from by omega)
      · have f29_k : (ps_i s 1131 34).toInt < (260 : Int) := xlt h24_k
        refine ps_nd_i (show pm_in (ps_i s 1131 34) 260 = true from xgi (show 0 ≤ (ps_i s 1131 34).toInt from by omega) (show (ps_i s 1131 34).toInt < 260 from by omega)) ?_
        have J30 := mwa_n 1149 (i := (Int32.toNatClampNeg (ps_i s 1131 34))) (v := ((60 : Int32) + x3)) J rfl (by decide)
        have K31 := kpa' K (r := 1149) (i := (Int32.toNatClampNeg (ps_i s 1131 34))) (v := ((60 : Int32) + x3)) rfl
        have a32_k : ((ps_i s 1131 34) + 1).toInt = (ps_i s 1131 34).toInt + (1 : Int) := xIa (show -2147483648 ≤ (ps_i s 1131 34).toInt + (1 : Int) from by omega) (show (ps_i s 1131 34).toInt + (1 : Int) < 2147483648 from by omega)
        have J33 := mwi_34 (v := ((ps_i s 1131 34) + 1)) J30 (show 0 ≤ ((ps_i s 1131 34) + 1).toInt from by omega) (show ((ps_i s 1131 34) + 1).toInt ≤ 100000 from by omega)
        have K34 := kpi K31 (q := 34) (v := ((ps_i s 1131 34) + 1)) rfl
        exact ms_231_89 (x1 := x1) (x2 := x2) (x3 := x3) (σ := σ) (c0 := c0) (body_k := body_k) (ml := ml) (Wb_k := Wb_k) k n6 KH6 x4 x5 (ps_a s 1134 (Int32.toNatClampNeg ((x1 + 1) + x5))) b1_k c b3_k W_k (m1_k ++ [60 + x3.toInt.toNat]) _ J33 K34 hS hR hT (by assumption) (show 0 ≤ x4.toInt from by omega) (show x4.toInt < x5.toInt from by omega) (show x5.toInt ≤ 40 from by omega) (by assumption) (by assumption) (by assumption) (rp_snoc i10_k (Or.inr ⟨by omega, hc_k, ws_1 (Sg_σ hS) (by omega) (by omega)⟩)) ((by rw [List.length_append]; show _ + 1 ≤ _; omega)) ((by rw [← List.append_assoc]; first | exact Md_make i12_k (by omega) (by omega) | exact Md_make' i12_k (by omega) (by omega))) (hp_k) (show 41 - x5.toInt ≤ (n6 : Int) from by omega)
    · have f35_k : (0 : Int) ≤ x2.toInt := xle h20_k
      obtain ⟨tl_k, hT1_k, hT2_k⟩ : ∃ tl_k : List Nat, Rw (ps_a s 1134) (x2).toInt tl_k ∧ ws σ tl_k [false] := by rcases hT with z_k | z_k; omega; exact z_k.2
      have htl_k := hT1_k.2.2.2.1
      refine ms_227 J (hT1_k) (i12_k) ((by omega)) (fun s36 J36 K36 p36_0 => ?_)
      have K37 := kpt K K36 rfl rfl
      have hS : Sg (ps_a s36 1135) (ps_a s36 1136) (ps_a s36 1138) (ps_a s36 1139) (ps_i s36 1131 21).toInt σ := by rw [show ps_a s36 1135 = ps_a s 1135 from (K36.2 1135 rfl).1, show ps_a s36 1136 = ps_a s 1136 from (K36.2 1136 rfl).1, show ps_a s36 1138 = ps_a s 1138 from (K36.2 1138 rfl).1, show ps_a s36 1139 = ps_a s 1139 from (K36.2 1139 rfl).1, show ps_i s36 1131 21 = ps_i s 1131 21 from kp_i K36 21 rfl]; exact hS
      have hR : Rw (ps_a s36 1134) x1.toInt (c0 :: body_k) := by rw [show ps_a s36 1134 = ps_a s 1134 from (K36.2 1134 rfl).1]; exact hR
      have hT : (x2.toInt < 0 ∧ 0 ≤ x3.toInt ∧ x3.toInt ≤ 11) ∨ (0 ≤ x2.toInt ∧ ∃ tl_k : List Nat, Rw (ps_a s36 1134) x2.toInt tl_k ∧ ws σ tl_k [false]) := by rw [show ps_a s36 1134 = ps_a s 1134 from (K36.2 1134 rfl).1]; exact hT
      have hM2 : Md (ps_a s36 1149) (ps_i s36 1131 34).toInt ((ml ++ m1_k) ++ tl_k) := p36_0
      exact ms_231_89 (x1 := x1) (x2 := x2) (x3 := x3) (σ := σ) (c0 := c0) (body_k := body_k) (ml := ml) (Wb_k := Wb_k) k n6 KH6 x4 x5 (ps_a s 1134 (Int32.toNatClampNeg ((x1 + 1) + x5))) b1_k c b3_k W_k (m1_k ++ tl_k) _ J36 K37 hS hR hT (by assumption) (show 0 ≤ x4.toInt from by omega) (show x4.toInt < x5.toInt from by omega) (show x5.toInt ≤ 40 from by omega) (by assumption) (by assumption) (by assumption) (rp_snoc i10_k (Or.inr ⟨by omega, hc_k, hT2_k⟩)) ((by rw [List.length_append]; omega)) ((by rw [← List.append_assoc]; exact hM2)) (hp_k) (show 41 - x5.toInt ≤ (n6 : Int) from by omega)

theorem ms_231_16 {x : Nat → Nat → Nat} {t : Int32} {d : Nat} {s0 : ps_S} {σ : mSig} {c0 : Nat} {body_k ml : List Nat} {Wb_k : List Bool} {x1 : Int32} {x2 : Int32} {x3 : Int32} {Q : Option Value → ps_S → Prop} (k : ∀ (s' : ps_S), mJ x t s' → kp [1149, 1150] [34] s0 s' → (∃ m : List Nat, m.length ≤ 1600 ∧ rp σ body_k m ∧ Md (ps_a s' 1149) (ps_i s' 1131 34).toInt (ml ++ m)) → Q none s') (n6 : Nat) (KH6 : ∀ (x4 : Int32) (x5 : Int32) (b1_k : List Nat) (b2_k : List Nat) (W_k : List Bool) (m1_k : List Nat) (s : ps_S), (mJ x t s) → (kp [1149, 1150] [34] s0 s) → (Sg (ps_a s 1135) (ps_a s 1136) (ps_a s 1138) (ps_a s 1139) (ps_i s 1131 21).toInt σ) → (Rw (ps_a s 1134) x1.toInt (c0 :: body_k)) → ((x2.toInt < 0 ∧ 0 ≤ x3.toInt ∧ x3.toInt ≤ 11) ∨ (0 ≤ x2.toInt ∧ ∃ tl_k : List Nat, Rw (ps_a s 1134) x2.toInt tl_k ∧ ws σ tl_k [false])) → (ml.length ≤ 1000) → (0 ≤ x4.toInt) → (x4.toInt < x5.toInt) → (x5.toInt ≤ 40) → (x5.toInt = (1 + b1_k.length : Int)) → (body_k = b1_k ++ b2_k) → (ws σ b2_k W_k) → (rp σ b1_k m1_k) → (m1_k.length ≤ 40 * b1_k.length) → (Md (ps_a s 1149) (ps_i s 1131 34).toInt (ml ++ m1_k)) → (41 - x5.toInt ≤ (n6 : Int) - 1) → ps_At (d + 3) 231 6 [(0, .ref 1131), (1, .int x1), (2, .int x2), (3, .int x3), (4, .int x4), (5, .int x5)] [] s Q) : ∀ (n : Nat) (x4 : Int32) (x5 : Int32) (b1_k : List Nat) (c : Nat) (b3_k : List Nat) (W_k : List Bool) (m1_k : List Nat) (s : ps_S), (mJ x t s) → (kp [1149, 1150] [34] s0 s) → (Sg (ps_a s 1135) (ps_a s 1136) (ps_a s 1138) (ps_a s 1139) (ps_i s 1131 21).toInt σ) → (Rw (ps_a s 1134) x1.toInt (c0 :: body_k)) → ((x2.toInt < 0 ∧ 0 ≤ x3.toInt ∧ x3.toInt ≤ 11) ∨ (0 ≤ x2.toInt ∧ ∃ tl_k : List Nat, Rw (ps_a s 1134) x2.toInt tl_k ∧ ws σ tl_k [false])) → (ml.length ≤ 1000) → (0 ≤ x4.toInt) → (x4.toInt < x5.toInt) → (x5.toInt ≤ 40) → (x5.toInt = (1 + b1_k.length : Int)) → (body_k = b1_k ++ c :: b3_k) → (ws σ (c :: b3_k) W_k) → (rp σ b1_k m1_k) → (m1_k.length ≤ 40 * b1_k.length) → (Md (ps_a s 1149) (ps_i s 1131 34).toInt (ml ++ m1_k)) → (41 - x5.toInt ≤ (n6 : Int)) → x4.toInt ≤ (n : Int) → ps_At (d + 3) 231 16 [(0, .ref 1131), (1, .int x1), (2, .int x2), (3, .int x3), (4, .int x4), (5, .int x5)] [] s Q := by
  refine xstr (fun n ih => ?_)
  intro x4 x5 b1_k c b3_k W_k m1_k s J K hS hR hT i3_k i4_k i5_k i6_k i7_k i8_k i9_k i10_k i11_k i12_k hm6 hm
  refine pg_231_16 (d := d + 2) ?_
  obtain ⟨hr1, hr2, hr3, hr4, hr5, hr6⟩ := id hR
  have hr1 : x1.toInt % 41 = 0 := hr1
  have hr2 : 0 ≤ x1.toInt := hr2
  have hr3 : x1.toInt < 27306 := hr3
  have i7_k : x5.toInt = (1 + b1_k.length : Int) := i7_k
  have hl_k : (body_k.length : Int) = b1_k.length + (b3_k.length + 1) := by rw [i8_k, llen, llenc]
  have hr4 : body_k.length + 1 ≤ 40 := hr4
  refine And.intro (fun h1_k => ?_) (fun h1_k => ?_)
  · have f2_k : x4.toInt ≤ (0 : Int) := xle h1_k
    exact ms_231_41 (x1 := x1) (x2 := x2) (x3 := x3) (σ := σ) (c0 := c0) (body_k := body_k) (ml := ml) (Wb_k := Wb_k) k n6 KH6 x4 x5 b1_k c b3_k W_k m1_k _ J K hS hR hT (by assumption) (show 0 ≤ x4.toInt from by omega) (show x4.toInt < x5.toInt from by omega) (show x5.toInt ≤ 40 from by omega) (by assumption) (by assumption) (by assumption) (by assumption) (by assumption) (by assumption) (show 41 - x5.toInt ≤ (n6 : Int) from by omega)
  · have f3_k : (0 : Int) < x4.toInt := xlt h1_k
    have a4_k : (x4 - 1).toInt = x4.toInt - (1 : Int) := xIs (show -2147483648 ≤ x4.toInt - (1 : Int) from by omega) (show x4.toInt - (1 : Int) < 2147483648 from by omega)
    refine ps_nd_i (show pm_in (x4 - 1) 260 = true from xgi (show 0 ≤ (x4 - 1).toInt from by omega) (show (x4 - 1).toInt < 260 from by omega)) ?_
    refine And.intro (fun h5_k => ?_) (fun h5_k => ?_)
    · have f6_k : x5.toInt < (ps_a s 1150 (Int32.toNatClampNeg (x4 - 1))).toInt := xlt h5_k
      exact ms_231_41 (x1 := x1) (x2 := x2) (x3 := x3) (σ := σ) (c0 := c0) (body_k := body_k) (ml := ml) (Wb_k := Wb_k) k n6 KH6 x4 x5 b1_k c b3_k W_k m1_k _ J K hS hR hT (by assumption) (show 0 ≤ x4.toInt from by omega) (show x4.toInt < x5.toInt from by omega) (show x5.toInt ≤ 40 from by omega) (by assumption) (by assumption) (by assumption) (by assumption) (by assumption) (by assumption) (show 41 - x5.toInt ≤ (n6 : Int) from by omega)
    · have f7_k : (ps_a s 1150 (Int32.toNatClampNeg (x4 - 1))).toInt ≤ x5.toInt := xle h5_k
      generalize hx9 : (x4 + (Int32.ofInt (-1))) = xd8
      have a10_k : xd8.toInt = x4.toInt + (-1) := by rw [← hx9]; exact xdec (show -2147483648 < x4.toInt from by omega)
      clear hx9
      exact ih (n - 1) (show n - 1 < n from by omega) xd8 x5 b1_k c b3_k W_k m1_k _ J K hS hR hT (by assumption) (show 0 ≤ xd8.toInt from by omega) (show xd8.toInt < x5.toInt from by omega) (show x5.toInt ≤ 40 from by omega) (by assumption) (by assumption) (by assumption) (by assumption) (by assumption) (by assumption) (show 41 - x5.toInt ≤ (n6 : Int) from by omega) (show xd8.toInt ≤ ((n - 1 : Nat) : Int) from by omega)

theorem ms_231_6 {x : Nat → Nat → Nat} {t : Int32} {d : Nat} {s0 : ps_S} {σ : mSig} {c0 : Nat} {body_k ml : List Nat} {Wb_k : List Bool} {x1 : Int32} {x2 : Int32} {x3 : Int32} {Q : Option Value → ps_S → Prop} (k : ∀ (s' : ps_S), mJ x t s' → kp [1149, 1150] [34] s0 s' → (∃ m : List Nat, m.length ≤ 1600 ∧ rp σ body_k m ∧ Md (ps_a s' 1149) (ps_i s' 1131 34).toInt (ml ++ m)) → Q none s') : ∀ (n : Nat) (x4 : Int32) (x5 : Int32) (b1_k : List Nat) (b2_k : List Nat) (W_k : List Bool) (m1_k : List Nat) (s : ps_S), (mJ x t s) → (kp [1149, 1150] [34] s0 s) → (Sg (ps_a s 1135) (ps_a s 1136) (ps_a s 1138) (ps_a s 1139) (ps_i s 1131 21).toInt σ) → (Rw (ps_a s 1134) x1.toInt (c0 :: body_k)) → ((x2.toInt < 0 ∧ 0 ≤ x3.toInt ∧ x3.toInt ≤ 11) ∨ (0 ≤ x2.toInt ∧ ∃ tl_k : List Nat, Rw (ps_a s 1134) x2.toInt tl_k ∧ ws σ tl_k [false])) → (ml.length ≤ 1000) → (0 ≤ x4.toInt) → (x4.toInt < x5.toInt) → (x5.toInt ≤ 40) → (x5.toInt = (1 + b1_k.length : Int)) → (body_k = b1_k ++ b2_k) → (ws σ b2_k W_k) → (rp σ b1_k m1_k) → (m1_k.length ≤ 40 * b1_k.length) → (Md (ps_a s 1149) (ps_i s 1131 34).toInt (ml ++ m1_k)) → 41 - x5.toInt ≤ (n : Int) → ps_At (d + 3) 231 6 [(0, .ref 1131), (1, .int x1), (2, .int x2), (3, .int x3), (4, .int x4), (5, .int x5)] [] s Q := by
  refine xstr (fun n ih => ?_)
  intro x4 x5 b1_k b2_k W_k m1_k s J K hS hR hT i3_k i4_k i5_k i6_k i7_k i8_k i9_k i10_k i11_k i12_k hm
  refine pg_231_6 (d := d + 2) ?_
  obtain ⟨hr1, hr2, hr3, hr4, hr5, hr6⟩ := id hR
  have hr1 : x1.toInt % 41 = 0 := hr1
  have hr2 : 0 ≤ x1.toInt := hr2
  have hr3 : x1.toInt < 27306 := hr3
  have i7_k : x5.toInt = (1 + b1_k.length : Int) := i7_k
  have hl_k : (body_k.length : Int) = b1_k.length + b2_k.length := by rw [i8_k]; exact llen
  have hr4 : body_k.length + 1 ≤ 40 := hr4
  have hn_k : (ps_a s 1134 (Int32.toNatClampNeg x1)).toInt = ((body_k.length + 1 : Nat) : Int) := Rw_n hR
  refine pg_219_0 ?_
  refine ps_nd_i (show pm_in x1 27400 = true from xgi (show 0 ≤ x1.toInt from by omega) (show x1.toInt < 27400 from by omega)) ?_
  have r1_k : x1.toInt % 41 = 0 → x1.toInt < 27306 → 0 ≤ (ps_a s 1134 (Int32.toNatClampNeg x1)).toInt ∧ (ps_a s 1134 (Int32.toNatClampNeg x1)).toInt ≤ 40 := fun z1_k z2_k => mp_row (i := x1) J z1_k (show 0 ≤ x1.toInt from by omega) z2_k
  refine And.intro (fun h2_k => ?_) (fun h2_k => ?_)
  · have f3_k : (ps_a s 1134 (Int32.toNatClampNeg x1)).toInt ≤ x5.toInt := xle h2_k
    have e0_k := lnil (W := b2_k) (by omega)
    subst e0_k
    rw [List.append_nil] at i8_k
    subst i8_k
    exact k _ J K (⟨m1_k, by omega, i10_k, i12_k⟩)
  · have f4_k : x5.toInt < (ps_a s 1134 (Int32.toNatClampNeg x1)).toInt := xlt h2_k
    obtain ⟨c, b3_k, rfl⟩ := lpos (W := b2_k) (by omega)
    exact ms_231_16 (x1 := x1) (x2 := x2) (x3 := x3) (σ := σ) (c0 := c0) (body_k := body_k) (ml := ml) (Wb_k := Wb_k) k n (fun x4z x5z b1z b2z Wz m1z sz Jz Kz i0z i1z i2z i3z i4z i5z i6z i7z i8z i9z i10z i11z i12z hm => ih (n - 1) (show n - 1 < n from by omega) x4z x5z b1z b2z Wz m1z sz Jz Kz i0z i1z i2z i3z i4z i5z i6z i7z i8z i9z i10z i11z i12z (show _ ≤ ((n - 1 : Nat) : Int) from by omega)) (x4.toInt).toNat x4 x5 b1_k c b3_k W_k m1_k _ J K hS hR hT (by assumption) (show 0 ≤ x4.toInt from by omega) (show x4.toInt < x5.toInt from by omega) (show x5.toInt ≤ 40 from by omega) (by assumption) (by assumption) (by assumption) (by assumption) (by assumption) (by assumption) (show 41 - x5.toInt ≤ ((n : Nat) : Int) from by omega) (show x4.toInt ≤ (((x4.toInt).toNat : Nat) : Int) from by omega)

theorem ms_231 {x : Nat → Nat → Nat} {t : Int32} {s : ps_S} {d : Nat} {x1 : Int32} {x2 : Int32} {x3 : Int32} {f : ps_S → Prop} (J : mJ x t s) {σ : mSig} {c0 : Nat} {body_k ml : List Nat} {Wb_k : List Bool} (hS : Sg (ps_a s 1135) (ps_a s 1136) (ps_a s 1138) (ps_a s 1139) (ps_i s 1131 21).toInt σ) (hR : Rw (ps_a s 1134) x1.toInt (c0 :: body_k)) (hT : (x2.toInt < 0 ∧ 0 ≤ x3.toInt ∧ x3.toInt ≤ 11) ∨ (0 ≤ x2.toInt ∧ ∃ tl_k : List Nat, Rw (ps_a s 1134) x2.toInt tl_k ∧ ws σ tl_k [false])) (q3_k : Md (ps_a s 1149) (ps_i s 1131 34).toInt (ml)) (q4_k : ml.length ≤ 1000) (q5_k : ws σ body_k Wb_k) (k : ∀ (s' : ps_S), mJ x t s' → kp [1149, 1150] [34] s s' → (∃ m : List Nat, m.length ≤ 1600 ∧ rp σ body_k m ∧ Md (ps_a s' 1149) (ps_i s' 1131 34).toInt (ml ++ m)) → f s') : ps_Cl (d + 3) 231 [.ref 1131, .int x1, .int x2, .int x3] s (ps_rV f) := by
  have K : kp [1149, 1150] [34] s s := kp_refl
  refine pg_231_0 (d := d + 2) ?_
  obtain ⟨hr1, hr2, hr3, hr4, hr5, hr6⟩ := id hR
  have hr1 : x1.toInt % 41 = 0 := hr1
  have hr2 : 0 ≤ x1.toInt := hr2
  have hr3 : x1.toInt < 27306 := hr3
  exact ms_231_6 (x1 := x1) (x2 := x2) (x3 := x3) (σ := σ) (c0 := c0) (body_k := body_k) (ml := ml) (Wb_k := Wb_k) k  (41 - (1 : Int)).toNat (0) (1) [] body_k Wb_k [] _ J K hS hR hT (q4_k) (show 0 ≤ (0 : Int) from by omega) (show (0 : Int) < (1 : Int) from by omega) (show (1 : Int) ≤ 40 from by omega) (rfl) (rfl) (q5_k) (rfl) (Nat.le_refl _) ((by rw [List.append_nil]; exact q3_k)) (show 41 - (1 : Int) ≤ (((41 - (1 : Int)).toNat : Nat) : Int) from by omega)
end
section
set_option maxRecDepth 100000
-- ProofBenchModel.makeGeneral(II)V
theorem pg_232_0 {d : Nat} {x1 : Int32} {x2 : Int32} {s : ps_S} {Q : Option Value → ps_S → Prop} (h :
  ps_Cl d 225 [.ref 1131, .int 4] s (ps_rV (fun s1 =>
    ps_At (d + 1) 232 10 [(0, .ref 1131), (1, .int x1), (2, .int x2), (3, .int 0), (4, .int 0)] [] s1 Q))) : ps_At (d + 1) 232 0 [(0, .ref 1131), (1, .int x1), (2, .int x2)] [] s Q :=
  ps_wp_at (stops := [(10, [0, 1, 2, 3, 4]), (20, [0, 1, 2, 3, 4]), (43, [0, 1, 2, 3, 4]), (86, [0, 1, 2, 3, 4])]) (n := 9) h rfl

theorem pg_232_10 {d : Nat} {x1 : Int32} {x2 : Int32} {x3 : Int32} {x4 : Int32} {s : ps_S} {Q : Option Value → ps_S → Prop} (h :
  ps_Cl d 219 [.ref 1131, .int x1] s (ps_rI (fun v1 s1 =>
    (v1 ≤ x4 →
      Q none s1) ∧
    (x4 < v1 →
      ps_At (d + 1) 232 20 [(0, .ref 1131), (1, .int x1), (2, .int x2), (3, .int x3), (4, .int x4)] [] s1 Q)))) : ps_At (d + 1) 232 10 [(0, .ref 1131), (1, .int x1), (2, .int x2), (3, .int x3), (4, .int x4)] [] s Q :=
  ps_wp_at (stops := [(10, [0, 1, 2, 3, 4]), (20, [0, 1, 2, 3, 4]), (43, [0, 1, 2, 3, 4]), (86, [0, 1, 2, 3, 4])]) (n := 8) h rfl

theorem pg_232_20 {d : Nat} {x1 : Int32} {x2 : Int32} {x3 : Int32} {x4 : Int32} {s : ps_S} {Q : Option Value → ps_S → Prop} (h :
  (x3 ≤ 0 →
    ps_At (d + 1) 232 43 [(0, .ref 1131), (1, .int x1), (2, .int x2), (3, .int x3), (4, .int x4)] [] s Q) ∧
  (0 < x3 →
    ps_nd (pm_in (x3 - 1) 260) ((x4 < (ps_a s 1150 (Int32.toNatClampNeg (x3 - 1))) →
      ps_At (d + 1) 232 43 [(0, .ref 1131), (1, .int x1), (2, .int x2), (3, .int x3), (4, .int x4)] [] s Q) ∧
    ((ps_a s 1150 (Int32.toNatClampNeg (x3 - 1))) ≤ x4 →
      ps_At (d + 1) 232 20 [(0, .ref 1131), (1, .int x1), (2, .int x2), (3, .int (x3 + (Int32.ofInt (-1)))), (4, .int x4)] [] s Q)))) : ps_At (d + 1) 232 20 [(0, .ref 1131), (1, .int x1), (2, .int x2), (3, .int x3), (4, .int x4)] [] s Q :=
  ps_wp_at (stops := [(10, [0, 1, 2, 3, 4]), (20, [0, 1, 2, 3, 4]), (43, [0, 1, 2, 3, 4]), (86, [0, 1, 2, 3, 4])]) (n := 14) h rfl

theorem pg_232_43 {d : Nat} {x1 : Int32} {x2 : Int32} {x3 : Int32} {x4 : Int32} {s : ps_S} {Q : Option Value → ps_S → Prop} (h :
  ps_Cl d 220 [.ref 1131, .int x1, .int x4] s (ps_rI (fun v1 s1 =>
    (v1 ≠ ((60 : Int32) + x2) →
      ps_Cl d 225 [.ref 1131, .int v1] s1 (ps_rV (fun s2 =>
        (v1 = 4 →
          ps_At (d + 1) 232 86 [(0, .ref 1131), (1, .int x1), (2, .int x2), (3, .int x3), (4, .int x4)] [] s2 Q) ∧
        (v1 ≠ 4 →
          (v1 ≠ 5 →
            ps_At (d + 1) 232 10 [(0, .ref 1131), (1, .int x1), (2, .int x2), (3, .int x3), (4, .int (x4 + 1))] [] s2 Q) ∧
          (v1 = 5 →
            ps_At (d + 1) 232 86 [(0, .ref 1131), (1, .int x1), (2, .int x2), (3, .int x3), (4, .int x4)] [] s2 Q))))) ∧
    (v1 = ((60 : Int32) + x2) →
      ps_Cl d 225 [.ref 1131, .int ((40 : Int32) + x3)] s1 (ps_rV (fun s3 =>
        (v1 = 4 →
          ps_At (d + 1) 232 86 [(0, .ref 1131), (1, .int x1), (2, .int x2), (3, .int x3), (4, .int x4)] [] s3 Q) ∧
        (v1 ≠ 4 →
          (v1 ≠ 5 →
            ps_At (d + 1) 232 10 [(0, .ref 1131), (1, .int x1), (2, .int x2), (3, .int x3), (4, .int (x4 + 1))] [] s3 Q) ∧
          (v1 = 5 →
            ps_At (d + 1) 232 86 [(0, .ref 1131), (1, .int x1), (2, .int x2), (3, .int x3), (4, .int x4)] [] s3 Q)))))))) : ps_At (d + 1) 232 43 [(0, .ref 1131), (1, .int x1), (2, .int x2), (3, .int x3), (4, .int x4)] [] s Q :=
  ps_wp_at (stops := [(10, [0, 1, 2, 3, 4]), (20, [0, 1, 2, 3, 4]), (43, [0, 1, 2, 3, 4]), (86, [0, 1, 2, 3, 4])]) (n := 36) h rfl

theorem pg_232_86 {d : Nat} {x1 : Int32} {x2 : Int32} {x3 : Int32} {x4 : Int32} {s : ps_S} {Q : Option Value → ps_S → Prop} (h :
  ps_Cl d 221 [.ref 1131, .int x1, .int x4] s (ps_rI (fun v1 s1 =>
    ps_nd (pm_in x3 260) (ps_At (d + 1) 232 10 [(0, .ref 1131), (1, .int x1), (2, .int x2), (3, .int (x3 + 1)), (4, .int (x4 + 1))] [] (ps_ua s1 1150 (Int32.toNatClampNeg x3) v1) Q)))) : ps_At (d + 1) 232 86 [(0, .ref 1131), (1, .int x1), (2, .int x2), (3, .int x3), (4, .int x4)] [] s Q :=
  ps_wp_at (stops := [(10, [0, 1, 2, 3, 4]), (20, [0, 1, 2, 3, 4]), (43, [0, 1, 2, 3, 4]), (86, [0, 1, 2, 3, 4])]) (n := 13) h rfl

theorem ms_232_86 {x : Nat → Nat → Nat} {t : Int32} {d : Nat} {s0 : ps_S} {σ : mSig} {l ml : List Nat} {Wb_k : List Bool} {x1 : Int32} {x2 : Int32} {Q : Option Value → ps_S → Prop} (k : ∀ (s' : ps_S), mJ x t s' → kp [1149, 1150] [34] s0 s' → (∃ m : List Nat, m.length ≤ 40 ∧ rp σ l m ∧ Md (ps_a s' 1149) (ps_i s' 1131 34).toInt ((ml ++ [4]) ++ m)) → Q none s') (n10 : Nat) (KH10 : ∀ (x3 : Int32) (x4 : Int32) (b1_k : List Nat) (b2_k : List Nat) (W_k : List Bool) (m1_k : List Nat) (s : ps_S), (mJ x t s) → (kp [1149, 1150] [34] s0 s) → (Sg (ps_a s 1135) (ps_a s 1136) (ps_a s 1138) (ps_a s 1139) (ps_i s 1131 21).toInt σ) → (Rw (ps_a s 1134) x1.toInt l) → (ml.length ≤ 1000) → (qn l ≤ 29) → (0 ≤ x2.toInt) → (x2.toInt ≤ 11) → (0 ≤ x3.toInt) → (x3.toInt ≤ (qn b1_k : Int)) → (x4.toInt = (b1_k.length : Int)) → (l = b1_k ++ b2_k) → (ws σ b2_k W_k) → (rp σ b1_k m1_k) → (m1_k.length = b1_k.length) → (Md (ps_a s 1149) (ps_i s 1131 34).toInt ((ml ++ [4]) ++ m1_k)) → (41 - x4.toInt ≤ (n10 : Int) - 1) → ps_At (d + 2) 232 10 [(0, .ref 1131), (1, .int x1), (2, .int x2), (3, .int x3), (4, .int x4)] [] s Q) (x3 : Int32) (x4 : Int32) (b1_k : List Nat) (c : Nat) (b3_k : List Nat) (W_k : List Bool) (m2_k : List Nat) (s : ps_S) (J : mJ x t s) (K : kp [1149, 1150] [34] s0 s) (hS : Sg (ps_a s 1135) (ps_a s 1136) (ps_a s 1138) (ps_a s 1139) (ps_i s 1131 21).toInt σ) (hR : Rw (ps_a s 1134) x1.toInt l) (i2_k : ml.length ≤ 1000) (i3_k : qn l ≤ 29) (i4_k : 0 ≤ x2.toInt) (i5_k : x2.toInt ≤ 11) (i6_k : 0 ≤ x3.toInt) (i7_k : x3.toInt ≤ (qn b1_k : Int)) (i8_k : x4.toInt = (b1_k.length : Int)) (i9_k : l = b1_k ++ c :: b3_k) (i10_k : ws σ (c :: b3_k) W_k) (i11_k : rp σ (b1_k ++ [c]) m2_k) (i12_k : m2_k.length = b1_k.length + 1) (i13_k : Md (ps_a s 1149) (ps_i s 1131 34).toInt ((ml ++ [4]) ++ m2_k)) (i14_k : c = 4 ∨ c = 5) (hm10 : 41 - x4.toInt ≤ (n10 : Int)) : ps_At (d + 2) 232 86 [(0, .ref 1131), (1, .int x1), (2, .int x2), (3, .int x3), (4, .int x4)] [] s Q := by
  refine pg_232_86 (d := d + 1) ?_
  obtain ⟨hr1, hr2, hr3, hr4, hr5, hr6⟩ := id hR
  have hr1 : x1.toInt % 41 = 0 := hr1
  have hr2 : 0 ≤ x1.toInt := hr2
  have hr3 : x1.toInt < 27306 := hr3
  have i7_k : x3.toInt ≤ (qn b1_k : Int) := i7_k
  have i8_k : x4.toInt = (b1_k.length : Int) := i8_k
  have hl_k : (l.length : Int) = b1_k.length + (b3_k.length + 1) := by rw [i9_k, llen, llenc]
  have hq_k : qn l = qn b1_k + ((if c = 4 ∨ c = 5 then 1 else 0) + qn b3_k) := by rw [i9_k, qn_app]; rfl
  have hq2_k : qn (b1_k ++ [c]) = qn b1_k + (if c = 4 ∨ c = 5 then 1 else 0) := by rw [qn_app]; rfl
  obtain ⟨bb_k, W2_k, rfl⟩ := ws_W i10_k
  obtain ⟨ks_k, hk_k, hw_k⟩ := ws_hd i10_k
  obtain ⟨p, q, hpq_k, hp1, hp2⟩ := ws_split (W1 := [bb_k]) (W2 := W2_k) i10_k
  refine ms_221 J hS ((show Rw (ps_a s 1134) (x1).toInt (b1_k ++ (p ++ q)) from by rw [← hpq_k]; rw [← i9_k]; exact hR)) (i8_k) (hp1) (fun v1 p1_0 => ?_)
  refine ps_nd_i (show pm_in x3 260 = true from xgi (show 0 ≤ x3.toInt from by omega) (show x3.toInt < 260 from by omega)) ?_
  have J2 := mwa_n 1150 (i := (Int32.toNatClampNeg x3)) (v := v1) J rfl (by decide)
  have K3 := kpa' K (r := 1150) (i := (Int32.toNatClampNeg x3)) (v := v1) rfl
  have a4_k : (x3 + 1).toInt = x3.toInt + (1 : Int) := xIa (show -2147483648 ≤ x3.toInt + (1 : Int) from by omega) (show x3.toInt + (1 : Int) < 2147483648 from by omega)
  have a5_k : (x4 + 1).toInt = x4.toInt + (1 : Int) := xIa (show -2147483648 ≤ x4.toInt + (1 : Int) from by omega) (show x4.toInt + (1 : Int) < 2147483648 from by omega)
  exact KH10 (x3 + 1) (x4 + 1) (b1_k ++ [c]) b3_k (ks_k ++ W2_k) m2_k _ J2 K3 hS hR (by assumption) (by assumption) (show 0 ≤ x2.toInt from by omega) (show x2.toInt ≤ 11 from by omega) (show 0 ≤ (x3 + 1).toInt from by omega) ((show ((x3 + 1)).toInt ≤ (qn (b1_k ++ [c]) : Int) from by rw [hq2_k, if_pos i14_k]; omega)) ((show ((x4 + 1)).toInt = ((b1_k ++ [c]).length : Int) from by rw [l1c]; omega)) (i9_k.trans (lcat b1_k c b3_k)) (hw_k) (by assumption) ((by rw [List.length_append]; exact i12_k)) (by assumption) (show 41 - (x4 + 1).toInt ≤ (n10 : Int) - 1 from by omega)

theorem ms_232_43 {x : Nat → Nat → Nat} {t : Int32} {d : Nat} {s0 : ps_S} {σ : mSig} {l ml : List Nat} {Wb_k : List Bool} {x1 : Int32} {x2 : Int32} {Q : Option Value → ps_S → Prop} (k : ∀ (s' : ps_S), mJ x t s' → kp [1149, 1150] [34] s0 s' → (∃ m : List Nat, m.length ≤ 40 ∧ rp σ l m ∧ Md (ps_a s' 1149) (ps_i s' 1131 34).toInt ((ml ++ [4]) ++ m)) → Q none s') (n10 : Nat) (KH10 : ∀ (x3 : Int32) (x4 : Int32) (b1_k : List Nat) (b2_k : List Nat) (W_k : List Bool) (m1_k : List Nat) (s : ps_S), (mJ x t s) → (kp [1149, 1150] [34] s0 s) → (Sg (ps_a s 1135) (ps_a s 1136) (ps_a s 1138) (ps_a s 1139) (ps_i s 1131 21).toInt σ) → (Rw (ps_a s 1134) x1.toInt l) → (ml.length ≤ 1000) → (qn l ≤ 29) → (0 ≤ x2.toInt) → (x2.toInt ≤ 11) → (0 ≤ x3.toInt) → (x3.toInt ≤ (qn b1_k : Int)) → (x4.toInt = (b1_k.length : Int)) → (l = b1_k ++ b2_k) → (ws σ b2_k W_k) → (rp σ b1_k m1_k) → (m1_k.length = b1_k.length) → (Md (ps_a s 1149) (ps_i s 1131 34).toInt ((ml ++ [4]) ++ m1_k)) → (41 - x4.toInt ≤ (n10 : Int) - 1) → ps_At (d + 2) 232 10 [(0, .ref 1131), (1, .int x1), (2, .int x2), (3, .int x3), (4, .int x4)] [] s Q) (x3 : Int32) (x4 : Int32) (b1_k : List Nat) (c : Nat) (b3_k : List Nat) (W_k : List Bool) (m1_k : List Nat) (s : ps_S) (J : mJ x t s) (K : kp [1149, 1150] [34] s0 s) (hS : Sg (ps_a s 1135) (ps_a s 1136) (ps_a s 1138) (ps_a s 1139) (ps_i s 1131 21).toInt σ) (hR : Rw (ps_a s 1134) x1.toInt l) (i2_k : ml.length ≤ 1000) (i3_k : qn l ≤ 29) (i4_k : 0 ≤ x2.toInt) (i5_k : x2.toInt ≤ 11) (i6_k : 0 ≤ x3.toInt) (i7_k : x3.toInt ≤ (qn b1_k : Int)) (i8_k : x4.toInt = (b1_k.length : Int)) (i9_k : l = b1_k ++ c :: b3_k) (i10_k : ws σ (c :: b3_k) W_k) (i11_k : rp σ b1_k m1_k) (i12_k : m1_k.length = b1_k.length) (i13_k : Md (ps_a s 1149) (ps_i s 1131 34).toInt ((ml ++ [4]) ++ m1_k)) (hm10 : 41 - x4.toInt ≤ (n10 : Int)) : ps_At (d + 2) 232 43 [(0, .ref 1131), (1, .int x1), (2, .int x2), (3, .int x3), (4, .int x4)] [] s Q := by
  refine pg_232_43 (d := d + 1) ?_
  obtain ⟨hr1, hr2, hr3, hr4, hr5, hr6⟩ := id hR
  have hr1 : x1.toInt % 41 = 0 := hr1
  have hr2 : 0 ≤ x1.toInt := hr2
  have hr3 : x1.toInt < 27306 := hr3
  have i7_k : x3.toInt ≤ (qn b1_k : Int) := i7_k
  have i8_k : x4.toInt = (b1_k.length : Int) := i8_k
  have hl_k : (l.length : Int) = b1_k.length + (b3_k.length + 1) := by rw [i9_k, llen, llenc]
  have hq_k : qn l = qn b1_k + ((if c = 4 ∨ c = 5 then 1 else 0) + qn b3_k) := by rw [i9_k, qn_app]; rfl
  have hq2_k : qn (b1_k ++ [c]) = qn b1_k + (if c = 4 ∨ c = 5 then 1 else 0) := by rw [qn_app]; rfl
  obtain ⟨bb_k, W2_k, rfl⟩ := ws_W i10_k
  obtain ⟨ks_k, hk_k, hw_k⟩ := ws_hd i10_k
  have hp_k : (ps_a s 1134 (Int32.toNatClampNeg ((x1 + 1) + x4))).toInt = (c : Int) := Rw_p (l1 := b1_k) (l2 := b3_k) hR i9_k i8_k
  have hc_k : c < 72 := ws_72 (Sg_σ hS) i10_k c List.mem_cons_self
  have hml_k : ((ml ++ [4]) ++ m1_k).length = ml.length + 1 + m1_k.length := by rw [List.length_append, List.length_append]; rfl
  have h34_k := i13_k.1
  refine pg_220_0 ?_
  have a1_k : (x1 + 1).toInt = x1.toInt + (1 : Int) := xIa (show -2147483648 ≤ x1.toInt + (1 : Int) from by omega) (show x1.toInt + (1 : Int) < 2147483648 from by omega)
  have a2_k : ((x1 + 1) + x4).toInt = (x1 + 1).toInt + x4.toInt := xIa (show -2147483648 ≤ (x1 + 1).toInt + x4.toInt from by omega) (show (x1 + 1).toInt + x4.toInt < 2147483648 from by omega)
  refine ps_nd_i (show pm_in ((x1 + 1) + x4) 27400 = true from xgi (show 0 ≤ ((x1 + 1) + x4).toInt from by omega) (show ((x1 + 1) + x4).toInt < 27400 from by omega)) ?_
  have r3_k : ((x1 + 1) + x4).toInt % 41 = 0 → ((x1 + 1) + x4).toInt < 27306 → 0 ≤ (ps_a s 1134 (Int32.toNatClampNeg ((x1 + 1) + x4))).toInt ∧ (ps_a s 1134 (Int32.toNatClampNeg ((x1 + 1) + x4))).toInt ≤ 40 := fun z1_k z2_k => mp_row (i := ((x1 + 1) + x4)) J z1_k (show 0 ≤ ((x1 + 1) + x4).toInt from by omega) z2_k
  have a4_k : ((60 : Int32) + x2).toInt = (60 : Int) + x2.toInt := xIa (show -2147483648 ≤ (60 : Int) + x2.toInt from by omega) (show (60 : Int) + x2.toInt < 2147483648 from by omega)
  refine And.intro (fun h5_k => ?_) (fun h5_k => ?_)
  · have f6_k : (ps_a s 1134 (Int32.toNatClampNeg ((x1 + 1) + x4))).toInt ≠ ((60 : Int32) + x2).toInt := xne h5_k
    obtain ⟨cc_k, hcc_k, hcr_k⟩ : ∃ cc_k : Nat, ((ps_a s 1134 (Int32.toNatClampNeg ((x1 + 1) + x4)))).toInt = (cc_k : Int) ∧ ([cc_k] = [c] ∨ (40 ≤ c ∧ c < 72 ∧ ws σ [cc_k] [false])) := by first | exact ⟨c, hp_k, Or.inl rfl⟩ | exact ⟨40 + x3.toInt.toNat, by omega, Or.inr ⟨by omega, hc_k, ws_1 (Sg_σ hS) (by omega) (by omega)⟩⟩
    refine pg_225_0 ?_
    have r7_k := mf_34 J
    refine And.intro (fun h8_k => ?_) (fun h8_k => ?_)
    · have f9_k : (260 : Int) ≤ (ps_i s 1131 34).toInt := xle h8_k
      have a10_k : ((ps_i s 1131 34) + 1).toInt = (ps_i s 1131 34).toInt + (1 : Int) := xIa (show -2147483648 ≤ (ps_i s 1131 34).toInt + (1 : Int) from by omega) (show (ps_i s 1131 34).toInt + (1 : Int) < 2147483648 from by omega)
      have J11 := mwi_34 (v := ((ps_i s 1131 34) + 1)) J (show 0 ≤ ((ps_i s 1131 34) + 1).toInt from by omega) (show ((ps_i s 1131 34) + 1).toInt ≤ 100000 from by omega)
      have K12 := kpi K (q := 34) (v := ((ps_i s 1131 34) + 1)) rfl
      refine And.intro (fun h13_k => ?_) (fun h13_k => ?_)
      · have f14_k : (ps_a s 1134 (Int32.toNatClampNeg ((x1 + 1) + x4))).toInt = (4 : Int) := xeq h13_k
        exact ms_232_86 (x1 := x1) (x2 := x2) (σ := σ) (l := l) (ml := ml) (Wb_k := Wb_k) k n10 KH10 x3 x4 b1_k c b3_k (bb_k :: W2_k) (m1_k ++ [cc_k]) _ J11 K12 hS hR (by assumption) (by assumption) (show 0 ≤ x2.toInt from by omega) (show x2.toInt ≤ 11 from by omega) (show 0 ≤ x3.toInt from by omega) (by assumption) (by assumption) (by assumption) (by assumption) (rp_snoc i11_k hcr_k) ((by rw [List.length_append]; show _ + 1 = _; omega)) ((by rw [← List.append_assoc]; first | exact Md_make i13_k hcc_k (by omega) | exact Md_make' i13_k (by omega) (by omega))) ((by omega)) (show 41 - x4.toInt ≤ (n10 : Int) from by omega)
      · have f15_k : (ps_a s 1134 (Int32.toNatClampNeg ((x1 + 1) + x4))).toInt ≠ (4 : Int) := xne h13_k
        refine And.intro (fun h16_k => ?_) (fun h16_k => ?_)
        · have f17_k : (ps_a s 1134 (Int32.toNatClampNeg ((x1 + 1) + x4))).toInt ≠ (5 : Int) := xne h16_k
          have a18_k : (x4 + 1).toInt = x4.toInt + (1 : Int) := xIa (show -2147483648 ≤ x4.toInt + (1 : Int) from by omega) (show x4.toInt + (1 : Int) < 2147483648 from by omega)
          exact KH10 x3 (x4 + 1) (b1_k ++ [c]) b3_k (ks_k ++ W2_k) (m1_k ++ [cc_k]) _ J11 K12 hS hR (by assumption) (by assumption) (show 0 ≤ x2.toInt from by omega) (show x2.toInt ≤ 11 from by omega) (show 0 ≤ x3.toInt from by omega) ((show x3.toInt ≤ (qn (b1_k ++ [c]) : Int) from by rw [hq2_k]; split <;> omega)) ((show ((x4 + 1)).toInt = ((b1_k ++ [c]).length : Int) from by rw [l1c]; omega)) (i9_k.trans (lcat b1_k c b3_k)) (hw_k) (rp_snoc i11_k hcr_k) ((by rw [List.length_append, List.length_append]; show _ + 1 = _ + 1; omega)) ((by rw [← List.append_assoc]; first | exact Md_make i13_k hcc_k (by omega) | exact Md_make' i13_k (by omega) (by omega))) (show 41 - (x4 + 1).toInt ≤ (n10 : Int) - 1 from by omega)
        · have f19_k : (ps_a s 1134 (Int32.toNatClampNeg ((x1 + 1) + x4))).toInt = (5 : Int) := xeq h16_k
          exact ms_232_86 (x1 := x1) (x2 := x2) (σ := σ) (l := l) (ml := ml) (Wb_k := Wb_k) k n10 KH10 x3 x4 b1_k c b3_k (bb_k :: W2_k) (m1_k ++ [cc_k]) _ J11 K12 hS hR (by assumption) (by assumption) (show 0 ≤ x2.toInt from by omega) (show x2.toInt ≤ 11 from by omega) (show 0 ≤ x3.toInt from by omega) (by assumption) (by assumption) (by assumption) (by assumption) (rp_snoc i11_k hcr_k) ((by rw [List.length_append]; show _ + 1 = _; omega)) ((by rw [← List.append_assoc]; first | exact Md_make i13_k hcc_k (by omega) | exact Md_make' i13_k (by omega) (by omega))) ((by omega)) (show 41 - x4.toInt ≤ (n10 : Int) from by omega)
    · have f20_k : (ps_i s 1131 34).toInt < (260 : Int) := xlt h8_k
      refine ps_nd_i (show pm_in (ps_i s 1131 34) 260 = true from xgi (show 0 ≤ (ps_i s 1131 34).toInt from by omega) (show (ps_i s 1131 34).toInt < 260 from by omega)) ?_
      have J21 := mwa_n 1149 (i := (Int32.toNatClampNeg (ps_i s 1131 34))) (v := (ps_a s 1134 (Int32.toNatClampNeg ((x1 + 1) + x4)))) J rfl (by decide)
      have K22 := kpa' K (r := 1149) (i := (Int32.toNatClampNeg (ps_i s 1131 34))) (v := (ps_a s 1134 (Int32.toNatClampNeg ((x1 + 1) + x4)))) rfl
      have a23_k : ((ps_i s 1131 34) + 1).toInt = (ps_i s 1131 34).toInt + (1 : Int) := xIa (show -2147483648 ≤ (ps_i s 1131 34).toInt + (1 : Int) from by omega) (show (ps_i s 1131 34).toInt + (1 : Int) < 2147483648 from by omega)
      have J24 := mwi_34 (v := ((ps_i s 1131 34) + 1)) J21 (show 0 ≤ ((ps_i s 1131 34) + 1).toInt from by omega) (show ((ps_i s 1131 34) + 1).toInt ≤ 100000 from by omega)
      have K25 := kpi K22 (q := 34) (v := ((ps_i s 1131 34) + 1)) rfl
      refine And.intro (fun h26_k => ?_) (fun h26_k => ?_)
      · have f27_k : (ps_a s 1134 (Int32.toNatClampNeg ((x1 + 1) + x4))).toInt = (4 : Int) := xeq h26_k
        exact ms_232_86 (x1 := x1) (x2 := x2) (σ := σ) (l := l) (ml := ml) (Wb_k := Wb_k) k n10 KH10 x3 x4 b1_k c b3_k (bb_k :: W2_k) (m1_k ++ [cc_k]) _ J24 K25 hS hR (by assumption) (by assumption) (show 0 ≤ x2.toInt from by omega) (show x2.toInt ≤ 11 from by omega) (show 0 ≤ x3.toInt from by omega) (by assumption) (by assumption) (by assumption) (by assumption) (rp_snoc i11_k hcr_k) ((by rw [List.length_append]; show _ + 1 = _; omega)) ((by rw [← List.append_assoc]; first | exact Md_make i13_k hcc_k (by omega) | exact Md_make' i13_k (by omega) (by omega))) ((by omega)) (show 41 - x4.toInt ≤ (n10 : Int) from by omega)
      · have f28_k : (ps_a s 1134 (Int32.toNatClampNeg ((x1 + 1) + x4))).toInt ≠ (4 : Int) := xne h26_k
        refine And.intro (fun h29_k => ?_) (fun h29_k => ?_)
        · have f30_k : (ps_a s 1134 (Int32.toNatClampNeg ((x1 + 1) + x4))).toInt ≠ (5 : Int) := xne h29_k
          have a31_k : (x4 + 1).toInt = x4.toInt + (1 : Int) := xIa (show -2147483648 ≤ x4.toInt + (1 : Int) from by omega) (show x4.toInt + (1 : Int) < 2147483648 from by omega)
          exact KH10 x3 (x4 + 1) (b1_k ++ [c]) b3_k (ks_k ++ W2_k) (m1_k ++ [cc_k]) _ J24 K25 hS hR (by assumption) (by assumption) (show 0 ≤ x2.toInt from by omega) (show x2.toInt ≤ 11 from by omega) (show 0 ≤ x3.toInt from by omega) ((show x3.toInt ≤ (qn (b1_k ++ [c]) : Int) from by rw [hq2_k]; split <;> omega)) ((show ((x4 + 1)).toInt = ((b1_k ++ [c]).length : Int) from by rw [l1c]; omega)) (i9_k.trans (lcat b1_k c b3_k)) (hw_k) (rp_snoc i11_k hcr_k) ((by rw [List.length_append, List.length_append]; show _ + 1 = _ + 1; omega)) ((by rw [← List.append_assoc]; first | exact Md_make i13_k hcc_k (by omega) | exact Md_make' i13_k (by omega) (by omega))) (show 41 - (x4 + 1).toInt ≤ (n10 : Int) - 1 from by omega)
        · have f32_k : (ps_a s 1134 (Int32.toNatClampNeg ((x1 + 1) + x4))).toInt = (5 : Int) := xeq h29_k
          exact ms_232_86 (x1 := x1) (x2 := x2) (σ := σ) (l := l) (ml := ml) (Wb_k := Wb_k) k n10 KH10 x3 x4 b1_k c b3_k (bb_k :: W2_k) (m1_k ++ [cc_k]) _ J24 K25 hS hR (by assumption) (by assumption) (show 0 ≤ x2.toInt from by omega) (show x2.toInt ≤ 11 from by omega) (show 0 ≤ x3.toInt from by omega) (by assumption) (by assumption) (by assumption) (by assumption) (rp_snoc i11_k hcr_k) ((by rw [List.length_append]; show _ + 1 = _; omega)) ((by rw [← List.append_assoc]; first | exact Md_make i13_k hcc_k (by omega) | exact Md_make' i13_k (by omega) (by omega))) ((by omega)) (show 41 - x4.toInt ≤ (n10 : Int) from by omega)
  · have f33_k : (ps_a s 1134 (Int32.toNatClampNeg ((x1 + 1) + x4))).toInt = ((60 : Int32) + x2).toInt := xeq h5_k
    have a34_k : ((40 : Int32) + x3).toInt = (40 : Int) + x3.toInt := xIa (show -2147483648 ≤ (40 : Int) + x3.toInt from by omega) (show (40 : Int) + x3.toInt < 2147483648 from by omega)
    obtain ⟨cc_k, hcc_k, hcr_k⟩ : ∃ cc_k : Nat, (((40 : Int32) + x3)).toInt = (cc_k : Int) ∧ ([cc_k] = [c] ∨ (40 ≤ c ∧ c < 72 ∧ ws σ [cc_k] [false])) := by first | exact ⟨c, hp_k, Or.inl rfl⟩ | exact ⟨40 + x3.toInt.toNat, by omega, Or.inr ⟨by omega, hc_k, ws_1 (Sg_σ hS) (by omega) (by omega)⟩⟩
    refine pg_225_0 ?_
    have r35_k := mf_34 J
    refine And.intro (fun h36_k => ?_) (fun h36_k => ?_)
    · have f37_k : (260 : Int) ≤ (ps_i s 1131 34).toInt := xle h36_k
      have a38_k : ((ps_i s 1131 34) + 1).toInt = (ps_i s 1131 34).toInt + (1 : Int) := xIa (show -2147483648 ≤ (ps_i s 1131 34).toInt + (1 : Int) from by omega) (show (ps_i s 1131 34).toInt + (1 : Int) < 2147483648 from by omega)
      have J39 := mwi_34 (v := ((ps_i s 1131 34) + 1)) J (show 0 ≤ ((ps_i s 1131 34) + 1).toInt from by omega) (show ((ps_i s 1131 34) + 1).toInt ≤ 100000 from by omega)
      have K40 := kpi K (q := 34) (v := ((ps_i s 1131 34) + 1)) rfl
      refine And.intro (fun h41_k => ?_) (fun h41_k => ?_)
      · have f42_k : (ps_a s 1134 (Int32.toNatClampNeg ((x1 + 1) + x4))).toInt = (4 : Int) := xeq h41_k
        exact ms_232_86 (x1 := x1) (x2 := x2) (σ := σ) (l := l) (ml := ml) (Wb_k := Wb_k) k n10 KH10 x3 x4 b1_k c b3_k (bb_k :: W2_k) (m1_k ++ [cc_k]) _ J39 K40 hS hR (by assumption) (by assumption) (show 0 ≤ x2.toInt from by omega) (show x2.toInt ≤ 11 from by omega) (show 0 ≤ x3.toInt from by omega) (by assumption) (by assumption) (by assumption) (by assumption) (rp_snoc i11_k hcr_k) ((by rw [List.length_append]; show _ + 1 = _; omega)) ((by rw [← List.append_assoc]; first | exact Md_make i13_k hcc_k (by omega) | exact Md_make' i13_k (by omega) (by omega))) ((by omega)) (show 41 - x4.toInt ≤ (n10 : Int) from by omega)
      · have f43_k : (ps_a s 1134 (Int32.toNatClampNeg ((x1 + 1) + x4))).toInt ≠ (4 : Int) := xne h41_k
        refine And.intro (fun h44_k => ?_) (fun h44_k => ?_)
        · have f45_k : (ps_a s 1134 (Int32.toNatClampNeg ((x1 + 1) + x4))).toInt ≠ (5 : Int) := xne h44_k
          have a46_k : (x4 + 1).toInt = x4.toInt + (1 : Int) := xIa (show -2147483648 ≤ x4.toInt + (1 : Int) from by omega) (show x4.toInt + (1 : Int) < 2147483648 from by omega)
          exact KH10 x3 (x4 + 1) (b1_k ++ [c]) b3_k (ks_k ++ W2_k) (m1_k ++ [cc_k]) _ J39 K40 hS hR (by assumption) (by assumption) (show 0 ≤ x2.toInt from by omega) (show x2.toInt ≤ 11 from by omega) (show 0 ≤ x3.toInt from by omega) ((show x3.toInt ≤ (qn (b1_k ++ [c]) : Int) from by rw [hq2_k]; split <;> omega)) ((show ((x4 + 1)).toInt = ((b1_k ++ [c]).length : Int) from by rw [l1c]; omega)) (i9_k.trans (lcat b1_k c b3_k)) (hw_k) (rp_snoc i11_k hcr_k) ((by rw [List.length_append, List.length_append]; show _ + 1 = _ + 1; omega)) ((by rw [← List.append_assoc]; first | exact Md_make i13_k hcc_k (by omega) | exact Md_make' i13_k (by omega) (by omega))) (show 41 - (x4 + 1).toInt ≤ (n10 : Int) - 1 from by omega)
        · have f47_k : (ps_a s 1134 (Int32.toNatClampNeg ((x1 + 1) + x4))).toInt = (5 : Int) := xeq h44_k
          exact ms_232_86 (x1 := x1) (x2 := x2) (σ := σ) (l := l) (ml := ml) (Wb_k := Wb_k) k n10 KH10 x3 x4 b1_k c b3_k (bb_k :: W2_k) (m1_k ++ [cc_k]) _ J39 K40 hS hR (by assumption) (by assumption) (show 0 ≤ x2.toInt from by omega) (show x2.toInt ≤ 11 from by omega) (show 0 ≤ x3.toInt from by omega) (by assumption) (by assumption) (by assumption) (by assumption) (rp_snoc i11_k hcr_k) ((by rw [List.length_append]; show _ + 1 = _; omega)) ((by rw [← List.append_assoc]; first | exact Md_make i13_k hcc_k (by omega) | exact Md_make' i13_k (by omega) (by omega))) ((by omega)) (show 41 - x4.toInt ≤ (n10 : Int) from by omega)
    · have f48_k : (ps_i s 1131 34).toInt < (260 : Int) := xlt h36_k
      refine ps_nd_i (show pm_in (ps_i s 1131 34) 260 = true from xgi (show 0 ≤ (ps_i s 1131 34).toInt from by omega) (show (ps_i s 1131 34).toInt < 260 from by omega)) ?_
      have J49 := mwa_n 1149 (i := (Int32.toNatClampNeg (ps_i s 1131 34))) (v := ((40 : Int32) + x3)) J rfl (by decide)
      have K50 := kpa' K (r := 1149) (i := (Int32.toNatClampNeg (ps_i s 1131 34))) (v := ((40 : Int32) + x3)) rfl
      have a51_k : ((ps_i s 1131 34) + 1).toInt = (ps_i s 1131 34).toInt + (1 : Int) := xIa (show -2147483648 ≤ (ps_i s 1131 34).toInt + (1 : Int) from by omega) (show (ps_i s 1131 34).toInt + (1 : Int) < 2147483648 from by omega)
      have J52 := mwi_34 (v := ((ps_i s 1131 34) + 1)) J49 (show 0 ≤ ((ps_i s 1131 34) + 1).toInt from by omega) (show ((ps_i s 1131 34) + 1).toInt ≤ 100000 from by omega)
      have K53 := kpi K50 (q := 34) (v := ((ps_i s 1131 34) + 1)) rfl
      refine And.intro (fun h54_k => ?_) (fun h54_k => ?_)
      · have f55_k : (ps_a s 1134 (Int32.toNatClampNeg ((x1 + 1) + x4))).toInt = (4 : Int) := xeq h54_k
        exact ms_232_86 (x1 := x1) (x2 := x2) (σ := σ) (l := l) (ml := ml) (Wb_k := Wb_k) k n10 KH10 x3 x4 b1_k c b3_k (bb_k :: W2_k) (m1_k ++ [cc_k]) _ J52 K53 hS hR (by assumption) (by assumption) (show 0 ≤ x2.toInt from by omega) (show x2.toInt ≤ 11 from by omega) (show 0 ≤ x3.toInt from by omega) (by assumption) (by assumption) (by assumption) (by assumption) (rp_snoc i11_k hcr_k) ((by rw [List.length_append]; show _ + 1 = _; omega)) ((by rw [← List.append_assoc]; first | exact Md_make i13_k hcc_k (by omega) | exact Md_make' i13_k (by omega) (by omega))) ((by omega)) (show 41 - x4.toInt ≤ (n10 : Int) from by omega)
      · have f56_k : (ps_a s 1134 (Int32.toNatClampNeg ((x1 + 1) + x4))).toInt ≠ (4 : Int) := xne h54_k
        refine And.intro (fun h57_k => ?_) (fun h57_k => ?_)
        · have f58_k : (ps_a s 1134 (Int32.toNatClampNeg ((x1 + 1) + x4))).toInt ≠ (5 : Int) := xne h57_k
          have a59_k : (x4 + 1).toInt = x4.toInt + (1 : Int) := xIa (show -2147483648 ≤ x4.toInt + (1 : Int) from by omega) (show x4.toInt + (1 : Int) < 2147483648 from by omega)
          exact KH10 x3 (x4 + 1) (b1_k ++ [c]) b3_k (ks_k ++ W2_k) (m1_k ++ [cc_k]) _ J52 K53 hS hR (by assumption) (by assumption) (show 0 ≤ x2.toInt from by omega) (show x2.toInt ≤ 11 from by omega) (show 0 ≤ x3.toInt from by omega) ((show x3.toInt ≤ (qn (b1_k ++ [c]) : Int) from by rw [hq2_k]; split <;> omega)) ((show ((x4 + 1)).toInt = ((b1_k ++ [c]).length : Int) from by rw [l1c]; omega)) (i9_k.trans (lcat b1_k c b3_k)) (hw_k) (rp_snoc i11_k hcr_k) ((by rw [List.length_append, List.length_append]; show _ + 1 = _ + 1; omega)) ((by rw [← List.append_assoc]; first | exact Md_make i13_k hcc_k (by omega) | exact Md_make' i13_k (by omega) (by omega))) (show 41 - (x4 + 1).toInt ≤ (n10 : Int) - 1 from by omega)
        · have f60_k : (ps_a s 1134 (Int32.toNatClampNeg ((x1 + 1) + x4))).toInt = (5 : Int) := xeq h57_k
          exact ms_232_86 (x1 := x1) (x2 := x2) (σ := σ) (l := l) (ml := ml) (Wb_k := Wb_k) k n10 KH10 x3 x4 b1_k c b3_k (bb_k :: W2_k) (m1_k ++ [cc_k]) _ J52 K53 hS hR (by assumption) (by assumption) (show 0 ≤ x2.toInt from by omega) (show x2.toInt ≤ 11 from by omega) (show 0 ≤ x3.toInt from by omega) (by assumption) (by assumption) (by assumption) (by assumption) (rp_snoc i11_k hcr_k) ((by rw [List.length_append]; show _ + 1 = _; omega)) ((by rw [← List.append_assoc]; first | exact Md_make i13_k hcc_k (by omega) | exact Md_make' i13_k (by omega) (by omega))) ((by omega)) (show 41 - x4.toInt ≤ (n10 : Int) from by omega)

theorem ms_232_20 {x : Nat → Nat → Nat} {t : Int32} {d : Nat} {s0 : ps_S} {σ : mSig} {l ml : List Nat} {Wb_k : List Bool} {x1 : Int32} {x2 : Int32} {Q : Option Value → ps_S → Prop} (k : ∀ (s' : ps_S), mJ x t s' → kp [1149, 1150] [34] s0 s' → (∃ m : List Nat, m.length ≤ 40 ∧ rp σ l m ∧ Md (ps_a s' 1149) (ps_i s' 1131 34).toInt ((ml ++ [4]) ++ m)) → Q none s') (n10 : Nat) (KH10 : ∀ (x3 : Int32) (x4 : Int32) (b1_k : List Nat) (b2_k : List Nat) (W_k : List Bool) (m1_k : List Nat) (s : ps_S), (mJ x t s) → (kp [1149, 1150] [34] s0 s) → (Sg (ps_a s 1135) (ps_a s 1136) (ps_a s 1138) (ps_a s 1139) (ps_i s 1131 21).toInt σ) → (Rw (ps_a s 1134) x1.toInt l) → (ml.length ≤ 1000) → (qn l ≤ 29) → (0 ≤ x2.toInt) → (x2.toInt ≤ 11) → (0 ≤ x3.toInt) → (x3.toInt ≤ (qn b1_k : Int)) → (x4.toInt = (b1_k.length : Int)) → (l = b1_k ++ b2_k) → (ws σ b2_k W_k) → (rp σ b1_k m1_k) → (m1_k.length = b1_k.length) → (Md (ps_a s 1149) (ps_i s 1131 34).toInt ((ml ++ [4]) ++ m1_k)) → (41 - x4.toInt ≤ (n10 : Int) - 1) → ps_At (d + 2) 232 10 [(0, .ref 1131), (1, .int x1), (2, .int x2), (3, .int x3), (4, .int x4)] [] s Q) : ∀ (n : Nat) (x3 : Int32) (x4 : Int32) (b1_k : List Nat) (c : Nat) (b3_k : List Nat) (W_k : List Bool) (m1_k : List Nat) (s : ps_S), (mJ x t s) → (kp [1149, 1150] [34] s0 s) → (Sg (ps_a s 1135) (ps_a s 1136) (ps_a s 1138) (ps_a s 1139) (ps_i s 1131 21).toInt σ) → (Rw (ps_a s 1134) x1.toInt l) → (ml.length ≤ 1000) → (qn l ≤ 29) → (0 ≤ x2.toInt) → (x2.toInt ≤ 11) → (0 ≤ x3.toInt) → (x3.toInt ≤ (qn b1_k : Int)) → (x4.toInt = (b1_k.length : Int)) → (l = b1_k ++ c :: b3_k) → (ws σ (c :: b3_k) W_k) → (rp σ b1_k m1_k) → (m1_k.length = b1_k.length) → (Md (ps_a s 1149) (ps_i s 1131 34).toInt ((ml ++ [4]) ++ m1_k)) → (41 - x4.toInt ≤ (n10 : Int)) → x3.toInt ≤ (n : Int) → ps_At (d + 2) 232 20 [(0, .ref 1131), (1, .int x1), (2, .int x2), (3, .int x3), (4, .int x4)] [] s Q := by
  refine xstr (fun n ih => ?_)
  intro x3 x4 b1_k c b3_k W_k m1_k s J K hS hR i2_k i3_k i4_k i5_k i6_k i7_k i8_k i9_k i10_k i11_k i12_k i13_k hm10 hm
  refine pg_232_20 (d := d + 1) ?_
  obtain ⟨hr1, hr2, hr3, hr4, hr5, hr6⟩ := id hR
  have hr1 : x1.toInt % 41 = 0 := hr1
  have hr2 : 0 ≤ x1.toInt := hr2
  have hr3 : x1.toInt < 27306 := hr3
  have i7_k : x3.toInt ≤ (qn b1_k : Int) := i7_k
  have i8_k : x4.toInt = (b1_k.length : Int) := i8_k
  have hl_k : (l.length : Int) = b1_k.length + (b3_k.length + 1) := by rw [i9_k, llen, llenc]
  have hq_k : qn l = qn b1_k + ((if c = 4 ∨ c = 5 then 1 else 0) + qn b3_k) := by rw [i9_k, qn_app]; rfl
  have hq2_k : qn (b1_k ++ [c]) = qn b1_k + (if c = 4 ∨ c = 5 then 1 else 0) := by rw [qn_app]; rfl
  refine And.intro (fun h1_k => ?_) (fun h1_k => ?_)
  · have f2_k : x3.toInt ≤ (0 : Int) := xle h1_k
    exact ms_232_43 (x1 := x1) (x2 := x2) (σ := σ) (l := l) (ml := ml) (Wb_k := Wb_k) k n10 KH10 x3 x4 b1_k c b3_k W_k m1_k _ J K hS hR (by assumption) (by assumption) (show 0 ≤ x2.toInt from by omega) (show x2.toInt ≤ 11 from by omega) (show 0 ≤ x3.toInt from by omega) (by assumption) (by assumption) (by assumption) (by assumption) (by assumption) (by assumption) (by assumption) (show 41 - x4.toInt ≤ (n10 : Int) from by omega)
  · have f3_k : (0 : Int) < x3.toInt := xlt h1_k
    have a4_k : (x3 - 1).toInt = x3.toInt - (1 : Int) := xIs (show -2147483648 ≤ x3.toInt - (1 : Int) from by omega) (show x3.toInt - (1 : Int) < 2147483648 from by omega)
    refine ps_nd_i (show pm_in (x3 - 1) 260 = true from xgi (show 0 ≤ (x3 - 1).toInt from by omega) (show (x3 - 1).toInt < 260 from by omega)) ?_
    refine And.intro (fun h5_k => ?_) (fun h5_k => ?_)
    · have f6_k : x4.toInt < (ps_a s 1150 (Int32.toNatClampNeg (x3 - 1))).toInt := xlt h5_k
      exact ms_232_43 (x1 := x1) (x2 := x2) (σ := σ) (l := l) (ml := ml) (Wb_k := Wb_k) k n10 KH10 x3 x4 b1_k c b3_k W_k m1_k _ J K hS hR (by assumption) (by assumption) (show 0 ≤ x2.toInt from by omega) (show x2.toInt ≤ 11 from by omega) (show 0 ≤ x3.toInt from by omega) (by assumption) (by assumption) (by assumption) (by assumption) (by assumption) (by assumption) (by assumption) (show 41 - x4.toInt ≤ (n10 : Int) from by omega)
    · have f7_k : (ps_a s 1150 (Int32.toNatClampNeg (x3 - 1))).toInt ≤ x4.toInt := xle h5_k
      generalize hx9 : (x3 + (Int32.ofInt (-1))) = xd8
      have a10_k : xd8.toInt = x3.toInt + (-1) := by rw [← hx9]; exact xdec (show -2147483648 < x3.toInt from by omega)
      clear hx9
      exact ih (n - 1) (show n - 1 < n from by omega) xd8 x4 b1_k c b3_k W_k m1_k _ J K hS hR (by assumption) (by assumption) (show 0 ≤ x2.toInt from by omega) (show x2.toInt ≤ 11 from by omega) (show 0 ≤ xd8.toInt from by omega) ((show (xd8).toInt ≤ (qn b1_k : Int) from by omega)) (by assumption) (by assumption) (by assumption) (by assumption) (by assumption) (by assumption) (show 41 - x4.toInt ≤ (n10 : Int) from by omega) (show xd8.toInt ≤ ((n - 1 : Nat) : Int) from by omega)

theorem ms_232_10 {x : Nat → Nat → Nat} {t : Int32} {d : Nat} {s0 : ps_S} {σ : mSig} {l ml : List Nat} {Wb_k : List Bool} {x1 : Int32} {x2 : Int32} {Q : Option Value → ps_S → Prop} (k : ∀ (s' : ps_S), mJ x t s' → kp [1149, 1150] [34] s0 s' → (∃ m : List Nat, m.length ≤ 40 ∧ rp σ l m ∧ Md (ps_a s' 1149) (ps_i s' 1131 34).toInt ((ml ++ [4]) ++ m)) → Q none s') : ∀ (n : Nat) (x3 : Int32) (x4 : Int32) (b1_k : List Nat) (b2_k : List Nat) (W_k : List Bool) (m1_k : List Nat) (s : ps_S), (mJ x t s) → (kp [1149, 1150] [34] s0 s) → (Sg (ps_a s 1135) (ps_a s 1136) (ps_a s 1138) (ps_a s 1139) (ps_i s 1131 21).toInt σ) → (Rw (ps_a s 1134) x1.toInt l) → (ml.length ≤ 1000) → (qn l ≤ 29) → (0 ≤ x2.toInt) → (x2.toInt ≤ 11) → (0 ≤ x3.toInt) → (x3.toInt ≤ (qn b1_k : Int)) → (x4.toInt = (b1_k.length : Int)) → (l = b1_k ++ b2_k) → (ws σ b2_k W_k) → (rp σ b1_k m1_k) → (m1_k.length = b1_k.length) → (Md (ps_a s 1149) (ps_i s 1131 34).toInt ((ml ++ [4]) ++ m1_k)) → 41 - x4.toInt ≤ (n : Int) → ps_At (d + 2) 232 10 [(0, .ref 1131), (1, .int x1), (2, .int x2), (3, .int x3), (4, .int x4)] [] s Q := by
  refine xstr (fun n ih => ?_)
  intro x3 x4 b1_k b2_k W_k m1_k s J K hS hR i2_k i3_k i4_k i5_k i6_k i7_k i8_k i9_k i10_k i11_k i12_k i13_k hm
  refine pg_232_10 (d := d + 1) ?_
  obtain ⟨hr1, hr2, hr3, hr4, hr5, hr6⟩ := id hR
  have hr1 : x1.toInt % 41 = 0 := hr1
  have hr2 : 0 ≤ x1.toInt := hr2
  have hr3 : x1.toInt < 27306 := hr3
  have i8_k : x4.toInt = (b1_k.length : Int) := i8_k
  have hl_k : (l.length : Int) = b1_k.length + b2_k.length := by rw [i9_k]; exact llen
  have hn_k : (ps_a s 1134 (Int32.toNatClampNeg x1)).toInt = (l.length : Int) := Rw_n hR
  refine pg_219_0 ?_
  refine ps_nd_i (show pm_in x1 27400 = true from xgi (show 0 ≤ x1.toInt from by omega) (show x1.toInt < 27400 from by omega)) ?_
  have r1_k : x1.toInt % 41 = 0 → x1.toInt < 27306 → 0 ≤ (ps_a s 1134 (Int32.toNatClampNeg x1)).toInt ∧ (ps_a s 1134 (Int32.toNatClampNeg x1)).toInt ≤ 40 := fun z1_k z2_k => mp_row (i := x1) J z1_k (show 0 ≤ x1.toInt from by omega) z2_k
  refine And.intro (fun h2_k => ?_) (fun h2_k => ?_)
  · have f3_k : (ps_a s 1134 (Int32.toNatClampNeg x1)).toInt ≤ x4.toInt := xle h2_k
    have e0_k := lnil (W := b2_k) (by omega)
    subst e0_k
    rw [List.append_nil] at i9_k
    subst i9_k
    exact k _ J K (⟨m1_k, by omega, i11_k, i13_k⟩)
  · have f4_k : x4.toInt < (ps_a s 1134 (Int32.toNatClampNeg x1)).toInt := xlt h2_k
    obtain ⟨c, b3_k, rfl⟩ := lpos (W := b2_k) (by omega)
    exact ms_232_20 (x1 := x1) (x2 := x2) (σ := σ) (l := l) (ml := ml) (Wb_k := Wb_k) k n (fun x3z x4z b1z b2z Wz m1z sz Jz Kz i0z i1z i2z i3z i4z i5z i6z i7z i8z i9z i10z i11z i12z i13z hm => ih (n - 1) (show n - 1 < n from by omega) x3z x4z b1z b2z Wz m1z sz Jz Kz i0z i1z i2z i3z i4z i5z i6z i7z i8z i9z i10z i11z i12z i13z (show _ ≤ ((n - 1 : Nat) : Int) from by omega)) (x3.toInt).toNat x3 x4 b1_k c b3_k W_k m1_k _ J K hS hR (by assumption) (by assumption) (show 0 ≤ x2.toInt from by omega) (show x2.toInt ≤ 11 from by omega) (show 0 ≤ x3.toInt from by omega) (by assumption) (by assumption) (by assumption) (by assumption) (by assumption) (by assumption) (by assumption) (show 41 - x4.toInt ≤ ((n : Nat) : Int) from by omega) (show x3.toInt ≤ (((x3.toInt).toNat : Nat) : Int) from by omega)

theorem ms_232 {x : Nat → Nat → Nat} {t : Int32} {s : ps_S} {d : Nat} {x1 : Int32} {x2 : Int32} {f : ps_S → Prop} (J : mJ x t s) {σ : mSig} {l ml : List Nat} {Wb_k : List Bool} (hS : Sg (ps_a s 1135) (ps_a s 1136) (ps_a s 1138) (ps_a s 1139) (ps_i s 1131 21).toInt σ) (hR : Rw (ps_a s 1134) x1.toInt l) (q2_k : Md (ps_a s 1149) (ps_i s 1131 34).toInt (ml)) (q3_k : ml.length ≤ 1000) (q4_k : ws σ l Wb_k) (q5_k : qn l ≤ 29) (q6_k : 0 ≤ x2.toInt) (q7_k : x2.toInt ≤ 11) (k : ∀ (s' : ps_S), mJ x t s' → kp [1149, 1150] [34] s s' → (∃ m : List Nat, m.length ≤ 40 ∧ rp σ l m ∧ Md (ps_a s' 1149) (ps_i s' 1131 34).toInt ((ml ++ [4]) ++ m)) → f s') : ps_Cl (d + 2) 232 [.ref 1131, .int x1, .int x2] s (ps_rV f) := by
  have K : kp [1149, 1150] [34] s s := kp_refl
  refine pg_232_0 (d := d + 1) ?_
  obtain ⟨hr1, hr2, hr3, hr4, hr5, hr6⟩ := id hR
  have hr1 : x1.toInt % 41 = 0 := hr1
  have hr2 : 0 ≤ x1.toInt := hr2
  have hr3 : x1.toInt < 27306 := hr3
  have h34_k := q2_k.1
  refine pg_225_0 ?_
  have r1_k := mf_34 J
  refine And.intro (fun h2_k => ?_) (fun h2_k => ?_)
  · have f3_k : (260 : Int) ≤ (ps_i s 1131 34).toInt := xle h2_k
    have a4_k : ((ps_i s 1131 34) + 1).toInt = (ps_i s 1131 34).toInt + (1 : Int) := xIa (show -2147483648 ≤ (ps_i s 1131 34).toInt + (1 : Int) from by omega) (show (ps_i s 1131 34).toInt + (1 : Int) < 2147483648 from by omega)
    have J5 := mwi_34 (v := ((ps_i s 1131 34) + 1)) J (show 0 ≤ ((ps_i s 1131 34) + 1).toInt from by omega) (show ((ps_i s 1131 34) + 1).toInt ≤ 100000 from by omega)
    have K6 := kpi K (q := 34) (v := ((ps_i s 1131 34) + 1)) rfl
    have hM1 : Md (ps_a (ps_ui s 1131 34 ((ps_i s 1131 34) + 1)) 1149) (ps_i (ps_ui s 1131 34 ((ps_i s 1131 34) + 1)) 1131 34).toInt (ml ++ [4]) := by first | exact Md_make (c := 4) q2_k rfl (by omega) | exact Md_make' (c := 4) q2_k (by omega) (by omega)
    exact ms_232_10 (x1 := x1) (x2 := x2) (σ := σ) (l := l) (ml := ml) (Wb_k := Wb_k) k  (41 - (0 : Int)).toNat (0) (0) [] l Wb_k [] _ J5 K6 hS hR (q3_k) (q5_k) (show 0 ≤ x2.toInt from by omega) (show x2.toInt ≤ 11 from by omega) (show 0 ≤ (0 : Int) from by omega) ((Int.le_refl _)) (rfl) (rfl) (q4_k) (rfl) (rfl) ((by rw [List.append_nil]; exact hM1)) (show 41 - (0 : Int) ≤ (((41 - (0 : Int)).toNat : Nat) : Int) from by omega)
  · have f7_k : (ps_i s 1131 34).toInt < (260 : Int) := xlt h2_k
    refine ps_nd_i (show pm_in (ps_i s 1131 34) 260 = true from xgi (show 0 ≤ (ps_i s 1131 34).toInt from by omega) (show (ps_i s 1131 34).toInt < 260 from by omega)) ?_
    have J8 := mwa_n 1149 (i := (Int32.toNatClampNeg (ps_i s 1131 34))) (v := (4 : Int32)) J rfl (by decide)
    have K9 := kpa' K (r := 1149) (i := (Int32.toNatClampNeg (ps_i s 1131 34))) (v := (4 : Int32)) rfl
    have a10_k : ((ps_i s 1131 34) + 1).toInt = (ps_i s 1131 34).toInt + (1 : Int) := xIa (show -2147483648 ≤ (ps_i s 1131 34).toInt + (1 : Int) from by omega) (show (ps_i s 1131 34).toInt + (1 : Int) < 2147483648 from by omega)
    have J11 := mwi_34 (v := ((ps_i s 1131 34) + 1)) J8 (show 0 ≤ ((ps_i s 1131 34) + 1).toInt from by omega) (show ((ps_i s 1131 34) + 1).toInt ≤ 100000 from by omega)
    have K12 := kpi K9 (q := 34) (v := ((ps_i s 1131 34) + 1)) rfl
    have hM1 : Md (ps_a (ps_ui (ps_ua s 1149 (Int32.toNatClampNeg (ps_i s 1131 34)) 4) 1131 34 ((ps_i s 1131 34) + 1)) 1149) (ps_i (ps_ui (ps_ua s 1149 (Int32.toNatClampNeg (ps_i s 1131 34)) 4) 1131 34 ((ps_i s 1131 34) + 1)) 1131 34).toInt (ml ++ [4]) := by first | exact Md_make (c := 4) q2_k rfl (by omega) | exact Md_make' (c := 4) q2_k (by omega) (by omega)
    exact ms_232_10 (x1 := x1) (x2 := x2) (σ := σ) (l := l) (ml := ml) (Wb_k := Wb_k) k  (41 - (0 : Int)).toNat (0) (0) [] l Wb_k [] _ J11 K12 hS hR (q3_k) (q5_k) (show 0 ≤ x2.toInt from by omega) (show x2.toInt ≤ 11 from by omega) (show 0 ≤ (0 : Int) from by omega) ((Int.le_refl _)) (rfl) (rfl) (q4_k) (rfl) (rfl) ((by rw [List.append_nil]; exact hM1)) (show 41 - (0 : Int) ≤ (((41 - (0 : Int)).toNat : Nat) : Int) from by omega)
end
section
set_option maxRecDepth 100000
-- ProofBenchModel.assumeRow(II)V
theorem pg_248_0 {d : Nat} {x1 : Int32} {x2 : Int32} {s : ps_S} {Q : Option Value → ps_S → Prop} (h :
  ps_At (d + 1) 248 2 [(0, .ref 1131), (1, .int x1), (2, .int x2), (3, .int 0)] [] s Q) : ps_At (d + 1) 248 0 [(0, .ref 1131), (1, .int x1), (2, .int x2)] [] s Q :=
  ps_wp_at (stops := [(2, [0, 1, 2, 3]), (36, [0, 1, 2])]) (n := 4) h rfl

theorem pg_248_2 {d : Nat} {x1 : Int32} {x2 : Int32} {x3 : Int32} {s : ps_S} {Q : Option Value → ps_S → Prop} (h :
  ((ps_i s 1131 51) ≤ x3 →
    ps_At (d + 1) 248 36 [(0, .ref 1131), (1, .int x1), (2, .int x2)] [] s Q) ∧
  (x3 < (ps_i s 1131 51) →
    (12 ≤ x3 →
      ps_At (d + 1) 248 36 [(0, .ref 1131), (1, .int x1), (2, .int x2)] [] s Q) ∧
    (x3 < 12 →
      ps_Cl d 243 [.int x1, .int x3] s (ps_rI (fun v1 s1 =>
        ps_Cl d 222 [.ref 1131, .int v1, .int x2] s1 (ps_rI (fun v2 s2 =>
          (v2 = 0 →
            ps_At (d + 1) 248 2 [(0, .ref 1131), (1, .int x1), (2, .int x2), (3, .int (x3 + 1))] [] s2 Q) ∧
          (v2 ≠ 0 →
            Q none s2)))))))) : ps_At (d + 1) 248 2 [(0, .ref 1131), (1, .int x1), (2, .int x2), (3, .int x3)] [] s Q :=
  ps_wp_at (stops := [(2, [0, 1, 2, 3]), (36, [0, 1, 2])]) (n := 19) h rfl

theorem pg_248_36 {d : Nat} {x1 : Int32} {x2 : Int32} {s : ps_S} {Q : Option Value → ps_S → Prop} (h :
  (12 ≤ (ps_i s 1131 51) →
    Q none (ps_ui s 1131 51 ((ps_i s 1131 51) + 1))) ∧
  ((ps_i s 1131 51) < 12 →
    ps_Cl d 243 [.int x1, .int (ps_i s 1131 51)] s (ps_rI (fun v1 s1 =>
      ps_Cl d 224 [.ref 1131, .int x2, .int v1] s1 (ps_rV (fun s2 =>
        Q none (ps_ui s2 1131 51 ((ps_i s2 1131 51) + 1)))))))) : ps_At (d + 1) 248 36 [(0, .ref 1131), (1, .int x1), (2, .int x2)] [] s Q :=
  ps_wp_at (stops := [(2, [0, 1, 2, 3]), (36, [0, 1, 2])]) (n := 27) h rfl

theorem ms_248_36 {x : Nat → Nat → Nat} {t : Int32} {d : Nat} {s0 : ps_S} {σ : mSig} {x1 : Int32} {x2 : Int32} {Q : Option Value → ps_S → Prop} (k : ∀ (s' : ps_S), mJ x t s' → kp [1134] [51] s0 s' → (As σ (ps_a s' 1134) x1.toInt (ps_i s' 1131 51).toInt) → (OutB (ps_a s0 1134) (ps_a s' 1134) x1.toInt) → ((ps_i s0 1131 51).toInt ≤ (ps_i s' 1131 51).toInt) → ((ps_i s' 1131 51).toInt ≤ (ps_i s0 1131 51).toInt + 1) → Q none s') (s : ps_S) (J : mJ x t s) (K : kp [1134] [51] s0 s) (hA : As σ (ps_a s 1134) x1.toInt (ps_i s 1131 51).toInt) (hF : Fm σ (ps_a s 1134) x2.toInt) (i2 : 0 ≤ x1.toInt) (i3 : x1.toInt < 40) (i4 : x2.toInt + 41 ≤ 1640 + 492 * x1.toInt ∨ 1640 + 492 * x1.toInt + 492 ≤ x2.toInt) (i5 : (ps_i s 1131 51).toInt ≤ 900) (i6 : (ps_i s 1131 51).toInt = (ps_i s0 1131 51).toInt) (i7 : OutB (ps_a s0 1134) (ps_a s 1134) x1.toInt) : ps_At (d + 2) 248 36 [(0, .ref 1131), (1, .int x1), (2, .int x2)] [] s Q := by
  have r1 := mf_51 J
  refine pg_248_36 (d := d + 1) ?_
  obtain ⟨w1, w2, w3⟩ := Fm_r hF
  have w1 : x2.toInt % 41 = 0 := w1
  have w2 : 0 ≤ x2.toInt := w2
  have w3 : x2.toInt < 27306 := w3
  obtain ⟨l, hl1, hl2⟩ := hF
  refine And.intro (fun h2 => ?_) (fun h2 => ?_)
  · have f3 : (12 : Int) ≤ (ps_i s 1131 51).toInt := xle h2
    have a4 : ((ps_i s 1131 51) + 1).toInt = (ps_i s 1131 51).toInt + (1 : Int) := xIa (show -2147483648 ≤ (ps_i s 1131 51).toInt + (1 : Int) from by omega) (show (ps_i s 1131 51).toInt + (1 : Int) < 2147483648 from by omega)
    have J5 := mwi_51 (v := ((ps_i s 1131 51) + 1)) J (show 0 ≤ ((ps_i s 1131 51) + 1).toInt from by omega) (show ((ps_i s 1131 51) + 1).toInt ≤ 1000 from by omega)
    have K6 := kpi K (q := 51) (v := ((ps_i s 1131 51) + 1)) rfl
    exact k _ J5 K6 ((by first | exact As_more hA (by omega) | exact (show As σ (ps_a (ps_ui s 1131 51 ((ps_i s 1131 51) + 1)) 1134) x1.toInt ((ps_i s 1131 51) + 1).toInt from (by rw [show ((ps_i s 1131 51) + 1).toInt = (ps_i s 1131 51).toInt + 1 from by omega]; exact As_put hA (by omega) ⟨l, (by have z := hc1; rw [show ((1640 : Int32) + ((41 : Int32) * (((12 : Int32) * x1) + (ps_i s 1131 51)))).toInt = 1640 + 41 * (12 * x1.toInt + (ps_i s 1131 51).toInt) from by omega] at z; exact z), hl2⟩ (fun k hk => hc2 k (by omega)))))) ((by first | exact i7 | exact OutB_tr i7 (fun k hk => hc2 k (by omega)))) (show (ps_i s0 1131 51).toInt ≤ ((ps_i s 1131 51) + 1).toInt from by omega) (show ((ps_i s 1131 51) + 1).toInt ≤ (ps_i s0 1131 51).toInt + 1 from by omega)
  · have f7 : (ps_i s 1131 51).toInt < (12 : Int) := xlt h2
    refine pg_243_0 ?_
    have a8 : ((12 : Int32) * x1).toInt = (12 : Int) * x1.toInt := xIm (show -2147483648 ≤ (12 : Int) * x1.toInt from by omega) (show (12 : Int) * x1.toInt < 2147483648 from by omega)
    have a9 : (((12 : Int32) * x1) + (ps_i s 1131 51)).toInt = ((12 : Int32) * x1).toInt + (ps_i s 1131 51).toInt := xIa (show -2147483648 ≤ ((12 : Int32) * x1).toInt + (ps_i s 1131 51).toInt from by omega) (show ((12 : Int32) * x1).toInt + (ps_i s 1131 51).toInt < 2147483648 from by omega)
    have a10 : ((41 : Int32) * (((12 : Int32) * x1) + (ps_i s 1131 51))).toInt = (41 : Int) * (((12 : Int32) * x1) + (ps_i s 1131 51)).toInt := xIm (show -2147483648 ≤ (41 : Int) * (((12 : Int32) * x1) + (ps_i s 1131 51)).toInt from by omega) (show (41 : Int) * (((12 : Int32) * x1) + (ps_i s 1131 51)).toInt < 2147483648 from by omega)
    have a11 : ((1640 : Int32) + ((41 : Int32) * (((12 : Int32) * x1) + (ps_i s 1131 51)))).toInt = (1640 : Int) + ((41 : Int32) * (((12 : Int32) * x1) + (ps_i s 1131 51))).toInt := xIa (show -2147483648 ≤ (1640 : Int) + ((41 : Int32) * (((12 : Int32) * x1) + (ps_i s 1131 51))).toInt from by omega) (show (1640 : Int) + ((41 : Int32) * (((12 : Int32) * x1) + (ps_i s 1131 51))).toInt < 2147483648 from by omega)
    refine ms_224 J (hl1) (show ((1640 : Int32) + ((41 : Int32) * (((12 : Int32) * x1) + (ps_i s 1131 51)))).toInt % 41 = 0 from by omega) (show 0 ≤ ((1640 : Int32) + ((41 : Int32) * (((12 : Int32) * x1) + (ps_i s 1131 51)))).toInt from by omega) (show ((1640 : Int32) + ((41 : Int32) * (((12 : Int32) * x1) + (ps_i s 1131 51)))).toInt < 27306 from by omega) (show x2.toInt ≠ ((1640 : Int32) + ((41 : Int32) * (((12 : Int32) * x1) + (ps_i s 1131 51)))).toInt from by omega) (fun s12 J12 K12 p12_0 p12_1 => ?_)
    have K13 := kpt K K12 rfl rfl
    have hc1 : _ := p12_0
    have hc2 : _ := p12_1
    have r14 := mf_51 J12
    have u15 : (ps_i s12 1131 51).toInt = (ps_i s 1131 51).toInt := xeq (kp_i K12 51 rfl)
    have a16 : ((ps_i s12 1131 51) + 1).toInt = (ps_i s12 1131 51).toInt + (1 : Int) := xIa (show -2147483648 ≤ (ps_i s12 1131 51).toInt + (1 : Int) from by omega) (show (ps_i s12 1131 51).toInt + (1 : Int) < 2147483648 from by omega)
    have J17 := mwi_51 (v := ((ps_i s12 1131 51) + 1)) J12 (show 0 ≤ ((ps_i s12 1131 51) + 1).toInt from by omega) (show ((ps_i s12 1131 51) + 1).toInt ≤ 1000 from by omega)
    have K18 := kpi K13 (q := 51) (v := ((ps_i s12 1131 51) + 1)) rfl
    exact k _ J17 K18 ((by first | exact As_more hA (by omega) | exact (show As σ (ps_a (ps_ui s12 1131 51 ((ps_i s12 1131 51) + 1)) 1134) x1.toInt ((ps_i s12 1131 51) + 1).toInt from (by rw [show ((ps_i s12 1131 51) + 1).toInt = (ps_i s 1131 51).toInt + 1 from by omega]; exact As_put hA (by omega) ⟨l, (by have z := hc1; rw [show ((1640 : Int32) + ((41 : Int32) * (((12 : Int32) * x1) + (ps_i s 1131 51)))).toInt = 1640 + 41 * (12 * x1.toInt + (ps_i s 1131 51).toInt) from by omega] at z; exact z), hl2⟩ (fun k hk => hc2 k (by omega)))))) ((by first | exact i7 | exact OutB_tr i7 (fun k hk => hc2 k (by omega)))) (show (ps_i s0 1131 51).toInt ≤ ((ps_i s12 1131 51) + 1).toInt from by omega) (show ((ps_i s12 1131 51) + 1).toInt ≤ (ps_i s0 1131 51).toInt + 1 from by omega)

theorem ms_248_2 {x : Nat → Nat → Nat} {t : Int32} {d : Nat} {s0 : ps_S} {σ : mSig} {x1 : Int32} {x2 : Int32} {Q : Option Value → ps_S → Prop} (k : ∀ (s' : ps_S), mJ x t s' → kp [1134] [51] s0 s' → (As σ (ps_a s' 1134) x1.toInt (ps_i s' 1131 51).toInt) → (OutB (ps_a s0 1134) (ps_a s' 1134) x1.toInt) → ((ps_i s0 1131 51).toInt ≤ (ps_i s' 1131 51).toInt) → ((ps_i s' 1131 51).toInt ≤ (ps_i s0 1131 51).toInt + 1) → Q none s') : ∀ (n : Nat) (x3 : Int32) (s : ps_S), (mJ x t s) → (kp [1134] [51] s0 s) → (As σ (ps_a s 1134) x1.toInt (ps_i s 1131 51).toInt) → (Fm σ (ps_a s 1134) x2.toInt) → (0 ≤ x1.toInt) → (x1.toInt < 40) → (x2.toInt + 41 ≤ 1640 + 492 * x1.toInt ∨ 1640 + 492 * x1.toInt + 492 ≤ x2.toInt) → ((ps_i s 1131 51).toInt ≤ 900) → (0 ≤ x3.toInt) → ((ps_i s 1131 51).toInt = (ps_i s0 1131 51).toInt) → (OutB (ps_a s0 1134) (ps_a s 1134) x1.toInt) → 20 - x3.toInt ≤ (n : Int) → ps_At (d + 2) 248 2 [(0, .ref 1131), (1, .int x1), (2, .int x2), (3, .int x3)] [] s Q := by
  refine xstr (fun n ih => ?_)
  intro x3 s J K hA hF i2 i3 i4 i5 i6 i7 i8 hm
  have r1 := mf_51 J
  refine pg_248_2 (d := d + 1) ?_
  obtain ⟨w1, w2, w3⟩ := Fm_r hF
  have w1 : x2.toInt % 41 = 0 := w1
  have w2 : 0 ≤ x2.toInt := w2
  have w3 : x2.toInt < 27306 := w3
  refine And.intro (fun h2 => ?_) (fun h2 => ?_)
  · have f3 : (ps_i s 1131 51).toInt ≤ x3.toInt := xle h2
    exact ms_248_36 (x1 := x1) (x2 := x2) (σ := σ) k   _ J K hA hF (show 0 ≤ x1.toInt from by omega) (show x1.toInt < 40 from by omega) (show x2.toInt + 41 ≤ 1640 + 492 * x1.toInt ∨ 1640 + 492 * x1.toInt + 492 ≤ x2.toInt from by omega) (show (ps_i s 1131 51).toInt ≤ 900 from by omega) (show (ps_i s 1131 51).toInt = (ps_i s0 1131 51).toInt from by omega) (by assumption)
  · have f4 : x3.toInt < (ps_i s 1131 51).toInt := xlt h2
    refine And.intro (fun h5 => ?_) (fun h5 => ?_)
    · have f6 : (12 : Int) ≤ x3.toInt := xle h5
      exact ms_248_36 (x1 := x1) (x2 := x2) (σ := σ) k   _ J K hA hF (show 0 ≤ x1.toInt from by omega) (show x1.toInt < 40 from by omega) (show x2.toInt + 41 ≤ 1640 + 492 * x1.toInt ∨ 1640 + 492 * x1.toInt + 492 ≤ x2.toInt from by omega) (show (ps_i s 1131 51).toInt ≤ 900 from by omega) (show (ps_i s 1131 51).toInt = (ps_i s0 1131 51).toInt from by omega) (by assumption)
    · have f7 : x3.toInt < (12 : Int) := xlt h5
      refine pg_243_0 ?_
      have a8 : ((12 : Int32) * x1).toInt = (12 : Int) * x1.toInt := xIm (show -2147483648 ≤ (12 : Int) * x1.toInt from by omega) (show (12 : Int) * x1.toInt < 2147483648 from by omega)
      have a9 : (((12 : Int32) * x1) + x3).toInt = ((12 : Int32) * x1).toInt + x3.toInt := xIa (show -2147483648 ≤ ((12 : Int32) * x1).toInt + x3.toInt from by omega) (show ((12 : Int32) * x1).toInt + x3.toInt < 2147483648 from by omega)
      have a10 : ((41 : Int32) * (((12 : Int32) * x1) + x3)).toInt = (41 : Int) * (((12 : Int32) * x1) + x3).toInt := xIm (show -2147483648 ≤ (41 : Int) * (((12 : Int32) * x1) + x3).toInt from by omega) (show (41 : Int) * (((12 : Int32) * x1) + x3).toInt < 2147483648 from by omega)
      have a11 : ((1640 : Int32) + ((41 : Int32) * (((12 : Int32) * x1) + x3))).toInt = (1640 : Int) + ((41 : Int32) * (((12 : Int32) * x1) + x3)).toInt := xIa (show -2147483648 ≤ (1640 : Int) + ((41 : Int32) * (((12 : Int32) * x1) + x3)).toInt from by omega) (show (1640 : Int) + ((41 : Int32) * (((12 : Int32) * x1) + x3)).toInt < 2147483648 from by omega)
      refine ms_222 J (show ((1640 : Int32) + ((41 : Int32) * (((12 : Int32) * x1) + x3))).toInt % 41 = 0 from by omega) (show 0 ≤ ((1640 : Int32) + ((41 : Int32) * (((12 : Int32) * x1) + x3))).toInt from by omega) (show ((1640 : Int32) + ((41 : Int32) * (((12 : Int32) * x1) + x3))).toInt < 27306 from by omega) (show x2.toInt % 41 = 0 from by omega) (show 0 ≤ x2.toInt from by omega) (show x2.toInt < 27306 from by omega) (fun v12 b12 => ?_)
      refine And.intro (fun h13 => ?_) (fun h13 => ?_)
      · have f14 : v12.toInt = (0 : Int) := xeq h13
        have a15 : (x3 + 1).toInt = x3.toInt + (1 : Int) := xIa (show -2147483648 ≤ x3.toInt + (1 : Int) from by omega) (show x3.toInt + (1 : Int) < 2147483648 from by omega)
        exact ih (n - 1) (show n - 1 < n from by omega) (x3 + 1) _ J K hA hF (show 0 ≤ x1.toInt from by omega) (show x1.toInt < 40 from by omega) (show x2.toInt + 41 ≤ 1640 + 492 * x1.toInt ∨ 1640 + 492 * x1.toInt + 492 ≤ x2.toInt from by omega) (show (ps_i s 1131 51).toInt ≤ 900 from by omega) (show 0 ≤ (x3 + 1).toInt from by omega) (show (ps_i s 1131 51).toInt = (ps_i s0 1131 51).toInt from by omega) (by assumption) (show 20 - (x3 + 1).toInt ≤ ((n - 1 : Nat) : Int) from by omega)
      · have f16 : v12.toInt ≠ (0 : Int) := xne h13
        exact k _ J K hA (by assumption) (show (ps_i s0 1131 51).toInt ≤ (ps_i s 1131 51).toInt from by omega) (show (ps_i s 1131 51).toInt ≤ (ps_i s0 1131 51).toInt + 1 from by omega)

theorem ms_248 {x : Nat → Nat → Nat} {t : Int32} {s : ps_S} {d : Nat} {x1 : Int32} {x2 : Int32} {f : ps_S → Prop} (J : mJ x t s) {σ : mSig} (hA : As σ (ps_a s 1134) x1.toInt (ps_i s 1131 51).toInt) (hF : Fm σ (ps_a s 1134) x2.toInt) (q2 : 0 ≤ x1.toInt) (q3 : x1.toInt < 40) (q4 : x2.toInt + 41 ≤ 1640 + 492 * x1.toInt ∨ 1640 + 492 * x1.toInt + 492 ≤ x2.toInt) (q5 : (ps_i s 1131 51).toInt ≤ 900) (k : ∀ (s' : ps_S), mJ x t s' → kp [1134] [51] s s' → (As σ (ps_a s' 1134) x1.toInt (ps_i s' 1131 51).toInt) → (OutB (ps_a s 1134) (ps_a s' 1134) x1.toInt) → ((ps_i s 1131 51).toInt ≤ (ps_i s' 1131 51).toInt) → ((ps_i s' 1131 51).toInt ≤ (ps_i s 1131 51).toInt + 1) → f s') : ps_Cl (d + 2) 248 [.ref 1131, .int x1, .int x2] s (ps_rV f) := by
  have r1 := mf_51 J
  have K : kp [1134] [51] s s := kp_refl
  refine pg_248_0 (d := d + 1) ?_
  obtain ⟨w1, w2, w3⟩ := Fm_r hF
  have w1 : x2.toInt % 41 = 0 := w1
  have w2 : 0 ≤ x2.toInt := w2
  have w3 : x2.toInt < 27306 := w3
  exact ms_248_2 (x1 := x1) (x2 := x2) (σ := σ) k  (20 - (0 : Int)).toNat (0) _ J K hA hF (show 0 ≤ x1.toInt from by omega) (show x1.toInt < 40 from by omega) (show x2.toInt + 41 ≤ 1640 + 492 * x1.toInt ∨ 1640 + 492 * x1.toInt + 492 ≤ x2.toInt from by omega) (show (ps_i s 1131 51).toInt ≤ 900 from by omega) (show 0 ≤ (0 : Int) from by omega) (show (ps_i s 1131 51).toInt = (ps_i s 1131 51).toInt from by omega) (OutB_refl) (show 20 - (0 : Int) ≤ (((20 - (0 : Int)).toNat : Nat) : Int) from by omega)
end
section
set_option maxRecDepth 100000
-- ProofBenchModel.assumeFrom(IIZ)V
theorem pg_249_0 {d : Nat} {x1 : Int32} {x2 : Int32} {x3 : Int32} {s : ps_S} {Q : Option Value → ps_S → Prop} (h :
  ps_At (d + 1) 249 3 [(0, .ref 1131), (1, .int x1), (2, .int x2), (3, .int x3), (4, .int 0)] [] s Q) : ps_At (d + 1) 249 0 [(0, .ref 1131), (1, .int x1), (2, .int x2), (3, .int x3)] [] s Q :=
  ps_wp_at (stops := [(3, [0, 1, 2, 3, 4]), (31, [0, 1, 2, 3, 4])]) (n := 4) h rfl

theorem pg_249_3 {d : Nat} {x1 : Int32} {x2 : Int32} {x3 : Int32} {x4 : Int32} {s : ps_S} {Q : Option Value → ps_S → Prop} (h :
  ps_nd (pm_in x2 41) (((ps_a s 1157 (Int32.toNatClampNeg x2)) ≤ x4 →
    Q none s) ∧
  (x4 < (ps_a s 1157 (Int32.toNatClampNeg x2)) →
    (x3 = 0 →
      ps_At (d + 1) 249 31 [(0, .ref 1131), (1, .int x1), (2, .int x2), (3, .int x3), (4, .int x4)] [] s Q) ∧
    (x3 ≠ 0 →
      ps_Cl d 243 [.int x2, .int x4] s (ps_rI (fun v1 s1 =>
        ps_Cl d 230 [.ref 1131, .int v1] s1 (ps_rI (fun v2 s2 =>
          (v2 ≠ 0 →
            ps_At (d + 1) 249 3 [(0, .ref 1131), (1, .int x1), (2, .int x2), (3, .int x3), (4, .int (x4 + 1))] [] s2 Q) ∧
          (v2 = 0 →
            ps_At (d + 1) 249 31 [(0, .ref 1131), (1, .int x1), (2, .int x2), (3, .int x3), (4, .int x4)] [] s2 Q))))))))) : ps_At (d + 1) 249 3 [(0, .ref 1131), (1, .int x1), (2, .int x2), (3, .int x3), (4, .int x4)] [] s Q :=
  ps_wp_at (stops := [(3, [0, 1, 2, 3, 4]), (31, [0, 1, 2, 3, 4])]) (n := 19) h rfl

theorem pg_249_31 {d : Nat} {x1 : Int32} {x2 : Int32} {x3 : Int32} {x4 : Int32} {s : ps_S} {Q : Option Value → ps_S → Prop} (h :
  ps_Cl d 243 [.int x2, .int x4] s (ps_rI (fun v1 s1 =>
    ps_Cl d 248 [.ref 1131, .int x1, .int v1] s1 (ps_rV (fun s2 =>
      ps_At (d + 1) 249 3 [(0, .ref 1131), (1, .int x1), (2, .int x2), (3, .int x3), (4, .int (x4 + 1))] [] s2 Q))))) : ps_At (d + 1) 249 31 [(0, .ref 1131), (1, .int x1), (2, .int x2), (3, .int x3), (4, .int x4)] [] s Q :=
  ps_wp_at (stops := [(3, [0, 1, 2, 3, 4]), (31, [0, 1, 2, 3, 4])]) (n := 10) h rfl

theorem ms_249_31 {x : Nat → Nat → Nat} {t : Int32} {d : Nat} {s0 : ps_S} {σ : mSig} {x1 : Int32} {x2 : Int32} {x3 : Int32} {Q : Option Value → ps_S → Prop} (k : ∀ (s' : ps_S), mJ x t s' → kp [1134] [51] s0 s' → (As σ (ps_a s' 1134) x1.toInt (ps_i s' 1131 51).toInt) → (OutB (ps_a s0 1134) (ps_a s' 1134) x1.toInt) → ((ps_i s0 1131 51).toInt ≤ (ps_i s' 1131 51).toInt) → ((ps_i s' 1131 51).toInt ≤ (ps_i s0 1131 51).toInt + 12) → Q none s') (n3 : Nat) (KH3 : ∀ (x4 : Int32) (s : ps_S), (mJ x t s) → (kp [1134] [51] s0 s) → (As σ (ps_a s 1134) x1.toInt (ps_i s 1131 51).toInt) → (PSt σ (ps_a s 1134) (ps_a s 1157) x1.toInt) → (0 ≤ x1.toInt) → (x1.toInt < 40) → (0 ≤ x2.toInt) → (x2.toInt < x1.toInt) → ((ps_i s0 1131 51).toInt ≤ 800) → (0 ≤ x4.toInt) → (x4.toInt ≤ 12) → ((ps_i s0 1131 51).toInt ≤ (ps_i s 1131 51).toInt) → ((ps_i s 1131 51).toInt ≤ (ps_i s0 1131 51).toInt + x4.toInt) → (OutB (ps_a s0 1134) (ps_a s 1134) x1.toInt) → (20 - x4.toInt ≤ (n3 : Int) - 1) → ps_At (d + 3) 249 3 [(0, .ref 1131), (1, .int x1), (2, .int x2), (3, .int x3), (4, .int x4)] [] s Q) (x4 : Int32) (s : ps_S) (J : mJ x t s) (K : kp [1134] [51] s0 s) (hA : As σ (ps_a s 1134) x1.toInt (ps_i s 1131 51).toInt) (hP : PSt σ (ps_a s 1134) (ps_a s 1157) x1.toInt) (i2 : 0 ≤ x1.toInt) (i3 : x1.toInt < 40) (i4 : 0 ≤ x2.toInt) (i5 : x2.toInt < x1.toInt) (i6 : (ps_i s0 1131 51).toInt ≤ 800) (i7 : 0 ≤ x4.toInt) (i8 : x4.toInt < 12) (i9 : x4.toInt < (ps_a s 1157 (Int32.toNatClampNeg x2)).toInt) (i10 : (ps_i s0 1131 51).toInt ≤ (ps_i s 1131 51).toInt) (i11 : (ps_i s 1131 51).toInt ≤ (ps_i s0 1131 51).toInt + x4.toInt) (i12 : OutB (ps_a s0 1134) (ps_a s 1134) x1.toInt) (hm3 : 20 - x4.toInt ≤ (n3 : Int)) : ps_At (d + 3) 249 31 [(0, .ref 1131), (1, .int x1), (2, .int x2), (3, .int x3), (4, .int x4)] [] s Q := by
  have r1 : 0 ≤ (ps_a s 1157 (Int32.toNatClampNeg x2)).toInt ∧ (ps_a s 1157 (Int32.toNatClampNeg x2)).toInt ≤ 12 := ma_1157 (i := x2) J (show 0 ≤ x2.toInt from by omega) (show x2.toInt < 41 from by omega)
  have r2 := mf_51 J
  refine pg_249_31 (d := d + 2) ?_
  refine pg_243_0 ?_
  have a3 : ((12 : Int32) * x2).toInt = (12 : Int) * x2.toInt := xIm (show -2147483648 ≤ (12 : Int) * x2.toInt from by omega) (show (12 : Int) * x2.toInt < 2147483648 from by omega)
  have a4 : (((12 : Int32) * x2) + x4).toInt = ((12 : Int32) * x2).toInt + x4.toInt := xIa (show -2147483648 ≤ ((12 : Int32) * x2).toInt + x4.toInt from by omega) (show ((12 : Int32) * x2).toInt + x4.toInt < 2147483648 from by omega)
  have a5 : ((41 : Int32) * (((12 : Int32) * x2) + x4)).toInt = (41 : Int) * (((12 : Int32) * x2) + x4).toInt := xIm (show -2147483648 ≤ (41 : Int) * (((12 : Int32) * x2) + x4).toInt from by omega) (show (41 : Int) * (((12 : Int32) * x2) + x4).toInt < 2147483648 from by omega)
  have a6 : ((1640 : Int32) + ((41 : Int32) * (((12 : Int32) * x2) + x4))).toInt = (1640 : Int) + ((41 : Int32) * (((12 : Int32) * x2) + x4)).toInt := xIa (show -2147483648 ≤ (1640 : Int) + ((41 : Int32) * (((12 : Int32) * x2) + x4)).toInt from by omega) (show (1640 : Int) + ((41 : Int32) * (((12 : Int32) * x2) + x4)).toInt < 2147483648 from by omega)
  refine ms_248 J hA ((by rw [show ((1640 : Int32) + ((41 : Int32) * (((12 : Int32) * x2) + x4))).toInt = 1640 + 41 * (12 * ((x2.toInt.toNat : Nat) : Int) + ((x4.toInt.toNat : Nat) : Int)) from by omega]; exact (hP (x2.toInt).toNat (by omega)).2 (x4.toInt).toNat (by show ((x4.toInt.toNat : Nat) : Int) < (ps_a s 1157 (Int32.toNatClampNeg x2)).toInt; omega) (by omega))) (show 0 ≤ x1.toInt from by omega) (show x1.toInt < 40 from by omega) (show ((1640 : Int32) + ((41 : Int32) * (((12 : Int32) * x2) + x4))).toInt + 41 ≤ 1640 + 492 * x1.toInt ∨ 1640 + 492 * x1.toInt + 492 ≤ ((1640 : Int32) + ((41 : Int32) * (((12 : Int32) * x2) + x4))).toInt from by omega) (show (ps_i s 1131 51).toInt ≤ 900 from by omega) (fun s7 J7 K7 p7_0 p7_1 p7_2 p7_3 => ?_)
  have K8 := kpt K K7 rfl rfl
  have KC := K7
  have p7_2' : (ps_i s 1131 51).toInt ≤ (ps_i s7 1131 51).toInt := p7_2
  have r9 := mf_51 J7
  have p7_3' : (ps_i s7 1131 51).toInt ≤ (ps_i s 1131 51).toInt + 1 := p7_3
  have ho : _ := p7_1
  have a10 : (x4 + 1).toInt = x4.toInt + (1 : Int) := xIa (show -2147483648 ≤ x4.toInt + (1 : Int) from by omega) (show x4.toInt + (1 : Int) < 2147483648 from by omega)
  exact KH3 (x4 + 1) _ J7 K8 (by assumption) ((by rw [show ps_a s7 1157 = ps_a s 1157 from (KC.2 1157 rfl).1]; exact PSt_out hP ho (by omega))) (show 0 ≤ x1.toInt from by omega) (show x1.toInt < 40 from by omega) (show 0 ≤ x2.toInt from by omega) (show x2.toInt < x1.toInt from by omega) (show (ps_i s0 1131 51).toInt ≤ 800 from by omega) (show 0 ≤ (x4 + 1).toInt from by omega) (show (x4 + 1).toInt ≤ 12 from by omega) (show (ps_i s0 1131 51).toInt ≤ (ps_i s7 1131 51).toInt from by omega) (show (ps_i s7 1131 51).toInt ≤ (ps_i s0 1131 51).toInt + (x4 + 1).toInt from by omega) (OutB_tr i12 ho) (show 20 - (x4 + 1).toInt ≤ (n3 : Int) - 1 from by omega)

theorem ms_249_3 {x : Nat → Nat → Nat} {t : Int32} {d : Nat} {s0 : ps_S} {σ : mSig} {x1 : Int32} {x2 : Int32} {x3 : Int32} {Q : Option Value → ps_S → Prop} (k : ∀ (s' : ps_S), mJ x t s' → kp [1134] [51] s0 s' → (As σ (ps_a s' 1134) x1.toInt (ps_i s' 1131 51).toInt) → (OutB (ps_a s0 1134) (ps_a s' 1134) x1.toInt) → ((ps_i s0 1131 51).toInt ≤ (ps_i s' 1131 51).toInt) → ((ps_i s' 1131 51).toInt ≤ (ps_i s0 1131 51).toInt + 12) → Q none s') : ∀ (n : Nat) (x4 : Int32) (s : ps_S), (mJ x t s) → (kp [1134] [51] s0 s) → (As σ (ps_a s 1134) x1.toInt (ps_i s 1131 51).toInt) → (PSt σ (ps_a s 1134) (ps_a s 1157) x1.toInt) → (0 ≤ x1.toInt) → (x1.toInt < 40) → (0 ≤ x2.toInt) → (x2.toInt < x1.toInt) → ((ps_i s0 1131 51).toInt ≤ 800) → (0 ≤ x4.toInt) → (x4.toInt ≤ 12) → ((ps_i s0 1131 51).toInt ≤ (ps_i s 1131 51).toInt) → ((ps_i s 1131 51).toInt ≤ (ps_i s0 1131 51).toInt + x4.toInt) → (OutB (ps_a s0 1134) (ps_a s 1134) x1.toInt) → 20 - x4.toInt ≤ (n : Int) → ps_At (d + 3) 249 3 [(0, .ref 1131), (1, .int x1), (2, .int x2), (3, .int x3), (4, .int x4)] [] s Q := by
  refine xstr (fun n ih => ?_)
  intro x4 s J K hA hP i2 i3 i4 i5 i6 i7 i8 i9 i10 i11 hm
  have r1 := mf_51 J
  refine pg_249_3 (d := d + 2) ?_
  refine ps_nd_i (show pm_in x2 41 = true from xgi (show 0 ≤ x2.toInt from by omega) (show x2.toInt < 41 from by omega)) ?_
  have r2 : 0 ≤ (ps_a s 1157 (Int32.toNatClampNeg x2)).toInt ∧ (ps_a s 1157 (Int32.toNatClampNeg x2)).toInt ≤ 12 := ma_1157 (i := x2) J (show 0 ≤ x2.toInt from by omega) (show x2.toInt < 41 from by omega)
  refine And.intro (fun h3 => ?_) (fun h3 => ?_)
  · have f4 : (ps_a s 1157 (Int32.toNatClampNeg x2)).toInt ≤ x4.toInt := xle h3
    exact k _ J K hA (by assumption) (show (ps_i s0 1131 51).toInt ≤ (ps_i s 1131 51).toInt from by omega) (show (ps_i s 1131 51).toInt ≤ (ps_i s0 1131 51).toInt + 12 from by omega)
  · have f5 : x4.toInt < (ps_a s 1157 (Int32.toNatClampNeg x2)).toInt := xlt h3
    refine And.intro (fun h6 => ?_) (fun h6 => ?_)
    · have f7 : x3.toInt = (0 : Int) := xeq h6
      exact ms_249_31 (x1 := x1) (x2 := x2) (x3 := x3) (σ := σ) k n (fun x4z sz Jz Kz i0z i1z i2z i3z i4z i5z i6z i7z i8z i9z i10z i11z hm => ih (n - 1) (show n - 1 < n from by omega) x4z sz Jz Kz i0z i1z i2z i3z i4z i5z i6z i7z i8z i9z i10z i11z (show _ ≤ ((n - 1 : Nat) : Int) from by omega)) x4 _ J K hA hP (show 0 ≤ x1.toInt from by omega) (show x1.toInt < 40 from by omega) (show 0 ≤ x2.toInt from by omega) (show x2.toInt < x1.toInt from by omega) (show (ps_i s0 1131 51).toInt ≤ 800 from by omega) (show 0 ≤ x4.toInt from by omega) (show x4.toInt < 12 from by omega) (show x4.toInt < (ps_a s 1157 (Int32.toNatClampNeg x2)).toInt from by omega) (show (ps_i s0 1131 51).toInt ≤ (ps_i s 1131 51).toInt from by omega) (show (ps_i s 1131 51).toInt ≤ (ps_i s0 1131 51).toInt + x4.toInt from by omega) (by assumption) (show 20 - x4.toInt ≤ ((n : Nat) : Int) from by omega)
    · have f8 : x3.toInt ≠ (0 : Int) := xne h6
      refine pg_243_0 ?_
      have a9 : ((12 : Int32) * x2).toInt = (12 : Int) * x2.toInt := xIm (show -2147483648 ≤ (12 : Int) * x2.toInt from by omega) (show (12 : Int) * x2.toInt < 2147483648 from by omega)
      have a10 : (((12 : Int32) * x2) + x4).toInt = ((12 : Int32) * x2).toInt + x4.toInt := xIa (show -2147483648 ≤ ((12 : Int32) * x2).toInt + x4.toInt from by omega) (show ((12 : Int32) * x2).toInt + x4.toInt < 2147483648 from by omega)
      have a11 : ((41 : Int32) * (((12 : Int32) * x2) + x4)).toInt = (41 : Int) * (((12 : Int32) * x2) + x4).toInt := xIm (show -2147483648 ≤ (41 : Int) * (((12 : Int32) * x2) + x4).toInt from by omega) (show (41 : Int) * (((12 : Int32) * x2) + x4).toInt < 2147483648 from by omega)
      have a12 : ((1640 : Int32) + ((41 : Int32) * (((12 : Int32) * x2) + x4))).toInt = (1640 : Int) + ((41 : Int32) * (((12 : Int32) * x2) + x4)).toInt := xIa (show -2147483648 ≤ (1640 : Int) + ((41 : Int32) * (((12 : Int32) * x2) + x4)).toInt from by omega) (show (1640 : Int) + ((41 : Int32) * (((12 : Int32) * x2) + x4)).toInt < 2147483648 from by omega)
      refine ms_230 J (show ((1640 : Int32) + ((41 : Int32) * (((12 : Int32) * x2) + x4))).toInt % 41 = 0 from by omega) (show 0 ≤ ((1640 : Int32) + ((41 : Int32) * (((12 : Int32) * x2) + x4))).toInt from by omega) (show ((1640 : Int32) + ((41 : Int32) * (((12 : Int32) * x2) + x4))).toInt < 27306 from by omega) (fun v13 b13 => ?_)
      refine And.intro (fun h14 => ?_) (fun h14 => ?_)
      · have f15 : v13.toInt ≠ (0 : Int) := xne h14
        have a16 : (x4 + 1).toInt = x4.toInt + (1 : Int) := xIa (show -2147483648 ≤ x4.toInt + (1 : Int) from by omega) (show x4.toInt + (1 : Int) < 2147483648 from by omega)
        exact ih (n - 1) (show n - 1 < n from by omega) (x4 + 1) _ J K hA hP (show 0 ≤ x1.toInt from by omega) (show x1.toInt < 40 from by omega) (show 0 ≤ x2.toInt from by omega) (show x2.toInt < x1.toInt from by omega) (show (ps_i s0 1131 51).toInt ≤ 800 from by omega) (show 0 ≤ (x4 + 1).toInt from by omega) (show (x4 + 1).toInt ≤ 12 from by omega) (show (ps_i s0 1131 51).toInt ≤ (ps_i s 1131 51).toInt from by omega) (show (ps_i s 1131 51).toInt ≤ (ps_i s0 1131 51).toInt + (x4 + 1).toInt from by omega) (by assumption) (show 20 - (x4 + 1).toInt ≤ ((n - 1 : Nat) : Int) from by omega)
      · have f17 : v13.toInt = (0 : Int) := xeq h14
        exact ms_249_31 (x1 := x1) (x2 := x2) (x3 := x3) (σ := σ) k n (fun x4z sz Jz Kz i0z i1z i2z i3z i4z i5z i6z i7z i8z i9z i10z i11z hm => ih (n - 1) (show n - 1 < n from by omega) x4z sz Jz Kz i0z i1z i2z i3z i4z i5z i6z i7z i8z i9z i10z i11z (show _ ≤ ((n - 1 : Nat) : Int) from by omega)) x4 _ J K hA hP (show 0 ≤ x1.toInt from by omega) (show x1.toInt < 40 from by omega) (show 0 ≤ x2.toInt from by omega) (show x2.toInt < x1.toInt from by omega) (show (ps_i s0 1131 51).toInt ≤ 800 from by omega) (show 0 ≤ x4.toInt from by omega) (show x4.toInt < 12 from by omega) (show x4.toInt < (ps_a s 1157 (Int32.toNatClampNeg x2)).toInt from by omega) (show (ps_i s0 1131 51).toInt ≤ (ps_i s 1131 51).toInt from by omega) (show (ps_i s 1131 51).toInt ≤ (ps_i s0 1131 51).toInt + x4.toInt from by omega) (by assumption) (show 20 - x4.toInt ≤ ((n : Nat) : Int) from by omega)

theorem ms_249 {x : Nat → Nat → Nat} {t : Int32} {s : ps_S} {d : Nat} {x1 : Int32} {x2 : Int32} {x3 : Int32} {f : ps_S → Prop} (J : mJ x t s) {σ : mSig} (hA : As σ (ps_a s 1134) x1.toInt (ps_i s 1131 51).toInt) (hP : PSt σ (ps_a s 1134) (ps_a s 1157) x1.toInt) (q2 : 0 ≤ x1.toInt) (q3 : x1.toInt < 40) (q4 : 0 ≤ x2.toInt) (q5 : x2.toInt < x1.toInt) (q6 : (ps_i s 1131 51).toInt ≤ 800) (k : ∀ (s' : ps_S), mJ x t s' → kp [1134] [51] s s' → (As σ (ps_a s' 1134) x1.toInt (ps_i s' 1131 51).toInt) → (OutB (ps_a s 1134) (ps_a s' 1134) x1.toInt) → ((ps_i s 1131 51).toInt ≤ (ps_i s' 1131 51).toInt) → ((ps_i s' 1131 51).toInt ≤ (ps_i s 1131 51).toInt + 12) → f s') : ps_Cl (d + 3) 249 [.ref 1131, .int x1, .int x2, .int x3] s (ps_rV f) := by
  have r1 := mf_51 J
  have K : kp [1134] [51] s s := kp_refl
  refine pg_249_0 (d := d + 2) ?_
  exact ms_249_3 (x1 := x1) (x2 := x2) (x3 := x3) (σ := σ) k  (20 - (0 : Int)).toNat (0) _ J K hA hP (show 0 ≤ x1.toInt from by omega) (show x1.toInt < 40 from by omega) (show 0 ≤ x2.toInt from by omega) (show x2.toInt < x1.toInt from by omega) (show (ps_i s 1131 51).toInt ≤ 800 from by omega) (show 0 ≤ (0 : Int) from by omega) (show (0 : Int) ≤ 12 from by omega) (show (ps_i s 1131 51).toInt ≤ (ps_i s 1131 51).toInt from by omega) (show (ps_i s 1131 51).toInt ≤ (ps_i s 1131 51).toInt + (0 : Int) from by omega) (OutB_refl) (show 20 - (0 : Int) ≤ (((20 - (0 : Int)).toNat : Nat) : Int) from by omega)
end
section
theorem wf_ne {σ : mSig} {c : Nat} {l : List Nat} {w : Bool × Nat} {W : List (Bool × Nat)} (h : wf σ c l (w :: W)) : ∃ p l', l = p :: l' := by
  cases l with
  | nil => cases h
  | cons p l' => exact ⟨p, l', rfl⟩
/-- what a rule makes: a formula, or nothing and a cause -/
def Res (σ : mSig) (gm : Nat → Int32) (n c : Int) : Prop := ∃ ml, Md gm n ml ∧ ml.length ≤ 9000 ∧ (ws σ ml [true] ∨ (ml = [] ∧ 1 ≤ c))
theorem Res_c {σ : mSig} {gm : Nat → Int32} {n c c' : Int} (h : Res σ gm n c) (hc : c ≤ c') : Res σ gm n c' := by
  obtain ⟨ml, h1, h2, h3⟩ := h
  exact ⟨ml, h1, h2, h3.imp id (fun z => ⟨z.1, by omega⟩)⟩
/-- what stands before step i is taken -/
def SC (σ : mSig) (g ga gk g1 g2 g3 : Nat → Int32) (bk i : Int) : Prop := (0 ≤ i ∧ i < 40 ∧ 0 ≤ bk ∧ ((gk i.toNat).toInt ≠ 0 → (gk i.toNat).toInt ≠ 15 → 0 ≤ (g1 i.toNat).toInt) ∧ 0 ≤ (g2 i.toNat).toInt ∧ 0 ≤ (g3 i.toNat).toInt) ∧ PSt σ g ga i ∧ ((gk i.toNat).toInt ≠ 0 → (gk i.toNat).toInt ≠ 1 → (gk i.toNat).toInt ≠ 2 → (gk i.toNat).toInt ≠ 15 → (g1 i.toNat).toInt < i) ∧ ((gk i.toNat).toInt = 3 ∨ (gk i.toNat).toInt = 9 ∨ (gk i.toNat).toInt = 14 ∨ (gk i.toNat).toInt = 16 ∨ (gk i.toNat).toInt = 8 → (g2 i.toNat).toInt < i) ∧ ((gk i.toNat).toInt = 8 → (g3 i.toNat).toInt < i) ∧ ((gk i.toNat).toInt = 0 ∨ (gk i.toNat).toInt = 6 ∨ (gk i.toNat).toInt = 7 ∨ (gk i.toNat).toInt = 10 ∨ (gk i.toNat).toInt = 13 ∨ 16 ≤ (gk i.toNat).toInt → Fm σ g (22468 + 41 * i)) ∧ ((gk i.toNat).toInt = 12 ∨ (gk i.toNat).toInt = 13 ∨ (gk i.toNat).toInt = 15 → Tm σ g (24108 + 41 * i)) ∧ ((gk i.toNat).toInt = 1 → Fm σ g (21812 + 41 * (8 * bk + (g1 i.toNat).toInt))) ∧ ((gk i.toNat).toInt = 2 → Fm σ g (21320 + 41 * (g1 i.toNat).toInt))
section PSC
variable {σ : mSig} {g g' ga gk g1 g2 g3 : Nat → Int32} {bk i : Int}
theorem SC_out (h : SC σ g ga gk g1 g2 g3 bk i) (ho : OutB g g' i) : SC σ g' ga gk g1 g2 g3 bk i := by
  obtain ⟨⟨a1, a2, a3, a4, a5, a6⟩, h1, h2, h3, h4, h5, h6, h7, h8⟩ := h
  exact ⟨⟨a1, a2, a3, a4, a5, a6⟩, PSt_out h1 ho (by omega), h2, h3, h4, fun z => Fm_out (h5 z) ho (by omega), fun z => Tm_out (h6 z) ho (by omega), fun z => Fm_out (h7 z) ho (by omega), fun z => Fm_out (h8 z) ho (by omega)⟩
theorem SC_p (h : SC σ g ga gk g1 g2 g3 bk i) : PSt σ g ga i := h.2.1
theorem SC_1 (h : SC σ g ga gk g1 g2 g3 bk i) {x1 : Int32} {j : Int32} (hi : x1.toInt = i) (hj : j.toInt = 41 * (g1 (Int32.toNatClampNeg x1)).toInt) (h0 : (gk (Int32.toNatClampNeg x1)).toInt ≠ 0 ∧ (gk (Int32.toNatClampNeg x1)).toInt ≠ 1 ∧ (gk (Int32.toNatClampNeg x1)).toInt ≠ 2 ∧ (gk (Int32.toNatClampNeg x1)).toInt ≠ 15) : Fm σ g j.toInt ∧ (g1 (Int32.toNatClampNeg x1)).toInt < i := by
  subst hi
  have q := h.2.2.1 h0.1 h0.2.1 h0.2.2.1 h0.2.2.2
  have q0 := h.1.2.2.2.1 h0.1 h0.2.2.2
  have := (h.2.1 (g1 x1.toInt.toNat).toInt.toNat (by omega)).1
  rw [show ((((g1 x1.toInt.toNat).toInt.toNat : Nat)) : Int) = (g1 x1.toInt.toNat).toInt from by omega] at this
  exact ⟨by rw [hj]; exact this, q⟩
theorem SC_2 (h : SC σ g ga gk g1 g2 g3 bk i) {x1 : Int32} {j : Int32} (hi : x1.toInt = i) (hj : j.toInt = 41 * (g2 (Int32.toNatClampNeg x1)).toInt) (h0 : (gk (Int32.toNatClampNeg x1)).toInt = 3 ∨ (gk (Int32.toNatClampNeg x1)).toInt = 9 ∨ (gk (Int32.toNatClampNeg x1)).toInt = 14 ∨ (gk (Int32.toNatClampNeg x1)).toInt = 16 ∨ (gk (Int32.toNatClampNeg x1)).toInt = 8) : Fm σ g j.toInt ∧ (g2 (Int32.toNatClampNeg x1)).toInt < i := by
  subst hi
  have q := h.2.2.2.1 h0
  have q0 := h.1.2.2.2.2.1
  have := (h.2.1 (g2 x1.toInt.toNat).toInt.toNat (by omega)).1
  rw [show ((((g2 x1.toInt.toNat).toInt.toNat : Nat)) : Int) = (g2 x1.toInt.toNat).toInt from by omega] at this
  exact ⟨by rw [hj]; exact this, q⟩
theorem SC_3 (h : SC σ g ga gk g1 g2 g3 bk i) {x1 : Int32} {j : Int32} (hi : x1.toInt = i) (hj : j.toInt = 41 * (g3 (Int32.toNatClampNeg x1)).toInt) (h0 : (gk (Int32.toNatClampNeg x1)).toInt = 8) : Fm σ g j.toInt ∧ (g3 (Int32.toNatClampNeg x1)).toInt < i := by
  subst hi
  have q := h.2.2.2.2.1 h0
  have q0 := h.1.2.2.2.2.2
  have := (h.2.1 (g3 x1.toInt.toNat).toInt.toNat (by omega)).1
  rw [show ((((g3 x1.toInt.toNat).toInt.toNat : Nat)) : Int) = (g3 x1.toInt.toNat).toInt from by omega] at this
  exact ⟨by rw [hj]; exact this, q⟩
theorem SC_f (h : SC σ g ga gk g1 g2 g3 bk i) {x1 : Int32} {j : Int32} (hi : x1.toInt = i) (hj : j.toInt = 22468 + 41 * x1.toInt) (h0 : (gk (Int32.toNatClampNeg x1)).toInt = 0 ∨ (gk (Int32.toNatClampNeg x1)).toInt = 6 ∨ (gk (Int32.toNatClampNeg x1)).toInt = 7 ∨ (gk (Int32.toNatClampNeg x1)).toInt = 10 ∨ (gk (Int32.toNatClampNeg x1)).toInt = 13 ∨ 16 ≤ (gk (Int32.toNatClampNeg x1)).toInt) : Fm σ g j.toInt := by
  subst hi
  rw [hj]
  exact h.2.2.2.2.2.1 h0
theorem SC_t (h : SC σ g ga gk g1 g2 g3 bk i) {x1 : Int32} {j : Int32} (hi : x1.toInt = i) (hj : j.toInt = 24108 + 41 * x1.toInt) (h0 : (gk (Int32.toNatClampNeg x1)).toInt = 12 ∨ (gk (Int32.toNatClampNeg x1)).toInt = 13 ∨ (gk (Int32.toNatClampNeg x1)).toInt = 15) : Tm σ g j.toInt := by
  subst hi
  rw [hj]
  exact h.2.2.2.2.2.2.1 h0
theorem SC_ax (h : SC σ g ga gk g1 g2 g3 bk i) {x1 : Int32} {j : Int32} (hi : x1.toInt = i) (hj : j.toInt = 21812 + 41 * (8 * bk + (g1 (Int32.toNatClampNeg x1)).toInt)) (h0 : (gk (Int32.toNatClampNeg x1)).toInt = 1) : Fm σ g j.toInt := by
  subst hi
  rw [hj]
  exact h.2.2.2.2.2.2.2.1 h0
theorem SC_th (h : SC σ g ga gk g1 g2 g3 bk i) {x1 : Int32} {j : Int32} (hi : x1.toInt = i) (hj : j.toInt = 21320 + 41 * (g1 (Int32.toNatClampNeg x1)).toInt) (h0 : (gk (Int32.toNatClampNeg x1)).toInt = 2) : Fm σ g j.toInt := by
  subst hi
  rw [hj]
  exact h.2.2.2.2.2.2.2.2 h0
end PSC
section PSD
variable {σ : mSig} {g g' ga gk g1 g2 g3 : Nat → Int32} {bk i : Int}
theorem SC_l1 (h : SC σ g ga gk g1 g2 g3 bk i) {x1 : Int32} (hi : x1.toInt = i) (h0 : (gk (Int32.toNatClampNeg x1)).toInt ≠ 0 ∧ (gk (Int32.toNatClampNeg x1)).toInt ≠ 1 ∧ (gk (Int32.toNatClampNeg x1)).toInt ≠ 2 ∧ (gk (Int32.toNatClampNeg x1)).toInt ≠ 15) : (g1 (Int32.toNatClampNeg x1)).toInt < i := by
  subst hi
  exact h.2.2.1 h0.1 h0.2.1 h0.2.2.1 h0.2.2.2
theorem SC_l2 (h : SC σ g ga gk g1 g2 g3 bk i) {x1 : Int32} (hi : x1.toInt = i) (h0 : (gk (Int32.toNatClampNeg x1)).toInt = 3 ∨ (gk (Int32.toNatClampNeg x1)).toInt = 9 ∨ (gk (Int32.toNatClampNeg x1)).toInt = 14 ∨ (gk (Int32.toNatClampNeg x1)).toInt = 16 ∨ (gk (Int32.toNatClampNeg x1)).toInt = 8) : (g2 (Int32.toNatClampNeg x1)).toInt < i := by
  subst hi
  exact h.2.2.2.1 h0
theorem SC_l3 (h : SC σ g ga gk g1 g2 g3 bk i) {x1 : Int32} (hi : x1.toInt = i) (h0 : (gk (Int32.toNatClampNeg x1)).toInt = 8) : (g3 (Int32.toNatClampNeg x1)).toInt < i := by
  subst hi
  exact h.2.2.2.2.1 h0
end PSD
section PSE
variable {σ : mSig} {g g' ga gk g1 g2 g3 : Nat → Int32} {bk i : Int}
theorem SC_1i (h : SC σ g ga gk g1 g2 g3 bk i) {x1 : Int32} (hi : x1.toInt = i) (h0 : (gk (Int32.toNatClampNeg x1)).toInt ≠ 0 ∧ (gk (Int32.toNatClampNeg x1)).toInt ≠ 1 ∧ (gk (Int32.toNatClampNeg x1)).toInt ≠ 2 ∧ (gk (Int32.toNatClampNeg x1)).toInt ≠ 15) : Fm σ g (41 * (g1 (Int32.toNatClampNeg x1)).toInt) := by
  subst hi
  have q := h.2.2.1 h0.1 h0.2.1 h0.2.2.1 h0.2.2.2
  have q0 := h.1.2.2.2.1 h0.1 h0.2.2.2
  have := (h.2.1 (g1 x1.toInt.toNat).toInt.toNat (by omega)).1
  rw [show ((((g1 x1.toInt.toNat).toInt.toNat : Nat)) : Int) = (g1 x1.toInt.toNat).toInt from by omega] at this
  exact this
theorem SC_2i (h : SC σ g ga gk g1 g2 g3 bk i) {x1 : Int32} (hi : x1.toInt = i) (h0 : (gk (Int32.toNatClampNeg x1)).toInt = 3 ∨ (gk (Int32.toNatClampNeg x1)).toInt = 9 ∨ (gk (Int32.toNatClampNeg x1)).toInt = 14 ∨ (gk (Int32.toNatClampNeg x1)).toInt = 16 ∨ (gk (Int32.toNatClampNeg x1)).toInt = 8) : Fm σ g (41 * (g2 (Int32.toNatClampNeg x1)).toInt) := by
  subst hi
  have q := h.2.2.2.1 h0
  have q0 := h.1.2.2.2.2.1
  have := (h.2.1 (g2 x1.toInt.toNat).toInt.toNat (by omega)).1
  rw [show ((((g2 x1.toInt.toNat).toInt.toNat : Nat)) : Int) = (g2 x1.toInt.toNat).toInt from by omega] at this
  exact this
theorem SC_3i (h : SC σ g ga gk g1 g2 g3 bk i) {x1 : Int32} (hi : x1.toInt = i) (h0 : (gk (Int32.toNatClampNeg x1)).toInt = 8) : Fm σ g (41 * (g3 (Int32.toNatClampNeg x1)).toInt) := by
  subst hi
  have q := h.2.2.2.2.1 h0
  have q0 := h.1.2.2.2.2.2
  have := (h.2.1 (g3 x1.toInt.toNat).toInt.toNat (by omega)).1
  rw [show ((((g3 x1.toInt.toNat).toInt.toNat : Nat)) : Int) = (g3 x1.toInt.toNat).toInt from by omega] at this
  exact this
end PSE
theorem Rw_out {g g' : Nat → Int32} {a i : Int} {l : List Nat} (h : Rw g a l) (ho : OutB g g' i) (hi : a + 41 ≤ 1640 + 492 * i ∨ 1640 + 492 * i + 492 ≤ a) : Rw g' a l := Rw_keep h (fun k h1 h2 => ho k (by omega))

theorem SC_g0 {σ : mSig} {g ga gk g1 g2 g3 : Nat → Int32} {bk i : Int} (h : SC σ g ga gk g1 g2 g3 bk i) {x1 : Int32} (hi : x1.toInt = i) : (gk (Int32.toNatClampNeg x1)).toInt ≠ 0 → (gk (Int32.toNatClampNeg x1)).toInt ≠ 15 → 0 ≤ (g1 (Int32.toNatClampNeg x1)).toInt := by
  subst hi
  exact h.1.2.2.2.1
end
section
set_option maxRecDepth 100000
-- ProofBenchModel.takesPart(II)V
theorem pg_254_0 {d : Nat} {x1 : Int32} {x2 : Int32} {s : ps_S} {Q : Option Value → ps_S → Prop} (h :
  ps_Cl d 247 [.ref 1131, .int x2] s (ps_rI (fun v1 s1 =>
    (v1 = 1 →
      ps_Cl d 221 [.ref 1131, .int x2, .int 1] s1 (ps_rI (fun v2 s2 =>
        ps_nd (pm_in x1 40) (((ps_a s2 1152 (Int32.toNatClampNeg x1)) ≠ 4 →
          ps_Cl d 219 [.ref 1131, .int x2] s2 (ps_rI (fun v3 s3 =>
            ps_Cl d 226 [.ref 1131, .int x2, .int v2, .int v3] s3 (ps_rV (fun s4 =>
              Q none s4))))) ∧
        ((ps_a s2 1152 (Int32.toNatClampNeg x1)) = 4 →
          ps_Cl d 226 [.ref 1131, .int x2, .int 1, .int v2] s2 (ps_rV (fun s5 =>
            Q none s5))))))) ∧
    (v1 ≠ 1 →
      ps_Cl d 241 [.ref 1131, .int 2] s1 (ps_rV (fun s6 =>
        Q none s6)))))) : ps_At (d + 1) 254 0 [(0, .ref 1131), (1, .int x1), (2, .int x2)] [] s Q :=
  ps_wp_at (stops := []) (n := 37) h rfl

theorem ms_254 {x : Nat → Nat → Nat} {t : Int32} {s : ps_S} {d : Nat} {x1 : Int32} {x2 : Int32} {f : ps_S → Prop} (J : mJ x t s) {σ : mSig} (hS : Sg (ps_a s 1135) (ps_a s 1136) (ps_a s 1138) (ps_a s 1139) (ps_i s 1131 21).toInt σ) (hF : Fm σ (ps_a s 1134) x2.toInt) (hM : Md (ps_a s 1149) (ps_i s 1131 34).toInt ([] : List Nat)) (q3 : 0 ≤ x1.toInt) (q4 : x1.toInt < 40) (k : ∀ (s' : ps_S), mJ x t s' → kp [1149] [34, 50] s s' → (Res σ (ps_a s' 1149) (ps_i s' 1131 34).toInt (ps_i s' 1131 50).toInt) → f s') : ps_Cl (d + 2) 254 [.ref 1131, .int x1, .int x2] s (ps_rV f) := by
  have K : kp [1149] [34, 50] s s := kp_refl
  refine pg_254_0 (d := d + 1) ?_
  obtain ⟨l, hl1, hl2⟩ := id hF
  obtain ⟨c, l3, rfl⟩ := wf_ne hl2
  have hp := Rw_p (l1 := []) (i := 0) hl1 rfl rfl
  have hlen := hl1.2.2.2.1
  have w1 : x2.toInt % 41 = 0 := hl1.1
  have w2 : 0 ≤ x2.toInt := hl1.2.1
  have w3 : x2.toInt < 27306 := hl1.2.2.1
  refine pg_247_0 ?_
  refine pg_220_0 ?_
  have a1 : (x2 + 1).toInt = x2.toInt + (1 : Int) := xIa (show -2147483648 ≤ x2.toInt + (1 : Int) from by omega) (show x2.toInt + (1 : Int) < 2147483648 from by omega)
  have a2 : ((x2 + 1) + 0).toInt = (x2 + 1).toInt + (0 : Int) := xIa (show -2147483648 ≤ (x2 + 1).toInt + (0 : Int) from by omega) (show (x2 + 1).toInt + (0 : Int) < 2147483648 from by omega)
  refine ps_nd_i (show pm_in ((x2 + 1) + 0) 27400 = true from xgi (show 0 ≤ ((x2 + 1) + 0).toInt from by omega) (show ((x2 + 1) + 0).toInt < 27400 from by omega)) ?_
  have r3 : ((x2 + 1) + 0).toInt % 41 = 0 → ((x2 + 1) + 0).toInt < 27306 → 0 ≤ (ps_a s 1134 (Int32.toNatClampNeg ((x2 + 1) + 0))).toInt ∧ (ps_a s 1134 (Int32.toNatClampNeg ((x2 + 1) + 0))).toInt ≤ 40 := fun z1 z2 => mp_row (i := ((x2 + 1) + 0)) J z1 (show 0 ≤ ((x2 + 1) + 0).toInt from by omega) z2
  refine And.intro (fun h4 => ?_) (fun h4 => ?_)
  · have f5 : (ps_a s 1134 (Int32.toNatClampNeg ((x2 + 1) + 0))).toInt = (1 : Int) := xeq h4
    have hc1 : c = 1 := by omega
    subst hc1
    obtain ⟨ks, hk, hw2⟩ := ws_hd (show ws σ (1 :: l3) [true] from wf_ws hl2)
    rw [kS_f2 (by decide) (by decide)] at hk
    cases hk
    obtain ⟨p, q, hpq, hp1, hp2⟩ := ws_split (W1 := [true]) (W2 := [true]) hw2
    subst hpq
    rw [List.length_cons, List.length_append] at hlen
    refine ms_221 J hS ((show Rw (ps_a s 1134) (x2).toInt ([1] ++ (p ++ q)) from hl1)) (rfl) (hp1) (fun v6 p6_0 => ?_)
    have hv : _ := p6_0
    have hv2 : (v6).toInt = 1 + (p.length : Int) := hv
    refine ps_nd_i (show pm_in x1 40 = true from xgi (show 0 ≤ x1.toInt from by omega) (show x1.toInt < 40 from by omega)) ?_
    have r7 : 0 ≤ (ps_a s 1152 (Int32.toNatClampNeg x1)).toInt ∧ (ps_a s 1152 (Int32.toNatClampNeg x1)).toInt ≤ 18 := ma_1152 (i := x1) J (show 0 ≤ x1.toInt from by omega) (show x1.toInt < 40 from by omega)
    refine And.intro (fun h8 => ?_) (fun h8 => ?_)
    · have f9 : (ps_a s 1152 (Int32.toNatClampNeg x1)).toInt ≠ (4 : Int) := xne h8
      refine pg_219_0 ?_
      refine ps_nd_i (show pm_in x2 27400 = true from xgi (show 0 ≤ x2.toInt from by omega) (show x2.toInt < 27400 from by omega)) ?_
      have r10 : x2.toInt % 41 = 0 → x2.toInt < 27306 → 0 ≤ (ps_a s 1134 (Int32.toNatClampNeg x2)).toInt ∧ (ps_a s 1134 (Int32.toNatClampNeg x2)).toInt ≤ 40 := fun z1 z2 => mp_row (i := x2) J z1 (show 0 ≤ x2.toInt from by omega) z2
      refine ms_226 J ((show Rw (ps_a s 1134) (x2).toInt (([1] ++ p) ++ (q ++ [])) from by rw [List.append_nil, List.append_assoc]; exact hl1)) hM ((by rw [llen]; exact hv)) ((Or.inl ((Rw_n hl1).trans (by simp only [List.length_cons, List.length_append, List.length_nil]; omega)))) ((by rw [List.length_nil]; omega)) (fun s11 J11 K11 p11_0 => ?_)
      have K12 := kpt K K11 rfl rfl
      have hS : Sg (ps_a s11 1135) (ps_a s11 1136) (ps_a s11 1138) (ps_a s11 1139) (ps_i s11 1131 21).toInt σ := by rw [show ps_a s11 1135 = ps_a s 1135 from (K11.2 1135 rfl).1, show ps_a s11 1136 = ps_a s 1136 from (K11.2 1136 rfl).1, show ps_a s11 1138 = ps_a s 1138 from (K11.2 1138 rfl).1, show ps_a s11 1139 = ps_a s 1139 from (K11.2 1139 rfl).1, show ps_i s11 1131 21 = ps_i s 1131 21 from kp_i K11 21 rfl]; exact hS
      have hF : Fm σ (ps_a s11 1134) x2.toInt := by rw [show ps_a s11 1134 = ps_a s 1134 from (K11.2 1134 rfl).1]; exact hF
      have hM3 : _ := p11_0
      exact k _ J11 K12 ((by first | exact ⟨_, hM3, by rw [List.nil_append]; omega, Or.inl hp1⟩ | exact ⟨_, hM3, by rw [List.nil_append]; omega, Or.inl hp2⟩))
    · have f13 : (ps_a s 1152 (Int32.toNatClampNeg x1)).toInt = (4 : Int) := xeq h8
      refine ms_226 J ((show Rw (ps_a s 1134) (x2).toInt ([1] ++ (p ++ q)) from hl1)) hM (rfl) (Or.inl hv) ((by rw [List.length_nil]; omega)) (fun s14 J14 K14 p14_0 => ?_)
      have K15 := kpt K K14 rfl rfl
      have hS : Sg (ps_a s14 1135) (ps_a s14 1136) (ps_a s14 1138) (ps_a s14 1139) (ps_i s14 1131 21).toInt σ := by rw [show ps_a s14 1135 = ps_a s 1135 from (K14.2 1135 rfl).1, show ps_a s14 1136 = ps_a s 1136 from (K14.2 1136 rfl).1, show ps_a s14 1138 = ps_a s 1138 from (K14.2 1138 rfl).1, show ps_a s14 1139 = ps_a s 1139 from (K14.2 1139 rfl).1, show ps_i s14 1131 21 = ps_i s 1131 21 from kp_i K14 21 rfl]; exact hS
      have hF : Fm σ (ps_a s14 1134) x2.toInt := by rw [show ps_a s14 1134 = ps_a s 1134 from (K14.2 1134 rfl).1]; exact hF
      have hM3 : _ := p14_0
      exact k _ J14 K15 ((by first | exact ⟨_, hM3, by rw [List.nil_append]; omega, Or.inl hp1⟩ | exact ⟨_, hM3, by rw [List.nil_append]; omega, Or.inl hp2⟩))
  · have f16 : (ps_a s 1134 (Int32.toNatClampNeg ((x2 + 1) + 0))).toInt ≠ (1 : Int) := xne h4
    refine ms_241 J (show 1 ≤ (2 : Int) from by omega) (show (2 : Int) ≤ 5 from by omega) (fun s17 J17 K17 p17_0 => ?_)
    have K18 := kpt K K17 rfl rfl
    have hS : Sg (ps_a s17 1135) (ps_a s17 1136) (ps_a s17 1138) (ps_a s17 1139) (ps_i s17 1131 21).toInt σ := by rw [show ps_a s17 1135 = ps_a s 1135 from (K17.2 1135 rfl).1, show ps_a s17 1136 = ps_a s 1136 from (K17.2 1136 rfl).1, show ps_a s17 1138 = ps_a s 1138 from (K17.2 1138 rfl).1, show ps_a s17 1139 = ps_a s 1139 from (K17.2 1139 rfl).1, show ps_i s17 1131 21 = ps_i s 1131 21 from kp_i K17 21 rfl]; exact hS
    have hF : Fm σ (ps_a s17 1134) x2.toInt := by rw [show ps_a s17 1134 = ps_a s 1134 from (K17.2 1134 rfl).1]; exact hF
    have hM : Md (ps_a s17 1149) (ps_i s17 1131 34).toInt ([] : List Nat) := by rw [show ps_a s17 1149 = ps_a s 1149 from (K17.2 1149 rfl).1, show ps_i s17 1131 34 = ps_i s 1131 34 from kp_i K17 34 rfl]; exact hM
    have p17_0' : 1 ≤ (ps_i s17 1131 50).toInt := p17_0
    have r19 := mf_50 J17
    exact k _ J17 K18 (⟨[], hM, by decide, Or.inr ⟨rfl, show 1 ≤ (ps_i s17 1131 50).toInt from by omega⟩⟩)
end
