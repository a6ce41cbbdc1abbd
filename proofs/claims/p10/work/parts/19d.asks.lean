set_option maxRecDepth 100000
-- ProofBenchModel.haveSame(IIIII)Z
theorem pg_259_0 {d : Nat} {x1 : Int32} {x2 : Int32} {x3 : Int32} {x4 : Int32} {x5 : Int32} {s : ps_S} {Q : Option Value → ps_S → Prop} (h :
  ps_Cl d 219 [.ref 1131, .int x4] s (ps_rI (fun v1 s1 =>
    ((x5 + x3) ≤ v1 →
      ps_At (d + 1) 259 18 [(0, .ref 1131), (1, .int x1), (2, .int x2), (3, .int x3), (4, .int x4), (5, .int x5), (6, .int 0)] [] s1 Q) ∧
    (v1 < (x5 + x3) →
      Q (some (.int 0)) s1)))) : ps_At (d + 1) 259 0 [(0, .ref 1131), (1, .int x1), (2, .int x2), (3, .int x3), (4, .int x4), (5, .int x5)] [] s Q :=
  ps_wp_at (stops := [(18, [0, 1, 2, 3, 4, 5, 6])]) (n := 13) h rfl

theorem pg_259_18 {d : Nat} {x1 : Int32} {x2 : Int32} {x3 : Int32} {x4 : Int32} {x5 : Int32} {x6 : Int32} {s : ps_S} {Q : Option Value → ps_S → Prop} (h :
  (x3 ≤ x6 →
    Q (some (.int 1)) s) ∧
  (x6 < x3 →
    ps_Cl d 220 [.ref 1131, .int x1, .int (x2 + x6)] s (ps_rI (fun v1 s1 =>
      ps_Cl d 220 [.ref 1131, .int x4, .int (x5 + x6)] s1 (ps_rI (fun v2 s2 =>
        (v1 = v2 →
          ps_At (d + 1) 259 18 [(0, .ref 1131), (1, .int x1), (2, .int x2), (3, .int x3), (4, .int x4), (5, .int x5), (6, .int (x6 + 1))] [] s2 Q) ∧
        (v1 ≠ v2 →
          Q (some (.int 0)) s2))))))) : ps_At (d + 1) 259 18 [(0, .ref 1131), (1, .int x1), (2, .int x2), (3, .int x3), (4, .int x4), (5, .int x5), (6, .int x6)] [] s Q :=
  ps_wp_at (stops := [(18, [0, 1, 2, 3, 4, 5, 6])]) (n := 24) h rfl

theorem ms_259_18 {x : Nat → Nat → Nat} {t : Int32} {d : Nat} {s : ps_S} {x1 : Int32} {x2 : Int32} {x3 : Int32} {x4 : Int32} {x5 : Int32} {Q : Option Value → ps_S → Prop} (k : ∀ (v : Int32), (v.toInt = 0 ∨ x5.toInt + x3.toInt ≤ (ps_a s 1134 (Int32.toNatClampNeg x4)).toInt) → v &&& 1 = v → Q (some (.int v)) s) : ∀ (n : Nat) (x6 : Int32), (mJ x t s) → (x1.toInt % 41 = 0) → (0 ≤ x1.toInt) → (x1.toInt < 27306) → (x4.toInt % 41 = 0) → (0 ≤ x4.toInt) → (x4.toInt < 27306) → (0 ≤ x2.toInt) → (x2.toInt ≤ 41) → (0 ≤ x3.toInt) → (x3.toInt ≤ 41) → (0 ≤ x5.toInt) → (x5.toInt ≤ 41) → (0 ≤ x6.toInt) → (x6.toInt ≤ x3.toInt) → (x5.toInt + x3.toInt ≤ (ps_a s 1134 (Int32.toNatClampNeg x4)).toInt) → 50 - x6.toInt ≤ (n : Int) → ps_At (d + 1) 259 18 [(0, .ref 1131), (1, .int x1), (2, .int x2), (3, .int x3), (4, .int x4), (5, .int x5), (6, .int x6)] [] s Q := by
  refine xstr (fun n ih => ?_)
  intro x6 J i0 i1 i2 i3 i4 i5 i6 i7 i8 i9 i10 i11 i12 i13 i14 hm
  have r1 : x4.toInt % 41 = 0 → x4.toInt < 27306 → 0 ≤ (ps_a s 1134 (Int32.toNatClampNeg x4)).toInt ∧ (ps_a s 1134 (Int32.toNatClampNeg x4)).toInt ≤ 40 := fun z1 z2 => mp_row (i := x4) J z1 (show 0 ≤ x4.toInt from by omega) z2
  refine pg_259_18 (d := d) ?_
  refine And.intro (fun h2 => ?_) (fun h2 => ?_)
  · have f3 : x3.toInt ≤ x6.toInt := xle h2
    exact k (1 : Int32) (show (1 : Int) = 0 ∨ x5.toInt + x3.toInt ≤ (ps_a s 1134 (Int32.toNatClampNeg x4)).toInt from by omega) (by decide)
  · have f4 : x6.toInt < x3.toInt := xlt h2
    have a5 : (x2 + x6).toInt = x2.toInt + x6.toInt := xIa (show -2147483648 ≤ x2.toInt + x6.toInt from by omega) (show x2.toInt + x6.toInt < 2147483648 from by omega)
    refine pg_220_0 ?_
    have a6 : (x1 + 1).toInt = x1.toInt + (1 : Int) := xIa (show -2147483648 ≤ x1.toInt + (1 : Int) from by omega) (show x1.toInt + (1 : Int) < 2147483648 from by omega)
    have a7 : ((x1 + 1) + (x2 + x6)).toInt = (x1 + 1).toInt + (x2 + x6).toInt := xIa (show -2147483648 ≤ (x1 + 1).toInt + (x2 + x6).toInt from by omega) (show (x1 + 1).toInt + (x2 + x6).toInt < 2147483648 from by omega)
    refine ps_nd_i (show pm_in ((x1 + 1) + (x2 + x6)) 27400 = true from xgi (show 0 ≤ ((x1 + 1) + (x2 + x6)).toInt from by omega) (show ((x1 + 1) + (x2 + x6)).toInt < 27400 from by omega)) ?_
    have r8 : ((x1 + 1) + (x2 + x6)).toInt % 41 = 0 → ((x1 + 1) + (x2 + x6)).toInt < 27306 → 0 ≤ (ps_a s 1134 (Int32.toNatClampNeg ((x1 + 1) + (x2 + x6)))).toInt ∧ (ps_a s 1134 (Int32.toNatClampNeg ((x1 + 1) + (x2 + x6)))).toInt ≤ 40 := fun z1 z2 => mp_row (i := ((x1 + 1) + (x2 + x6))) J z1 (show 0 ≤ ((x1 + 1) + (x2 + x6)).toInt from by omega) z2
    have a9 : (x5 + x6).toInt = x5.toInt + x6.toInt := xIa (show -2147483648 ≤ x5.toInt + x6.toInt from by omega) (show x5.toInt + x6.toInt < 2147483648 from by omega)
    refine pg_220_0 ?_
    have a10 : (x4 + 1).toInt = x4.toInt + (1 : Int) := xIa (show -2147483648 ≤ x4.toInt + (1 : Int) from by omega) (show x4.toInt + (1 : Int) < 2147483648 from by omega)
    have a11 : ((x4 + 1) + (x5 + x6)).toInt = (x4 + 1).toInt + (x5 + x6).toInt := xIa (show -2147483648 ≤ (x4 + 1).toInt + (x5 + x6).toInt from by omega) (show (x4 + 1).toInt + (x5 + x6).toInt < 2147483648 from by omega)
    refine ps_nd_i (show pm_in ((x4 + 1) + (x5 + x6)) 27400 = true from xgi (show 0 ≤ ((x4 + 1) + (x5 + x6)).toInt from by omega) (show ((x4 + 1) + (x5 + x6)).toInt < 27400 from by omega)) ?_
    have r12 : ((x4 + 1) + (x5 + x6)).toInt % 41 = 0 → ((x4 + 1) + (x5 + x6)).toInt < 27306 → 0 ≤ (ps_a s 1134 (Int32.toNatClampNeg ((x4 + 1) + (x5 + x6)))).toInt ∧ (ps_a s 1134 (Int32.toNatClampNeg ((x4 + 1) + (x5 + x6)))).toInt ≤ 40 := fun z1 z2 => mp_row (i := ((x4 + 1) + (x5 + x6))) J z1 (show 0 ≤ ((x4 + 1) + (x5 + x6)).toInt from by omega) z2
    refine And.intro (fun h13 => ?_) (fun h13 => ?_)
    · have f14 : (ps_a s 1134 (Int32.toNatClampNeg ((x1 + 1) + (x2 + x6)))).toInt = (ps_a s 1134 (Int32.toNatClampNeg ((x4 + 1) + (x5 + x6)))).toInt := xeq h13
      have a15 : (x6 + 1).toInt = x6.toInt + (1 : Int) := xIa (show -2147483648 ≤ x6.toInt + (1 : Int) from by omega) (show x6.toInt + (1 : Int) < 2147483648 from by omega)
      exact ih (n - 1) (show n - 1 < n from by omega) (x6 + 1) J (show x1.toInt % 41 = 0 from by omega) (show 0 ≤ x1.toInt from by omega) (show x1.toInt < 27306 from by omega) (show x4.toInt % 41 = 0 from by omega) (show 0 ≤ x4.toInt from by omega) (show x4.toInt < 27306 from by omega) (show 0 ≤ x2.toInt from by omega) (show x2.toInt ≤ 41 from by omega) (show 0 ≤ x3.toInt from by omega) (show x3.toInt ≤ 41 from by omega) (show 0 ≤ x5.toInt from by omega) (show x5.toInt ≤ 41 from by omega) (show 0 ≤ (x6 + 1).toInt from by omega) (show (x6 + 1).toInt ≤ x3.toInt from by omega) (show x5.toInt + x3.toInt ≤ (ps_a s 1134 (Int32.toNatClampNeg x4)).toInt from by omega) (show 50 - (x6 + 1).toInt ≤ ((n - 1 : Nat) : Int) from by omega)
    · have f16 : (ps_a s 1134 (Int32.toNatClampNeg ((x1 + 1) + (x2 + x6)))).toInt ≠ (ps_a s 1134 (Int32.toNatClampNeg ((x4 + 1) + (x5 + x6)))).toInt := xne h13
      exact k (0 : Int32) (show (0 : Int) = 0 ∨ x5.toInt + x3.toInt ≤ (ps_a s 1134 (Int32.toNatClampNeg x4)).toInt from by omega) (by decide)

theorem ms_259 {x : Nat → Nat → Nat} {t : Int32} {s : ps_S} {d : Nat} {x1 : Int32} {x2 : Int32} {x3 : Int32} {x4 : Int32} {x5 : Int32} {f : Int32 → ps_S → Prop} (J : mJ x t s) (q0 : x1.toInt % 41 = 0) (q1 : 0 ≤ x1.toInt) (q2 : x1.toInt < 27306) (q3 : x4.toInt % 41 = 0) (q4 : 0 ≤ x4.toInt) (q5 : x4.toInt < 27306) (q6 : 0 ≤ x2.toInt) (q7 : x2.toInt ≤ 41) (q8 : 0 ≤ x3.toInt) (q9 : x3.toInt ≤ 41) (q10 : 0 ≤ x5.toInt) (q11 : x5.toInt ≤ 41) (k : ∀ (v : Int32), (v.toInt = 0 ∨ x5.toInt + x3.toInt ≤ (ps_a s 1134 (Int32.toNatClampNeg x4)).toInt) → v &&& 1 = v → f v s) : ps_Cl (d + 1) 259 [.ref 1131, .int x1, .int x2, .int x3, .int x4, .int x5] s (ps_rI f) := by
  refine pg_259_0 (d := d) ?_
  have a1 : (x5 + x3).toInt = x5.toInt + x3.toInt := xIa (show -2147483648 ≤ x5.toInt + x3.toInt from by omega) (show x5.toInt + x3.toInt < 2147483648 from by omega)
  refine pg_219_0 ?_
  refine ps_nd_i (show pm_in x4 27400 = true from xgi (show 0 ≤ x4.toInt from by omega) (show x4.toInt < 27400 from by omega)) ?_
  have r2 : x4.toInt % 41 = 0 → x4.toInt < 27306 → 0 ≤ (ps_a s 1134 (Int32.toNatClampNeg x4)).toInt ∧ (ps_a s 1134 (Int32.toNatClampNeg x4)).toInt ≤ 40 := fun z1 z2 => mp_row (i := x4) J z1 (show 0 ≤ x4.toInt from by omega) z2
  refine And.intro (fun h3 => ?_) (fun h3 => ?_)
  · have f4 : (x5 + x3).toInt ≤ (ps_a s 1134 (Int32.toNatClampNeg x4)).toInt := xle h3
    exact ms_259_18 (x1 := x1) (x2 := x2) (x3 := x3) (x4 := x4) (x5 := x5) k  (50 - (0 : Int)).toNat (0) J (show x1.toInt % 41 = 0 from by omega) (show 0 ≤ x1.toInt from by omega) (show x1.toInt < 27306 from by omega) (show x4.toInt % 41 = 0 from by omega) (show 0 ≤ x4.toInt from by omega) (show x4.toInt < 27306 from by omega) (show 0 ≤ x2.toInt from by omega) (show x2.toInt ≤ 41 from by omega) (show 0 ≤ x3.toInt from by omega) (show x3.toInt ≤ 41 from by omega) (show 0 ≤ x5.toInt from by omega) (show x5.toInt ≤ 41 from by omega) (show 0 ≤ (0 : Int) from by omega) (show (0 : Int) ≤ x3.toInt from by omega) (show x5.toInt + x3.toInt ≤ (ps_a s 1134 (Int32.toNatClampNeg x4)).toInt from by omega) (show 50 - (0 : Int) ≤ (((50 - (0 : Int)).toNat : Nat) : Int) from by omega)
  · have f5 : (ps_a s 1134 (Int32.toNatClampNeg x4)).toInt < (x5 + x3).toInt := xlt h3
    exact k (0 : Int32) (show (0 : Int) = 0 ∨ x5.toInt + x3.toInt ≤ (ps_a s 1134 (Int32.toNatClampNeg x4)).toInt from by omega) (by decide)

-- ProofBenchModel.refused(I)I
theorem pg_261_0 {d : Nat} {x1 : Int32} {s : ps_S} {Q : Option Value → ps_S → Prop} (h :
  (x1 ≠ 0 →
    (x1 ≠ 1 →
      Q (some (.int (-1))) s) ∧
    (x1 = 1 →
      Q (some (.int (ps_i s 1131 49))) s)) ∧
  (x1 = 0 →
    Q (some (.int (ps_i s 1131 48))) s)) : ps_At d 261 0 [(0, .ref 1131), (1, .int x1)] [] s Q :=
  ps_wp_at (stops := []) (n := 17) h rfl

theorem ms_261 {x : Nat → Nat → Nat} {t : Int32} {s : ps_S} {d : Nat} {x1 : Int32} {f : Int32 → ps_S → Prop} (J : mJ x t s) (k : ∀ (v : Int32), f v s) : ps_Cl d 261 [.ref 1131, .int x1] s (ps_rI f) := by
  refine pg_261_0 ?_
  refine And.intro (fun h1 => ?_) (fun h1 => ?_)
  · have f2 : x1.toInt ≠ (0 : Int) := xne h1
    refine And.intro (fun h3 => ?_) (fun h3 => ?_)
    · have f4 : x1.toInt ≠ (1 : Int) := xne h3
      exact k (-1 : Int32)
    · have f5 : x1.toInt = (1 : Int) := xeq h3
      exact k (ps_i s 1131 49)
  · have f6 : x1.toInt = (0 : Int) := xeq h1
    have r7 := mf_48 J
    exact k (ps_i s 1131 48)

-- ProofBenchModel.isStep(I)Z
theorem pg_262_0 {d : Nat} {x1 : Int32} {s : ps_S} {Q : Option Value → ps_S → Prop} (h :
  ps_Cl d 200 [.int x1, .int 0, .int ((ps_i s 1131 47) - 1)] s (ps_rI (fun v1 s1 =>
    ps_nd (decide (v1 &&& 1 = v1)) (Q (some (.int v1)) s1)))) : ps_At (d + 1) 262 0 [(0, .ref 1131), (1, .int x1)] [] s Q :=
  ps_wp_at (stops := []) (n := 10) h rfl

theorem ms_262 {x : Nat → Nat → Nat} {t : Int32} {s : ps_S} {d : Nat} {x1 : Int32} {f : Int32 → ps_S → Prop} (J : mJ x t s) (k : ∀ (v : Int32), (v.toInt = 0 ∨ (0 ≤ x1.toInt ∧ x1.toInt < (ps_i s 1131 47).toInt)) → v &&& 1 = v → f v s) : ps_Cl (d + 1) 262 [.ref 1131, .int x1] s (ps_rI f) := by
  refine pg_262_0 (d := d) ?_
  have r1 := mf_47 J
  have a2 : ((ps_i s 1131 47) - 1).toInt = (ps_i s 1131 47).toInt - (1 : Int) := xIs (show -2147483648 ≤ (ps_i s 1131 47).toInt - (1 : Int) from by omega) (show (ps_i s 1131 47).toInt - (1 : Int) < 2147483648 from by omega)
  refine ms_200 J  (fun v3 p3_0 b3 => ?_)
  have p3_0' : v3.toInt = 0 ∨ ((0 : Int) ≤ x1.toInt ∧ x1.toInt ≤ ((ps_i s 1131 47) - 1).toInt) := p3_0
  refine ps_nd_i (decide_eq_true b3) ?_
  exact k v3 (show v3.toInt = 0 ∨ (0 ≤ x1.toInt ∧ x1.toInt < (ps_i s 1131 47).toInt) from by omega) b3

-- ProofBenchModel.step(II)I
theorem pg_263_0 {d : Nat} {x1 : Int32} {x2 : Int32} {s : ps_S} {Q : Option Value → ps_S → Prop} (h :
  ps_Cl d 262 [.ref 1131, .int x1] s (ps_rI (fun v1 s1 =>
    (v1 ≠ 0 →
      (x2 = 0 →
        ps_Cl d 242 [.int x1] s1 (ps_rI (fun v2 s2 =>
          ps_Cl d 219 [.ref 1131, .int v2] s2 (ps_rI (fun v3 s3 =>
            Q (some (.int v3)) s3))))) ∧
      (x2 ≠ 0 →
        (x2 = 1 →
        ps_nd (pm_in x1 41) (Q (some (.int (ps_a s1 1157 (Int32.toNatClampNeg x1)))) s1)) ∧
      (x2 ≠ 1 →
        (x2 = 2 →
        ps_nd (pm_in x1 40) (Q (some (.int (ps_a s1 1158 (Int32.toNatClampNeg x1)))) s1)) ∧
      (x2 ≠ 2 →
        (x2 = 3 →
        ps_nd (pm_in x1 40) (Q (some (.int (ps_a s1 1159 (Int32.toNatClampNeg x1)))) s1)) ∧
      (x2 ≠ 3 →
        Q (some (.int (-1))) s1))))) ∧
    (v1 = 0 →
      Q (some (.int (-1))) s1)))) : ps_At (d + 1) 263 0 [(0, .ref 1131), (1, .int x1), (2, .int x2)] [] s Q :=
  ps_wp_at (stops := []) (n := 32) h rfl

theorem ms_263 {x : Nat → Nat → Nat} {t : Int32} {s : ps_S} {d : Nat} {x1 : Int32} {x2 : Int32} {f : Int32 → ps_S → Prop} (J : mJ x t s) (k : ∀ (v : Int32), f v s) : ps_Cl (d + 2) 263 [.ref 1131, .int x1, .int x2] s (ps_rI f) := by
  refine pg_263_0 (d := d + 1) ?_
  refine ms_262 J  (fun v1 p1_0 b1 => ?_)
  have p1_0' : v1.toInt = 0 ∨ (0 ≤ x1.toInt ∧ x1.toInt < (ps_i s 1131 47).toInt) := p1_0
  have r2 := mf_47 J
  refine And.intro (fun h3 => ?_) (fun h3 => ?_)
  · have f4 : v1.toInt ≠ (0 : Int) := xne h3
    refine And.intro (fun h5 => ?_) (fun h5 => ?_)
    · have f6 : x2.toInt = (0 : Int) := xeq h5
      refine pg_242_0 ?_
      have a7 : ((41 : Int32) * x1).toInt = (41 : Int) * x1.toInt := xIm (show -2147483648 ≤ (41 : Int) * x1.toInt from by omega) (show (41 : Int) * x1.toInt < 2147483648 from by omega)
      have a8 : ((0 : Int32) + ((41 : Int32) * x1)).toInt = (0 : Int) + ((41 : Int32) * x1).toInt := xIa (show -2147483648 ≤ (0 : Int) + ((41 : Int32) * x1).toInt from by omega) (show (0 : Int) + ((41 : Int32) * x1).toInt < 2147483648 from by omega)
      refine pg_219_0 ?_
      refine ps_nd_i (show pm_in ((0 : Int32) + ((41 : Int32) * x1)) 27400 = true from xgi (show 0 ≤ ((0 : Int32) + ((41 : Int32) * x1)).toInt from by omega) (show ((0 : Int32) + ((41 : Int32) * x1)).toInt < 27400 from by omega)) ?_
      have r9 : ((0 : Int32) + ((41 : Int32) * x1)).toInt % 41 = 0 → ((0 : Int32) + ((41 : Int32) * x1)).toInt < 27306 → 0 ≤ (ps_a s 1134 (Int32.toNatClampNeg ((0 : Int32) + ((41 : Int32) * x1)))).toInt ∧ (ps_a s 1134 (Int32.toNatClampNeg ((0 : Int32) + ((41 : Int32) * x1)))).toInt ≤ 40 := fun z1 z2 => mp_row (i := ((0 : Int32) + ((41 : Int32) * x1))) J z1 (show 0 ≤ ((0 : Int32) + ((41 : Int32) * x1)).toInt from by omega) z2
      exact k (ps_a s 1134 (Int32.toNatClampNeg ((0 : Int32) + ((41 : Int32) * x1))))
    have f10 : x2.toInt ≠ (0 : Int) := xne h5
    refine And.intro (fun h11 => ?_) (fun h11 => ?_)
    · have f12 : x2.toInt = (1 : Int) := xeq h11
      refine ps_nd_i (show pm_in x1 41 = true from xgi (show 0 ≤ x1.toInt from by omega) (show x1.toInt < 41 from by omega)) ?_
      have r13 : 0 ≤ (ps_a s 1157 (Int32.toNatClampNeg x1)).toInt ∧ (ps_a s 1157 (Int32.toNatClampNeg x1)).toInt ≤ 12 := ma_1157 (i := x1) J (show 0 ≤ x1.toInt from by omega) (show x1.toInt < 41 from by omega)
      exact k (ps_a s 1157 (Int32.toNatClampNeg x1))
    have f14 : x2.toInt ≠ (1 : Int) := xne h11
    refine And.intro (fun h15 => ?_) (fun h15 => ?_)
    · have f16 : x2.toInt = (2 : Int) := xeq h15
      refine ps_nd_i (show pm_in x1 40 = true from xgi (show 0 ≤ x1.toInt from by omega) (show x1.toInt < 40 from by omega)) ?_
      exact k (ps_a s 1158 (Int32.toNatClampNeg x1))
    have f17 : x2.toInt ≠ (2 : Int) := xne h15
    refine And.intro (fun h18 => ?_) (fun h18 => ?_)
    · have f19 : x2.toInt = (3 : Int) := xeq h18
      refine ps_nd_i (show pm_in x1 40 = true from xgi (show 0 ≤ x1.toInt from by omega) (show x1.toInt < 40 from by omega)) ?_
      exact k (ps_a s 1159 (Int32.toNatClampNeg x1))
    have f20 : x2.toInt ≠ (3 : Int) := xne h18
    exact k (-1 : Int32)
  · have f21 : v1.toInt = (0 : Int) := xeq h3
    exact k (-1 : Int32)

-- ProofBenchModel.pieceOf(II)I
theorem pg_264_0 {d : Nat} {x1 : Int32} {x2 : Int32} {s : ps_S} {Q : Option Value → ps_S → Prop} (h :
  ps_Cl d 219 [.ref 1131, .int x1] s (ps_rI (fun v1 s1 =>
    ps_Cl d 200 [.int x2, .int 0, .int (v1 - 1)] s1 (ps_rI (fun v2 s2 =>
      (v2 = 0 →
        Q (some (.int (-1))) s2) ∧
      (v2 ≠ 0 →
        ps_Cl d 220 [.ref 1131, .int x1, .int x2] s2 (ps_rI (fun v3 s3 =>
          Q (some (.int v3)) s3)))))))) : ps_At (d + 1) 264 0 [(0, .ref 1131), (1, .int x1), (2, .int x2)] [] s Q :=
  ps_wp_at (stops := []) (n := 19) h rfl

theorem ms_264 {x : Nat → Nat → Nat} {t : Int32} {s : ps_S} {d : Nat} {x1 : Int32} {x2 : Int32} {f : Int32 → ps_S → Prop} (J : mJ x t s) (q0 : x1.toInt % 41 = 0) (q1 : 0 ≤ x1.toInt) (q2 : x1.toInt < 27306) (k : ∀ (v : Int32), f v s) : ps_Cl (d + 1) 264 [.ref 1131, .int x1, .int x2] s (ps_rI f) := by
  refine pg_264_0 (d := d) ?_
  refine pg_219_0 ?_
  refine ps_nd_i (show pm_in x1 27400 = true from xgi (show 0 ≤ x1.toInt from by omega) (show x1.toInt < 27400 from by omega)) ?_
  have r1 : x1.toInt % 41 = 0 → x1.toInt < 27306 → 0 ≤ (ps_a s 1134 (Int32.toNatClampNeg x1)).toInt ∧ (ps_a s 1134 (Int32.toNatClampNeg x1)).toInt ≤ 40 := fun z1 z2 => mp_row (i := x1) J z1 (show 0 ≤ x1.toInt from by omega) z2
  have a2 : ((ps_a s 1134 (Int32.toNatClampNeg x1)) - 1).toInt = (ps_a s 1134 (Int32.toNatClampNeg x1)).toInt - (1 : Int) := xIs (show -2147483648 ≤ (ps_a s 1134 (Int32.toNatClampNeg x1)).toInt - (1 : Int) from by omega) (show (ps_a s 1134 (Int32.toNatClampNeg x1)).toInt - (1 : Int) < 2147483648 from by omega)
  refine ms_200 J  (fun v3 p3_0 b3 => ?_)
  have p3_0' : v3.toInt = 0 ∨ ((0 : Int) ≤ x2.toInt ∧ x2.toInt ≤ ((ps_a s 1134 (Int32.toNatClampNeg x1)) - 1).toInt) := p3_0
  refine And.intro (fun h4 => ?_) (fun h4 => ?_)
  · have f5 : v3.toInt = (0 : Int) := xeq h4
    exact k (-1 : Int32)
  · have f6 : v3.toInt ≠ (0 : Int) := xne h4
    refine pg_220_0 ?_
    have a7 : (x1 + 1).toInt = x1.toInt + (1 : Int) := xIa (show -2147483648 ≤ x1.toInt + (1 : Int) from by omega) (show x1.toInt + (1 : Int) < 2147483648 from by omega)
    have a8 : ((x1 + 1) + x2).toInt = (x1 + 1).toInt + x2.toInt := xIa (show -2147483648 ≤ (x1 + 1).toInt + x2.toInt from by omega) (show (x1 + 1).toInt + x2.toInt < 2147483648 from by omega)
    refine ps_nd_i (show pm_in ((x1 + 1) + x2) 27400 = true from xgi (show 0 ≤ ((x1 + 1) + x2).toInt from by omega) (show ((x1 + 1) + x2).toInt < 27400 from by omega)) ?_
    have r9 : ((x1 + 1) + x2).toInt % 41 = 0 → ((x1 + 1) + x2).toInt < 27306 → 0 ≤ (ps_a s 1134 (Int32.toNatClampNeg ((x1 + 1) + x2))).toInt ∧ (ps_a s 1134 (Int32.toNatClampNeg ((x1 + 1) + x2))).toInt ≤ 40 := fun z1 z2 => mp_row (i := ((x1 + 1) + x2)) J z1 (show 0 ≤ ((x1 + 1) + x2).toInt from by omega) z2
    exact k (ps_a s 1134 (Int32.toNatClampNeg ((x1 + 1) + x2)))

-- ProofBenchModel.line(II)I
theorem pg_265_0 {d : Nat} {x1 : Int32} {x2 : Int32} {s : ps_S} {Q : Option Value → ps_S → Prop} (h :
  ps_Cl d 262 [.ref 1131, .int x1] s (ps_rI (fun v1 s1 =>
    (v1 = 0 →
      Q (some (.int (-1))) s1) ∧
    (v1 ≠ 0 →
      ps_Cl d 242 [.int x1] s1 (ps_rI (fun v2 s2 =>
        ps_Cl d 264 [.ref 1131, .int v2, .int x2] s2 (ps_rI (fun v3 s3 =>
          Q (some (.int v3)) s3)))))))) : ps_At (d + 1) 265 0 [(0, .ref 1131), (1, .int x1), (2, .int x2)] [] s Q :=
  ps_wp_at (stops := []) (n := 15) h rfl

theorem ms_265 {x : Nat → Nat → Nat} {t : Int32} {s : ps_S} {d : Nat} {x1 : Int32} {x2 : Int32} {f : Int32 → ps_S → Prop} (J : mJ x t s) (k : ∀ (v : Int32), f v s) : ps_Cl (d + 2) 265 [.ref 1131, .int x1, .int x2] s (ps_rI f) := by
  refine pg_265_0 (d := d + 1) ?_
  refine ms_262 J  (fun v1 p1_0 b1 => ?_)
  have p1_0' : v1.toInt = 0 ∨ (0 ≤ x1.toInt ∧ x1.toInt < (ps_i s 1131 47).toInt) := p1_0
  have r2 := mf_47 J
  refine And.intro (fun h3 => ?_) (fun h3 => ?_)
  · have f4 : v1.toInt = (0 : Int) := xeq h3
    exact k (-1 : Int32)
  · have f5 : v1.toInt ≠ (0 : Int) := xne h3
    refine pg_242_0 ?_
    have a6 : ((41 : Int32) * x1).toInt = (41 : Int) * x1.toInt := xIm (show -2147483648 ≤ (41 : Int) * x1.toInt from by omega) (show (41 : Int) * x1.toInt < 2147483648 from by omega)
    have a7 : ((0 : Int32) + ((41 : Int32) * x1)).toInt = (0 : Int) + ((41 : Int32) * x1).toInt := xIa (show -2147483648 ≤ (0 : Int) + ((41 : Int32) * x1).toInt from by omega) (show (0 : Int) + ((41 : Int32) * x1).toInt < 2147483648 from by omega)
    refine ms_264 J (show ((0 : Int32) + ((41 : Int32) * x1)).toInt % 41 = 0 from by omega) (show 0 ≤ ((0 : Int32) + ((41 : Int32) * x1)).toInt from by omega) (show ((0 : Int32) + ((41 : Int32) * x1)).toInt < 27306 from by omega) (fun v8 => ?_)
    exact k v8

-- ProofBenchModel.assumed(III)I
theorem pg_266_0 {d : Nat} {x1 : Int32} {x2 : Int32} {x3 : Int32} {s : ps_S} {Q : Option Value → ps_S → Prop} (h :
  ps_Cl d 262 [.ref 1131, .int x1] s (ps_rI (fun v1 s1 =>
    (v1 = 0 →
      Q (some (.int (-1))) s1) ∧
    (v1 ≠ 0 →
      ps_nd (pm_in x1 41) (ps_Cl d 200 [.int x2, .int 0, .int ((ps_a s1 1157 (Int32.toNatClampNeg x1)) - 1)] s1 (ps_rI (fun v2 s2 =>
        (v2 = 0 →
          Q (some (.int (-1))) s2) ∧
        (v2 ≠ 0 →
          ps_Cl d 243 [.int x1, .int x2] s2 (ps_rI (fun v3 s3 =>
            ps_Cl d 264 [.ref 1131, .int v3, .int x3] s3 (ps_rI (fun v4 s4 =>
              Q (some (.int v4)) s4)))))))))))) : ps_At (d + 1) 266 0 [(0, .ref 1131), (1, .int x1), (2, .int x2), (3, .int x3)] [] s Q :=
  ps_wp_at (stops := []) (n := 28) h rfl

theorem ms_266 {x : Nat → Nat → Nat} {t : Int32} {s : ps_S} {d : Nat} {x1 : Int32} {x2 : Int32} {x3 : Int32} {f : Int32 → ps_S → Prop} (J : mJ x t s) (k : ∀ (v : Int32), f v s) : ps_Cl (d + 2) 266 [.ref 1131, .int x1, .int x2, .int x3] s (ps_rI f) := by
  refine pg_266_0 (d := d + 1) ?_
  refine ms_262 J  (fun v1 p1_0 b1 => ?_)
  have p1_0' : v1.toInt = 0 ∨ (0 ≤ x1.toInt ∧ x1.toInt < (ps_i s 1131 47).toInt) := p1_0
  have r2 := mf_47 J
  refine And.intro (fun h3 => ?_) (fun h3 => ?_)
  · have f4 : v1.toInt = (0 : Int) := xeq h3
    exact k (-1 : Int32)
  · have f5 : v1.toInt ≠ (0 : Int) := xne h3
    refine ps_nd_i (show pm_in x1 41 = true from xgi (show 0 ≤ x1.toInt from by omega) (show x1.toInt < 41 from by omega)) ?_
    have r6 : 0 ≤ (ps_a s 1157 (Int32.toNatClampNeg x1)).toInt ∧ (ps_a s 1157 (Int32.toNatClampNeg x1)).toInt ≤ 12 := ma_1157 (i := x1) J (show 0 ≤ x1.toInt from by omega) (show x1.toInt < 41 from by omega)
    have a7 : ((ps_a s 1157 (Int32.toNatClampNeg x1)) - 1).toInt = (ps_a s 1157 (Int32.toNatClampNeg x1)).toInt - (1 : Int) := xIs (show -2147483648 ≤ (ps_a s 1157 (Int32.toNatClampNeg x1)).toInt - (1 : Int) from by omega) (show (ps_a s 1157 (Int32.toNatClampNeg x1)).toInt - (1 : Int) < 2147483648 from by omega)
    refine ms_200 J  (fun v8 p8_0 b8 => ?_)
    have p8_0' : v8.toInt = 0 ∨ ((0 : Int) ≤ x2.toInt ∧ x2.toInt ≤ ((ps_a s 1157 (Int32.toNatClampNeg x1)) - 1).toInt) := p8_0
    refine And.intro (fun h9 => ?_) (fun h9 => ?_)
    · have f10 : v8.toInt = (0 : Int) := xeq h9
      exact k (-1 : Int32)
    · have f11 : v8.toInt ≠ (0 : Int) := xne h9
      refine pg_243_0 ?_
      have a12 : ((12 : Int32) * x1).toInt = (12 : Int) * x1.toInt := xIm (show -2147483648 ≤ (12 : Int) * x1.toInt from by omega) (show (12 : Int) * x1.toInt < 2147483648 from by omega)
      have a13 : (((12 : Int32) * x1) + x2).toInt = ((12 : Int32) * x1).toInt + x2.toInt := xIa (show -2147483648 ≤ ((12 : Int32) * x1).toInt + x2.toInt from by omega) (show ((12 : Int32) * x1).toInt + x2.toInt < 2147483648 from by omega)
      have a14 : ((41 : Int32) * (((12 : Int32) * x1) + x2)).toInt = (41 : Int) * (((12 : Int32) * x1) + x2).toInt := xIm (show -2147483648 ≤ (41 : Int) * (((12 : Int32) * x1) + x2).toInt from by omega) (show (41 : Int) * (((12 : Int32) * x1) + x2).toInt < 2147483648 from by omega)
      have a15 : ((1640 : Int32) + ((41 : Int32) * (((12 : Int32) * x1) + x2))).toInt = (1640 : Int) + ((41 : Int32) * (((12 : Int32) * x1) + x2)).toInt := xIa (show -2147483648 ≤ (1640 : Int) + ((41 : Int32) * (((12 : Int32) * x1) + x2)).toInt from by omega) (show (1640 : Int) + ((41 : Int32) * (((12 : Int32) * x1) + x2)).toInt < 2147483648 from by omega)
      refine ms_264 J (show ((1640 : Int32) + ((41 : Int32) * (((12 : Int32) * x1) + x2))).toInt % 41 = 0 from by omega) (show 0 ≤ ((1640 : Int32) + ((41 : Int32) * (((12 : Int32) * x1) + x2))).toInt from by omega) (show ((1640 : Int32) + ((41 : Int32) * (((12 : Int32) * x1) + x2))).toInt < 27306 from by omega) (fun v16 => ?_)
      exact k v16

-- ProofBenchModel.needs(I)J
theorem pg_267_0 {d : Nat} {x1 : Int32} {s : ps_S} {Q : Option Value → ps_S → Prop} (h :
  ps_Cl d 262 [.ref 1131, .int x1] s (ps_rI (fun v1 s1 =>
    (v1 = 0 →
      Q (some (.long (-1 : Int64))) s1) ∧
    (v1 ≠ 0 →
      ps_nd (pm_in x1 40) (Q (some (.long (ps_b s1 1160 (Int32.toNatClampNeg x1)))) s1))))) : ps_At (d + 1) 267 0 [(0, .ref 1131), (1, .int x1)] [] s Q :=
  ps_wp_at (stops := []) (n := 14) h rfl

theorem ms_267 {x : Nat → Nat → Nat} {t : Int32} {s : ps_S} {d : Nat} {x1 : Int32} {f : Int64 → ps_S → Prop} (J : mJ x t s) (k : ∀ (v : Int64), f v s) : ps_Cl (d + 2) 267 [.ref 1131, .int x1] s (ps_rJ f) := by
  refine pg_267_0 (d := d + 1) ?_
  refine ms_262 J  (fun v1 p1_0 b1 => ?_)
  have p1_0' : v1.toInt = 0 ∨ (0 ≤ x1.toInt ∧ x1.toInt < (ps_i s 1131 47).toInt) := p1_0
  have r2 := mf_47 J
  refine And.intro (fun h3 => ?_) (fun h3 => ?_)
  · have f4 : v1.toInt = (0 : Int) := xeq h3
    exact k (-1 : Int64)
  · have f5 : v1.toInt ≠ (0 : Int) := xne h3
    refine ps_nd_i (show pm_in x1 40 = true from xgi (show 0 ≤ x1.toInt from by omega) (show x1.toInt < 40 from by omega)) ?_
    exact k (ps_b s 1160 (Int32.toNatClampNeg x1))

-- ProofBenchModel.theorem(II)I
theorem pg_269_0 {d : Nat} {x1 : Int32} {x2 : Int32} {s : ps_S} {Q : Option Value → ps_S → Prop} (h :
  ps_Cl d 200 [.int x1, .int 0, .int ((ps_i s 1131 54) - 1)] s (ps_rI (fun v1 s1 =>
    (v1 = 0 →
      Q (some (.int (-1))) s1) ∧
    (v1 ≠ 0 →
      ps_Cl d 264 [.ref 1131, .int ((21320 : Int32) + ((41 : Int32) * x1)), .int x2] s1 (ps_rI (fun v2 s2 =>
        Q (some (.int v2)) s2)))))) : ps_At (d + 1) 269 0 [(0, .ref 1131), (1, .int x1), (2, .int x2)] [] s Q :=
  ps_wp_at (stops := []) (n := 22) h rfl

theorem ms_269 {x : Nat → Nat → Nat} {t : Int32} {s : ps_S} {d : Nat} {x1 : Int32} {x2 : Int32} {f : Int32 → ps_S → Prop} (J : mJ x t s) (k : ∀ (v : Int32), f v s) : ps_Cl (d + 2) 269 [.ref 1131, .int x1, .int x2] s (ps_rI f) := by
  refine pg_269_0 (d := d + 1) ?_
  have r1 := mf_54 J
  have a2 : ((ps_i s 1131 54) - 1).toInt = (ps_i s 1131 54).toInt - (1 : Int) := xIs (show -2147483648 ≤ (ps_i s 1131 54).toInt - (1 : Int) from by omega) (show (ps_i s 1131 54).toInt - (1 : Int) < 2147483648 from by omega)
  refine ms_200 J  (fun v3 p3_0 b3 => ?_)
  have p3_0' : v3.toInt = 0 ∨ ((0 : Int) ≤ x1.toInt ∧ x1.toInt ≤ ((ps_i s 1131 54) - 1).toInt) := p3_0
  refine And.intro (fun h4 => ?_) (fun h4 => ?_)
  · have f5 : v3.toInt = (0 : Int) := xeq h4
    exact k (-1 : Int32)
  · have f6 : v3.toInt ≠ (0 : Int) := xne h4
    have a7 : ((41 : Int32) * x1).toInt = (41 : Int) * x1.toInt := xIm (show -2147483648 ≤ (41 : Int) * x1.toInt from by omega) (show (41 : Int) * x1.toInt < 2147483648 from by omega)
    have a8 : ((21320 : Int32) + ((41 : Int32) * x1)).toInt = (21320 : Int) + ((41 : Int32) * x1).toInt := xIa (show -2147483648 ≤ (21320 : Int) + ((41 : Int32) * x1).toInt from by omega) (show (21320 : Int) + ((41 : Int32) * x1).toInt < 2147483648 from by omega)
    refine ms_264 J (show ((21320 : Int32) + ((41 : Int32) * x1)).toInt % 41 = 0 from by omega) (show 0 ≤ ((21320 : Int32) + ((41 : Int32) * x1)).toInt from by omega) (show ((21320 : Int32) + ((41 : Int32) * x1)).toInt < 27306 from by omega) (fun v9 => ?_)
    exact k v9

-- ProofBenchModel.through(I)I
theorem pg_270_0 {d : Nat} {x1 : Int32} {s : ps_S} {Q : Option Value → ps_S → Prop} (h :
  ps_At d 270 9 [(0, .ref 1131), (2, .int ((1 : Int32) <<< (x1 &&& 31))), (3, .int 0), (4, .int x1)] [] s Q) : ps_At d 270 0 [(0, .ref 1131), (1, .int x1)] [] s Q :=
  ps_wp_at (stops := [(9, [0, 2, 3, 4])]) (n := 10) h rfl

theorem pg_270_9 {d : Nat} {x2 : Int32} {x3 : Int32} {x4 : Int32} {s : ps_S} {Q : Option Value → ps_S → Prop} (h :
  (x4 < 0 →
    Q (some (.int x3)) s) ∧
  (0 ≤ x4 →
    (((x2 >>> (x4 &&& 31)) &&& 1) ≠ 0 →
      ps_nd (pm_in x4 12) (ps_nd (pm_in x4 12) (ps_At d 270 9 [(0, .ref 1131), (2, .int (x2 ||| (ps_a s 1162 (Int32.toNatClampNeg x4)))), (3, .int (x3 ||| (ps_a s 1161 (Int32.toNatClampNeg x4)))), (4, .int (x4 + (-1)))] [] s Q))) ∧
    (((x2 >>> (x4 &&& 31)) &&& 1) = 0 →
      ps_At d 270 9 [(0, .ref 1131), (2, .int x2), (3, .int x3), (4, .int (x4 + (-1)))] [] s Q))) : ps_At d 270 9 [(0, .ref 1131), (2, .int x2), (3, .int x3), (4, .int x4)] [] s Q :=
  ps_wp_at (stops := [(9, [0, 2, 3, 4])]) (n := 31) h rfl

theorem ms_270_9 {x : Nat → Nat → Nat} {t : Int32} {d : Nat} {s : ps_S} {x1 : Int32} {Q : Option Value → ps_S → Prop} (k : ∀ (v : Int32), Q (some (.int v)) s) : ∀ (n : Nat) (x2 : Int32) (x3 : Int32) (x4 : Int32), (mJ x t s) → (-1 ≤ x4.toInt) → (x4.toInt ≤ 11) → x4.toInt + 1 ≤ (n : Int) → ps_At d 270 9 [(0, .ref 1131), (2, .int x2), (3, .int x3), (4, .int x4)] [] s Q := by
  refine xstr (fun n ih => ?_)
  intro x2 x3 x4 J i0 i1 hm
  refine pg_270_9 ?_
  refine And.intro (fun h1 => ?_) (fun h1 => ?_)
  · have f2 : x4.toInt < (0 : Int) := xlt h1
    exact k x3
  · have f3 : (0 : Int) ≤ x4.toInt := xle h1
    have n4 : 0 ≤ ((x2 >>> (x4 &&& 31)) &&& 1).toInt ∧ ((x2 >>> (x4 &&& 31)) &&& 1).toInt ≤ 1 := xN (x2 >>> (x4 &&& 31)) (c := 1) (n := 1) (by decide) (by decide)
    refine And.intro (fun h5 => ?_) (fun h5 => ?_)
    · have f6 : ((x2 >>> (x4 &&& 31)) &&& 1).toInt ≠ (0 : Int) := xne h5
      refine ps_nd_i (show pm_in x4 12 = true from xgi (show 0 ≤ x4.toInt from by omega) (show x4.toInt < 12 from by omega)) ?_
      refine ps_nd_i (show pm_in x4 12 = true from xgi (show 0 ≤ x4.toInt from by omega) (show x4.toInt < 12 from by omega)) ?_
      have a7 : (x4 + (-1)).toInt = x4.toInt + (-1 : Int) := xIa (show -2147483648 ≤ x4.toInt + (-1 : Int) from by omega) (show x4.toInt + (-1 : Int) < 2147483648 from by omega)
      exact ih (n - 1) (show n - 1 < n from by omega) (x2 ||| (ps_a s 1162 (Int32.toNatClampNeg x4))) (x3 ||| (ps_a s 1161 (Int32.toNatClampNeg x4))) (x4 + (-1)) J (show -1 ≤ (x4 + (-1)).toInt from by omega) (show (x4 + (-1)).toInt ≤ 11 from by omega) (show (x4 + (-1)).toInt + 1 ≤ ((n - 1 : Nat) : Int) from by omega)
    · have f8 : ((x2 >>> (x4 &&& 31)) &&& 1).toInt = (0 : Int) := xeq h5
      have a9 : (x4 + (-1)).toInt = x4.toInt + (-1 : Int) := xIa (show -2147483648 ≤ x4.toInt + (-1 : Int) from by omega) (show x4.toInt + (-1 : Int) < 2147483648 from by omega)
      exact ih (n - 1) (show n - 1 < n from by omega) x2 x3 (x4 + (-1)) J (show -1 ≤ (x4 + (-1)).toInt from by omega) (show (x4 + (-1)).toInt ≤ 11 from by omega) (show (x4 + (-1)).toInt + 1 ≤ ((n - 1 : Nat) : Int) from by omega)

theorem ms_270 {x : Nat → Nat → Nat} {t : Int32} {s : ps_S} {d : Nat} {x1 : Int32} {f : Int32 → ps_S → Prop} (J : mJ x t s) (q0 : 0 ≤ x1.toInt) (q1 : x1.toInt ≤ 11) (k : ∀ (v : Int32), f v s) : ps_Cl d 270 [.ref 1131, .int x1] s (ps_rI f) := by
  refine pg_270_0 ?_
  exact ms_270_9 (x1 := x1) k  (x1.toInt + 1).toNat ((1 : Int32) <<< (x1 &&& 31)) (0) x1 J (show -1 ≤ x1.toInt from by omega) (show x1.toInt ≤ 11 from by omega) (show x1.toInt + 1 ≤ (((x1.toInt + 1).toNat : Nat) : Int) from by omega)

-- ProofBenchModel.leans(II)I
theorem pg_271_0 {d : Nat} {x1 : Int32} {x2 : Int32} {s : ps_S} {Q : Option Value → ps_S → Prop} (h :
  ps_Cl d 200 [.int x1, .int 0, .int ((ps_i s 1131 54) - 1)] s (ps_rI (fun v1 s1 =>
    (v1 ≠ 0 →
      (x2 ≠ 0 →
        (x2 ≠ 1 →
          (x2 ≠ 2 →
            Q (some (.int (-1))) s1) ∧
          (x2 = 2 →
            ps_Cl d 270 [.ref 1131, .int x1] s1 (ps_rI (fun v2 s2 =>
              Q (some (.int v2)) s2)))) ∧
        (x2 = 1 →
          ps_nd (pm_in x1 12) (Q (some (.int (ps_a s1 1162 (Int32.toNatClampNeg x1)))) s1))) ∧
      (x2 = 0 →
        ps_nd (pm_in x1 12) (Q (some (.int (ps_a s1 1161 (Int32.toNatClampNeg x1)))) s1))) ∧
    (v1 = 0 →
      Q (some (.int (-1))) s1)))) : ps_At (d + 1) 271 0 [(0, .ref 1131), (1, .int x1), (2, .int x2)] [] s Q :=
  ps_wp_at (stops := []) (n := 40) h rfl

theorem ms_271 {x : Nat → Nat → Nat} {t : Int32} {s : ps_S} {d : Nat} {x1 : Int32} {x2 : Int32} {f : Int32 → ps_S → Prop} (J : mJ x t s) (k : ∀ (v : Int32), f v s) : ps_Cl (d + 1) 271 [.ref 1131, .int x1, .int x2] s (ps_rI f) := by
  refine pg_271_0 (d := d) ?_
  have r1 := mf_54 J
  have a2 : ((ps_i s 1131 54) - 1).toInt = (ps_i s 1131 54).toInt - (1 : Int) := xIs (show -2147483648 ≤ (ps_i s 1131 54).toInt - (1 : Int) from by omega) (show (ps_i s 1131 54).toInt - (1 : Int) < 2147483648 from by omega)
  refine ms_200 J  (fun v3 p3_0 b3 => ?_)
  have p3_0' : v3.toInt = 0 ∨ ((0 : Int) ≤ x1.toInt ∧ x1.toInt ≤ ((ps_i s 1131 54) - 1).toInt) := p3_0
  refine And.intro (fun h4 => ?_) (fun h4 => ?_)
  · have f5 : v3.toInt ≠ (0 : Int) := xne h4
    refine And.intro (fun h6 => ?_) (fun h6 => ?_)
    · have f7 : x2.toInt ≠ (0 : Int) := xne h6
      refine And.intro (fun h8 => ?_) (fun h8 => ?_)
      · have f9 : x2.toInt ≠ (1 : Int) := xne h8
        refine And.intro (fun h10 => ?_) (fun h10 => ?_)
        · have f11 : x2.toInt ≠ (2 : Int) := xne h10
          exact k (-1 : Int32)
        · have f12 : x2.toInt = (2 : Int) := xeq h10
          refine ms_270 J (show 0 ≤ x1.toInt from by omega) (show x1.toInt ≤ 11 from by omega) (fun v13 => ?_)
          exact k v13
      · have f14 : x2.toInt = (1 : Int) := xeq h8
        refine ps_nd_i (show pm_in x1 12 = true from xgi (show 0 ≤ x1.toInt from by omega) (show x1.toInt < 12 from by omega)) ?_
        exact k (ps_a s 1162 (Int32.toNatClampNeg x1))
    · have f15 : x2.toInt = (0 : Int) := xeq h6
      refine ps_nd_i (show pm_in x1 12 = true from xgi (show 0 ≤ x1.toInt from by omega) (show x1.toInt < 12 from by omega)) ?_
      exact k (ps_a s 1161 (Int32.toNatClampNeg x1))
  · have f16 : v3.toInt = (0 : Int) := xeq h4
    exact k (-1 : Int32)

-- ProofBenchModel.piece(I)I
theorem pg_275_0 {d : Nat} {x1 : Int32} {s : ps_S} {Q : Option Value → ps_S → Prop} (h :
  ps_Cl d 264 [.ref 1131, .int 25748, .int x1] s (ps_rI (fun v1 s1 =>
    Q (some (.int v1)) s1))) : ps_At (d + 1) 275 0 [(0, .ref 1131), (1, .int x1)] [] s Q :=
  ps_wp_at (stops := []) (n := 7) h rfl

theorem ms_275 {x : Nat → Nat → Nat} {t : Int32} {s : ps_S} {d : Nat} {x1 : Int32} {f : Int32 → ps_S → Prop} (J : mJ x t s) (k : ∀ (v : Int32), f v s) : ps_Cl (d + 2) 275 [.ref 1131, .int x1] s (ps_rI f) := by
  refine pg_275_0 (d := d + 1) ?_
  refine ms_264 J (show (25748 : Int) % 41 = 0 from by omega) (show 0 ≤ (25748 : Int) from by omega) (show (25748 : Int) < 27306 from by omega) (fun v1 => ?_)
  exact k v1

-- ProofBenchModel.alike()I
theorem pg_276_0 {d : Nat} {s : ps_S} {Q : Option Value → ps_S → Prop} (h :
  ps_At (d + 1) 276 2 [(0, .ref 1131), (1, .int 0)] [] s Q) : ps_At (d + 1) 276 0 [(0, .ref 1131)] [] s Q :=
  ps_wp_at (stops := [(2, [0, 1])]) (n := 4) h rfl

theorem pg_276_2 {d : Nat} {x1 : Int32} {s : ps_S} {Q : Option Value → ps_S → Prop} (h :
  ((ps_i s 1131 47) ≤ x1 →
    Q (some (.int (-1))) s) ∧
  (x1 < (ps_i s 1131 47) →
    ps_Cl d 219 [.ref 1131, .int 25748] s (ps_rI (fun v1 s1 =>
      (v1 ≤ 0 →
        ps_At (d + 1) 276 2 [(0, .ref 1131), (1, .int (x1 + 1))] [] s1 Q) ∧
      (0 < v1 →
        ps_Cl d 242 [.int x1] s1 (ps_rI (fun v2 s2 =>
          ps_Cl d 222 [.ref 1131, .int v2, .int 25748] s2 (ps_rI (fun v3 s3 =>
            (v3 = 0 →
              ps_At (d + 1) 276 2 [(0, .ref 1131), (1, .int (x1 + 1))] [] s3 Q) ∧
            (v3 ≠ 0 →
              Q (some (.int x1)) s3)))))))))) : ps_At (d + 1) 276 2 [(0, .ref 1131), (1, .int x1)] [] s Q :=
  ps_wp_at (stops := [(2, [0, 1])]) (n := 24) h rfl

theorem ms_276_2 {x : Nat → Nat → Nat} {t : Int32} {d : Nat} {s : ps_S} {Q : Option Value → ps_S → Prop} (k : ∀ (v : Int32), Q (some (.int v)) s) : ∀ (n : Nat) (x1 : Int32), (mJ x t s) → (0 ≤ x1.toInt) → (x1.toInt ≤ (ps_i s 1131 47).toInt) → 50 - x1.toInt ≤ (n : Int) → ps_At (d + 2) 276 2 [(0, .ref 1131), (1, .int x1)] [] s Q := by
  refine xstr (fun n ih => ?_)
  intro x1 J i0 i1 hm
  have r1 := mf_47 J
  refine pg_276_2 (d := d + 1) ?_
  refine And.intro (fun h2 => ?_) (fun h2 => ?_)
  · have f3 : (ps_i s 1131 47).toInt ≤ x1.toInt := xle h2
    exact k (-1 : Int32)
  · have f4 : x1.toInt < (ps_i s 1131 47).toInt := xlt h2
    refine pg_219_0 ?_
    refine ps_nd_i (show pm_in (25748 : Int32) 27400 = true from xgi (show 0 ≤ (25748 : Int) from by omega) (show (25748 : Int) < 27400 from by omega)) ?_
    have r5 : (25748 : Int) % 41 = 0 → (25748 : Int) < 27306 → 0 ≤ (ps_a s 1134 (Int32.toNatClampNeg (25748 : Int32))).toInt ∧ (ps_a s 1134 (Int32.toNatClampNeg (25748 : Int32))).toInt ≤ 40 := fun z1 z2 => mp_row (i := (25748 : Int32)) J z1 (show 0 ≤ (25748 : Int) from by omega) z2
    refine And.intro (fun h6 => ?_) (fun h6 => ?_)
    · have f7 : (ps_a s 1134 (Int32.toNatClampNeg (25748 : Int32))).toInt ≤ (0 : Int) := xle h6
      have a8 : (x1 + 1).toInt = x1.toInt + (1 : Int) := xIa (show -2147483648 ≤ x1.toInt + (1 : Int) from by omega) (show x1.toInt + (1 : Int) < 2147483648 from by omega)
      exact ih (n - 1) (show n - 1 < n from by omega) (x1 + 1) J (show 0 ≤ (x1 + 1).toInt from by omega) (show (x1 + 1).toInt ≤ (ps_i s 1131 47).toInt from by omega) (show 50 - (x1 + 1).toInt ≤ ((n - 1 : Nat) : Int) from by omega)
    · have f9 : (0 : Int) < (ps_a s 1134 (Int32.toNatClampNeg (25748 : Int32))).toInt := xlt h6
      refine pg_242_0 ?_
      have a10 : ((41 : Int32) * x1).toInt = (41 : Int) * x1.toInt := xIm (show -2147483648 ≤ (41 : Int) * x1.toInt from by omega) (show (41 : Int) * x1.toInt < 2147483648 from by omega)
      have a11 : ((0 : Int32) + ((41 : Int32) * x1)).toInt = (0 : Int) + ((41 : Int32) * x1).toInt := xIa (show -2147483648 ≤ (0 : Int) + ((41 : Int32) * x1).toInt from by omega) (show (0 : Int) + ((41 : Int32) * x1).toInt < 2147483648 from by omega)
      refine ms_222 J (show ((0 : Int32) + ((41 : Int32) * x1)).toInt % 41 = 0 from by omega) (show 0 ≤ ((0 : Int32) + ((41 : Int32) * x1)).toInt from by omega) (show ((0 : Int32) + ((41 : Int32) * x1)).toInt < 27306 from by omega) (show (25748 : Int) % 41 = 0 from by omega) (show 0 ≤ (25748 : Int) from by omega) (show (25748 : Int) < 27306 from by omega) (fun v12 b12 => ?_)
      refine And.intro (fun h13 => ?_) (fun h13 => ?_)
      · have f14 : v12.toInt = (0 : Int) := xeq h13
        have a15 : (x1 + 1).toInt = x1.toInt + (1 : Int) := xIa (show -2147483648 ≤ x1.toInt + (1 : Int) from by omega) (show x1.toInt + (1 : Int) < 2147483648 from by omega)
        exact ih (n - 1) (show n - 1 < n from by omega) (x1 + 1) J (show 0 ≤ (x1 + 1).toInt from by omega) (show (x1 + 1).toInt ≤ (ps_i s 1131 47).toInt from by omega) (show 50 - (x1 + 1).toInt ≤ ((n - 1 : Nat) : Int) from by omega)
      · have f16 : v12.toInt ≠ (0 : Int) := xne h13
        exact k x1

theorem ms_276 {x : Nat → Nat → Nat} {t : Int32} {s : ps_S} {d : Nat} {f : Int32 → ps_S → Prop} (J : mJ x t s) (k : ∀ (v : Int32), f v s) : ps_Cl (d + 2) 276 [.ref 1131] s (ps_rI f) := by
  refine pg_276_0 (d := d + 1) ?_
  have r1 := mf_47 J
  exact ms_276_2  k  (50 - (0 : Int)).toNat (0) J (show 0 ≤ (0 : Int) from by omega) (show (0 : Int) ≤ (ps_i s 1131 47).toInt from by omega) (show 50 - (0 : Int) ≤ (((50 - (0 : Int)).toNat : Nat) : Int) from by omega)

-- ProofBenchModel.normal(I)I
theorem pg_289_0 {d : Nat} {x1 : Int32} {s : ps_S} {Q : Option Value → ps_S → Prop} (h :
  ps_Cl d 264 [.ref 1131, .int 25789, .int x1] s (ps_rI (fun v1 s1 =>
    Q (some (.int v1)) s1))) : ps_At (d + 1) 289 0 [(0, .ref 1131), (1, .int x1)] [] s Q :=
  ps_wp_at (stops := []) (n := 7) h rfl

theorem ms_289 {x : Nat → Nat → Nat} {t : Int32} {s : ps_S} {d : Nat} {x1 : Int32} {f : Int32 → ps_S → Prop} (J : mJ x t s) (k : ∀ (v : Int32), f v s) : ps_Cl (d + 2) 289 [.ref 1131, .int x1] s (ps_rI f) := by
  refine pg_289_0 (d := d + 1) ?_
  refine ms_264 J (show (25789 : Int) % 41 = 0 from by omega) (show 0 ≤ (25789 : Int) from by omega) (show (25789 : Int) < 27306 from by omega) (fun v1 => ?_)
  exact k v1

-- ProofBenchModel.about(I)I
theorem pg_307_0 {d : Nat} {x1 : Int32} {s : ps_S} {Q : Option Value → ps_S → Prop} (h :
  (x1 = 0 →
    ps_nd (pm_in (ps_i s 1131 21) 2) (Q (some (.int (ps_a s 1135 (Int32.toNatClampNeg (ps_i s 1131 21))))) s)) ∧
  (x1 ≠ 0 →
    (x1 = 1 →
    ps_nd (pm_in (ps_i s 1131 21) 2) (Q (some (.int (ps_a s 1136 (Int32.toNatClampNeg (ps_i s 1131 21))))) s)) ∧
  (x1 ≠ 1 →
    (x1 = 2 →
    ps_nd (pm_in (ps_i s 1131 21) 2) (Q (some (.int (ps_a s 1137 (Int32.toNatClampNeg (ps_i s 1131 21))))) s)) ∧
  (x1 ≠ 2 →
    (x1 = 3 →
    Q (some (.int (ps_i s 1131 47))) s) ∧
  (x1 ≠ 3 →
    (x1 = 4 →
    Q (some (.int (ps_i s 1131 54))) s) ∧
  (x1 ≠ 4 →
    (x1 = 5 →
    Q (some (.int (ps_i s 1131 3))) s) ∧
  (x1 ≠ 5 →
    (x1 = 6 →
    ps_Cl d 219 [.ref 1131, .int 25748] s (ps_rI (fun v1 s1 =>
      Q (some (.int v1)) s1))) ∧
  (x1 ≠ 6 →
    Q (some (.int (-1))) s)))))))) : ps_At (d + 1) 307 0 [(0, .ref 1131), (1, .int x1)] [] s Q :=
  ps_wp_at (stops := []) (n := 37) h rfl

theorem ms_307 {x : Nat → Nat → Nat} {t : Int32} {s : ps_S} {d : Nat} {x1 : Int32} {f : Int32 → ps_S → Prop} (J : mJ x t s) (k : ∀ (v : Int32), f v s) : ps_Cl (d + 1) 307 [.ref 1131, .int x1] s (ps_rI f) := by
  refine pg_307_0 (d := d) ?_
  refine And.intro (fun h1 => ?_) (fun h1 => ?_)
  · have f2 : x1.toInt = (0 : Int) := xeq h1
    have r3 := mf_21 J
    refine ps_nd_i (show pm_in (ps_i s 1131 21) 2 = true from xgi (show 0 ≤ (ps_i s 1131 21).toInt from by omega) (show (ps_i s 1131 21).toInt < 2 from by omega)) ?_
    have r4 : 0 ≤ (ps_a s 1135 (Int32.toNatClampNeg (ps_i s 1131 21))).toInt ∧ (ps_a s 1135 (Int32.toNatClampNeg (ps_i s 1131 21))).toInt ≤ 6 := ma_1135 (i := (ps_i s 1131 21)) J (show 0 ≤ (ps_i s 1131 21).toInt from by omega) (show (ps_i s 1131 21).toInt < 2 from by omega)
    exact k (ps_a s 1135 (Int32.toNatClampNeg (ps_i s 1131 21)))
  have f5 : x1.toInt ≠ (0 : Int) := xne h1
  refine And.intro (fun h6 => ?_) (fun h6 => ?_)
  · have f7 : x1.toInt = (1 : Int) := xeq h6
    have r8 := mf_21 J
    refine ps_nd_i (show pm_in (ps_i s 1131 21) 2 = true from xgi (show 0 ≤ (ps_i s 1131 21).toInt from by omega) (show (ps_i s 1131 21).toInt < 2 from by omega)) ?_
    have r9 : 0 ≤ (ps_a s 1136 (Int32.toNatClampNeg (ps_i s 1131 21))).toInt ∧ (ps_a s 1136 (Int32.toNatClampNeg (ps_i s 1131 21))).toInt ≤ 4 := ma_1136 (i := (ps_i s 1131 21)) J (show 0 ≤ (ps_i s 1131 21).toInt from by omega) (show (ps_i s 1131 21).toInt < 2 from by omega)
    exact k (ps_a s 1136 (Int32.toNatClampNeg (ps_i s 1131 21)))
  have f10 : x1.toInt ≠ (1 : Int) := xne h6
  refine And.intro (fun h11 => ?_) (fun h11 => ?_)
  · have f12 : x1.toInt = (2 : Int) := xeq h11
    have r13 := mf_21 J
    refine ps_nd_i (show pm_in (ps_i s 1131 21) 2 = true from xgi (show 0 ≤ (ps_i s 1131 21).toInt from by omega) (show (ps_i s 1131 21).toInt < 2 from by omega)) ?_
    have r14 : 0 ≤ (ps_a s 1137 (Int32.toNatClampNeg (ps_i s 1131 21))).toInt ∧ (ps_a s 1137 (Int32.toNatClampNeg (ps_i s 1131 21))).toInt ≤ 8 := ma_1137 (i := (ps_i s 1131 21)) J (show 0 ≤ (ps_i s 1131 21).toInt from by omega) (show (ps_i s 1131 21).toInt < 2 from by omega)
    exact k (ps_a s 1137 (Int32.toNatClampNeg (ps_i s 1131 21)))
  have f15 : x1.toInt ≠ (2 : Int) := xne h11
  refine And.intro (fun h16 => ?_) (fun h16 => ?_)
  · have f17 : x1.toInt = (3 : Int) := xeq h16
    have r18 := mf_47 J
    exact k (ps_i s 1131 47)
  have f19 : x1.toInt ≠ (3 : Int) := xne h16
  refine And.intro (fun h20 => ?_) (fun h20 => ?_)
  · have f21 : x1.toInt = (4 : Int) := xeq h20
    have r22 := mf_54 J
    exact k (ps_i s 1131 54)
  have f23 : x1.toInt ≠ (4 : Int) := xne h20
  refine And.intro (fun h24 => ?_) (fun h24 => ?_)
  · have f25 : x1.toInt = (5 : Int) := xeq h24
    have r26 := mf_3 J
    exact k (ps_i s 1131 3)
  have f27 : x1.toInt ≠ (5 : Int) := xne h24
  refine And.intro (fun h28 => ?_) (fun h28 => ?_)
  · have f29 : x1.toInt = (6 : Int) := xeq h28
    refine pg_219_0 ?_
    refine ps_nd_i (show pm_in (25748 : Int32) 27400 = true from xgi (show 0 ≤ (25748 : Int) from by omega) (show (25748 : Int) < 27400 from by omega)) ?_
    have r30 : (25748 : Int) % 41 = 0 → (25748 : Int) < 27306 → 0 ≤ (ps_a s 1134 (Int32.toNatClampNeg (25748 : Int32))).toInt ∧ (ps_a s 1134 (Int32.toNatClampNeg (25748 : Int32))).toInt ≤ 40 := fun z1 z2 => mp_row (i := (25748 : Int32)) J z1 (show 0 ≤ (25748 : Int) from by omega) z2
    exact k (ps_a s 1134 (Int32.toNatClampNeg (25748 : Int32)))
  have f31 : x1.toInt ≠ (6 : Int) := xne h28
  exact k (-1 : Int32)

-- ProofBenchModel.feed(IIIII)I
theorem pg_308_0 {d : Nat} {x1 : Int32} {x2 : Int32} {x3 : Int32} {x4 : Int32} {x5 : Int32} {s : ps_S} {Q : Option Value → ps_S → Prop} (h :
  (((ps_i s 1131 3) + 20) ≤ 1600 →
    ps_At d 308 18 [(0, .ref 1131), (1, .int x1), (2, .int x2), (3, .int x3), (4, .int x4), (5, .int x5), (6, .int 0)] [] s Q) ∧
  (1600 < ((ps_i s 1131 3) + 20) →
    Q (some (.int (-1))) s)) : ps_At d 308 0 [(0, .ref 1131), (1, .int x1), (2, .int x2), (3, .int x3), (4, .int x4), (5, .int x5)] [] s Q :=
  ps_wp_at (stops := [(18, [0, 1, 2, 3, 4, 5, 6])]) (n := 12) h rfl

theorem pg_308_18 {d : Nat} {x1 : Int32} {x2 : Int32} {x3 : Int32} {x4 : Int32} {x5 : Int32} {x6 : Int32} {s : ps_S} {Q : Option Value → ps_S → Prop} (h :
  (20 ≤ x6 →
    Q (some (.int (ps_i (ps_ui s 1131 3 ((ps_i s 1131 3) + 20)) 1131 3))) (ps_ui s 1131 3 ((ps_i s 1131 3) + 20))) ∧
  (x6 < 20 →
    (4 ≤ x6 →
      (8 ≤ x6 →
        (12 ≤ x6 →
          (16 ≤ x6 →
            ps_nd (pm_in ((ps_i s 1131 3) + x6) 1620) (ps_At d 308 18 [(0, .ref 1131), (1, .int x1), (2, .int x2), (3, .int x3), (4, .int x4), (5, .int x5), (6, .int (x6 + 1))] [] (ps_ua s 1132 (Int32.toNatClampNeg ((ps_i s 1131 3) + x6)) (Int8.toInt32 (Int32.toInt8 (Int8.toInt32 (Int32.toInt8 (x5 >>> (((24 : Int32) - ((8 : Int32) * (x6 &&& 3))) &&& 31))))))) Q)) ∧
          (x6 < 16 →
            ps_nd (pm_in ((ps_i s 1131 3) + x6) 1620) (ps_At d 308 18 [(0, .ref 1131), (1, .int x1), (2, .int x2), (3, .int x3), (4, .int x4), (5, .int x5), (6, .int (x6 + 1))] [] (ps_ua s 1132 (Int32.toNatClampNeg ((ps_i s 1131 3) + x6)) (Int8.toInt32 (Int32.toInt8 (Int8.toInt32 (Int32.toInt8 (x4 >>> (((24 : Int32) - ((8 : Int32) * (x6 &&& 3))) &&& 31))))))) Q))) ∧
        (x6 < 12 →
          ps_nd (pm_in ((ps_i s 1131 3) + x6) 1620) (ps_At d 308 18 [(0, .ref 1131), (1, .int x1), (2, .int x2), (3, .int x3), (4, .int x4), (5, .int x5), (6, .int (x6 + 1))] [] (ps_ua s 1132 (Int32.toNatClampNeg ((ps_i s 1131 3) + x6)) (Int8.toInt32 (Int32.toInt8 (Int8.toInt32 (Int32.toInt8 (x3 >>> (((24 : Int32) - ((8 : Int32) * (x6 &&& 3))) &&& 31))))))) Q))) ∧
      (x6 < 8 →
        ps_nd (pm_in ((ps_i s 1131 3) + x6) 1620) (ps_At d 308 18 [(0, .ref 1131), (1, .int x1), (2, .int x2), (3, .int x3), (4, .int x4), (5, .int x5), (6, .int (x6 + 1))] [] (ps_ua s 1132 (Int32.toNatClampNeg ((ps_i s 1131 3) + x6)) (Int8.toInt32 (Int32.toInt8 (Int8.toInt32 (Int32.toInt8 (x2 >>> (((24 : Int32) - ((8 : Int32) * (x6 &&& 3))) &&& 31))))))) Q))) ∧
    (x6 < 4 →
      ps_nd (pm_in ((ps_i s 1131 3) + x6) 1620) (ps_At d 308 18 [(0, .ref 1131), (1, .int x1), (2, .int x2), (3, .int x3), (4, .int x4), (5, .int x5), (6, .int (x6 + 1))] [] (ps_ua s 1132 (Int32.toNatClampNeg ((ps_i s 1131 3) + x6)) (Int8.toInt32 (Int32.toInt8 (Int8.toInt32 (Int32.toInt8 (x1 >>> (((24 : Int32) - ((8 : Int32) * (x6 &&& 3))) &&& 31))))))) Q)))) : ps_At d 308 18 [(0, .ref 1131), (1, .int x1), (2, .int x2), (3, .int x3), (4, .int x4), (5, .int x5), (6, .int x6)] [] s Q :=
  ps_wp_at (stops := [(18, [0, 1, 2, 3, 4, 5, 6])]) (n := 135) h rfl

theorem ms_308_18 {x : Nat → Nat → Nat} {t : Int32} {d : Nat} {s0 : ps_S} {x1 : Int32} {x2 : Int32} {x3 : Int32} {x4 : Int32} {x5 : Int32} {Q : Option Value → ps_S → Prop} (k : ∀ (v : Int32) (s' : ps_S), mJ x t s' → kp [1132] [3] s0 s' → ((v.toInt = -1 ∧ (ps_i s' 1131 3).toInt = (ps_i s0 1131 3).toInt ∧ 1580 < (ps_i s0 1131 3).toInt) ∨ (v.toInt = (ps_i s0 1131 3).toInt + 20 ∧ (ps_i s' 1131 3).toInt = (ps_i s0 1131 3).toInt + 20 ∧ (ps_i s0 1131 3).toInt ≤ 1580)) → Q (some (.int v)) s') : ∀ (n : Nat) (x6 : Int32) (s : ps_S), (mJ x t s) → (kp [1132] [3] s0 s) → (0 ≤ x6.toInt) → (x6.toInt ≤ 20) → ((ps_i s 1131 3).toInt ≤ 1580) → ((ps_i s 1131 3).toInt = (ps_i s0 1131 3).toInt) → 20 - x6.toInt ≤ (n : Int) → ps_At d 308 18 [(0, .ref 1131), (1, .int x1), (2, .int x2), (3, .int x3), (4, .int x4), (5, .int x5), (6, .int x6)] [] s Q := by
  refine xstr (fun n ih => ?_)
  intro x6 s J K i0 i1 i2 i3 hm
  have r1 := mf_3 J
  refine pg_308_18 ?_
  refine And.intro (fun h2 => ?_) (fun h2 => ?_)
  · have f3 : (20 : Int) ≤ x6.toInt := xle h2
    have a4 : ((ps_i s 1131 3) + 20).toInt = (ps_i s 1131 3).toInt + (20 : Int) := xIa (show -2147483648 ≤ (ps_i s 1131 3).toInt + (20 : Int) from by omega) (show (ps_i s 1131 3).toInt + (20 : Int) < 2147483648 from by omega)
    have J5 := mwi_3 (v := ((ps_i s 1131 3) + 20)) J (show 0 ≤ ((ps_i s 1131 3) + 20).toInt from by omega) (show ((ps_i s 1131 3) + 20).toInt ≤ 1600 from by omega)
    have K6 := kpi K (q := 3) (v := ((ps_i s 1131 3) + 20)) rfl
    exact k ((ps_i s 1131 3) + 20) _ J5 K6 (show (((ps_i s 1131 3) + 20).toInt = -1 ∧ ((ps_i s 1131 3) + 20).toInt = (ps_i s0 1131 3).toInt ∧ 1580 < (ps_i s0 1131 3).toInt) ∨ (((ps_i s 1131 3) + 20).toInt = (ps_i s0 1131 3).toInt + 20 ∧ ((ps_i s 1131 3) + 20).toInt = (ps_i s0 1131 3).toInt + 20 ∧ (ps_i s0 1131 3).toInt ≤ 1580) from by omega)
  · have f7 : x6.toInt < (20 : Int) := xlt h2
    refine And.intro (fun h8 => ?_) (fun h8 => ?_)
    · have f9 : (4 : Int) ≤ x6.toInt := xle h8
      refine And.intro (fun h10 => ?_) (fun h10 => ?_)
      · have f11 : (8 : Int) ≤ x6.toInt := xle h10
        refine And.intro (fun h12 => ?_) (fun h12 => ?_)
        · have f13 : (12 : Int) ≤ x6.toInt := xle h12
          refine And.intro (fun h14 => ?_) (fun h14 => ?_)
          · have f15 : (16 : Int) ≤ x6.toInt := xle h14
            have a16 : ((ps_i s 1131 3) + x6).toInt = (ps_i s 1131 3).toInt + x6.toInt := xIa (show -2147483648 ≤ (ps_i s 1131 3).toInt + x6.toInt from by omega) (show (ps_i s 1131 3).toInt + x6.toInt < 2147483648 from by omega)
            have n17 : 0 ≤ (x6 &&& 3).toInt ∧ (x6 &&& 3).toInt ≤ 3 := xN x6 (c := 3) (n := 3) (by decide) (by decide)
            have a18 : ((8 : Int32) * (x6 &&& 3)).toInt = (8 : Int) * (x6 &&& 3).toInt := xIm (show -2147483648 ≤ (8 : Int) * (x6 &&& 3).toInt from by omega) (show (8 : Int) * (x6 &&& 3).toInt < 2147483648 from by omega)
            have a19 : ((24 : Int32) - ((8 : Int32) * (x6 &&& 3))).toInt = (24 : Int) - ((8 : Int32) * (x6 &&& 3)).toInt := xIs (show -2147483648 ≤ (24 : Int) - ((8 : Int32) * (x6 &&& 3)).toInt from by omega) (show (24 : Int) - ((8 : Int32) * (x6 &&& 3)).toInt < 2147483648 from by omega)
            refine ps_nd_i (show pm_in ((ps_i s 1131 3) + x6) 1620 = true from xgi (show 0 ≤ ((ps_i s 1131 3) + x6).toInt from by omega) (show ((ps_i s 1131 3) + x6).toInt < 1620 from by omega)) ?_
            have J20 := mwa_n 1132 (i := (Int32.toNatClampNeg ((ps_i s 1131 3) + x6))) (v := (Int8.toInt32 (Int32.toInt8 (Int8.toInt32 (Int32.toInt8 (x5 >>> (((24 : Int32) - ((8 : Int32) * (x6 &&& 3))) &&& 31))))))) J rfl (by decide)
            have K21 := kpa' K (r := 1132) (i := (Int32.toNatClampNeg ((ps_i s 1131 3) + x6))) (v := (Int8.toInt32 (Int32.toInt8 (Int8.toInt32 (Int32.toInt8 (x5 >>> (((24 : Int32) - ((8 : Int32) * (x6 &&& 3))) &&& 31))))))) rfl
            have a22 : (x6 + 1).toInt = x6.toInt + (1 : Int) := xIa (show -2147483648 ≤ x6.toInt + (1 : Int) from by omega) (show x6.toInt + (1 : Int) < 2147483648 from by omega)
            exact ih (n - 1) (show n - 1 < n from by omega) (x6 + 1) _ J20 K21 (show 0 ≤ (x6 + 1).toInt from by omega) (show (x6 + 1).toInt ≤ 20 from by omega) (show (ps_i s 1131 3).toInt ≤ 1580 from by omega) (show (ps_i s 1131 3).toInt = (ps_i s0 1131 3).toInt from by omega) (show 20 - (x6 + 1).toInt ≤ ((n - 1 : Nat) : Int) from by omega)
          · have f23 : x6.toInt < (16 : Int) := xlt h14
            have a24 : ((ps_i s 1131 3) + x6).toInt = (ps_i s 1131 3).toInt + x6.toInt := xIa (show -2147483648 ≤ (ps_i s 1131 3).toInt + x6.toInt from by omega) (show (ps_i s 1131 3).toInt + x6.toInt < 2147483648 from by omega)
            have n25 : 0 ≤ (x6 &&& 3).toInt ∧ (x6 &&& 3).toInt ≤ 3 := xN x6 (c := 3) (n := 3) (by decide) (by decide)
            have a26 : ((8 : Int32) * (x6 &&& 3)).toInt = (8 : Int) * (x6 &&& 3).toInt := xIm (show -2147483648 ≤ (8 : Int) * (x6 &&& 3).toInt from by omega) (show (8 : Int) * (x6 &&& 3).toInt < 2147483648 from by omega)
            have a27 : ((24 : Int32) - ((8 : Int32) * (x6 &&& 3))).toInt = (24 : Int) - ((8 : Int32) * (x6 &&& 3)).toInt := xIs (show -2147483648 ≤ (24 : Int) - ((8 : Int32) * (x6 &&& 3)).toInt from by omega) (show (24 : Int) - ((8 : Int32) * (x6 &&& 3)).toInt < 2147483648 from by omega)
            refine ps_nd_i (show pm_in ((ps_i s 1131 3) + x6) 1620 = true from xgi (show 0 ≤ ((ps_i s 1131 3) + x6).toInt from by omega) (show ((ps_i s 1131 3) + x6).toInt < 1620 from by omega)) ?_
            have J28 := mwa_n 1132 (i := (Int32.toNatClampNeg ((ps_i s 1131 3) + x6))) (v := (Int8.toInt32 (Int32.toInt8 (Int8.toInt32 (Int32.toInt8 (x4 >>> (((24 : Int32) - ((8 : Int32) * (x6 &&& 3))) &&& 31))))))) J rfl (by decide)
            have K29 := kpa' K (r := 1132) (i := (Int32.toNatClampNeg ((ps_i s 1131 3) + x6))) (v := (Int8.toInt32 (Int32.toInt8 (Int8.toInt32 (Int32.toInt8 (x4 >>> (((24 : Int32) - ((8 : Int32) * (x6 &&& 3))) &&& 31))))))) rfl
            have a30 : (x6 + 1).toInt = x6.toInt + (1 : Int) := xIa (show -2147483648 ≤ x6.toInt + (1 : Int) from by omega) (show x6.toInt + (1 : Int) < 2147483648 from by omega)
            exact ih (n - 1) (show n - 1 < n from by omega) (x6 + 1) _ J28 K29 (show 0 ≤ (x6 + 1).toInt from by omega) (show (x6 + 1).toInt ≤ 20 from by omega) (show (ps_i s 1131 3).toInt ≤ 1580 from by omega) (show (ps_i s 1131 3).toInt = (ps_i s0 1131 3).toInt from by omega) (show 20 - (x6 + 1).toInt ≤ ((n - 1 : Nat) : Int) from by omega)
        · have f31 : x6.toInt < (12 : Int) := xlt h12
          have a32 : ((ps_i s 1131 3) + x6).toInt = (ps_i s 1131 3).toInt + x6.toInt := xIa (show -2147483648 ≤ (ps_i s 1131 3).toInt + x6.toInt from by omega) (show (ps_i s 1131 3).toInt + x6.toInt < 2147483648 from by omega)
          have n33 : 0 ≤ (x6 &&& 3).toInt ∧ (x6 &&& 3).toInt ≤ 3 := xN x6 (c := 3) (n := 3) (by decide) (by decide)
          have a34 : ((8 : Int32) * (x6 &&& 3)).toInt = (8 : Int) * (x6 &&& 3).toInt := xIm (show -2147483648 ≤ (8 : Int) * (x6 &&& 3).toInt from by omega) (show (8 : Int) * (x6 &&& 3).toInt < 2147483648 from by omega)
          have a35 : ((24 : Int32) - ((8 : Int32) * (x6 &&& 3))).toInt = (24 : Int) - ((8 : Int32) * (x6 &&& 3)).toInt := xIs (show -2147483648 ≤ (24 : Int) - ((8 : Int32) * (x6 &&& 3)).toInt from by omega) (show (24 : Int) - ((8 : Int32) * (x6 &&& 3)).toInt < 2147483648 from by omega)
          refine ps_nd_i (show pm_in ((ps_i s 1131 3) + x6) 1620 = true from xgi (show 0 ≤ ((ps_i s 1131 3) + x6).toInt from by omega) (show ((ps_i s 1131 3) + x6).toInt < 1620 from by omega)) ?_
          have J36 := mwa_n 1132 (i := (Int32.toNatClampNeg ((ps_i s 1131 3) + x6))) (v := (Int8.toInt32 (Int32.toInt8 (Int8.toInt32 (Int32.toInt8 (x3 >>> (((24 : Int32) - ((8 : Int32) * (x6 &&& 3))) &&& 31))))))) J rfl (by decide)
          have K37 := kpa' K (r := 1132) (i := (Int32.toNatClampNeg ((ps_i s 1131 3) + x6))) (v := (Int8.toInt32 (Int32.toInt8 (Int8.toInt32 (Int32.toInt8 (x3 >>> (((24 : Int32) - ((8 : Int32) * (x6 &&& 3))) &&& 31))))))) rfl
          have a38 : (x6 + 1).toInt = x6.toInt + (1 : Int) := xIa (show -2147483648 ≤ x6.toInt + (1 : Int) from by omega) (show x6.toInt + (1 : Int) < 2147483648 from by omega)
          exact ih (n - 1) (show n - 1 < n from by omega) (x6 + 1) _ J36 K37 (show 0 ≤ (x6 + 1).toInt from by omega) (show (x6 + 1).toInt ≤ 20 from by omega) (show (ps_i s 1131 3).toInt ≤ 1580 from by omega) (show (ps_i s 1131 3).toInt = (ps_i s0 1131 3).toInt from by omega) (show 20 - (x6 + 1).toInt ≤ ((n - 1 : Nat) : Int) from by omega)
      · have f39 : x6.toInt < (8 : Int) := xlt h10
        have a40 : ((ps_i s 1131 3) + x6).toInt = (ps_i s 1131 3).toInt + x6.toInt := xIa (show -2147483648 ≤ (ps_i s 1131 3).toInt + x6.toInt from by omega) (show (ps_i s 1131 3).toInt + x6.toInt < 2147483648 from by omega)
        have n41 : 0 ≤ (x6 &&& 3).toInt ∧ (x6 &&& 3).toInt ≤ 3 := xN x6 (c := 3) (n := 3) (by decide) (by decide)
        have a42 : ((8 : Int32) * (x6 &&& 3)).toInt = (8 : Int) * (x6 &&& 3).toInt := xIm (show -2147483648 ≤ (8 : Int) * (x6 &&& 3).toInt from by omega) (show (8 : Int) * (x6 &&& 3).toInt < 2147483648 from by omega)
        have a43 : ((24 : Int32) - ((8 : Int32) * (x6 &&& 3))).toInt = (24 : Int) - ((8 : Int32) * (x6 &&& 3)).toInt := xIs (show -2147483648 ≤ (24 : Int) - ((8 : Int32) * (x6 &&& 3)).toInt from by omega) (show (24 : Int) - ((8 : Int32) * (x6 &&& 3)).toInt < 2147483648 from by omega)
        refine ps_nd_i (show pm_in ((ps_i s 1131 3) + x6) 1620 = true from xgi (show 0 ≤ ((ps_i s 1131 3) + x6).toInt from by omega) (show ((ps_i s 1131 3) + x6).toInt < 1620 from by omega)) ?_
        have J44 := mwa_n 1132 (i := (Int32.toNatClampNeg ((ps_i s 1131 3) + x6))) (v := (Int8.toInt32 (Int32.toInt8 (Int8.toInt32 (Int32.toInt8 (x2 >>> (((24 : Int32) - ((8 : Int32) * (x6 &&& 3))) &&& 31))))))) J rfl (by decide)
        have K45 := kpa' K (r := 1132) (i := (Int32.toNatClampNeg ((ps_i s 1131 3) + x6))) (v := (Int8.toInt32 (Int32.toInt8 (Int8.toInt32 (Int32.toInt8 (x2 >>> (((24 : Int32) - ((8 : Int32) * (x6 &&& 3))) &&& 31))))))) rfl
        have a46 : (x6 + 1).toInt = x6.toInt + (1 : Int) := xIa (show -2147483648 ≤ x6.toInt + (1 : Int) from by omega) (show x6.toInt + (1 : Int) < 2147483648 from by omega)
        exact ih (n - 1) (show n - 1 < n from by omega) (x6 + 1) _ J44 K45 (show 0 ≤ (x6 + 1).toInt from by omega) (show (x6 + 1).toInt ≤ 20 from by omega) (show (ps_i s 1131 3).toInt ≤ 1580 from by omega) (show (ps_i s 1131 3).toInt = (ps_i s0 1131 3).toInt from by omega) (show 20 - (x6 + 1).toInt ≤ ((n - 1 : Nat) : Int) from by omega)
    · have f47 : x6.toInt < (4 : Int) := xlt h8
      have a48 : ((ps_i s 1131 3) + x6).toInt = (ps_i s 1131 3).toInt + x6.toInt := xIa (show -2147483648 ≤ (ps_i s 1131 3).toInt + x6.toInt from by omega) (show (ps_i s 1131 3).toInt + x6.toInt < 2147483648 from by omega)
      have n49 : 0 ≤ (x6 &&& 3).toInt ∧ (x6 &&& 3).toInt ≤ 3 := xN x6 (c := 3) (n := 3) (by decide) (by decide)
      have a50 : ((8 : Int32) * (x6 &&& 3)).toInt = (8 : Int) * (x6 &&& 3).toInt := xIm (show -2147483648 ≤ (8 : Int) * (x6 &&& 3).toInt from by omega) (show (8 : Int) * (x6 &&& 3).toInt < 2147483648 from by omega)
      have a51 : ((24 : Int32) - ((8 : Int32) * (x6 &&& 3))).toInt = (24 : Int) - ((8 : Int32) * (x6 &&& 3)).toInt := xIs (show -2147483648 ≤ (24 : Int) - ((8 : Int32) * (x6 &&& 3)).toInt from by omega) (show (24 : Int) - ((8 : Int32) * (x6 &&& 3)).toInt < 2147483648 from by omega)
      refine ps_nd_i (show pm_in ((ps_i s 1131 3) + x6) 1620 = true from xgi (show 0 ≤ ((ps_i s 1131 3) + x6).toInt from by omega) (show ((ps_i s 1131 3) + x6).toInt < 1620 from by omega)) ?_
      have J52 := mwa_n 1132 (i := (Int32.toNatClampNeg ((ps_i s 1131 3) + x6))) (v := (Int8.toInt32 (Int32.toInt8 (Int8.toInt32 (Int32.toInt8 (x1 >>> (((24 : Int32) - ((8 : Int32) * (x6 &&& 3))) &&& 31))))))) J rfl (by decide)
      have K53 := kpa' K (r := 1132) (i := (Int32.toNatClampNeg ((ps_i s 1131 3) + x6))) (v := (Int8.toInt32 (Int32.toInt8 (Int8.toInt32 (Int32.toInt8 (x1 >>> (((24 : Int32) - ((8 : Int32) * (x6 &&& 3))) &&& 31))))))) rfl
      have a54 : (x6 + 1).toInt = x6.toInt + (1 : Int) := xIa (show -2147483648 ≤ x6.toInt + (1 : Int) from by omega) (show x6.toInt + (1 : Int) < 2147483648 from by omega)
      exact ih (n - 1) (show n - 1 < n from by omega) (x6 + 1) _ J52 K53 (show 0 ≤ (x6 + 1).toInt from by omega) (show (x6 + 1).toInt ≤ 20 from by omega) (show (ps_i s 1131 3).toInt ≤ 1580 from by omega) (show (ps_i s 1131 3).toInt = (ps_i s0 1131 3).toInt from by omega) (show 20 - (x6 + 1).toInt ≤ ((n - 1 : Nat) : Int) from by omega)

theorem ms_308 {x : Nat → Nat → Nat} {t : Int32} {s : ps_S} {d : Nat} {x1 : Int32} {x2 : Int32} {x3 : Int32} {x4 : Int32} {x5 : Int32} {f : Int32 → ps_S → Prop} (J : mJ x t s) (k : ∀ (v : Int32) (s' : ps_S), mJ x t s' → kp [1132] [3] s s' → ((v.toInt = -1 ∧ (ps_i s' 1131 3).toInt = (ps_i s 1131 3).toInt ∧ 1580 < (ps_i s 1131 3).toInt) ∨ (v.toInt = (ps_i s 1131 3).toInt + 20 ∧ (ps_i s' 1131 3).toInt = (ps_i s 1131 3).toInt + 20 ∧ (ps_i s 1131 3).toInt ≤ 1580)) → f v s') : ps_Cl d 308 [.ref 1131, .int x1, .int x2, .int x3, .int x4, .int x5] s (ps_rI f) := by
  have K : kp [1132] [3] s s := kp_refl
  refine pg_308_0 ?_
  have r1 := mf_3 J
  have a2 : ((ps_i s 1131 3) + 20).toInt = (ps_i s 1131 3).toInt + (20 : Int) := xIa (show -2147483648 ≤ (ps_i s 1131 3).toInt + (20 : Int) from by omega) (show (ps_i s 1131 3).toInt + (20 : Int) < 2147483648 from by omega)
  refine And.intro (fun h3 => ?_) (fun h3 => ?_)
  · have f4 : ((ps_i s 1131 3) + 20).toInt ≤ (1600 : Int) := xle h3
    exact ms_308_18 (x1 := x1) (x2 := x2) (x3 := x3) (x4 := x4) (x5 := x5) k  (20 - (0 : Int)).toNat (0) _ J K (show 0 ≤ (0 : Int) from by omega) (show (0 : Int) ≤ 20 from by omega) (show (ps_i s 1131 3).toInt ≤ 1580 from by omega) (show (ps_i s 1131 3).toInt = (ps_i s 1131 3).toInt from by omega) (show 20 - (0 : Int) ≤ (((20 - (0 : Int)).toNat : Nat) : Int) from by omega)
  · have f5 : (1600 : Int) < ((ps_i s 1131 3) + 20).toInt := xlt h3
    exact k (-1 : Int32) _ J K (show ((-1 : Int) = -1 ∧ (ps_i s 1131 3).toInt = (ps_i s 1131 3).toInt ∧ 1580 < (ps_i s 1131 3).toInt) ∨ ((-1 : Int) = (ps_i s 1131 3).toInt + 20 ∧ (ps_i s 1131 3).toInt = (ps_i s 1131 3).toInt + 20 ∧ (ps_i s 1131 3).toInt ≤ 1580) from by omega)

-- ProofBenchModel.end(I)I
theorem pg_309_0 {d : Nat} {x1 : Int32} {s : ps_S} {Q : Option Value → ps_S → Prop} (h :
  (x1 < 0 →
    Q (some (.int (-1))) s) ∧
  (0 ≤ x1 →
    (x1 ≤ (ps_i s 1131 3) →
      Q (some (.int x1)) (ps_ui s 1131 3 x1)) ∧
    ((ps_i s 1131 3) < x1 →
      Q (some (.int (-1))) s))) : ps_At d 309 0 [(0, .ref 1131), (1, .int x1)] [] s Q :=
  ps_wp_at (stops := []) (n := 17) h rfl

theorem ms_309 {x : Nat → Nat → Nat} {t : Int32} {s : ps_S} {d : Nat} {x1 : Int32} {f : Int32 → ps_S → Prop} (J : mJ x t s) (k : ∀ (v : Int32) (s' : ps_S), mJ x t s' → kp [] [3] s s' → ((v.toInt = -1 ∧ (ps_i s' 1131 3).toInt = (ps_i s 1131 3).toInt ∧ (x1.toInt < 0 ∨ (ps_i s 1131 3).toInt < x1.toInt)) ∨ (v.toInt = x1.toInt ∧ (ps_i s' 1131 3).toInt = x1.toInt ∧ 0 ≤ x1.toInt ∧ x1.toInt ≤ (ps_i s 1131 3).toInt)) → f v s') : ps_Cl d 309 [.ref 1131, .int x1] s (ps_rI f) := by
  have K : kp [] [3] s s := kp_refl
  refine pg_309_0 ?_
  refine And.intro (fun h1 => ?_) (fun h1 => ?_)
  · have f2 : x1.toInt < (0 : Int) := xlt h1
    have r3 := mf_3 J
    exact k (-1 : Int32) _ J K (show ((-1 : Int) = -1 ∧ (ps_i s 1131 3).toInt = (ps_i s 1131 3).toInt ∧ (x1.toInt < 0 ∨ (ps_i s 1131 3).toInt < x1.toInt)) ∨ ((-1 : Int) = x1.toInt ∧ (ps_i s 1131 3).toInt = x1.toInt ∧ 0 ≤ x1.toInt ∧ x1.toInt ≤ (ps_i s 1131 3).toInt) from by omega)
  · have f4 : (0 : Int) ≤ x1.toInt := xle h1
    have r5 := mf_3 J
    refine And.intro (fun h6 => ?_) (fun h6 => ?_)
    · have f7 : x1.toInt ≤ (ps_i s 1131 3).toInt := xle h6
      have J8 := mwi_3 (v := x1) J (show 0 ≤ x1.toInt from by omega) (show x1.toInt ≤ 1600 from by omega)
      have K9 := kpi K (q := 3) (v := x1) rfl
      exact k x1 _ J8 K9 (show (x1.toInt = -1 ∧ x1.toInt = (ps_i s 1131 3).toInt ∧ (x1.toInt < 0 ∨ (ps_i s 1131 3).toInt < x1.toInt)) ∨ (x1.toInt = x1.toInt ∧ x1.toInt = x1.toInt ∧ 0 ≤ x1.toInt ∧ x1.toInt ≤ (ps_i s 1131 3).toInt) from by omega)
    · have f10 : (ps_i s 1131 3).toInt < x1.toInt := xlt h6
      exact k (-1 : Int32) _ J K (show ((-1 : Int) = -1 ∧ (ps_i s 1131 3).toInt = (ps_i s 1131 3).toInt ∧ (x1.toInt < 0 ∨ (ps_i s 1131 3).toInt < x1.toInt)) ∨ ((-1 : Int) = x1.toInt ∧ (ps_i s 1131 3).toInt = x1.toInt ∧ 0 ≤ x1.toInt ∧ x1.toInt ≤ (ps_i s 1131 3).toInt) from by omega)
