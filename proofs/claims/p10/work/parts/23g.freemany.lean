set_option maxRecDepth 100000
-- ProofBenchModel.freeMany(I)I
theorem pg_298_0 {d : Nat} {x1 : Int32} {s : ps_S} {Q : Option Value → ps_S → Prop} (h :
  ps_At (d + 1) 298 4 [(0, .ref 1131), (1, .int x1), (2, .int 0), (3, .int 0)] [] s Q) : ps_At (d + 1) 298 0 [(0, .ref 1131), (1, .int x1)] [] s Q :=
  ps_wp_at (stops := [(4, [0, 1, 2, 3])]) (n := 6) h rfl

theorem pg_298_4 {d : Nat} {x1 : Int32} {x2 : Int32} {x3 : Int32} {s : ps_S} {Q : Option Value → ps_S → Prop} (h :
  (12 ≤ x3 →
    Q (some (.int x2)) s) ∧
  (x3 < 12 →
    ps_Cl d 223 [.ref 1131, .int x1, .int x3] s (ps_rI (fun v1 s1 =>
      (v1 = 0 →
        ps_At (d + 1) 298 4 [(0, .ref 1131), (1, .int x1), (2, .int (x2 + 0)), (3, .int (x3 + 1))] [] s1 Q) ∧
      (v1 ≠ 0 →
        ps_At (d + 1) 298 4 [(0, .ref 1131), (1, .int x1), (2, .int (x2 + 1)), (3, .int (x3 + 1))] [] s1 Q))))) : ps_At (d + 1) 298 4 [(0, .ref 1131), (1, .int x1), (2, .int x2), (3, .int x3)] [] s Q :=
  ps_wp_at (stops := [(4, [0, 1, 2, 3])]) (n := 24) h rfl

theorem ms_298_4 {x : Nat → Nat → Nat} {t : Int32} {d : Nat} {s : ps_S} {l : List Nat} {x1 : Int32} {Q : Option Value → ps_S → Prop} (k : ∀ (v : Int32), (0 ≤ v.toInt) → (v.toInt ≤ 12) → Q (some (.int v)) s) : ∀ (n : Nat) (x2 : Int32) (x3 : Int32), (mJ x t s) → (Rw (ps_a s 1134) x1.toInt l) → (0 ≤ x2.toInt) → (x2.toInt ≤ x3.toInt) → (x3.toInt ≤ 12) → 20 - x3.toInt ≤ (n : Int) → ps_At (d + 2) 298 4 [(0, .ref 1131), (1, .int x1), (2, .int x2), (3, .int x3)] [] s Q := by
  refine xstr (fun n ih => ?_)
  intro x2 x3 J hR i1 i2 i3 hm
  refine pg_298_4 (d := d + 1) ?_
  refine And.intro (fun h1 => ?_) (fun h1 => ?_)
  · have f2 : (12 : Int) ≤ x3.toInt := xle h1
    exact k x2 (show 0 ≤ x2.toInt from by omega) (show x2.toInt ≤ 12 from by omega)
  · have f3 : x3.toInt < (12 : Int) := xlt h1
    refine ms_223 J hR (show 0 ≤ x3.toInt from by omega) (show x3.toInt ≤ 11 from by omega) (fun v4 p4_0 b4 => ?_)
    refine And.intro (fun h5 => ?_) (fun h5 => ?_)
    · have f6 : v4.toInt = (0 : Int) := xeq h5
      have a7 : (x2 + 0).toInt = x2.toInt + (0 : Int) := xIa (show -2147483648 ≤ x2.toInt + (0 : Int) from by omega) (show x2.toInt + (0 : Int) < 2147483648 from by omega)
      have a8 : (x3 + 1).toInt = x3.toInt + (1 : Int) := xIa (show -2147483648 ≤ x3.toInt + (1 : Int) from by omega) (show x3.toInt + (1 : Int) < 2147483648 from by omega)
      exact ih (n - 1) (show n - 1 < n from by omega) (x2 + 0) (x3 + 1) J hR (show 0 ≤ (x2 + 0).toInt from by omega) (show (x2 + 0).toInt ≤ (x3 + 1).toInt from by omega) (show (x3 + 1).toInt ≤ 12 from by omega) (show 20 - (x3 + 1).toInt ≤ ((n - 1 : Nat) : Int) from by omega)
    · have f9 : v4.toInt ≠ (0 : Int) := xne h5
      have a10 : (x2 + 1).toInt = x2.toInt + (1 : Int) := xIa (show -2147483648 ≤ x2.toInt + (1 : Int) from by omega) (show x2.toInt + (1 : Int) < 2147483648 from by omega)
      have a11 : (x3 + 1).toInt = x3.toInt + (1 : Int) := xIa (show -2147483648 ≤ x3.toInt + (1 : Int) from by omega) (show x3.toInt + (1 : Int) < 2147483648 from by omega)
      exact ih (n - 1) (show n - 1 < n from by omega) (x2 + 1) (x3 + 1) J hR (show 0 ≤ (x2 + 1).toInt from by omega) (show (x2 + 1).toInt ≤ (x3 + 1).toInt from by omega) (show (x3 + 1).toInt ≤ 12 from by omega) (show 20 - (x3 + 1).toInt ≤ ((n - 1 : Nat) : Int) from by omega)

theorem ms_298 {x : Nat → Nat → Nat} {t : Int32} {s : ps_S} {d : Nat} {x1 : Int32} {f : Int32 → ps_S → Prop} (J : mJ x t s) {l : List Nat} (hR : Rw (ps_a s 1134) x1.toInt l) (k : ∀ (v : Int32), (0 ≤ v.toInt) → (v.toInt ≤ 12) → f v s) : ps_Cl (d + 2) 298 [.ref 1131, .int x1] s (ps_rI f) := by
  refine pg_298_0 (d := d + 1) ?_
  exact ms_298_4 (x1 := x1) (l := l) k  (20 - (0 : Int)).toNat (0) (0) J hR (show 0 ≤ (0 : Int) from by omega) (show (0 : Int) ≤ (0 : Int) from by omega) (show (0 : Int) ≤ 12 from by omega) (show 20 - (0 : Int) ≤ (((20 - (0 : Int)).toNat : Nat) : Int) from by omega)

-- ProofBenchModel.quantified(III)I
theorem pg_297_0 {d : Nat} {x1 : Int32} {x2 : Int32} {x3 : Int32} {s : ps_S} {Q : Option Value → ps_S → Prop} (h :
  ps_At d 297 3 [(0, .ref 1131), (1, .int x1), (2, .int x2), (3, .int x3), (4, .int 0)] [] s Q) : ps_At d 297 0 [(0, .ref 1131), (1, .int x1), (2, .int x2), (3, .int x3)] [] s Q :=
  ps_wp_at (stops := [(3, [0, 1, 2, 3, 4])]) (n := 4) h rfl

theorem pg_297_3 {d : Nat} {x1 : Int32} {x2 : Int32} {x3 : Int32} {x4 : Int32} {s : ps_S} {Q : Option Value → ps_S → Prop} (h :
  (x3 ≤ x4 →
    (x1 ≠ 4 →
      Q (some (.int 0)) s) ∧
    (x1 = 4 →
      Q (some (.int 1)) s)) ∧
  (x4 < x3 →
    ps_nd (pm_in (x2 + x4) 10206) ((x1 ≠ 4 →
      ((ps_a s 1174 (Int32.toNatClampNeg (x2 + x4))) ≠ 1 →
        ps_At d 297 3 [(0, .ref 1131), (1, .int x1), (2, .int x2), (3, .int x3), (4, .int (x4 + 1))] [] s Q) ∧
      ((ps_a s 1174 (Int32.toNatClampNeg (x2 + x4))) = 1 →
        (x1 ≠ 4 →
          Q (some (.int 1)) s) ∧
        (x1 = 4 →
          Q (some (.int 0)) s))) ∧
    (x1 = 4 →
      ((ps_a s 1174 (Int32.toNatClampNeg (x2 + x4))) ≠ 0 →
        ps_At d 297 3 [(0, .ref 1131), (1, .int x1), (2, .int x2), (3, .int x3), (4, .int (x4 + 1))] [] s Q) ∧
      ((ps_a s 1174 (Int32.toNatClampNeg (x2 + x4))) = 0 →
        (x1 ≠ 4 →
          Q (some (.int 1)) s) ∧
        (x1 = 4 →
          Q (some (.int 0)) s)))))) : ps_At d 297 3 [(0, .ref 1131), (1, .int x1), (2, .int x2), (3, .int x3), (4, .int x4)] [] s Q :=
  ps_wp_at (stops := [(3, [0, 1, 2, 3, 4])]) (n := 47) h rfl

theorem ms_297_3 {x : Nat → Nat → Nat} {t : Int32} {d : Nat} {s : ps_S} {x1 : Int32} {x2 : Int32} {x3 : Int32} {Q : Option Value → ps_S → Prop} (k : ∀ (v : Int32), (0 ≤ v.toInt) → (v.toInt ≤ 1) → Q (some (.int v)) s) : ∀ (n : Nat) (x4 : Int32), (mJ x t s) → (0 ≤ x2.toInt) → (0 ≤ x3.toInt) → (x3.toInt ≤ 3) → (x2.toInt + x3.toInt ≤ 10206) → (0 ≤ x4.toInt) → (x4.toInt ≤ x3.toInt) → 10 - x4.toInt ≤ (n : Int) → ps_At d 297 3 [(0, .ref 1131), (1, .int x1), (2, .int x2), (3, .int x3), (4, .int x4)] [] s Q := by
  refine xstr (fun n ih => ?_)
  intro x4 J i0 i1 i2 i3 i4 i5 hm
  refine pg_297_3 ?_
  refine And.intro (fun h1 => ?_) (fun h1 => ?_)
  · have f2 : x3.toInt ≤ x4.toInt := xle h1
    refine And.intro (fun h3 => ?_) (fun h3 => ?_)
    · have f4 : x1.toInt ≠ (4 : Int) := xne h3
      exact k (0 : Int32) (show 0 ≤ (0 : Int) from by omega) (show (0 : Int) ≤ 1 from by omega)
    · have f5 : x1.toInt = (4 : Int) := xeq h3
      exact k (1 : Int32) (show 0 ≤ (1 : Int) from by omega) (show (1 : Int) ≤ 1 from by omega)
  · have f6 : x4.toInt < x3.toInt := xlt h1
    have a7 : (x2 + x4).toInt = x2.toInt + x4.toInt := xIa (show -2147483648 ≤ x2.toInt + x4.toInt from by omega) (show x2.toInt + x4.toInt < 2147483648 from by omega)
    refine ps_nd_i (show pm_in (x2 + x4) 10206 = true from xgi (show 0 ≤ (x2 + x4).toInt from by omega) (show (x2 + x4).toInt < 10206 from by omega)) ?_
    refine And.intro (fun h8 => ?_) (fun h8 => ?_)
    · have f9 : x1.toInt ≠ (4 : Int) := xne h8
      refine And.intro (fun h10 => ?_) (fun h10 => ?_)
      · have f11 : (ps_a s 1174 (Int32.toNatClampNeg (x2 + x4))).toInt ≠ (1 : Int) := xne h10
        have a12 : (x4 + 1).toInt = x4.toInt + (1 : Int) := xIa (show -2147483648 ≤ x4.toInt + (1 : Int) from by omega) (show x4.toInt + (1 : Int) < 2147483648 from by omega)
        exact ih (n - 1) (show n - 1 < n from by omega) (x4 + 1) J (show 0 ≤ x2.toInt from by omega) (show 0 ≤ x3.toInt from by omega) (show x3.toInt ≤ 3 from by omega) (show x2.toInt + x3.toInt ≤ 10206 from by omega) (show 0 ≤ (x4 + 1).toInt from by omega) (show (x4 + 1).toInt ≤ x3.toInt from by omega) (show 10 - (x4 + 1).toInt ≤ ((n - 1 : Nat) : Int) from by omega)
      · have f13 : (ps_a s 1174 (Int32.toNatClampNeg (x2 + x4))).toInt = (1 : Int) := xeq h10
        refine And.intro (fun h14 => ?_) (fun h14 => ?_)
        · have f15 : x1.toInt ≠ (4 : Int) := xne h14
          exact k (1 : Int32) (show 0 ≤ (1 : Int) from by omega) (show (1 : Int) ≤ 1 from by omega)
        · have f16 : x1.toInt = (4 : Int) := xeq h14
          exact k (0 : Int32) (show 0 ≤ (0 : Int) from by omega) (show (0 : Int) ≤ 1 from by omega)
    · have f17 : x1.toInt = (4 : Int) := xeq h8
      refine And.intro (fun h18 => ?_) (fun h18 => ?_)
      · have f19 : (ps_a s 1174 (Int32.toNatClampNeg (x2 + x4))).toInt ≠ (0 : Int) := xne h18
        have a20 : (x4 + 1).toInt = x4.toInt + (1 : Int) := xIa (show -2147483648 ≤ x4.toInt + (1 : Int) from by omega) (show x4.toInt + (1 : Int) < 2147483648 from by omega)
        exact ih (n - 1) (show n - 1 < n from by omega) (x4 + 1) J (show 0 ≤ x2.toInt from by omega) (show 0 ≤ x3.toInt from by omega) (show x3.toInt ≤ 3 from by omega) (show x2.toInt + x3.toInt ≤ 10206 from by omega) (show 0 ≤ (x4 + 1).toInt from by omega) (show (x4 + 1).toInt ≤ x3.toInt from by omega) (show 10 - (x4 + 1).toInt ≤ ((n - 1 : Nat) : Int) from by omega)
      · have f21 : (ps_a s 1174 (Int32.toNatClampNeg (x2 + x4))).toInt = (0 : Int) := xeq h18
        refine And.intro (fun h22 => ?_) (fun h22 => ?_)
        · have f23 : x1.toInt ≠ (4 : Int) := xne h22
          exact k (1 : Int32) (show 0 ≤ (1 : Int) from by omega) (show (1 : Int) ≤ 1 from by omega)
        · have f24 : x1.toInt = (4 : Int) := xeq h22
          exact k (0 : Int32) (show 0 ≤ (0 : Int) from by omega) (show (0 : Int) ≤ 1 from by omega)

theorem ms_297 {x : Nat → Nat → Nat} {t : Int32} {s : ps_S} {d : Nat} {x1 : Int32} {x2 : Int32} {x3 : Int32} {f : Int32 → ps_S → Prop} (J : mJ x t s) (q0 : 0 ≤ x2.toInt) (q1 : 0 ≤ x3.toInt) (q2 : x3.toInt ≤ 3) (q3 : x2.toInt + x3.toInt ≤ 10206) (k : ∀ (v : Int32), (0 ≤ v.toInt) → (v.toInt ≤ 1) → f v s) : ps_Cl d 297 [.ref 1131, .int x1, .int x2, .int x3] s (ps_rI f) := by
  refine pg_297_0 ?_
  exact ms_297_3 (x1 := x1) (x2 := x2) (x3 := x3) k  (10 - (0 : Int)).toNat (0) J (show 0 ≤ x2.toInt from by omega) (show 0 ≤ x3.toInt from by omega) (show x3.toInt ≤ 3 from by omega) (show x2.toInt + x3.toInt ≤ 10206 from by omega) (show 0 ≤ (0 : Int) from by omega) (show (0 : Int) ≤ x3.toInt from by omega) (show 10 - (0 : Int) ≤ (((10 - (0 : Int)).toNat : Nat) : Int) from by omega)
