set_option maxRecDepth 100000
-- ProofBenchModel.power(II)I
theorem pg_290_0 {d : Nat} {x0 : Int32} {x1 : Int32} {s : ps_S} {Q : Option Value → ps_S → Prop} (h :
  ps_At d 290 4 [(0, .int x0), (1, .int x1), (2, .int 1), (3, .int 0)] [] s Q) : ps_At d 290 0 [(0, .int x0), (1, .int x1)] [] s Q :=
  ps_wp_at (stops := [(4, [0, 1, 2, 3])]) (n := 6) h rfl

theorem pg_290_4 {d : Nat} {x0 : Int32} {x1 : Int32} {x2 : Int32} {x3 : Int32} {s : ps_S} {Q : Option Value → ps_S → Prop} (h :
  (x1 ≤ x3 →
    Q (some (.int x2)) s) ∧
  (x3 < x1 →
    ps_At d 290 4 [(0, .int x0), (1, .int x1), (2, .int (x2 * x0)), (3, .int (x3 + 1))] [] s Q)) : ps_At d 290 4 [(0, .int x0), (1, .int x1), (2, .int x2), (3, .int x3)] [] s Q :=
  ps_wp_at (stops := [(4, [0, 1, 2, 3])]) (n := 13) h rfl

theorem ms_290_4 {x : Nat → Nat → Nat} {t : Int32} {d : Nat} {s : ps_S} {x0 : Int32} {x1 : Int32} {Q : Option Value → ps_S → Prop} (k : ∀ (v : Int32), (v.toInt = x0.toInt ^ (x1.toInt).toNat) → Q (some (.int v)) s) : ∀ (n : Nat) (x2 : Int32) (x3 : Int32), (mJ x t s) → (1 ≤ x0.toInt) → (x0.toInt ≤ 3) → (0 ≤ x1.toInt) → (x1.toInt ≤ 19) → (0 ≤ x3.toInt) → (x3.toInt ≤ x1.toInt) → (x2.toInt = x0.toInt ^ (x3.toInt).toNat) → 40 - x3.toInt ≤ (n : Int) → ps_At d 290 4 [(0, .int x0), (1, .int x1), (2, .int x2), (3, .int x3)] [] s Q := by
  refine xstr (fun n ih => ?_)
  intro x2 x3 J i0 i1 i2 i3 i4 i5 i6 hm
  refine pg_290_4 ?_
  refine And.intro (fun h1 => ?_) (fun h1 => ?_)
  · have f2 : x1.toInt ≤ x3.toInt := xle h1
    exact k x2 ((by rw [show x1.toInt = x3.toInt from by omega]; exact i6))
  · have f3 : x3.toInt < x1.toInt := xlt h1
    have hb := pw3 (n := x0.toInt) (by omega) (by omega) (x3.toInt).toNat
    have hb2 := pw18 (k := (x3.toInt).toNat) (by omega)
    have i6 : x2.toInt = x0.toInt ^ (x3.toInt).toNat := i6
    have hq : x0.toInt = 1 ∨ x0.toInt = 2 ∨ x0.toInt = 3 := by omega
    have hm2 : ((x2 * x0)).toInt = x2.toInt * x0.toInt := xIm (by rcases hq with z | z | z <;> rw [z] <;> omega) (by rcases hq with z | z | z <;> rw [z] <;> omega)
    have a4 : (x3 + 1).toInt = x3.toInt + (1 : Int) := xIa (show -2147483648 ≤ x3.toInt + (1 : Int) from by omega) (show x3.toInt + (1 : Int) < 2147483648 from by omega)
    exact ih (n - 1) (show n - 1 < n from by omega) (x2 * x0) (x3 + 1) J (show 1 ≤ x0.toInt from by omega) (show x0.toInt ≤ 3 from by omega) (show 0 ≤ x1.toInt from by omega) (show x1.toInt ≤ 19 from by omega) (show 0 ≤ (x3 + 1).toInt from by omega) (show (x3 + 1).toInt ≤ x1.toInt from by omega) ((by rw [hm2, i6, show (((x3 + 1)).toInt).toNat = (x3.toInt).toNat + 1 from by omega, Int.pow_succ])) (show 40 - (x3 + 1).toInt ≤ ((n - 1 : Nat) : Int) from by omega)

theorem ms_290 {x : Nat → Nat → Nat} {t : Int32} {s : ps_S} {d : Nat} {x0 : Int32} {x1 : Int32} {f : Int32 → ps_S → Prop} (J : mJ x t s) (q0 : 1 ≤ x0.toInt) (q1 : x0.toInt ≤ 3) (q2 : 0 ≤ x1.toInt) (q3 : x1.toInt ≤ 19) (k : ∀ (v : Int32), (v.toInt = x0.toInt ^ (x1.toInt).toNat) → f v s) : ps_Cl d 290 [.int x0, .int x1] s (ps_rI f) := by
  refine pg_290_0 ?_
  exact ms_290_4 (x0 := x0) (x1 := x1) k  (40 - (0 : Int)).toNat (1) (0) J (show 1 ≤ x0.toInt from by omega) (show x0.toInt ≤ 3 from by omega) (show 0 ≤ x1.toInt from by omega) (show x1.toInt ≤ 19 from by omega) (show 0 ≤ (0 : Int) from by omega) (show (0 : Int) ≤ x1.toInt from by omega) ((by rw [Int32.toInt_zero, show Int.toNat 0 = 0 from rfl, Int.pow_zero, xone])) (show 40 - (0 : Int) ≤ (((40 - (0 : Int)).toNat : Nat) : Int) from by omega)
