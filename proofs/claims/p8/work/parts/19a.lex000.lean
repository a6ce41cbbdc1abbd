set_option maxRecDepth 100000
-- ProofBenchModel.sign(I)I
theorem pg_188_0 {d : Nat} {x1 : Int32} {s : ps_S} {Q : Option Value → ps_S → Prop} (h :
  ((ps_i s 1131 4) ≤ x1 →
    Q (some (.int 0)) s) ∧
  (x1 < (ps_i s 1131 4) →
    ps_nd (pm_in x1 1600) (Q (some (.int ((ps_a s 1133 (Int32.toNatClampNeg x1)) &&& 255))) s))) : ps_At d 188 0 [(0, .ref 1131), (1, .int x1)] [] s Q :=
  ps_wp_at (stops := []) (n := 16) h rfl

-- ProofBenchModel.isLetter(I)Z
theorem pg_189_0 {d : Nat} {x0 : Int32} {s : ps_S} {Q : Option Value → ps_S → Prop} (h :
  (x0 < 97 →
    Q (some (.int 0)) s) ∧
  (97 ≤ x0 →
    (122 < x0 →
      Q (some (.int 0)) s) ∧
    (x0 ≤ 122 →
      Q (some (.int 1)) s))) : ps_At d 189 0 [(0, .int x0)] [] s Q :=
  ps_wp_at (stops := []) (n := 15) h rfl

theorem ms_189 {x : Nat → Nat → Nat} {t : Int32} {s : ps_S} {d : Nat} {x0 : Int32} {f : Int32 → ps_S → Prop} (J : mJ x t s) (k : ∀ (v : Int32), (v.toInt = 0 ∨ 97 ≤ x0.toInt) → v &&& 1 = v → f v s) : ps_Cl d 189 [.int x0] s (ps_rI f) := by
  refine pg_189_0 ?_
  refine And.intro (fun h1 => ?_) (fun h1 => ?_)
  · have f2 : x0.toInt < (97 : Int) := xlt h1
    exact k (0 : Int32) (show (0 : Int) = 0 ∨ 97 ≤ x0.toInt from by omega) (by decide)
  · have f3 : (97 : Int) ≤ x0.toInt := xle h1
    refine And.intro (fun h4 => ?_) (fun h4 => ?_)
    · have f5 : (122 : Int) < x0.toInt := xlt h4
      exact k (0 : Int32) (show (0 : Int) = 0 ∨ 97 ≤ x0.toInt from by omega) (by decide)
    · have f6 : x0.toInt ≤ (122 : Int) := xle h4
      exact k (1 : Int32) (show (1 : Int) = 0 ∨ 97 ≤ x0.toInt from by omega) (by decide)

-- ProofBenchModel.isDigit(I)Z
theorem pg_190_0 {d : Nat} {x0 : Int32} {s : ps_S} {Q : Option Value → ps_S → Prop} (h :
  (x0 < 48 →
    Q (some (.int 0)) s) ∧
  (48 ≤ x0 →
    (57 < x0 →
      Q (some (.int 0)) s) ∧
    (x0 ≤ 57 →
      Q (some (.int 1)) s))) : ps_At d 190 0 [(0, .int x0)] [] s Q :=
  ps_wp_at (stops := []) (n := 15) h rfl

theorem ms_190 {x : Nat → Nat → Nat} {t : Int32} {s : ps_S} {d : Nat} {x0 : Int32} {f : Int32 → ps_S → Prop} (J : mJ x t s) (k : ∀ (v : Int32), (v.toInt = 0 ∨ (48 ≤ x0.toInt ∧ x0.toInt ≤ 57)) → v &&& 1 = v → f v s) : ps_Cl d 190 [.int x0] s (ps_rI f) := by
  refine pg_190_0 ?_
  refine And.intro (fun h1 => ?_) (fun h1 => ?_)
  · have f2 : x0.toInt < (48 : Int) := xlt h1
    exact k (0 : Int32) (show (0 : Int) = 0 ∨ (48 ≤ x0.toInt ∧ x0.toInt ≤ 57) from by omega) (by decide)
  · have f3 : (48 : Int) ≤ x0.toInt := xle h1
    refine And.intro (fun h4 => ?_) (fun h4 => ?_)
    · have f5 : (57 : Int) < x0.toInt := xlt h4
      exact k (0 : Int32) (show (0 : Int) = 0 ∨ (48 ≤ x0.toInt ∧ x0.toInt ≤ 57) from by omega) (by decide)
    · have f6 : x0.toInt ≤ (57 : Int) := xle h4
      exact k (1 : Int32) (show (1 : Int) = 0 ∨ (48 ≤ x0.toInt ∧ x0.toInt ≤ 57) from by omega) (by decide)

-- ProofBenchModel.fails(II)V
