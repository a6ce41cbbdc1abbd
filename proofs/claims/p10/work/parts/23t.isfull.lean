set_option maxRecDepth 100000
-- ProofBenchModel.isFull()Z
theorem pg_203_0 {d : Nat} {s : ps_S} {Q : Option Value → ps_S → Prop} (h :
  ps_Cl d 195 [.ref 1131, .long (7497068 : Int64)] s (ps_rI (fun v1 s1 =>
    (v1 = 0 →
      ps_Cl d 195 [.ref 1131, .long (6714734 : Int64)] s1 (ps_rI (fun v2 s2 =>
        (v2 = 0 →
          ps_Cl d 195 [.ref 1131, .long (418632003437 : Int64)] s2 (ps_rI (fun v3 s3 =>
            (v3 = 0 →
              Q (some (.int 1)) s3) ∧
            (v3 ≠ 0 →
              ps_nd (pm_in (ps_i s3 1131 22) 2) (((ps_a s3 1137 (Int32.toNatClampNeg (ps_i s3 1131 22))) ≠ 8 →
                Q (some (.int 0)) s3) ∧
              ((ps_a s3 1137 (Int32.toNatClampNeg (ps_i s3 1131 22))) = 8 →
                Q (some (.int 1)) s3)))))) ∧
        (v2 ≠ 0 →
          ps_nd (pm_in (ps_i s2 1131 22) 2) (((ps_a s2 1136 (Int32.toNatClampNeg (ps_i s2 1131 22))) ≠ 4 →
            Q (some (.int 0)) s2) ∧
          ((ps_a s2 1136 (Int32.toNatClampNeg (ps_i s2 1131 22))) = 4 →
            Q (some (.int 1)) s2)))))) ∧
    (v1 ≠ 0 →
      ps_nd (pm_in (ps_i s1 1131 22) 2) (((ps_a s1 1135 (Int32.toNatClampNeg (ps_i s1 1131 22))) ≠ 6 →
        Q (some (.int 0)) s1) ∧
      ((ps_a s1 1135 (Int32.toNatClampNeg (ps_i s1 1131 22))) = 6 →
        Q (some (.int 1)) s1)))))) : ps_At (d + 1) 203 0 [(0, .ref 1131)] [] s Q :=
  ps_wp_at (stops := []) (n := 53) h rfl

theorem ms_203 {x : Nat → Nat → Nat} {t : Int32} {s : ps_S} {d : Nat} {f : Int32 → ps_S → Prop} (J : mJ x t s) (k : ∀ (v : Int32), (0 ≤ v.toInt) → (v.toInt ≤ 1) → (v.toInt = 0 → (((ps_i s 1131 9).toInt = 3 ∧ (lg_cmp (ps_j s 1131 11) (7497068 : Int64)).toInt = 0) ∧ (ps_a s 1135 (Int32.toNatClampNeg (ps_i s 1131 22))).toInt ≠ 6) ∨ (((ps_i s 1131 9).toInt = 3 ∧ (lg_cmp (ps_j s 1131 11) (6714734 : Int64)).toInt = 0) ∧ (ps_a s 1136 (Int32.toNatClampNeg (ps_i s 1131 22))).toInt ≠ 4) ∨ (((ps_i s 1131 9).toInt = 3 ∧ (lg_cmp (ps_j s 1131 11) (418632003437 : Int64)).toInt = 0) ∧ (ps_a s 1137 (Int32.toNatClampNeg (ps_i s 1131 22))).toInt ≠ 8)) → v &&& 1 = v → f v s) : ps_Cl (d + 1) 203 [.ref 1131] s (ps_rI f) := by
  refine pg_203_0 (d := d) ?_
  refine mx_195 J  (fun v1 p1_0 p1_1 p1_2 p1_3 b1 => ?_)
  have p1_0' : 0 ≤ v1.toInt := p1_0
  have p1_1' : v1.toInt ≤ 1 := p1_1
  have w4 : _ := p1_2
  refine And.intro (fun h2 => ?_) (fun h2 => ?_)
  · have f3 : v1.toInt = (0 : Int) := xeq h2
    refine mx_195 J  (fun v4 p4_0 p4_1 p4_2 p4_3 b4 => ?_)
    have p4_0' : 0 ≤ v4.toInt := p4_0
    have p4_1' : v4.toInt ≤ 1 := p4_1
    have w34 : _ := p4_2
    refine And.intro (fun h5 => ?_) (fun h5 => ?_)
    · have f6 : v4.toInt = (0 : Int) := xeq h5
      refine mx_195 J  (fun v7 p7_0 p7_1 p7_2 p7_3 b7 => ?_)
      have p7_0' : 0 ≤ v7.toInt := p7_0
      have p7_1' : v7.toInt ≤ 1 := p7_1
      have w63 : _ := p7_2
      refine And.intro (fun h8 => ?_) (fun h8 => ?_)
      · have f9 : v7.toInt = (0 : Int) := xeq h8
        exact k (1 : Int32) (show 0 ≤ (1 : Int) from by omega) (show (1 : Int) ≤ 1 from by omega) ((by first | exact fun z => absurd z (by decide) | exact fun _ => Or.inr (Or.inr ⟨w63.resolve_left (by omega), by omega⟩))) (by decide)
      · have f10 : v7.toInt ≠ (0 : Int) := xne h8
        have r11 := mf_22 J
        refine ps_nd_i (show pm_in (ps_i s 1131 22) 2 = true from xgi (show 0 ≤ (ps_i s 1131 22).toInt from by omega) (show (ps_i s 1131 22).toInt < 2 from by omega)) ?_
        have r12 : 0 ≤ (ps_a s 1137 (Int32.toNatClampNeg (ps_i s 1131 22))).toInt ∧ (ps_a s 1137 (Int32.toNatClampNeg (ps_i s 1131 22))).toInt ≤ 8 := ma_1137 (i := (ps_i s 1131 22)) J (show 0 ≤ (ps_i s 1131 22).toInt from by omega) (show (ps_i s 1131 22).toInt < 2 from by omega)
        refine And.intro (fun h13 => ?_) (fun h13 => ?_)
        · have f14 : (ps_a s 1137 (Int32.toNatClampNeg (ps_i s 1131 22))).toInt ≠ (8 : Int) := xne h13
          exact k (0 : Int32) (show 0 ≤ (0 : Int) from by omega) (show (0 : Int) ≤ 1 from by omega) ((by first | exact fun z => absurd z (by decide) | exact fun _ => Or.inr (Or.inr ⟨w63.resolve_left (by omega), by omega⟩))) (by decide)
        · have f15 : (ps_a s 1137 (Int32.toNatClampNeg (ps_i s 1131 22))).toInt = (8 : Int) := xeq h13
          exact k (1 : Int32) (show 0 ≤ (1 : Int) from by omega) (show (1 : Int) ≤ 1 from by omega) ((by first | exact fun z => absurd z (by decide) | exact fun _ => Or.inr (Or.inr ⟨w63.resolve_left (by omega), by omega⟩))) (by decide)
    · have f16 : v4.toInt ≠ (0 : Int) := xne h5
      have r17 := mf_22 J
      refine ps_nd_i (show pm_in (ps_i s 1131 22) 2 = true from xgi (show 0 ≤ (ps_i s 1131 22).toInt from by omega) (show (ps_i s 1131 22).toInt < 2 from by omega)) ?_
      have r18 : 0 ≤ (ps_a s 1136 (Int32.toNatClampNeg (ps_i s 1131 22))).toInt ∧ (ps_a s 1136 (Int32.toNatClampNeg (ps_i s 1131 22))).toInt ≤ 4 := ma_1136 (i := (ps_i s 1131 22)) J (show 0 ≤ (ps_i s 1131 22).toInt from by omega) (show (ps_i s 1131 22).toInt < 2 from by omega)
      refine And.intro (fun h19 => ?_) (fun h19 => ?_)
      · have f20 : (ps_a s 1136 (Int32.toNatClampNeg (ps_i s 1131 22))).toInt ≠ (4 : Int) := xne h19
        exact k (0 : Int32) (show 0 ≤ (0 : Int) from by omega) (show (0 : Int) ≤ 1 from by omega) ((by first | exact fun z => absurd z (by decide) | exact fun _ => Or.inr (Or.inl ⟨w34.resolve_left (by omega), by omega⟩))) (by decide)
      · have f21 : (ps_a s 1136 (Int32.toNatClampNeg (ps_i s 1131 22))).toInt = (4 : Int) := xeq h19
        exact k (1 : Int32) (show 0 ≤ (1 : Int) from by omega) (show (1 : Int) ≤ 1 from by omega) ((by first | exact fun z => absurd z (by decide) | exact fun _ => Or.inr (Or.inl ⟨w34.resolve_left (by omega), by omega⟩))) (by decide)
  · have f22 : v1.toInt ≠ (0 : Int) := xne h2
    have r23 := mf_22 J
    refine ps_nd_i (show pm_in (ps_i s 1131 22) 2 = true from xgi (show 0 ≤ (ps_i s 1131 22).toInt from by omega) (show (ps_i s 1131 22).toInt < 2 from by omega)) ?_
    have r24 : 0 ≤ (ps_a s 1135 (Int32.toNatClampNeg (ps_i s 1131 22))).toInt ∧ (ps_a s 1135 (Int32.toNatClampNeg (ps_i s 1131 22))).toInt ≤ 6 := ma_1135 (i := (ps_i s 1131 22)) J (show 0 ≤ (ps_i s 1131 22).toInt from by omega) (show (ps_i s 1131 22).toInt < 2 from by omega)
    refine And.intro (fun h25 => ?_) (fun h25 => ?_)
    · have f26 : (ps_a s 1135 (Int32.toNatClampNeg (ps_i s 1131 22))).toInt ≠ (6 : Int) := xne h25
      exact k (0 : Int32) (show 0 ≤ (0 : Int) from by omega) (show (0 : Int) ≤ 1 from by omega) ((by first | exact fun z => absurd z (by decide) | exact fun _ => Or.inl ⟨w4.resolve_left (by omega), by omega⟩)) (by decide)
    · have f27 : (ps_a s 1135 (Int32.toNatClampNeg (ps_i s 1131 22))).toInt = (6 : Int) := xeq h25
      exact k (1 : Int32) (show 0 ≤ (1 : Int) from by omega) (show (1 : Int) ≤ 1 from by omega) ((by first | exact fun z => absurd z (by decide) | exact fun _ => Or.inl ⟨w4.resolve_left (by omega), by omega⟩)) (by decide)
