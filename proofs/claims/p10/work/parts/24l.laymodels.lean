set_option maxRecDepth 100000
-- ProofBenchModel.digit(II)I
theorem pg_292_0 {d : Nat} {x1 : Int32} {x2 : Int32} {s : ps_S} {Q : Option Value → ps_S → Prop} (h :
  ps_nd (pm_in (ps_i s 1131 73) 96) ((x2 ≤ 4096 →
    Q (some (.int (x2 * x1))) (ps_ui (ps_ua s 1170 (Int32.toNatClampNeg (ps_i s 1131 73)) x1) 1131 73 ((ps_i (ps_ua s 1170 (Int32.toNatClampNeg (ps_i s 1131 73)) x1) 1131 73) + 1))) ∧
  (4096 < x2 →
    Q (some (.int x2)) (ps_ui (ps_ua s 1170 (Int32.toNatClampNeg (ps_i s 1131 73)) x1) 1131 73 ((ps_i (ps_ua s 1170 (Int32.toNatClampNeg (ps_i s 1131 73)) x1) 1131 73) + 1))))) : ps_At d 292 0 [(0, .ref 1131), (1, .int x1), (2, .int x2)] [] s Q :=
  ps_wp_at (stops := []) (n := 24) h rfl

theorem ms_292 {x : Nat → Nat → Nat} {t : Int32} {s : ps_S} {d : Nat} {x1 : Int32} {x2 : Int32} {f : Int32 → ps_S → Prop} (J : mJ x t s) (q0 : 1 ≤ x1.toInt) (q1 : x1.toInt ≤ 3) (q2 : (ps_i s 1131 73).toInt ≤ 95) (q3 : 1 ≤ x2.toInt) (q4 : x2.toInt ≤ 12288) (k : ∀ (v : Int32) (s' : ps_S), mJ x t s' → kp [1170] [73] s s' → (1 ≤ v.toInt) → (v.toInt ≤ 12288) → ((ps_i s' 1131 73).toInt = (ps_i s 1131 73).toInt + 1) → (ps_a s' 1170 (Int32.toNatClampNeg (ps_i s 1131 73)) = x1) → (∀ j : Nat, j ≠ (Int32.toNatClampNeg (ps_i s 1131 73)) → ps_a s' 1170 j = ps_a s 1170 j) → f v s') : ps_Cl d 292 [.ref 1131, .int x1, .int x2] s (ps_rI f) := by
  have r1 := mf_73 J
  have K : kp [1170] [73] s s := kp_refl
  refine pg_292_0 ?_
  refine ps_nd_i (show pm_in (ps_i s 1131 73) 96 = true from xgi (show 0 ≤ (ps_i s 1131 73).toInt from by omega) (show (ps_i s 1131 73).toInt < 96 from by omega)) ?_
  have J2 := mwa_n 1170 (i := (Int32.toNatClampNeg (ps_i s 1131 73))) (v := x1) J rfl (by decide)
  have K3 := kpa' K (r := 1170) (i := (Int32.toNatClampNeg (ps_i s 1131 73))) (v := x1) rfl
  have a4 : ((ps_i s 1131 73) + 1).toInt = (ps_i s 1131 73).toInt + (1 : Int) := xIa (show -2147483648 ≤ (ps_i s 1131 73).toInt + (1 : Int) from by omega) (show (ps_i s 1131 73).toInt + (1 : Int) < 2147483648 from by omega)
  have J5 := mwi_73 (v := ((ps_i s 1131 73) + 1)) J2 (show 0 ≤ ((ps_i s 1131 73) + 1).toInt from by omega) (show ((ps_i s 1131 73) + 1).toInt ≤ 96 from by omega)
  have K6 := kpi K3 (q := 73) (v := ((ps_i s 1131 73) + 1)) rfl
  refine And.intro (fun h7 => ?_) (fun h7 => ?_)
  · have f8 : x2.toInt ≤ (4096 : Int) := xle h7
    have hv : 1 ≤ ((x2 * x1)).toInt ∧ ((x2 * x1)).toInt ≤ 12288 := by first | exact mul3 ⟨by omega, by omega⟩ ⟨by omega, by omega⟩ | exact ⟨by omega, by omega⟩
    exact k (x2 * x1) _ J5 K6 (show 1 ≤ (x2 * x1).toInt from by omega) (show (x2 * x1).toInt ≤ 12288 from by omega) (show ((ps_i s 1131 73) + 1).toInt = (ps_i s 1131 73).toInt + 1 from by omega) (ua_eq) (fun j hj => ua_ne hj)
  · have f9 : (4096 : Int) < x2.toInt := xlt h7
    have hv : 1 ≤ (x2).toInt ∧ (x2).toInt ≤ 12288 := by first | exact mul3 ⟨by omega, by omega⟩ ⟨by omega, by omega⟩ | exact ⟨by omega, by omega⟩
    exact k x2 _ J5 K6 (show 1 ≤ x2.toInt from by omega) (show x2.toInt ≤ 12288 from by omega) (show ((ps_i s 1131 73) + 1).toInt = (ps_i s 1131 73).toInt + 1 from by omega) (ua_eq) (fun j hj => ua_ne hj)

-- ProofBenchModel.layModels(I)I
theorem pg_291_0 {d : Nat} {x1 : Int32} {s : ps_S} {Q : Option Value → ps_S → Prop} (h :
  ps_At (d + 1) 291 9 [(0, .ref 1131), (1, .int x1), (2, .int 1), (3, .int 0)] [] (ps_ui s 1131 73 0) Q) : ps_At (d + 1) 291 0 [(0, .ref 1131), (1, .int x1)] [] s Q :=
  ps_wp_at (stops := [(9, [0, 1, 2, 3]), (52, [0, 1, 2, 3, 4]), (78, [0, 1, 2, 3]), (120, [0, 1, 2, 3, 4])]) (n := 9) h rfl

theorem pg_291_9 {d : Nat} {x1 : Int32} {x2 : Int32} {x3 : Int32} {s : ps_S} {Q : Option Value → ps_S → Prop} (h :
  ps_nd (pm_in (ps_i s 1131 21) 2) (((ps_a s 1135 (Int32.toNatClampNeg (ps_i s 1131 21))) ≤ x3 →
    ps_At (d + 1) 291 78 [(0, .ref 1131), (1, .int x1), (2, .int x2), (3, .int 0)] [] s Q) ∧
  (x3 < (ps_a s 1135 (Int32.toNatClampNeg (ps_i s 1131 21))) →
    ps_nd (pm_in x3 6) (ps_nd (pm_in (((6 : Int32) * (ps_i (ps_ua s 1171 (Int32.toNatClampNeg x3) (ps_i s 1131 73)) 1131 21)) + x3) 12) (ps_Cl d 290 [.int x1, .int (ps_a (ps_ua s 1171 (Int32.toNatClampNeg x3) (ps_i s 1131 73)) 1138 (Int32.toNatClampNeg (((6 : Int32) * (ps_i (ps_ua s 1171 (Int32.toNatClampNeg x3) (ps_i s 1131 73)) 1131 21)) + x3)))] (ps_ua s 1171 (Int32.toNatClampNeg x3) (ps_i s 1131 73)) (ps_rI (fun v1 s1 =>
      ps_At (d + 1) 291 52 [(0, .ref 1131), (1, .int x1), (2, .int x2), (3, .int x3), (4, .int v1)] [] s1 Q))))))) : ps_At (d + 1) 291 9 [(0, .ref 1131), (1, .int x1), (2, .int x2), (3, .int x3)] [] s Q :=
  ps_wp_at (stops := [(9, [0, 1, 2, 3]), (52, [0, 1, 2, 3, 4]), (78, [0, 1, 2, 3]), (120, [0, 1, 2, 3, 4])]) (n := 29) h rfl

theorem pg_291_52 {d : Nat} {x1 : Int32} {x2 : Int32} {x3 : Int32} {x4 : Int32} {s : ps_S} {Q : Option Value → ps_S → Prop} (h :
  (x4 ≤ 0 →
    ps_At (d + 1) 291 9 [(0, .ref 1131), (1, .int x1), (2, .int x2), (3, .int (x3 + 1))] [] s Q) ∧
  (0 < x4 →
    ps_Cl d 292 [.ref 1131, .int 2, .int x2] s (ps_rI (fun v1 s1 =>
      ps_At (d + 1) 291 52 [(0, .ref 1131), (1, .int x1), (2, .int v1), (3, .int x3), (4, .int (x4 + (Int32.ofInt (-1))))] [] s1 Q)))) : ps_At (d + 1) 291 52 [(0, .ref 1131), (1, .int x1), (2, .int x2), (3, .int x3), (4, .int x4)] [] s Q :=
  ps_wp_at (stops := [(9, [0, 1, 2, 3]), (52, [0, 1, 2, 3, 4]), (78, [0, 1, 2, 3]), (120, [0, 1, 2, 3, 4])]) (n := 13) h rfl

theorem pg_291_78 {d : Nat} {x1 : Int32} {x2 : Int32} {x3 : Int32} {s : ps_S} {Q : Option Value → ps_S → Prop} (h :
  ps_nd (pm_in (ps_i s 1131 21) 2) (((ps_a s 1136 (Int32.toNatClampNeg (ps_i s 1131 21))) ≤ x3 →
    Q (some (.int x2)) s) ∧
  (x3 < (ps_a s 1136 (Int32.toNatClampNeg (ps_i s 1131 21))) →
    ps_nd (pm_in x3 4) (ps_nd (pm_in (((4 : Int32) * (ps_i (ps_ua s 1172 (Int32.toNatClampNeg x3) (ps_i s 1131 73)) 1131 21)) + x3) 8) (ps_Cl d 290 [.int x1, .int (ps_a (ps_ua s 1172 (Int32.toNatClampNeg x3) (ps_i s 1131 73)) 1139 (Int32.toNatClampNeg (((4 : Int32) * (ps_i (ps_ua s 1172 (Int32.toNatClampNeg x3) (ps_i s 1131 73)) 1131 21)) + x3)))] (ps_ua s 1172 (Int32.toNatClampNeg x3) (ps_i s 1131 73)) (ps_rI (fun v1 s1 =>
      ps_At (d + 1) 291 120 [(0, .ref 1131), (1, .int x1), (2, .int x2), (3, .int x3), (4, .int v1)] [] s1 Q))))))) : ps_At (d + 1) 291 78 [(0, .ref 1131), (1, .int x1), (2, .int x2), (3, .int x3)] [] s Q :=
  ps_wp_at (stops := [(9, [0, 1, 2, 3]), (52, [0, 1, 2, 3, 4]), (78, [0, 1, 2, 3]), (120, [0, 1, 2, 3, 4])]) (n := 29) h rfl

theorem pg_291_120 {d : Nat} {x1 : Int32} {x2 : Int32} {x3 : Int32} {x4 : Int32} {s : ps_S} {Q : Option Value → ps_S → Prop} (h :
  (x4 ≤ 0 →
    ps_At (d + 1) 291 78 [(0, .ref 1131), (1, .int x1), (2, .int x2), (3, .int (x3 + 1))] [] s Q) ∧
  (0 < x4 →
    ps_Cl d 292 [.ref 1131, .int x1, .int x2] s (ps_rI (fun v1 s1 =>
      ps_At (d + 1) 291 120 [(0, .ref 1131), (1, .int x1), (2, .int v1), (3, .int x3), (4, .int (x4 + (Int32.ofInt (-1))))] [] s1 Q)))) : ps_At (d + 1) 291 120 [(0, .ref 1131), (1, .int x1), (2, .int x2), (3, .int x3), (4, .int x4)] [] s Q :=
  ps_wp_at (stops := [(9, [0, 1, 2, 3]), (52, [0, 1, 2, 3, 4]), (78, [0, 1, 2, 3]), (120, [0, 1, 2, 3, 4])]) (n := 13) h rfl

theorem ms_291_52 {x : Nat → Nat → Nat} {t : Int32} {d : Nat} {s0 : ps_S} {σ : mSig} {x1 : Int32} {Q : Option Value → ps_S → Prop} (k : ∀ (v : Int32) (s' : ps_S), mJ x t s' → kp [1170, 1171, 1172] [73] s0 s' → (1 ≤ v.toInt) → (v.toInt ≤ 12288) → (∀ j : Nat, (j : Int) < (ps_i s' 1131 73).toInt → 1 ≤ (ps_a s' 1170 j).toInt ∧ (ps_a s' 1170 j).toInt ≤ 3) → (∀ f : Nat, (f : Int) < (σ.1.2 : Int) → (ps_a s' 1172 f).toInt ≤ 87) → Q (some (.int v)) s') (n9 : Nat) (KH9 : ∀ (x2 : Int32) (x3 : Int32) (s : ps_S), (mJ x t s) → (kp [1170, 1171, 1172] [73] s0 s) → (Sg (ps_a s 1135) (ps_a s 1136) (ps_a s 1138) (ps_a s 1139) (ps_i s 1131 21).toInt σ) → (1 ≤ x1.toInt) → (x1.toInt ≤ 3) → (1 ≤ x2.toInt) → (x2.toInt ≤ 12288) → (0 ≤ x3.toInt) → (0 ≤ (ps_i s 1131 73).toInt) → (∀ j : Nat, (j : Int) < (ps_i s 1131 73).toInt → 1 ≤ (ps_a s 1170 j).toInt ∧ (ps_a s 1170 j).toInt ≤ 3) → (x3.toInt ≤ 6) → ((ps_i s 1131 73).toInt ≤ 9 * x3.toInt) → (10 - x3.toInt ≤ (n9 : Int) - 1) → ps_At (d + 1) 291 9 [(0, .ref 1131), (1, .int x1), (2, .int x2), (3, .int x3)] [] s Q) : ∀ (n : Nat) (x2 : Int32) (x3 : Int32) (x4 : Int32) (s : ps_S), (mJ x t s) → (kp [1170, 1171, 1172] [73] s0 s) → (Sg (ps_a s 1135) (ps_a s 1136) (ps_a s 1138) (ps_a s 1139) (ps_i s 1131 21).toInt σ) → (1 ≤ x1.toInt) → (x1.toInt ≤ 3) → (1 ≤ x2.toInt) → (x2.toInt ≤ 12288) → (0 ≤ x3.toInt) → (0 ≤ (ps_i s 1131 73).toInt) → (∀ j : Nat, (j : Int) < (ps_i s 1131 73).toInt → 1 ≤ (ps_a s 1170 j).toInt ∧ (ps_a s 1170 j).toInt ≤ 3) → (x3.toInt < 6) → (0 ≤ x4.toInt) → ((ps_i s 1131 73).toInt + x4.toInt ≤ 9 * x3.toInt + 9) → (10 - x3.toInt ≤ (n9 : Int)) → x4.toInt ≤ (n : Int) → ps_At (d + 1) 291 52 [(0, .ref 1131), (1, .int x1), (2, .int x2), (3, .int x3), (4, .int x4)] [] s Q := by
  refine xstr (fun n ih => ?_)
  intro x2 x3 x4 s J K hS i1 i2 i3 i4 i5 i6 hBs i8 i9 i10 hm9 hm
  have r1 := mf_73 J
  refine pg_291_52 (d := d) ?_
  refine And.intro (fun h2 => ?_) (fun h2 => ?_)
  · have f3 : x4.toInt ≤ (0 : Int) := xle h2
    have a4 : (x3 + 1).toInt = x3.toInt + (1 : Int) := xIa (show -2147483648 ≤ x3.toInt + (1 : Int) from by omega) (show x3.toInt + (1 : Int) < 2147483648 from by omega)
    exact KH9 x2 (x3 + 1) _ J K hS (show 1 ≤ x1.toInt from by omega) (show x1.toInt ≤ 3 from by omega) (show 1 ≤ x2.toInt from by omega) (show x2.toInt ≤ 12288 from by omega) (show 0 ≤ (x3 + 1).toInt from by omega) (show 0 ≤ (ps_i s 1131 73).toInt from by omega) hBs (show (x3 + 1).toInt ≤ 6 from by omega) (show (ps_i s 1131 73).toInt ≤ 9 * (x3 + 1).toInt from by omega) (show 10 - (x3 + 1).toInt ≤ (n9 : Int) - 1 from by omega)
  · have f5 : (0 : Int) < x4.toInt := xlt h2
    refine ms_292 J (show 1 ≤ (2 : Int) from by omega) (show (2 : Int) ≤ 3 from by omega) (show (ps_i s 1131 73).toInt ≤ 95 from by omega) (show 1 ≤ x2.toInt from by omega) (show x2.toInt ≤ 12288 from by omega) (fun v6 s6 J6 K6 p6_0 p6_1 p6_2 p6_3 p6_4 => ?_)
    have K7 := kpt K K6 rfl rfl
    have KC := K6
    have hS : Sg (ps_a s6 1135) (ps_a s6 1136) (ps_a s6 1138) (ps_a s6 1139) (ps_i s6 1131 21).toInt σ := by rw [show ps_a s6 1135 = ps_a s 1135 from (K6.2 1135 rfl).1, show ps_a s6 1136 = ps_a s 1136 from (K6.2 1136 rfl).1, show ps_a s6 1138 = ps_a s 1138 from (K6.2 1138 rfl).1, show ps_a s6 1139 = ps_a s 1139 from (K6.2 1139 rfl).1, show ps_i s6 1131 21 = ps_i s 1131 21 from kp_i K6 21 rfl]; exact hS
    have p6_0' : 1 ≤ v6.toInt := p6_0
    have p6_1' : v6.toInt ≤ 12288 := p6_1
    have p6_2' : (ps_i s6 1131 73).toInt = (ps_i s 1131 73).toInt + 1 := p6_2
    have r8 := mf_73 J6
    have hd1 : _ := p6_3
    have hd2 : _ := p6_4
    generalize hx10 : (x4 + (Int32.ofInt (-1))) = xd9
    have a11 : xd9.toInt = x4.toInt + (-1) := by rw [← hx10]; exact xdec (show -2147483648 < x4.toInt from by omega)
    clear hx10
    exact ih (n - 1) (show n - 1 < n from by omega) v6 x3 xd9 _ J6 K7 hS (show 1 ≤ x1.toInt from by omega) (show x1.toInt ≤ 3 from by omega) (show 1 ≤ v6.toInt from by omega) (show v6.toInt ≤ 12288 from by omega) (show 0 ≤ x3.toInt from by omega) (show 0 ≤ (ps_i s6 1131 73).toInt from by omega) (Bs_put (i := Int32.toNatClampNeg (ps_i s 1131 73)) hBs (show ((Int32.toNatClampNeg (ps_i s 1131 73) : Nat) : Int) = (ps_i s 1131 73).toInt from by rw [nx (n := (ps_i s 1131 73).toInt) rfl]; omega) (show (ps_i s6 1131 73).toInt = (ps_i s 1131 73).toInt + 1 from by omega) (by rw [hd1]; exact ⟨by decide, by decide⟩) hd2) (show x3.toInt < 6 from by omega) (show 0 ≤ xd9.toInt from by omega) (show (ps_i s6 1131 73).toInt + xd9.toInt ≤ 9 * x3.toInt + 9 from by omega) (show 10 - x3.toInt ≤ (n9 : Int) from by omega) (show xd9.toInt ≤ ((n - 1 : Nat) : Int) from by omega)

theorem ms_291_120 {x : Nat → Nat → Nat} {t : Int32} {d : Nat} {s0 : ps_S} {σ : mSig} {x1 : Int32} {Q : Option Value → ps_S → Prop} (k : ∀ (v : Int32) (s' : ps_S), mJ x t s' → kp [1170, 1171, 1172] [73] s0 s' → (1 ≤ v.toInt) → (v.toInt ≤ 12288) → (∀ j : Nat, (j : Int) < (ps_i s' 1131 73).toInt → 1 ≤ (ps_a s' 1170 j).toInt ∧ (ps_a s' 1170 j).toInt ≤ 3) → (∀ f : Nat, (f : Int) < (σ.1.2 : Int) → (ps_a s' 1172 f).toInt ≤ 87) → Q (some (.int v)) s') (n78 : Nat) (KH78 : ∀ (x2 : Int32) (x3 : Int32) (s : ps_S), (mJ x t s) → (kp [1170, 1171, 1172] [73] s0 s) → (Sg (ps_a s 1135) (ps_a s 1136) (ps_a s 1138) (ps_a s 1139) (ps_i s 1131 21).toInt σ) → (1 ≤ x1.toInt) → (x1.toInt ≤ 3) → (1 ≤ x2.toInt) → (x2.toInt ≤ 12288) → (0 ≤ x3.toInt) → (0 ≤ (ps_i s 1131 73).toInt) → (∀ j : Nat, (j : Int) < (ps_i s 1131 73).toInt → 1 ≤ (ps_a s 1170 j).toInt ∧ (ps_a s 1170 j).toInt ≤ 3) → (x3.toInt ≤ 4) → ((ps_i s 1131 73).toInt ≤ 54 + 9 * x3.toInt) → (∀ f : Nat, (f : Int) < x3.toInt → (ps_a s 1172 f).toInt ≤ 87) → (10 - x3.toInt ≤ (n78 : Int) - 1) → ps_At (d + 1) 291 78 [(0, .ref 1131), (1, .int x1), (2, .int x2), (3, .int x3)] [] s Q) : ∀ (n : Nat) (x2 : Int32) (x3 : Int32) (x4 : Int32) (s : ps_S), (mJ x t s) → (kp [1170, 1171, 1172] [73] s0 s) → (Sg (ps_a s 1135) (ps_a s 1136) (ps_a s 1138) (ps_a s 1139) (ps_i s 1131 21).toInt σ) → (1 ≤ x1.toInt) → (x1.toInt ≤ 3) → (1 ≤ x2.toInt) → (x2.toInt ≤ 12288) → (0 ≤ x3.toInt) → (0 ≤ (ps_i s 1131 73).toInt) → (∀ j : Nat, (j : Int) < (ps_i s 1131 73).toInt → 1 ≤ (ps_a s 1170 j).toInt ∧ (ps_a s 1170 j).toInt ≤ 3) → (x3.toInt < 4) → (0 ≤ x4.toInt) → ((ps_i s 1131 73).toInt + x4.toInt ≤ 54 + 9 * x3.toInt + 9) → (∀ f : Nat, (f : Int) < x3.toInt + 1 → (ps_a s 1172 f).toInt ≤ 87) → (10 - x3.toInt ≤ (n78 : Int)) → x4.toInt ≤ (n : Int) → ps_At (d + 1) 291 120 [(0, .ref 1131), (1, .int x1), (2, .int x2), (3, .int x3), (4, .int x4)] [] s Q := by
  refine xstr (fun n ih => ?_)
  intro x2 x3 x4 s J K hS i1 i2 i3 i4 i5 i6 hBs i8 i9 i10 i11 hm78 hm
  have r1 := mf_73 J
  refine pg_291_120 (d := d) ?_
  refine And.intro (fun h2 => ?_) (fun h2 => ?_)
  · have f3 : x4.toInt ≤ (0 : Int) := xle h2
    have a4 : (x3 + 1).toInt = x3.toInt + (1 : Int) := xIa (show -2147483648 ≤ x3.toInt + (1 : Int) from by omega) (show x3.toInt + (1 : Int) < 2147483648 from by omega)
    exact KH78 x2 (x3 + 1) _ J K hS (show 1 ≤ x1.toInt from by omega) (show x1.toInt ≤ 3 from by omega) (show 1 ≤ x2.toInt from by omega) (show x2.toInt ≤ 12288 from by omega) (show 0 ≤ (x3 + 1).toInt from by omega) (show 0 ≤ (ps_i s 1131 73).toInt from by omega) hBs (show (x3 + 1).toInt ≤ 4 from by omega) (show (ps_i s 1131 73).toInt ≤ 54 + 9 * (x3 + 1).toInt from by omega) (fun f hf => i11 f (by omega)) (show 10 - (x3 + 1).toInt ≤ (n78 : Int) - 1 from by omega)
  · have f5 : (0 : Int) < x4.toInt := xlt h2
    refine ms_292 J (show 1 ≤ x1.toInt from by omega) (show x1.toInt ≤ 3 from by omega) (show (ps_i s 1131 73).toInt ≤ 95 from by omega) (show 1 ≤ x2.toInt from by omega) (show x2.toInt ≤ 12288 from by omega) (fun v6 s6 J6 K6 p6_0 p6_1 p6_2 p6_3 p6_4 => ?_)
    have K7 := kpt K K6 rfl rfl
    have KC := K6
    have hS : Sg (ps_a s6 1135) (ps_a s6 1136) (ps_a s6 1138) (ps_a s6 1139) (ps_i s6 1131 21).toInt σ := by rw [show ps_a s6 1135 = ps_a s 1135 from (K6.2 1135 rfl).1, show ps_a s6 1136 = ps_a s 1136 from (K6.2 1136 rfl).1, show ps_a s6 1138 = ps_a s 1138 from (K6.2 1138 rfl).1, show ps_a s6 1139 = ps_a s 1139 from (K6.2 1139 rfl).1, show ps_i s6 1131 21 = ps_i s 1131 21 from kp_i K6 21 rfl]; exact hS
    have p6_0' : 1 ≤ v6.toInt := p6_0
    have p6_1' : v6.toInt ≤ 12288 := p6_1
    have p6_2' : (ps_i s6 1131 73).toInt = (ps_i s 1131 73).toInt + 1 := p6_2
    have r8 := mf_73 J6
    have hd1 : _ := p6_3
    have hd2 : _ := p6_4
    generalize hx10 : (x4 + (Int32.ofInt (-1))) = xd9
    have a11 : xd9.toInt = x4.toInt + (-1) := by rw [← hx10]; exact xdec (show -2147483648 < x4.toInt from by omega)
    clear hx10
    exact ih (n - 1) (show n - 1 < n from by omega) v6 x3 xd9 _ J6 K7 hS (show 1 ≤ x1.toInt from by omega) (show x1.toInt ≤ 3 from by omega) (show 1 ≤ v6.toInt from by omega) (show v6.toInt ≤ 12288 from by omega) (show 0 ≤ x3.toInt from by omega) (show 0 ≤ (ps_i s6 1131 73).toInt from by omega) (Bs_put (i := Int32.toNatClampNeg (ps_i s 1131 73)) hBs (show ((Int32.toNatClampNeg (ps_i s 1131 73) : Nat) : Int) = (ps_i s 1131 73).toInt from by rw [nx (n := (ps_i s 1131 73).toInt) rfl]; omega) (show (ps_i s6 1131 73).toInt = (ps_i s 1131 73).toInt + 1 from by omega) (by rw [hd1]; exact ⟨by omega, by omega⟩) hd2) (show x3.toInt < 4 from by omega) (show 0 ≤ xd9.toInt from by omega) (show (ps_i s6 1131 73).toInt + xd9.toInt ≤ 54 + 9 * x3.toInt + 9 from by omega) (fun f hf => (show (ps_a s6 1172 f).toInt ≤ 87 from by rw [show ps_a s6 1172 = ps_a s 1172 from (KC.2 1172 rfl).1]; exact i11 f hf)) (show 10 - x3.toInt ≤ (n78 : Int) from by omega) (show xd9.toInt ≤ ((n - 1 : Nat) : Int) from by omega)

theorem ms_291_78 {x : Nat → Nat → Nat} {t : Int32} {d : Nat} {s0 : ps_S} {σ : mSig} {x1 : Int32} {Q : Option Value → ps_S → Prop} (k : ∀ (v : Int32) (s' : ps_S), mJ x t s' → kp [1170, 1171, 1172] [73] s0 s' → (1 ≤ v.toInt) → (v.toInt ≤ 12288) → (∀ j : Nat, (j : Int) < (ps_i s' 1131 73).toInt → 1 ≤ (ps_a s' 1170 j).toInt ∧ (ps_a s' 1170 j).toInt ≤ 3) → (∀ f : Nat, (f : Int) < (σ.1.2 : Int) → (ps_a s' 1172 f).toInt ≤ 87) → Q (some (.int v)) s') : ∀ (n : Nat) (x2 : Int32) (x3 : Int32) (s : ps_S), (mJ x t s) → (kp [1170, 1171, 1172] [73] s0 s) → (Sg (ps_a s 1135) (ps_a s 1136) (ps_a s 1138) (ps_a s 1139) (ps_i s 1131 21).toInt σ) → (1 ≤ x1.toInt) → (x1.toInt ≤ 3) → (1 ≤ x2.toInt) → (x2.toInt ≤ 12288) → (0 ≤ x3.toInt) → (0 ≤ (ps_i s 1131 73).toInt) → (∀ j : Nat, (j : Int) < (ps_i s 1131 73).toInt → 1 ≤ (ps_a s 1170 j).toInt ∧ (ps_a s 1170 j).toInt ≤ 3) → (x3.toInt ≤ 4) → ((ps_i s 1131 73).toInt ≤ 54 + 9 * x3.toInt) → (∀ f : Nat, (f : Int) < x3.toInt → (ps_a s 1172 f).toInt ≤ 87) → 10 - x3.toInt ≤ (n : Int) → ps_At (d + 1) 291 78 [(0, .ref 1131), (1, .int x1), (2, .int x2), (3, .int x3)] [] s Q := by
  refine xstr (fun n ih => ?_)
  intro x2 x3 s J K hS i1 i2 i3 i4 i5 i6 hBs i8 i9 i10 hm
  have r1 := mf_73 J
  refine pg_291_78 (d := d) ?_
  obtain ⟨hb0, hb1, h5, hR6, h6, hF, h8, h9⟩ := id hS
  have h6x : (ps_a s 1136 (Int32.toNatClampNeg (ps_i s 1131 21))).toInt = (σ.1.2 : Int) := h6
  have r2 := mf_21 J
  refine ps_nd_i (show pm_in (ps_i s 1131 21) 2 = true from xgi (show 0 ≤ (ps_i s 1131 21).toInt from by omega) (show (ps_i s 1131 21).toInt < 2 from by omega)) ?_
  have r3 : 0 ≤ (ps_a s 1136 (Int32.toNatClampNeg (ps_i s 1131 21))).toInt ∧ (ps_a s 1136 (Int32.toNatClampNeg (ps_i s 1131 21))).toInt ≤ 4 := ma_1136 (i := (ps_i s 1131 21)) J (show 0 ≤ (ps_i s 1131 21).toInt from by omega) (show (ps_i s 1131 21).toInt < 2 from by omega)
  refine And.intro (fun h4 => ?_) (fun h4 => ?_)
  · have f5 : (ps_a s 1136 (Int32.toNatClampNeg (ps_i s 1131 21))).toInt ≤ x3.toInt := xle h4
    have h6x : (ps_a s 1136 (Int32.toNatClampNeg (ps_i s 1131 21))).toInt = (σ.1.2 : Int) := h6
    exact k x2 _ J K (show 1 ≤ x2.toInt from by omega) (show x2.toInt ≤ 12288 from by omega) hBs (fun f hf => i10 f (by omega))
  · have f6 : x3.toInt < (ps_a s 1136 (Int32.toNatClampNeg (ps_i s 1131 21))).toInt := xlt h4
    have ex : Int32.toNatClampNeg x3 = x3.toInt.toNat := rfl
    refine ps_nd_i (show pm_in x3 4 = true from xgi (show 0 ≤ x3.toInt from by omega) (show x3.toInt < 4 from by omega)) ?_
    have J7 := mwa_1172 (i := (Int32.toNatClampNeg x3)) (v := (ps_i s 1131 73)) J (show 0 ≤ (ps_i s 1131 73).toInt from by omega) (show (ps_i s 1131 73).toInt ≤ 90 from by omega)
    have K8 := kpa' K (r := 1172) (i := (Int32.toNatClampNeg x3)) (v := (ps_i s 1131 73)) rfl
    have a9 : ((4 : Int32) * (ps_i s 1131 21)).toInt = (4 : Int) * (ps_i s 1131 21).toInt := xIm (show -2147483648 ≤ (4 : Int) * (ps_i s 1131 21).toInt from by omega) (show (4 : Int) * (ps_i s 1131 21).toInt < 2147483648 from by omega)
    have a10 : (((4 : Int32) * (ps_i s 1131 21)) + x3).toInt = ((4 : Int32) * (ps_i s 1131 21)).toInt + x3.toInt := xIa (show -2147483648 ≤ ((4 : Int32) * (ps_i s 1131 21)).toInt + x3.toInt from by omega) (show ((4 : Int32) * (ps_i s 1131 21)).toInt + x3.toInt < 2147483648 from by omega)
    refine ps_nd_i (show pm_in (((4 : Int32) * (ps_i s 1131 21)) + x3) 8 = true from xgi (show 0 ≤ (((4 : Int32) * (ps_i s 1131 21)) + x3).toInt from by omega) (show (((4 : Int32) * (ps_i s 1131 21)) + x3).toInt < 8 from by omega)) ?_
    have r11 : 0 ≤ (ps_a s 1139 (Int32.toNatClampNeg (((4 : Int32) * (ps_i s 1131 21)) + x3))).toInt ∧ (ps_a s 1139 (Int32.toNatClampNeg (((4 : Int32) * (ps_i s 1131 21)) + x3))).toInt ≤ 9999 := ma_1139 (i := (((4 : Int32) * (ps_i s 1131 21)) + x3)) J (show 0 ≤ (((4 : Int32) * (ps_i s 1131 21)) + x3).toInt from by omega) (show (((4 : Int32) * (ps_i s 1131 21)) + x3).toInt < 8 from by omega)
    have ht : ((ps_a s 1139 (Int32.toNatClampNeg (((4 : Int32) * (ps_i s 1131 21)) + x3)))).toInt = σ.2.2 (x3.toInt.toNat) ∧ σ.2.2 (x3.toInt.toNat) ≤ 2 := Sg_f hS (by omega) (by omega)
    have ht2 : ((ps_a s 1139 (Int32.toNatClampNeg (((4 : Int32) * (ps_i s 1131 21)) + x3)))).toInt.toNat ≤ 2 := by omega
    refine ms_290 J7 (show 1 ≤ x1.toInt from by omega) (show x1.toInt ≤ 3 from by omega) (show 0 ≤ (ps_a s 1139 (Int32.toNatClampNeg (((4 : Int32) * (ps_i s 1131 21)) + x3))).toInt from by omega) (show (ps_a s 1139 (Int32.toNatClampNeg (((4 : Int32) * (ps_i s 1131 21)) + x3))).toInt ≤ 19 from by omega) (fun v12 p12_0 => ?_)
    have hpw : _ := p12_0
    have hv9 : 1 ≤ (v12).toInt ∧ (v12).toInt ≤ 9 := by rw [hpw]; exact pw9 (by omega) (by omega) ht2
    exact ms_291_120 (x1 := x1) (σ := σ) k n (fun x2z x3z sz Jz Kz i0z i1z i2z i3z i4z i5z i6z i7z i8z i9z i10z hm => ih (n - 1) (show n - 1 < n from by omega) x2z x3z sz Jz Kz i0z i1z i2z i3z i4z i5z i6z i7z i8z i9z i10z (show _ ≤ ((n - 1 : Nat) : Int) from by omega)) (v12.toInt).toNat x2 x3 v12 _ J7 K8 hS (show 1 ≤ x1.toInt from by omega) (show x1.toInt ≤ 3 from by omega) (show 1 ≤ x2.toInt from by omega) (show x2.toInt ≤ 12288 from by omega) (show 0 ≤ x3.toInt from by omega) (show 0 ≤ (ps_i s 1131 73).toInt from by omega) hBs (show x3.toInt < 4 from by omega) (show 0 ≤ v12.toInt from by omega) (show (ps_i s 1131 73).toInt + v12.toInt ≤ 54 + 9 * x3.toInt + 9 from by omega) (fun f hf => (by by_cases e : f = Int32.toNatClampNeg x3; (rw [e, ua_eq]; omega); exact Int.le_trans (Int.le_of_eq (congrArg Int32.toInt (ua_ne e))) (i10 f (by omega)))) (show 10 - x3.toInt ≤ ((n : Nat) : Int) from by omega) (show v12.toInt ≤ (((v12.toInt).toNat : Nat) : Int) from by omega)

theorem ms_291_9 {x : Nat → Nat → Nat} {t : Int32} {d : Nat} {s0 : ps_S} {σ : mSig} {x1 : Int32} {Q : Option Value → ps_S → Prop} (k : ∀ (v : Int32) (s' : ps_S), mJ x t s' → kp [1170, 1171, 1172] [73] s0 s' → (1 ≤ v.toInt) → (v.toInt ≤ 12288) → (∀ j : Nat, (j : Int) < (ps_i s' 1131 73).toInt → 1 ≤ (ps_a s' 1170 j).toInt ∧ (ps_a s' 1170 j).toInt ≤ 3) → (∀ f : Nat, (f : Int) < (σ.1.2 : Int) → (ps_a s' 1172 f).toInt ≤ 87) → Q (some (.int v)) s') : ∀ (n : Nat) (x2 : Int32) (x3 : Int32) (s : ps_S), (mJ x t s) → (kp [1170, 1171, 1172] [73] s0 s) → (Sg (ps_a s 1135) (ps_a s 1136) (ps_a s 1138) (ps_a s 1139) (ps_i s 1131 21).toInt σ) → (1 ≤ x1.toInt) → (x1.toInt ≤ 3) → (1 ≤ x2.toInt) → (x2.toInt ≤ 12288) → (0 ≤ x3.toInt) → (0 ≤ (ps_i s 1131 73).toInt) → (∀ j : Nat, (j : Int) < (ps_i s 1131 73).toInt → 1 ≤ (ps_a s 1170 j).toInt ∧ (ps_a s 1170 j).toInt ≤ 3) → (x3.toInt ≤ 6) → ((ps_i s 1131 73).toInt ≤ 9 * x3.toInt) → 10 - x3.toInt ≤ (n : Int) → ps_At (d + 1) 291 9 [(0, .ref 1131), (1, .int x1), (2, .int x2), (3, .int x3)] [] s Q := by
  refine xstr (fun n ih => ?_)
  intro x2 x3 s J K hS i1 i2 i3 i4 i5 i6 hBs i8 i9 hm
  have r1 := mf_73 J
  refine pg_291_9 (d := d) ?_
  obtain ⟨hb0, hb1, h5, hR6, h6, hF, h8, h9⟩ := id hS
  have h5x : (ps_a s 1135 (Int32.toNatClampNeg (ps_i s 1131 21))).toInt = (σ.1.1 : Int) := h5
  have r2 := mf_21 J
  refine ps_nd_i (show pm_in (ps_i s 1131 21) 2 = true from xgi (show 0 ≤ (ps_i s 1131 21).toInt from by omega) (show (ps_i s 1131 21).toInt < 2 from by omega)) ?_
  have r3 : 0 ≤ (ps_a s 1135 (Int32.toNatClampNeg (ps_i s 1131 21))).toInt ∧ (ps_a s 1135 (Int32.toNatClampNeg (ps_i s 1131 21))).toInt ≤ 6 := ma_1135 (i := (ps_i s 1131 21)) J (show 0 ≤ (ps_i s 1131 21).toInt from by omega) (show (ps_i s 1131 21).toInt < 2 from by omega)
  refine And.intro (fun h4 => ?_) (fun h4 => ?_)
  · have f5 : (ps_a s 1135 (Int32.toNatClampNeg (ps_i s 1131 21))).toInt ≤ x3.toInt := xle h4
    exact ms_291_78 (x1 := x1) (σ := σ) k  (10 - (0 : Int)).toNat x2 (0) _ J K hS (show 1 ≤ x1.toInt from by omega) (show x1.toInt ≤ 3 from by omega) (show 1 ≤ x2.toInt from by omega) (show x2.toInt ≤ 12288 from by omega) (show 0 ≤ (0 : Int) from by omega) (show 0 ≤ (ps_i s 1131 73).toInt from by omega) hBs (show (0 : Int) ≤ 4 from by omega) (show (ps_i s 1131 73).toInt ≤ 54 + 9 * (0 : Int) from by omega) (fun f hf => absurd hf (by rw [Int32.toInt_zero]; omega)) (show 10 - (0 : Int) ≤ (((10 - (0 : Int)).toNat : Nat) : Int) from by omega)
  · have f6 : x3.toInt < (ps_a s 1135 (Int32.toNatClampNeg (ps_i s 1131 21))).toInt := xlt h4
    refine ps_nd_i (show pm_in x3 6 = true from xgi (show 0 ≤ x3.toInt from by omega) (show x3.toInt < 6 from by omega)) ?_
    have J7 := mwa_1171 (i := (Int32.toNatClampNeg x3)) (v := (ps_i s 1131 73)) J (show 0 ≤ (ps_i s 1131 73).toInt from by omega) (show (ps_i s 1131 73).toInt ≤ 54 from by omega)
    have K8 := kpa' K (r := 1171) (i := (Int32.toNatClampNeg x3)) (v := (ps_i s 1131 73)) rfl
    have a9 : ((6 : Int32) * (ps_i s 1131 21)).toInt = (6 : Int) * (ps_i s 1131 21).toInt := xIm (show -2147483648 ≤ (6 : Int) * (ps_i s 1131 21).toInt from by omega) (show (6 : Int) * (ps_i s 1131 21).toInt < 2147483648 from by omega)
    have a10 : (((6 : Int32) * (ps_i s 1131 21)) + x3).toInt = ((6 : Int32) * (ps_i s 1131 21)).toInt + x3.toInt := xIa (show -2147483648 ≤ ((6 : Int32) * (ps_i s 1131 21)).toInt + x3.toInt from by omega) (show ((6 : Int32) * (ps_i s 1131 21)).toInt + x3.toInt < 2147483648 from by omega)
    refine ps_nd_i (show pm_in (((6 : Int32) * (ps_i s 1131 21)) + x3) 12 = true from xgi (show 0 ≤ (((6 : Int32) * (ps_i s 1131 21)) + x3).toInt from by omega) (show (((6 : Int32) * (ps_i s 1131 21)) + x3).toInt < 12 from by omega)) ?_
    have r11 : 0 ≤ (ps_a s 1138 (Int32.toNatClampNeg (((6 : Int32) * (ps_i s 1131 21)) + x3))).toInt ∧ (ps_a s 1138 (Int32.toNatClampNeg (((6 : Int32) * (ps_i s 1131 21)) + x3))).toInt ≤ 9999 := ma_1138 (i := (((6 : Int32) * (ps_i s 1131 21)) + x3)) J (show 0 ≤ (((6 : Int32) * (ps_i s 1131 21)) + x3).toInt from by omega) (show (((6 : Int32) * (ps_i s 1131 21)) + x3).toInt < 12 from by omega)
    have ht : ((ps_a s 1138 (Int32.toNatClampNeg (((6 : Int32) * (ps_i s 1131 21)) + x3)))).toInt = σ.2.1 (x3.toInt.toNat) ∧ σ.2.1 (x3.toInt.toNat) ≤ 2 := Sg_r hS (by omega) (by omega)
    have ht2 : ((ps_a s 1138 (Int32.toNatClampNeg (((6 : Int32) * (ps_i s 1131 21)) + x3)))).toInt.toNat ≤ 2 := by omega
    refine ms_290 J7 (show 1 ≤ x1.toInt from by omega) (show x1.toInt ≤ 3 from by omega) (show 0 ≤ (ps_a s 1138 (Int32.toNatClampNeg (((6 : Int32) * (ps_i s 1131 21)) + x3))).toInt from by omega) (show (ps_a s 1138 (Int32.toNatClampNeg (((6 : Int32) * (ps_i s 1131 21)) + x3))).toInt ≤ 19 from by omega) (fun v12 p12_0 => ?_)
    have hpw : _ := p12_0
    have hv9 : 1 ≤ (v12).toInt ∧ (v12).toInt ≤ 9 := by rw [hpw]; exact pw9 (by omega) (by omega) ht2
    exact ms_291_52 (x1 := x1) (σ := σ) k n (fun x2z x3z sz Jz Kz i0z i1z i2z i3z i4z i5z i6z i7z i8z i9z hm => ih (n - 1) (show n - 1 < n from by omega) x2z x3z sz Jz Kz i0z i1z i2z i3z i4z i5z i6z i7z i8z i9z (show _ ≤ ((n - 1 : Nat) : Int) from by omega)) (v12.toInt).toNat x2 x3 v12 _ J7 K8 hS (show 1 ≤ x1.toInt from by omega) (show x1.toInt ≤ 3 from by omega) (show 1 ≤ x2.toInt from by omega) (show x2.toInt ≤ 12288 from by omega) (show 0 ≤ x3.toInt from by omega) (show 0 ≤ (ps_i s 1131 73).toInt from by omega) hBs (show x3.toInt < 6 from by omega) (show 0 ≤ v12.toInt from by omega) (show (ps_i s 1131 73).toInt + v12.toInt ≤ 9 * x3.toInt + 9 from by omega) (show 10 - x3.toInt ≤ ((n : Nat) : Int) from by omega) (show v12.toInt ≤ (((v12.toInt).toNat : Nat) : Int) from by omega)

theorem ms_291 {x : Nat → Nat → Nat} {t : Int32} {s : ps_S} {d : Nat} {x1 : Int32} {f : Int32 → ps_S → Prop} (J : mJ x t s) {σ : mSig} (hS : Sg (ps_a s 1135) (ps_a s 1136) (ps_a s 1138) (ps_a s 1139) (ps_i s 1131 21).toInt σ) (q1 : 1 ≤ x1.toInt) (q2 : x1.toInt ≤ 3) (k : ∀ (v : Int32) (s' : ps_S), mJ x t s' → kp [1170, 1171, 1172] [73] s s' → (1 ≤ v.toInt) → (v.toInt ≤ 12288) → (∀ j : Nat, (j : Int) < (ps_i s' 1131 73).toInt → 1 ≤ (ps_a s' 1170 j).toInt ∧ (ps_a s' 1170 j).toInt ≤ 3) → (∀ f : Nat, (f : Int) < (σ.1.2 : Int) → (ps_a s' 1172 f).toInt ≤ 87) → f v s') : ps_Cl (d + 1) 291 [.ref 1131, .int x1] s (ps_rI f) := by
  have K : kp [1170, 1171, 1172] [73] s s := kp_refl
  refine pg_291_0 (d := d) ?_
  have J1 := mwi_73 (v := (0 : Int32)) J (show 0 ≤ (0 : Int) from by omega) (show (0 : Int) ≤ 96 from by omega)
  have K2 := kpi K (q := 73) (v := (0 : Int32)) rfl
  exact ms_291_9 (x1 := x1) (σ := σ) k  (10 - (0 : Int)).toNat (1) (0) _ J1 K2 hS (show 1 ≤ x1.toInt from by omega) (show x1.toInt ≤ 3 from by omega) (show 1 ≤ (1 : Int) from by omega) (show (1 : Int) ≤ 12288 from by omega) (show 0 ≤ (0 : Int) from by omega) (show 0 ≤ (0 : Int) from by omega) ((fun j hj => absurd hj (show ¬ ((j : Int) < (0 : Int32).toInt) from by rw [Int32.toInt_zero]; omega))) (show (0 : Int) ≤ 6 from by omega) (show (0 : Int) ≤ 9 * (0 : Int) from by omega) (show 10 - (0 : Int) ≤ (((10 - (0 : Int)).toNat : Nat) : Int) from by omega)

-- ProofBenchModel.layModel(I)V
theorem pg_293_0 {d : Nat} {x1 : Int32} {s : ps_S} {Q : Option Value → ps_S → Prop} (h :
  ps_At d 293 9 [(0, .ref 1131), (2, .int x1), (3, .int ((ps_i s 1131 73) - 1))] [] s Q) : ps_At d 293 0 [(0, .ref 1131), (1, .int x1)] [] s Q :=
  ps_wp_at (stops := [(9, [0, 2, 3])]) (n := 9) h rfl

theorem pg_293_9 {d : Nat} {x2 : Int32} {x3 : Int32} {s : ps_S} {Q : Option Value → ps_S → Prop} (h :
  (x3 < 0 →
    Q none s) ∧
  (0 ≤ x3 →
    ps_nd (pm_in x3 96) (ps_nd (!decide ((ps_a s 1170 (Int32.toNatClampNeg x3)) = 0)) (ps_nd (pm_in x3 96) (ps_nd (pm_in x3 96) (ps_nd (!decide ((ps_a (ps_ua s 1169 (Int32.toNatClampNeg x3) (x2 - (x2 / (ps_a s 1170 (Int32.toNatClampNeg x3))) * (ps_a s 1170 (Int32.toNatClampNeg x3)))) 1170 (Int32.toNatClampNeg x3)) = 0)) (ps_At d 293 9 [(0, .ref 1131), (2, .int (x2 / (ps_a (ps_ua s 1169 (Int32.toNatClampNeg x3) (x2 - (x2 / (ps_a s 1170 (Int32.toNatClampNeg x3))) * (ps_a s 1170 (Int32.toNatClampNeg x3)))) 1170 (Int32.toNatClampNeg x3)))), (3, .int (x3 + (Int32.ofInt (-1))))] [] (ps_ua s 1169 (Int32.toNatClampNeg x3) (x2 - (x2 / (ps_a s 1170 (Int32.toNatClampNeg x3))) * (ps_a s 1170 (Int32.toNatClampNeg x3)))) Q))))))) : ps_At d 293 9 [(0, .ref 1131), (2, .int x2), (3, .int x3)] [] s Q :=
  ps_wp_at (stops := [(9, [0, 2, 3])]) (n := 24) h rfl

theorem ms_293_9 {x : Nat → Nat → Nat} {t : Int32} {d : Nat} {s0 : ps_S} {x1 : Int32} {Q : Option Value → ps_S → Prop} (k : ∀ (s' : ps_S), mJ x t s' → kp [1169] [] s0 s' → (∀ j : Nat, j < 96 → 0 ≤ (ps_a s' 1169 j).toInt ∧ (ps_a s' 1169 j).toInt ≤ 2) → Q none s') : ∀ (n : Nat) (x2 : Int32) (x3 : Int32) (s : ps_S), (mJ x t s) → (kp [1169] [] s0 s) → (∀ j : Nat, (j : Int) < (ps_i s 1131 73).toInt → 1 ≤ (ps_a s 1170 j).toInt ∧ (ps_a s 1170 j).toInt ≤ 3) → (∀ j : Nat, j < 96 → 0 ≤ (ps_a s 1169 j).toInt ∧ (ps_a s 1169 j).toInt ≤ 2) → (0 ≤ x2.toInt) → (-1 ≤ x3.toInt) → (x3.toInt < (ps_i s 1131 73).toInt) → x3.toInt + 1 ≤ (n : Int) → ps_At d 293 9 [(0, .ref 1131), (2, .int x2), (3, .int x3)] [] s Q := by
  refine xstr (fun n ih => ?_)
  intro x2 x3 s J K hBs hDg i2 i3 i4 hm
  have r1 := mf_73 J
  refine pg_293_9 ?_
  refine And.intro (fun h2 => ?_) (fun h2 => ?_)
  · have f3 : x3.toInt < (0 : Int) := xlt h2
    exact k _ J K hDg
  · have f4 : (0 : Int) ≤ x3.toInt := xle h2
    refine ps_nd_i (show pm_in x3 96 = true from xgi (show 0 ≤ x3.toInt from by omega) (show x3.toInt < 96 from by omega)) ?_
    have hb : 1 ≤ ((ps_a s 1170 (Int32.toNatClampNeg x3))).toInt ∧ ((ps_a s 1170 (Int32.toNatClampNeg x3))).toInt ≤ 3 := hBs (Int32.toNatClampNeg x3) (show ((Int32.toNatClampNeg x3 : Nat) : Int) < (ps_i s 1131 73).toInt from by rw [nx (n := x3.toInt) rfl]; omega)
    refine ps_nd_i (xnz (show (ps_a s 1170 (Int32.toNatClampNeg x3)).toInt ≠ 0 from by omega)) ?_
    have hm2 : 0 ≤ ((x2 - (x2 / (ps_a s 1170 (Int32.toNatClampNeg x3))) * (ps_a s 1170 (Int32.toNatClampNeg x3)))).toInt ∧ ((x2 - (x2 / (ps_a s 1170 (Int32.toNatClampNeg x3))) * (ps_a s 1170 (Int32.toNatClampNeg x3)))).toInt ≤ 2 := xmod2 (by omega) (by omega) (by omega)
    refine ps_nd_i (show pm_in x3 96 = true from xgi (show 0 ≤ x3.toInt from by omega) (show x3.toInt < 96 from by omega)) ?_
    have J5 := mwa_n 1169 (i := (Int32.toNatClampNeg x3)) (v := (x2 - (x2 / (ps_a s 1170 (Int32.toNatClampNeg x3))) * (ps_a s 1170 (Int32.toNatClampNeg x3)))) J rfl (by decide)
    have K6 := kpa' K (r := 1169) (i := (Int32.toNatClampNeg x3)) (v := (x2 - (x2 / (ps_a s 1170 (Int32.toNatClampNeg x3))) * (ps_a s 1170 (Int32.toNatClampNeg x3)))) rfl
    refine ps_nd_i (show pm_in x3 96 = true from xgi (show 0 ≤ x3.toInt from by omega) (show x3.toInt < 96 from by omega)) ?_
    refine ps_nd_i (xnz (show (ps_a s 1170 (Int32.toNatClampNeg x3)).toInt ≠ 0 from by omega)) ?_
    have hd2 : 0 ≤ ((x2 / (ps_a s 1170 (Int32.toNatClampNeg x3)))).toInt := xdiv0 (by omega) (by omega)
    generalize hx8 : (x3 + (Int32.ofInt (-1))) = xd7
    have a9 : xd7.toInt = x3.toInt + (-1) := by rw [← hx8]; exact xdec (show -2147483648 < x3.toInt from by omega)
    clear hx8
    exact ih (n - 1) (show n - 1 < n from by omega) (x2 / (ps_a s 1170 (Int32.toNatClampNeg x3))) xd7 _ J5 K6 hBs (Dg_put (i := Int32.toNatClampNeg x3) hDg (by rw [ua_eq]; exact hm2) (fun j hj => ua_ne hj)) (show 0 ≤ (x2 / (ps_a s 1170 (Int32.toNatClampNeg x3))).toInt from by omega) (show -1 ≤ xd7.toInt from by omega) (show xd7.toInt < (ps_i s 1131 73).toInt from by omega) (show xd7.toInt + 1 ≤ ((n - 1 : Nat) : Int) from by omega)

theorem ms_293 {x : Nat → Nat → Nat} {t : Int32} {s : ps_S} {d : Nat} {x1 : Int32} {f : ps_S → Prop} (J : mJ x t s) (hBs : ∀ j : Nat, (j : Int) < (ps_i s 1131 73).toInt → 1 ≤ (ps_a s 1170 j).toInt ∧ (ps_a s 1170 j).toInt ≤ 3) (hDg : ∀ j : Nat, j < 96 → 0 ≤ (ps_a s 1169 j).toInt ∧ (ps_a s 1169 j).toInt ≤ 2) (q2 : 0 ≤ x1.toInt) (k : ∀ (s' : ps_S), mJ x t s' → kp [1169] [] s s' → (∀ j : Nat, j < 96 → 0 ≤ (ps_a s' 1169 j).toInt ∧ (ps_a s' 1169 j).toInt ≤ 2) → f s') : ps_Cl d 293 [.ref 1131, .int x1] s (ps_rV f) := by
  have K : kp [1169] [] s s := kp_refl
  refine pg_293_0 ?_
  have r1 := mf_73 J
  have a2 : ((ps_i s 1131 73) - 1).toInt = (ps_i s 1131 73).toInt - (1 : Int) := xIs (show -2147483648 ≤ (ps_i s 1131 73).toInt - (1 : Int) from by omega) (show (ps_i s 1131 73).toInt - (1 : Int) < 2147483648 from by omega)
  exact ms_293_9 (x1 := x1) k  (((ps_i s 1131 73) - 1).toInt + 1).toNat x1 ((ps_i s 1131 73) - 1) _ J K hBs hDg (show 0 ≤ x1.toInt from by omega) (show -1 ≤ ((ps_i s 1131 73) - 1).toInt from by omega) (show ((ps_i s 1131 73) - 1).toInt < (ps_i s 1131 73).toInt from by omega) (show ((ps_i s 1131 73) - 1).toInt + 1 ≤ (((((ps_i s 1131 73) - 1).toInt + 1).toNat : Nat) : Int) from by omega)
