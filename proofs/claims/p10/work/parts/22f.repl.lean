set_option maxRecDepth 100000
-- ProofBenchModel.isReplaced(III)Z
theorem pg_260_0 {d : Nat} {x1 : Int32} {x2 : Int32} {x3 : Int32} {s : ps_S} {Q : Option Value → ps_S → Prop} (h :
  ps_Cl d 221 [.ref 1131, .int x1, .int 1] s (ps_rI (fun v1 s1 =>
    ps_At (d + 1) 260 14 [(0, .ref 1131), (1, .int x1), (2, .int x2), (3, .int x3), (4, .int v1), (5, .int 0), (6, .int 0)] [] s1 Q))) : ps_At (d + 1) 260 0 [(0, .ref 1131), (1, .int x1), (2, .int x2), (3, .int x3)] [] s Q :=
  ps_wp_at (stops := [(14, [0, 1, 2, 3, 4, 5, 6]), (66, [0, 1, 2, 3, 4, 5, 6]), (111, [0, 1, 2, 3, 4, 5, 6, 7]), (162, [0, 1, 2, 3, 4, 5, 6]), (190, [0, 2, 3, 5, 6])]) (n := 11) h rfl

theorem pg_260_14 {d : Nat} {x1 : Int32} {x2 : Int32} {x3 : Int32} {x4 : Int32} {x5 : Int32} {x6 : Int32} {s : ps_S} {Q : Option Value → ps_S → Prop} (h :
  ps_Cl d 219 [.ref 1131, .int x2] s (ps_rI (fun v1 s1 =>
    (v1 ≤ x5 →
      ps_At (d + 1) 260 190 [(0, .ref 1131), (2, .int x2), (3, .int x3), (5, .int x5), (6, .int x6)] [] s1 Q) ∧
    (x5 < v1 →
      ps_Cl d 219 [.ref 1131, .int x3] s1 (ps_rI (fun v2 s2 =>
        (v2 ≤ x6 →
          ps_At (d + 1) 260 190 [(0, .ref 1131), (2, .int x2), (3, .int x3), (5, .int x5), (6, .int x6)] [] s2 Q) ∧
        (x6 < v2 →
          ps_Cl d 220 [.ref 1131, .int x2, .int x5] s2 (ps_rI (fun v3 s3 =>
            (v3 < 20 →
              ps_At (d + 1) 260 66 [(0, .ref 1131), (1, .int x1), (2, .int x2), (3, .int x3), (4, .int x4), (5, .int x5), (6, .int x6)] [] s3 Q) ∧
            (20 ≤ v3 →
              ps_Cl d 259 [.ref 1131, .int x1, .int 1, .int (x4 - 1), .int x2, .int x5] s3 (ps_rI (fun v4 s4 =>
                (v4 = 0 →
                  ps_At (d + 1) 260 66 [(0, .ref 1131), (1, .int x1), (2, .int x2), (3, .int x3), (4, .int x4), (5, .int x5), (6, .int x6)] [] s4 Q) ∧
                (v4 ≠ 0 →
                  ((1 : Int32) = 0 →
                    ps_At (d + 1) 260 111 [(0, .ref 1131), (1, .int x1), (2, .int x2), (3, .int x3), (4, .int x4), (5, .int x5), (6, .int x6), (7, .int 1)] [] s4 Q) ∧
                  ((1 : Int32) ≠ 0 →
                    ps_Cl d 259 [.ref 1131, .int x1, .int 1, .int (x4 - 1), .int x3, .int x6] s4 (ps_rI (fun v5 s5 =>
                      (v5 = 0 →
                        ps_At (d + 1) 260 111 [(0, .ref 1131), (1, .int x1), (2, .int x2), (3, .int x3), (4, .int x4), (5, .int x5), (6, .int x6), (7, .int 1)] [] s5 Q) ∧
                      (v5 ≠ 0 →
                        ps_At (d + 1) 260 14 [(0, .ref 1131), (1, .int x1), (2, .int x2), (3, .int x3), (4, .int x4), (5, .int (x5 + (x4 - 1))), (6, .int (x6 + (x4 - 1)))] [] s5 Q))))))))))))))))) : ps_At (d + 1) 260 14 [(0, .ref 1131), (1, .int x1), (2, .int x2), (3, .int x3), (4, .int x4), (5, .int x5), (6, .int x6)] [] s Q :=
  ps_wp_at (stops := [(14, [0, 1, 2, 3, 4, 5, 6]), (66, [0, 1, 2, 3, 4, 5, 6]), (111, [0, 1, 2, 3, 4, 5, 6, 7]), (162, [0, 1, 2, 3, 4, 5, 6]), (190, [0, 2, 3, 5, 6])]) (n := 57) h rfl

theorem pg_260_66 {d : Nat} {x1 : Int32} {x2 : Int32} {x3 : Int32} {x4 : Int32} {x5 : Int32} {x6 : Int32} {s : ps_S} {Q : Option Value → ps_S → Prop} (h :
  ((0 : Int32) = 0 →
    ps_At (d + 1) 260 111 [(0, .ref 1131), (1, .int x1), (2, .int x2), (3, .int x3), (4, .int x4), (5, .int x5), (6, .int x6), (7, .int 0)] [] s Q) ∧
  ((0 : Int32) ≠ 0 →
    ps_Cl d 259 [.ref 1131, .int x1, .int 1, .int (x4 - 1), .int x3, .int x6] s (ps_rI (fun v1 s1 =>
      (v1 = 0 →
        ps_At (d + 1) 260 111 [(0, .ref 1131), (1, .int x1), (2, .int x2), (3, .int x3), (4, .int x4), (5, .int x5), (6, .int x6), (7, .int 0)] [] s1 Q) ∧
      (v1 ≠ 0 →
        ps_At (d + 1) 260 14 [(0, .ref 1131), (1, .int x1), (2, .int x2), (3, .int x3), (4, .int x4), (5, .int (x5 + (x4 - 1))), (6, .int (x6 + (x4 - 1)))] [] s1 Q))))) : ps_At (d + 1) 260 66 [(0, .ref 1131), (1, .int x1), (2, .int x2), (3, .int x3), (4, .int x4), (5, .int x5), (6, .int x6)] [] s Q :=
  ps_wp_at (stops := [(14, [0, 1, 2, 3, 4, 5, 6]), (66, [0, 1, 2, 3, 4, 5, 6]), (111, [0, 1, 2, 3, 4, 5, 6, 7]), (162, [0, 1, 2, 3, 4, 5, 6]), (190, [0, 2, 3, 5, 6])]) (n := 30) h rfl

theorem pg_260_111 {d : Nat} {x1 : Int32} {x2 : Int32} {x3 : Int32} {x4 : Int32} {x5 : Int32} {x6 : Int32} {x7 : Int32} {s : ps_S} {Q : Option Value → ps_S → Prop} (h :
  (x7 = 0 →
    ps_At (d + 1) 260 162 [(0, .ref 1131), (1, .int x1), (2, .int x2), (3, .int x3), (4, .int x4), (5, .int x5), (6, .int x6)] [] s Q) ∧
  (x7 ≠ 0 →
    ps_Cl d 219 [.ref 1131, .int x1] s (ps_rI (fun v1 s1 =>
      ps_Cl d 259 [.ref 1131, .int x1, .int x4, .int (v1 - x4), .int x3, .int x6] s1 (ps_rI (fun v2 s2 =>
        (v2 = 0 →
          ps_At (d + 1) 260 162 [(0, .ref 1131), (1, .int x1), (2, .int x2), (3, .int x3), (4, .int x4), (5, .int x5), (6, .int x6)] [] s2 Q) ∧
        (v2 ≠ 0 →
          ps_Cl d 219 [.ref 1131, .int x1] s2 (ps_rI (fun v3 s3 =>
            ps_At (d + 1) 260 14 [(0, .ref 1131), (1, .int x1), (2, .int x2), (3, .int x3), (4, .int x4), (5, .int (x5 + (x4 - 1))), (6, .int (x6 + (v3 - x4)))] [] s3 Q))))))))) : ps_At (d + 1) 260 111 [(0, .ref 1131), (1, .int x1), (2, .int x2), (3, .int x3), (4, .int x4), (5, .int x5), (6, .int x6), (7, .int x7)] [] s Q :=
  ps_wp_at (stops := [(14, [0, 1, 2, 3, 4, 5, 6]), (66, [0, 1, 2, 3, 4, 5, 6]), (111, [0, 1, 2, 3, 4, 5, 6, 7]), (162, [0, 1, 2, 3, 4, 5, 6]), (190, [0, 2, 3, 5, 6])]) (n := 32) h rfl

theorem pg_260_162 {d : Nat} {x1 : Int32} {x2 : Int32} {x3 : Int32} {x4 : Int32} {x5 : Int32} {x6 : Int32} {s : ps_S} {Q : Option Value → ps_S → Prop} (h :
  ps_Cl d 220 [.ref 1131, .int x2, .int x5] s (ps_rI (fun v1 s1 =>
    ps_Cl d 220 [.ref 1131, .int x3, .int x6] s1 (ps_rI (fun v2 s2 =>
      (v1 = v2 →
        ps_At (d + 1) 260 14 [(0, .ref 1131), (1, .int x1), (2, .int x2), (3, .int x3), (4, .int x4), (5, .int (x5 + 1)), (6, .int (x6 + 1))] [] s2 Q) ∧
      (v1 ≠ v2 →
        Q (some (.int 0)) s2)))))) : ps_At (d + 1) 260 162 [(0, .ref 1131), (1, .int x1), (2, .int x2), (3, .int x3), (4, .int x4), (5, .int x5), (6, .int x6)] [] s Q :=
  ps_wp_at (stops := [(14, [0, 1, 2, 3, 4, 5, 6]), (66, [0, 1, 2, 3, 4, 5, 6]), (111, [0, 1, 2, 3, 4, 5, 6, 7]), (162, [0, 1, 2, 3, 4, 5, 6]), (190, [0, 2, 3, 5, 6])]) (n := 16) h rfl

theorem pg_260_190 {d : Nat} {x2 : Int32} {x3 : Int32} {x5 : Int32} {x6 : Int32} {s : ps_S} {Q : Option Value → ps_S → Prop} (h :
  ps_Cl d 219 [.ref 1131, .int x2] s (ps_rI (fun v1 s1 =>
    (x5 ≠ v1 →
      Q (some (.int 0)) s1) ∧
    (x5 = v1 →
      ps_Cl d 219 [.ref 1131, .int x3] s1 (ps_rI (fun v2 s2 =>
        (x6 ≠ v2 →
          Q (some (.int 0)) s2) ∧
        (x6 = v2 →
          Q (some (.int 1)) s2))))))) : ps_At (d + 1) 260 190 [(0, .ref 1131), (2, .int x2), (3, .int x3), (5, .int x5), (6, .int x6)] [] s Q :=
  ps_wp_at (stops := [(14, [0, 1, 2, 3, 4, 5, 6]), (66, [0, 1, 2, 3, 4, 5, 6]), (111, [0, 1, 2, 3, 4, 5, 6, 7]), (162, [0, 1, 2, 3, 4, 5, 6]), (190, [0, 2, 3, 5, 6])]) (n := 19) h rfl

theorem ms_260_162 {x : Nat → Nat → Nat} {t : Int32} {d : Nat} {s : ps_S} {σ : mSig} {x1 : Int32} {x2 : Int32} {x3 : Int32} {Q : Option Value → ps_S → Prop} (k : ∀ (v : Int32), v &&& 1 = v → Q (some (.int v)) s) (n14 : Nat) (KH14 : ∀ (x4 : Int32) (x5 : Int32) (x6 : Int32), (mJ x t s) → (x1.toInt % 41 = 0) → (0 ≤ x1.toInt) → (x1.toInt < 27306) → (x2.toInt % 41 = 0) → (0 ≤ x2.toInt) → (x2.toInt < 27306) → (x3.toInt % 41 = 0) → (0 ≤ x3.toInt) → (x3.toInt < 27306) → (2 ≤ x4.toInt) → (x4.toInt ≤ (ps_a s 1134 (Int32.toNatClampNeg x1)).toInt) → (0 ≤ x5.toInt) → (x5.toInt ≤ (ps_a s 1134 (Int32.toNatClampNeg x2)).toInt) → (0 ≤ x6.toInt) → (x6.toInt ≤ (ps_a s 1134 (Int32.toNatClampNeg x3)).toInt) → (41 - x5.toInt ≤ (n14 : Int) - 1) → ps_At (d + 2) 260 14 [(0, .ref 1131), (1, .int x1), (2, .int x2), (3, .int x3), (4, .int x4), (5, .int x5), (6, .int x6)] [] s Q) (x4 : Int32) (x5 : Int32) (x6 : Int32) (J : mJ x t s) (i0_k : x1.toInt % 41 = 0) (i1_k : 0 ≤ x1.toInt) (i2_k : x1.toInt < 27306) (i3_k : x2.toInt % 41 = 0) (i4_k : 0 ≤ x2.toInt) (i5_k : x2.toInt < 27306) (i6_k : x3.toInt % 41 = 0) (i7_k : 0 ≤ x3.toInt) (i8_k : x3.toInt < 27306) (i9_k : 2 ≤ x4.toInt) (i10_k : x4.toInt ≤ (ps_a s 1134 (Int32.toNatClampNeg x1)).toInt) (i11_k : 0 ≤ x5.toInt) (i12_k : x5.toInt ≤ (ps_a s 1134 (Int32.toNatClampNeg x2)).toInt) (i13_k : 0 ≤ x6.toInt) (i14_k : x6.toInt ≤ (ps_a s 1134 (Int32.toNatClampNeg x3)).toInt) (i15_k : x5.toInt < (ps_a s 1134 (Int32.toNatClampNeg x2)).toInt) (i16_k : x6.toInt < (ps_a s 1134 (Int32.toNatClampNeg x3)).toInt) (hm14 : 41 - x5.toInt ≤ (n14 : Int)) : ps_At (d + 2) 260 162 [(0, .ref 1131), (1, .int x1), (2, .int x2), (3, .int x3), (4, .int x4), (5, .int x5), (6, .int x6)] [] s Q := by
  have r1_k : x1.toInt % 41 = 0 → x1.toInt < 27306 → 0 ≤ (ps_a s 1134 (Int32.toNatClampNeg x1)).toInt ∧ (ps_a s 1134 (Int32.toNatClampNeg x1)).toInt ≤ 40 := fun z1_k z2_k => mp_row (i := x1) J z1_k (show 0 ≤ x1.toInt from by omega) z2_k
  have r2_k : x2.toInt % 41 = 0 → x2.toInt < 27306 → 0 ≤ (ps_a s 1134 (Int32.toNatClampNeg x2)).toInt ∧ (ps_a s 1134 (Int32.toNatClampNeg x2)).toInt ≤ 40 := fun z1_k z2_k => mp_row (i := x2) J z1_k (show 0 ≤ x2.toInt from by omega) z2_k
  have r3_k : x3.toInt % 41 = 0 → x3.toInt < 27306 → 0 ≤ (ps_a s 1134 (Int32.toNatClampNeg x3)).toInt ∧ (ps_a s 1134 (Int32.toNatClampNeg x3)).toInt ≤ 40 := fun z1_k z2_k => mp_row (i := x3) J z1_k (show 0 ≤ x3.toInt from by omega) z2_k
  refine pg_260_162 (d := d + 1) ?_
  refine pg_220_0 ?_
  have a4_k : (x2 + 1).toInt = x2.toInt + (1 : Int) := xIa (show -2147483648 ≤ x2.toInt + (1 : Int) from by omega) (show x2.toInt + (1 : Int) < 2147483648 from by omega)
  have a5_k : ((x2 + 1) + x5).toInt = (x2 + 1).toInt + x5.toInt := xIa (show -2147483648 ≤ (x2 + 1).toInt + x5.toInt from by omega) (show (x2 + 1).toInt + x5.toInt < 2147483648 from by omega)
  refine ps_nd_i (show pm_in ((x2 + 1) + x5) 27400 = true from xgi (show 0 ≤ ((x2 + 1) + x5).toInt from by omega) (show ((x2 + 1) + x5).toInt < 27400 from by omega)) ?_
  have r6_k : ((x2 + 1) + x5).toInt % 41 = 0 → ((x2 + 1) + x5).toInt < 27306 → 0 ≤ (ps_a s 1134 (Int32.toNatClampNeg ((x2 + 1) + x5))).toInt ∧ (ps_a s 1134 (Int32.toNatClampNeg ((x2 + 1) + x5))).toInt ≤ 40 := fun z1_k z2_k => mp_row (i := ((x2 + 1) + x5)) J z1_k (show 0 ≤ ((x2 + 1) + x5).toInt from by omega) z2_k
  refine pg_220_0 ?_
  have a7_k : (x3 + 1).toInt = x3.toInt + (1 : Int) := xIa (show -2147483648 ≤ x3.toInt + (1 : Int) from by omega) (show x3.toInt + (1 : Int) < 2147483648 from by omega)
  have a8_k : ((x3 + 1) + x6).toInt = (x3 + 1).toInt + x6.toInt := xIa (show -2147483648 ≤ (x3 + 1).toInt + x6.toInt from by omega) (show (x3 + 1).toInt + x6.toInt < 2147483648 from by omega)
  refine ps_nd_i (show pm_in ((x3 + 1) + x6) 27400 = true from xgi (show 0 ≤ ((x3 + 1) + x6).toInt from by omega) (show ((x3 + 1) + x6).toInt < 27400 from by omega)) ?_
  have r9_k : ((x3 + 1) + x6).toInt % 41 = 0 → ((x3 + 1) + x6).toInt < 27306 → 0 ≤ (ps_a s 1134 (Int32.toNatClampNeg ((x3 + 1) + x6))).toInt ∧ (ps_a s 1134 (Int32.toNatClampNeg ((x3 + 1) + x6))).toInt ≤ 40 := fun z1_k z2_k => mp_row (i := ((x3 + 1) + x6)) J z1_k (show 0 ≤ ((x3 + 1) + x6).toInt from by omega) z2_k
  refine And.intro (fun h10_k => ?_) (fun h10_k => ?_)
  · have f11_k : (ps_a s 1134 (Int32.toNatClampNeg ((x2 + 1) + x5))).toInt = (ps_a s 1134 (Int32.toNatClampNeg ((x3 + 1) + x6))).toInt := xeq h10_k
    have a12_k : (x5 + 1).toInt = x5.toInt + (1 : Int) := xIa (show -2147483648 ≤ x5.toInt + (1 : Int) from by omega) (show x5.toInt + (1 : Int) < 2147483648 from by omega)
    have a13_k : (x6 + 1).toInt = x6.toInt + (1 : Int) := xIa (show -2147483648 ≤ x6.toInt + (1 : Int) from by omega) (show x6.toInt + (1 : Int) < 2147483648 from by omega)
    exact KH14 x4 (x5 + 1) (x6 + 1) J (show x1.toInt % 41 = 0 from by omega) (show 0 ≤ x1.toInt from by omega) (show x1.toInt < 27306 from by omega) (show x2.toInt % 41 = 0 from by omega) (show 0 ≤ x2.toInt from by omega) (show x2.toInt < 27306 from by omega) (show x3.toInt % 41 = 0 from by omega) (show 0 ≤ x3.toInt from by omega) (show x3.toInt < 27306 from by omega) (show 2 ≤ x4.toInt from by omega) (show x4.toInt ≤ (ps_a s 1134 (Int32.toNatClampNeg x1)).toInt from by omega) (show 0 ≤ (x5 + 1).toInt from by omega) (show (x5 + 1).toInt ≤ (ps_a s 1134 (Int32.toNatClampNeg x2)).toInt from by omega) (show 0 ≤ (x6 + 1).toInt from by omega) (show (x6 + 1).toInt ≤ (ps_a s 1134 (Int32.toNatClampNeg x3)).toInt from by omega) (show 41 - (x5 + 1).toInt ≤ (n14 : Int) - 1 from by omega)
  · have f14_k : (ps_a s 1134 (Int32.toNatClampNeg ((x2 + 1) + x5))).toInt ≠ (ps_a s 1134 (Int32.toNatClampNeg ((x3 + 1) + x6))).toInt := xne h10_k
    exact k (0 : Int32) (by decide)

theorem ms_260_111 {x : Nat → Nat → Nat} {t : Int32} {d : Nat} {s : ps_S} {σ : mSig} {x1 : Int32} {x2 : Int32} {x3 : Int32} {Q : Option Value → ps_S → Prop} (k : ∀ (v : Int32), v &&& 1 = v → Q (some (.int v)) s) (n14 : Nat) (KH14 : ∀ (x4 : Int32) (x5 : Int32) (x6 : Int32), (mJ x t s) → (x1.toInt % 41 = 0) → (0 ≤ x1.toInt) → (x1.toInt < 27306) → (x2.toInt % 41 = 0) → (0 ≤ x2.toInt) → (x2.toInt < 27306) → (x3.toInt % 41 = 0) → (0 ≤ x3.toInt) → (x3.toInt < 27306) → (2 ≤ x4.toInt) → (x4.toInt ≤ (ps_a s 1134 (Int32.toNatClampNeg x1)).toInt) → (0 ≤ x5.toInt) → (x5.toInt ≤ (ps_a s 1134 (Int32.toNatClampNeg x2)).toInt) → (0 ≤ x6.toInt) → (x6.toInt ≤ (ps_a s 1134 (Int32.toNatClampNeg x3)).toInt) → (41 - x5.toInt ≤ (n14 : Int) - 1) → ps_At (d + 2) 260 14 [(0, .ref 1131), (1, .int x1), (2, .int x2), (3, .int x3), (4, .int x4), (5, .int x5), (6, .int x6)] [] s Q) (x4 : Int32) (x5 : Int32) (x6 : Int32) (x7 : Int32) (J : mJ x t s) (i0_k : x1.toInt % 41 = 0) (i1_k : 0 ≤ x1.toInt) (i2_k : x1.toInt < 27306) (i3_k : x2.toInt % 41 = 0) (i4_k : 0 ≤ x2.toInt) (i5_k : x2.toInt < 27306) (i6_k : x3.toInt % 41 = 0) (i7_k : 0 ≤ x3.toInt) (i8_k : x3.toInt < 27306) (i9_k : 2 ≤ x4.toInt) (i10_k : x4.toInt ≤ (ps_a s 1134 (Int32.toNatClampNeg x1)).toInt) (i11_k : 0 ≤ x5.toInt) (i12_k : x5.toInt ≤ (ps_a s 1134 (Int32.toNatClampNeg x2)).toInt) (i13_k : 0 ≤ x6.toInt) (i14_k : x6.toInt ≤ (ps_a s 1134 (Int32.toNatClampNeg x3)).toInt) (i15_k : x5.toInt < (ps_a s 1134 (Int32.toNatClampNeg x2)).toInt) (i16_k : x6.toInt < (ps_a s 1134 (Int32.toNatClampNeg x3)).toInt) (i17_k : x7.toInt = 0 ∨ x5.toInt + (x4.toInt - 1) ≤ (ps_a s 1134 (Int32.toNatClampNeg x2)).toInt) (hm14 : 41 - x5.toInt ≤ (n14 : Int)) : ps_At (d + 2) 260 111 [(0, .ref 1131), (1, .int x1), (2, .int x2), (3, .int x3), (4, .int x4), (5, .int x5), (6, .int x6), (7, .int x7)] [] s Q := by
  have r1_k : x1.toInt % 41 = 0 → x1.toInt < 27306 → 0 ≤ (ps_a s 1134 (Int32.toNatClampNeg x1)).toInt ∧ (ps_a s 1134 (Int32.toNatClampNeg x1)).toInt ≤ 40 := fun z1_k z2_k => mp_row (i := x1) J z1_k (show 0 ≤ x1.toInt from by omega) z2_k
  have r2_k : x2.toInt % 41 = 0 → x2.toInt < 27306 → 0 ≤ (ps_a s 1134 (Int32.toNatClampNeg x2)).toInt ∧ (ps_a s 1134 (Int32.toNatClampNeg x2)).toInt ≤ 40 := fun z1_k z2_k => mp_row (i := x2) J z1_k (show 0 ≤ x2.toInt from by omega) z2_k
  have r3_k : x3.toInt % 41 = 0 → x3.toInt < 27306 → 0 ≤ (ps_a s 1134 (Int32.toNatClampNeg x3)).toInt ∧ (ps_a s 1134 (Int32.toNatClampNeg x3)).toInt ≤ 40 := fun z1_k z2_k => mp_row (i := x3) J z1_k (show 0 ≤ x3.toInt from by omega) z2_k
  refine pg_260_111 (d := d + 1) ?_
  refine And.intro (fun h4_k => ?_) (fun h4_k => ?_)
  · have f5_k : x7.toInt = (0 : Int) := xeq h4_k
    exact ms_260_162 (x1 := x1) (x2 := x2) (x3 := x3) (σ := σ) k n14 KH14 x4 x5 x6 J (show x1.toInt % 41 = 0 from by omega) (show 0 ≤ x1.toInt from by omega) (show x1.toInt < 27306 from by omega) (show x2.toInt % 41 = 0 from by omega) (show 0 ≤ x2.toInt from by omega) (show x2.toInt < 27306 from by omega) (show x3.toInt % 41 = 0 from by omega) (show 0 ≤ x3.toInt from by omega) (show x3.toInt < 27306 from by omega) (show 2 ≤ x4.toInt from by omega) (show x4.toInt ≤ (ps_a s 1134 (Int32.toNatClampNeg x1)).toInt from by omega) (show 0 ≤ x5.toInt from by omega) (show x5.toInt ≤ (ps_a s 1134 (Int32.toNatClampNeg x2)).toInt from by omega) (show 0 ≤ x6.toInt from by omega) (show x6.toInt ≤ (ps_a s 1134 (Int32.toNatClampNeg x3)).toInt from by omega) (show x5.toInt < (ps_a s 1134 (Int32.toNatClampNeg x2)).toInt from by omega) (show x6.toInt < (ps_a s 1134 (Int32.toNatClampNeg x3)).toInt from by omega) (show 41 - x5.toInt ≤ (n14 : Int) from by omega)
  · have f6_k : x7.toInt ≠ (0 : Int) := xne h4_k
    refine pg_219_0 ?_
    refine ps_nd_i (show pm_in x1 27400 = true from xgi (show 0 ≤ x1.toInt from by omega) (show x1.toInt < 27400 from by omega)) ?_
    have a7_k : ((ps_a s 1134 (Int32.toNatClampNeg x1)) - x4).toInt = (ps_a s 1134 (Int32.toNatClampNeg x1)).toInt - x4.toInt := xIs (show -2147483648 ≤ (ps_a s 1134 (Int32.toNatClampNeg x1)).toInt - x4.toInt from by omega) (show (ps_a s 1134 (Int32.toNatClampNeg x1)).toInt - x4.toInt < 2147483648 from by omega)
    refine ms_259 J (show x1.toInt % 41 = 0 from by omega) (show 0 ≤ x1.toInt from by omega) (show x1.toInt < 27306 from by omega) (show x3.toInt % 41 = 0 from by omega) (show 0 ≤ x3.toInt from by omega) (show x3.toInt < 27306 from by omega) (show 0 ≤ x4.toInt from by omega) (show x4.toInt ≤ 41 from by omega) (show 0 ≤ ((ps_a s 1134 (Int32.toNatClampNeg x1)) - x4).toInt from by omega) (show ((ps_a s 1134 (Int32.toNatClampNeg x1)) - x4).toInt ≤ 41 from by omega) (show 0 ≤ x6.toInt from by omega) (show x6.toInt ≤ 41 from by omega) (fun v8 p8_0 b8 => ?_)
    have p8_0' : v8.toInt = 0 ∨ x6.toInt + ((ps_a s 1134 (Int32.toNatClampNeg x1)) - x4).toInt ≤ (ps_a s 1134 (Int32.toNatClampNeg x3)).toInt := p8_0
    refine And.intro (fun h9_k => ?_) (fun h9_k => ?_)
    · have f10_k : v8.toInt = (0 : Int) := xeq h9_k
      exact ms_260_162 (x1 := x1) (x2 := x2) (x3 := x3) (σ := σ) k n14 KH14 x4 x5 x6 J (show x1.toInt % 41 = 0 from by omega) (show 0 ≤ x1.toInt from by omega) (show x1.toInt < 27306 from by omega) (show x2.toInt % 41 = 0 from by omega) (show 0 ≤ x2.toInt from by omega) (show x2.toInt < 27306 from by omega) (show x3.toInt % 41 = 0 from by omega) (show 0 ≤ x3.toInt from by omega) (show x3.toInt < 27306 from by omega) (show 2 ≤ x4.toInt from by omega) (show x4.toInt ≤ (ps_a s 1134 (Int32.toNatClampNeg x1)).toInt from by omega) (show 0 ≤ x5.toInt from by omega) (show x5.toInt ≤ (ps_a s 1134 (Int32.toNatClampNeg x2)).toInt from by omega) (show 0 ≤ x6.toInt from by omega) (show x6.toInt ≤ (ps_a s 1134 (Int32.toNatClampNeg x3)).toInt from by omega) (show x5.toInt < (ps_a s 1134 (Int32.toNatClampNeg x2)).toInt from by omega) (show x6.toInt < (ps_a s 1134 (Int32.toNatClampNeg x3)).toInt from by omega) (show 41 - x5.toInt ≤ (n14 : Int) from by omega)
    · have f11_k : v8.toInt ≠ (0 : Int) := xne h9_k
      have a12_k : (x4 - 1).toInt = x4.toInt - (1 : Int) := xIs (show -2147483648 ≤ x4.toInt - (1 : Int) from by omega) (show x4.toInt - (1 : Int) < 2147483648 from by omega)
      have a13_k : (x5 + (x4 - 1)).toInt = x5.toInt + (x4 - 1).toInt := xIa (show -2147483648 ≤ x5.toInt + (x4 - 1).toInt from by omega) (show x5.toInt + (x4 - 1).toInt < 2147483648 from by omega)
      refine pg_219_0 ?_
      refine ps_nd_i (show pm_in x1 27400 = true from xgi (show 0 ≤ x1.toInt from by omega) (show x1.toInt < 27400 from by omega)) ?_
      have a14_k : (x6 + ((ps_a s 1134 (Int32.toNatClampNeg x1)) - x4)).toInt = x6.toInt + ((ps_a s 1134 (Int32.toNatClampNeg x1)) - x4).toInt := xIa (show -2147483648 ≤ x6.toInt + ((ps_a s 1134 (Int32.toNatClampNeg x1)) - x4).toInt from by omega) (show x6.toInt + ((ps_a s 1134 (Int32.toNatClampNeg x1)) - x4).toInt < 2147483648 from by omega)
      exact KH14 x4 (x5 + (x4 - 1)) (x6 + ((ps_a s 1134 (Int32.toNatClampNeg x1)) - x4)) J (show x1.toInt % 41 = 0 from by omega) (show 0 ≤ x1.toInt from by omega) (show x1.toInt < 27306 from by omega) (show x2.toInt % 41 = 0 from by omega) (show 0 ≤ x2.toInt from by omega) (show x2.toInt < 27306 from by omega) (show x3.toInt % 41 = 0 from by omega) (show 0 ≤ x3.toInt from by omega) (show x3.toInt < 27306 from by omega) (show 2 ≤ x4.toInt from by omega) (show x4.toInt ≤ (ps_a s 1134 (Int32.toNatClampNeg x1)).toInt from by omega) (show 0 ≤ (x5 + (x4 - 1)).toInt from by omega) (show (x5 + (x4 - 1)).toInt ≤ (ps_a s 1134 (Int32.toNatClampNeg x2)).toInt from by omega) (show 0 ≤ (x6 + ((ps_a s 1134 (Int32.toNatClampNeg x1)) - x4)).toInt from by omega) (show (x6 + ((ps_a s 1134 (Int32.toNatClampNeg x1)) - x4)).toInt ≤ (ps_a s 1134 (Int32.toNatClampNeg x3)).toInt from by omega) (show 41 - (x5 + (x4 - 1)).toInt ≤ (n14 : Int) - 1 from by omega)

theorem ms_260_66 {x : Nat → Nat → Nat} {t : Int32} {d : Nat} {s : ps_S} {σ : mSig} {x1 : Int32} {x2 : Int32} {x3 : Int32} {Q : Option Value → ps_S → Prop} (k : ∀ (v : Int32), v &&& 1 = v → Q (some (.int v)) s) (n14 : Nat) (KH14 : ∀ (x4 : Int32) (x5 : Int32) (x6 : Int32), (mJ x t s) → (x1.toInt % 41 = 0) → (0 ≤ x1.toInt) → (x1.toInt < 27306) → (x2.toInt % 41 = 0) → (0 ≤ x2.toInt) → (x2.toInt < 27306) → (x3.toInt % 41 = 0) → (0 ≤ x3.toInt) → (x3.toInt < 27306) → (2 ≤ x4.toInt) → (x4.toInt ≤ (ps_a s 1134 (Int32.toNatClampNeg x1)).toInt) → (0 ≤ x5.toInt) → (x5.toInt ≤ (ps_a s 1134 (Int32.toNatClampNeg x2)).toInt) → (0 ≤ x6.toInt) → (x6.toInt ≤ (ps_a s 1134 (Int32.toNatClampNeg x3)).toInt) → (41 - x5.toInt ≤ (n14 : Int) - 1) → ps_At (d + 2) 260 14 [(0, .ref 1131), (1, .int x1), (2, .int x2), (3, .int x3), (4, .int x4), (5, .int x5), (6, .int x6)] [] s Q) (x4 : Int32) (x5 : Int32) (x6 : Int32) (J : mJ x t s) (i0_k : x1.toInt % 41 = 0) (i1_k : 0 ≤ x1.toInt) (i2_k : x1.toInt < 27306) (i3_k : x2.toInt % 41 = 0) (i4_k : 0 ≤ x2.toInt) (i5_k : x2.toInt < 27306) (i6_k : x3.toInt % 41 = 0) (i7_k : 0 ≤ x3.toInt) (i8_k : x3.toInt < 27306) (i9_k : 2 ≤ x4.toInt) (i10_k : x4.toInt ≤ (ps_a s 1134 (Int32.toNatClampNeg x1)).toInt) (i11_k : 0 ≤ x5.toInt) (i12_k : x5.toInt ≤ (ps_a s 1134 (Int32.toNatClampNeg x2)).toInt) (i13_k : 0 ≤ x6.toInt) (i14_k : x6.toInt ≤ (ps_a s 1134 (Int32.toNatClampNeg x3)).toInt) (i15_k : x5.toInt < (ps_a s 1134 (Int32.toNatClampNeg x2)).toInt) (i16_k : x6.toInt < (ps_a s 1134 (Int32.toNatClampNeg x3)).toInt) (hm14 : 41 - x5.toInt ≤ (n14 : Int)) : ps_At (d + 2) 260 66 [(0, .ref 1131), (1, .int x1), (2, .int x2), (3, .int x3), (4, .int x4), (5, .int x5), (6, .int x6)] [] s Q := by
  have r1_k : x1.toInt % 41 = 0 → x1.toInt < 27306 → 0 ≤ (ps_a s 1134 (Int32.toNatClampNeg x1)).toInt ∧ (ps_a s 1134 (Int32.toNatClampNeg x1)).toInt ≤ 40 := fun z1_k z2_k => mp_row (i := x1) J z1_k (show 0 ≤ x1.toInt from by omega) z2_k
  have r2_k : x2.toInt % 41 = 0 → x2.toInt < 27306 → 0 ≤ (ps_a s 1134 (Int32.toNatClampNeg x2)).toInt ∧ (ps_a s 1134 (Int32.toNatClampNeg x2)).toInt ≤ 40 := fun z1_k z2_k => mp_row (i := x2) J z1_k (show 0 ≤ x2.toInt from by omega) z2_k
  have r3_k : x3.toInt % 41 = 0 → x3.toInt < 27306 → 0 ≤ (ps_a s 1134 (Int32.toNatClampNeg x3)).toInt ∧ (ps_a s 1134 (Int32.toNatClampNeg x3)).toInt ≤ 40 := fun z1_k z2_k => mp_row (i := x3) J z1_k (show 0 ≤ x3.toInt from by omega) z2_k
  refine pg_260_66 (d := d + 1) ?_
  refine And.intro (fun h4_k => ?_) (fun h4_k => ?_)
  · exact ms_260_111 (x1 := x1) (x2 := x2) (x3 := x3) (σ := σ) k n14 KH14 x4 x5 x6 (0) J (show x1.toInt % 41 = 0 from by omega) (show 0 ≤ x1.toInt from by omega) (show x1.toInt < 27306 from by omega) (show x2.toInt % 41 = 0 from by omega) (show 0 ≤ x2.toInt from by omega) (show x2.toInt < 27306 from by omega) (show x3.toInt % 41 = 0 from by omega) (show 0 ≤ x3.toInt from by omega) (show x3.toInt < 27306 from by omega) (show 2 ≤ x4.toInt from by omega) (show x4.toInt ≤ (ps_a s 1134 (Int32.toNatClampNeg x1)).toInt from by omega) (show 0 ≤ x5.toInt from by omega) (show x5.toInt ≤ (ps_a s 1134 (Int32.toNatClampNeg x2)).toInt from by omega) (show 0 ≤ x6.toInt from by omega) (show x6.toInt ≤ (ps_a s 1134 (Int32.toNatClampNeg x3)).toInt from by omega) (show x5.toInt < (ps_a s 1134 (Int32.toNatClampNeg x2)).toInt from by omega) (show x6.toInt < (ps_a s 1134 (Int32.toNatClampNeg x3)).toInt from by omega) (show (0 : Int) = 0 ∨ x5.toInt + (x4.toInt - 1) ≤ (ps_a s 1134 (Int32.toNatClampNeg x2)).toInt from by omega) (show 41 - x5.toInt ≤ (n14 : Int) from by omega)
  · exact absurd (show (0 : Int32) ≠ (0 : Int32) from h4_k) (by decide)

theorem ms_260_190 {x : Nat → Nat → Nat} {t : Int32} {d : Nat} {s : ps_S} {σ : mSig} {x1 : Int32} {x2 : Int32} {x3 : Int32} {Q : Option Value → ps_S → Prop} (k : ∀ (v : Int32), v &&& 1 = v → Q (some (.int v)) s) (x5 : Int32) (x6 : Int32) (J : mJ x t s) (i0_k : x2.toInt % 41 = 0) (i1_k : 0 ≤ x2.toInt) (i2_k : x2.toInt < 27306) (i3_k : x3.toInt % 41 = 0) (i4_k : 0 ≤ x3.toInt) (i5_k : x3.toInt < 27306) (i6_k : 0 ≤ x5.toInt) (i7_k : x5.toInt ≤ (ps_a s 1134 (Int32.toNatClampNeg x2)).toInt) (i8_k : 0 ≤ x6.toInt) (i9_k : x6.toInt ≤ (ps_a s 1134 (Int32.toNatClampNeg x3)).toInt) : ps_At (d + 2) 260 190 [(0, .ref 1131), (2, .int x2), (3, .int x3), (5, .int x5), (6, .int x6)] [] s Q := by
  have r1_k : x2.toInt % 41 = 0 → x2.toInt < 27306 → 0 ≤ (ps_a s 1134 (Int32.toNatClampNeg x2)).toInt ∧ (ps_a s 1134 (Int32.toNatClampNeg x2)).toInt ≤ 40 := fun z1_k z2_k => mp_row (i := x2) J z1_k (show 0 ≤ x2.toInt from by omega) z2_k
  have r2_k : x3.toInt % 41 = 0 → x3.toInt < 27306 → 0 ≤ (ps_a s 1134 (Int32.toNatClampNeg x3)).toInt ∧ (ps_a s 1134 (Int32.toNatClampNeg x3)).toInt ≤ 40 := fun z1_k z2_k => mp_row (i := x3) J z1_k (show 0 ≤ x3.toInt from by omega) z2_k
  refine pg_260_190 (d := d + 1) ?_
  refine pg_219_0 ?_
  refine ps_nd_i (show pm_in x2 27400 = true from xgi (show 0 ≤ x2.toInt from by omega) (show x2.toInt < 27400 from by omega)) ?_
  refine And.intro (fun h3_k => ?_) (fun h3_k => ?_)
  · have f4_k : x5.toInt ≠ (ps_a s 1134 (Int32.toNatClampNeg x2)).toInt := xne h3_k
    exact k (0 : Int32) (by decide)
  · have f5_k : x5.toInt = (ps_a s 1134 (Int32.toNatClampNeg x2)).toInt := xeq h3_k
    refine pg_219_0 ?_
    refine ps_nd_i (show pm_in x3 27400 = true from xgi (show 0 ≤ x3.toInt from by omega) (show x3.toInt < 27400 from by omega)) ?_
    refine And.intro (fun h6_k => ?_) (fun h6_k => ?_)
    · have f7_k : x6.toInt ≠ (ps_a s 1134 (Int32.toNatClampNeg x3)).toInt := xne h6_k
      exact k (0 : Int32) (by decide)
    · have f8_k : x6.toInt = (ps_a s 1134 (Int32.toNatClampNeg x3)).toInt := xeq h6_k
      exact k (1 : Int32) (by decide)

theorem ms_260_14 {x : Nat → Nat → Nat} {t : Int32} {d : Nat} {s : ps_S} {σ : mSig} {x1 : Int32} {x2 : Int32} {x3 : Int32} {Q : Option Value → ps_S → Prop} (k : ∀ (v : Int32), v &&& 1 = v → Q (some (.int v)) s) : ∀ (n : Nat) (x4 : Int32) (x5 : Int32) (x6 : Int32), (mJ x t s) → (x1.toInt % 41 = 0) → (0 ≤ x1.toInt) → (x1.toInt < 27306) → (x2.toInt % 41 = 0) → (0 ≤ x2.toInt) → (x2.toInt < 27306) → (x3.toInt % 41 = 0) → (0 ≤ x3.toInt) → (x3.toInt < 27306) → (2 ≤ x4.toInt) → (x4.toInt ≤ (ps_a s 1134 (Int32.toNatClampNeg x1)).toInt) → (0 ≤ x5.toInt) → (x5.toInt ≤ (ps_a s 1134 (Int32.toNatClampNeg x2)).toInt) → (0 ≤ x6.toInt) → (x6.toInt ≤ (ps_a s 1134 (Int32.toNatClampNeg x3)).toInt) → 41 - x5.toInt ≤ (n : Int) → ps_At (d + 2) 260 14 [(0, .ref 1131), (1, .int x1), (2, .int x2), (3, .int x3), (4, .int x4), (5, .int x5), (6, .int x6)] [] s Q := by
  refine xstr (fun n ih => ?_)
  intro x4 x5 x6 J i0_k i1_k i2_k i3_k i4_k i5_k i6_k i7_k i8_k i9_k i10_k i11_k i12_k i13_k i14_k hm
  have r1_k : x1.toInt % 41 = 0 → x1.toInt < 27306 → 0 ≤ (ps_a s 1134 (Int32.toNatClampNeg x1)).toInt ∧ (ps_a s 1134 (Int32.toNatClampNeg x1)).toInt ≤ 40 := fun z1_k z2_k => mp_row (i := x1) J z1_k (show 0 ≤ x1.toInt from by omega) z2_k
  have r2_k : x2.toInt % 41 = 0 → x2.toInt < 27306 → 0 ≤ (ps_a s 1134 (Int32.toNatClampNeg x2)).toInt ∧ (ps_a s 1134 (Int32.toNatClampNeg x2)).toInt ≤ 40 := fun z1_k z2_k => mp_row (i := x2) J z1_k (show 0 ≤ x2.toInt from by omega) z2_k
  have r3_k : x3.toInt % 41 = 0 → x3.toInt < 27306 → 0 ≤ (ps_a s 1134 (Int32.toNatClampNeg x3)).toInt ∧ (ps_a s 1134 (Int32.toNatClampNeg x3)).toInt ≤ 40 := fun z1_k z2_k => mp_row (i := x3) J z1_k (show 0 ≤ x3.toInt from by omega) z2_k
  refine pg_260_14 (d := d + 1) ?_
  refine pg_219_0 ?_
  refine ps_nd_i (show pm_in x2 27400 = true from xgi (show 0 ≤ x2.toInt from by omega) (show x2.toInt < 27400 from by omega)) ?_
  refine And.intro (fun h4_k => ?_) (fun h4_k => ?_)
  · have f5_k : (ps_a s 1134 (Int32.toNatClampNeg x2)).toInt ≤ x5.toInt := xle h4_k
    exact ms_260_190 (x1 := x1) (x2 := x2) (x3 := x3) (σ := σ) k  x5 x6 J (show x2.toInt % 41 = 0 from by omega) (show 0 ≤ x2.toInt from by omega) (show x2.toInt < 27306 from by omega) (show x3.toInt % 41 = 0 from by omega) (show 0 ≤ x3.toInt from by omega) (show x3.toInt < 27306 from by omega) (show 0 ≤ x5.toInt from by omega) (show x5.toInt ≤ (ps_a s 1134 (Int32.toNatClampNeg x2)).toInt from by omega) (show 0 ≤ x6.toInt from by omega) (show x6.toInt ≤ (ps_a s 1134 (Int32.toNatClampNeg x3)).toInt from by omega)
  · have f6_k : x5.toInt < (ps_a s 1134 (Int32.toNatClampNeg x2)).toInt := xlt h4_k
    refine pg_219_0 ?_
    refine ps_nd_i (show pm_in x3 27400 = true from xgi (show 0 ≤ x3.toInt from by omega) (show x3.toInt < 27400 from by omega)) ?_
    refine And.intro (fun h7_k => ?_) (fun h7_k => ?_)
    · have f8_k : (ps_a s 1134 (Int32.toNatClampNeg x3)).toInt ≤ x6.toInt := xle h7_k
      exact ms_260_190 (x1 := x1) (x2 := x2) (x3 := x3) (σ := σ) k  x5 x6 J (show x2.toInt % 41 = 0 from by omega) (show 0 ≤ x2.toInt from by omega) (show x2.toInt < 27306 from by omega) (show x3.toInt % 41 = 0 from by omega) (show 0 ≤ x3.toInt from by omega) (show x3.toInt < 27306 from by omega) (show 0 ≤ x5.toInt from by omega) (show x5.toInt ≤ (ps_a s 1134 (Int32.toNatClampNeg x2)).toInt from by omega) (show 0 ≤ x6.toInt from by omega) (show x6.toInt ≤ (ps_a s 1134 (Int32.toNatClampNeg x3)).toInt from by omega)
    · have f9_k : x6.toInt < (ps_a s 1134 (Int32.toNatClampNeg x3)).toInt := xlt h7_k
      refine pg_220_0 ?_
      have a10_k : (x2 + 1).toInt = x2.toInt + (1 : Int) := xIa (show -2147483648 ≤ x2.toInt + (1 : Int) from by omega) (show x2.toInt + (1 : Int) < 2147483648 from by omega)
      have a11_k : ((x2 + 1) + x5).toInt = (x2 + 1).toInt + x5.toInt := xIa (show -2147483648 ≤ (x2 + 1).toInt + x5.toInt from by omega) (show (x2 + 1).toInt + x5.toInt < 2147483648 from by omega)
      refine ps_nd_i (show pm_in ((x2 + 1) + x5) 27400 = true from xgi (show 0 ≤ ((x2 + 1) + x5).toInt from by omega) (show ((x2 + 1) + x5).toInt < 27400 from by omega)) ?_
      have r12_k : ((x2 + 1) + x5).toInt % 41 = 0 → ((x2 + 1) + x5).toInt < 27306 → 0 ≤ (ps_a s 1134 (Int32.toNatClampNeg ((x2 + 1) + x5))).toInt ∧ (ps_a s 1134 (Int32.toNatClampNeg ((x2 + 1) + x5))).toInt ≤ 40 := fun z1_k z2_k => mp_row (i := ((x2 + 1) + x5)) J z1_k (show 0 ≤ ((x2 + 1) + x5).toInt from by omega) z2_k
      refine And.intro (fun h13_k => ?_) (fun h13_k => ?_)
      · have f14_k : (ps_a s 1134 (Int32.toNatClampNeg ((x2 + 1) + x5))).toInt < (20 : Int) := xlt h13_k
        exact ms_260_66 (x1 := x1) (x2 := x2) (x3 := x3) (σ := σ) k n (fun x4z x5z x6z Jz i0z i1z i2z i3z i4z i5z i6z i7z i8z i9z i10z i11z i12z i13z i14z hm => ih (n - 1) (show n - 1 < n from by omega) x4z x5z x6z Jz i0z i1z i2z i3z i4z i5z i6z i7z i8z i9z i10z i11z i12z i13z i14z (show _ ≤ ((n - 1 : Nat) : Int) from by omega)) x4 x5 x6 J (show x1.toInt % 41 = 0 from by omega) (show 0 ≤ x1.toInt from by omega) (show x1.toInt < 27306 from by omega) (show x2.toInt % 41 = 0 from by omega) (show 0 ≤ x2.toInt from by omega) (show x2.toInt < 27306 from by omega) (show x3.toInt % 41 = 0 from by omega) (show 0 ≤ x3.toInt from by omega) (show x3.toInt < 27306 from by omega) (show 2 ≤ x4.toInt from by omega) (show x4.toInt ≤ (ps_a s 1134 (Int32.toNatClampNeg x1)).toInt from by omega) (show 0 ≤ x5.toInt from by omega) (show x5.toInt ≤ (ps_a s 1134 (Int32.toNatClampNeg x2)).toInt from by omega) (show 0 ≤ x6.toInt from by omega) (show x6.toInt ≤ (ps_a s 1134 (Int32.toNatClampNeg x3)).toInt from by omega) (show x5.toInt < (ps_a s 1134 (Int32.toNatClampNeg x2)).toInt from by omega) (show x6.toInt < (ps_a s 1134 (Int32.toNatClampNeg x3)).toInt from by omega) (show 41 - x5.toInt ≤ ((n : Nat) : Int) from by omega)
      · have f15_k : (20 : Int) ≤ (ps_a s 1134 (Int32.toNatClampNeg ((x2 + 1) + x5))).toInt := xle h13_k
        have a16_k : (x4 - 1).toInt = x4.toInt - (1 : Int) := xIs (show -2147483648 ≤ x4.toInt - (1 : Int) from by omega) (show x4.toInt - (1 : Int) < 2147483648 from by omega)
        refine ms_259 J (show x1.toInt % 41 = 0 from by omega) (show 0 ≤ x1.toInt from by omega) (show x1.toInt < 27306 from by omega) (show x2.toInt % 41 = 0 from by omega) (show 0 ≤ x2.toInt from by omega) (show x2.toInt < 27306 from by omega) (show 0 ≤ (1 : Int) from by omega) (show (1 : Int) ≤ 41 from by omega) (show 0 ≤ (x4 - 1).toInt from by omega) (show (x4 - 1).toInt ≤ 41 from by omega) (show 0 ≤ x5.toInt from by omega) (show x5.toInt ≤ 41 from by omega) (fun v17 p17_0 b17 => ?_)
        have p17_0' : v17.toInt = 0 ∨ x5.toInt + (x4 - 1).toInt ≤ (ps_a s 1134 (Int32.toNatClampNeg x2)).toInt := p17_0
        refine And.intro (fun h18_k => ?_) (fun h18_k => ?_)
        · have f19_k : v17.toInt = (0 : Int) := xeq h18_k
          exact ms_260_66 (x1 := x1) (x2 := x2) (x3 := x3) (σ := σ) k n (fun x4z x5z x6z Jz i0z i1z i2z i3z i4z i5z i6z i7z i8z i9z i10z i11z i12z i13z i14z hm => ih (n - 1) (show n - 1 < n from by omega) x4z x5z x6z Jz i0z i1z i2z i3z i4z i5z i6z i7z i8z i9z i10z i11z i12z i13z i14z (show _ ≤ ((n - 1 : Nat) : Int) from by omega)) x4 x5 x6 J (show x1.toInt % 41 = 0 from by omega) (show 0 ≤ x1.toInt from by omega) (show x1.toInt < 27306 from by omega) (show x2.toInt % 41 = 0 from by omega) (show 0 ≤ x2.toInt from by omega) (show x2.toInt < 27306 from by omega) (show x3.toInt % 41 = 0 from by omega) (show 0 ≤ x3.toInt from by omega) (show x3.toInt < 27306 from by omega) (show 2 ≤ x4.toInt from by omega) (show x4.toInt ≤ (ps_a s 1134 (Int32.toNatClampNeg x1)).toInt from by omega) (show 0 ≤ x5.toInt from by omega) (show x5.toInt ≤ (ps_a s 1134 (Int32.toNatClampNeg x2)).toInt from by omega) (show 0 ≤ x6.toInt from by omega) (show x6.toInt ≤ (ps_a s 1134 (Int32.toNatClampNeg x3)).toInt from by omega) (show x5.toInt < (ps_a s 1134 (Int32.toNatClampNeg x2)).toInt from by omega) (show x6.toInt < (ps_a s 1134 (Int32.toNatClampNeg x3)).toInt from by omega) (show 41 - x5.toInt ≤ ((n : Nat) : Int) from by omega)
        · have f20_k : v17.toInt ≠ (0 : Int) := xne h18_k
          refine And.intro (fun h21_k => ?_) (fun h21_k => ?_)
          · exact absurd (show (1 : Int32) = (0 : Int32) from h21_k) (by decide)
          · have f22_k : (1 : Int) ≠ (0 : Int) := xne h21_k
            refine ms_259 J (show x1.toInt % 41 = 0 from by omega) (show 0 ≤ x1.toInt from by omega) (show x1.toInt < 27306 from by omega) (show x3.toInt % 41 = 0 from by omega) (show 0 ≤ x3.toInt from by omega) (show x3.toInt < 27306 from by omega) (show 0 ≤ (1 : Int) from by omega) (show (1 : Int) ≤ 41 from by omega) (show 0 ≤ (x4 - 1).toInt from by omega) (show (x4 - 1).toInt ≤ 41 from by omega) (show 0 ≤ x6.toInt from by omega) (show x6.toInt ≤ 41 from by omega) (fun v23 p23_0 b23 => ?_)
            have p23_0' : v23.toInt = 0 ∨ x6.toInt + (x4 - 1).toInt ≤ (ps_a s 1134 (Int32.toNatClampNeg x3)).toInt := p23_0
            refine And.intro (fun h24_k => ?_) (fun h24_k => ?_)
            · have f25_k : v23.toInt = (0 : Int) := xeq h24_k
              exact ms_260_111 (x1 := x1) (x2 := x2) (x3 := x3) (σ := σ) k n (fun x4z x5z x6z Jz i0z i1z i2z i3z i4z i5z i6z i7z i8z i9z i10z i11z i12z i13z i14z hm => ih (n - 1) (show n - 1 < n from by omega) x4z x5z x6z Jz i0z i1z i2z i3z i4z i5z i6z i7z i8z i9z i10z i11z i12z i13z i14z (show _ ≤ ((n - 1 : Nat) : Int) from by omega)) x4 x5 x6 (1) J (show x1.toInt % 41 = 0 from by omega) (show 0 ≤ x1.toInt from by omega) (show x1.toInt < 27306 from by omega) (show x2.toInt % 41 = 0 from by omega) (show 0 ≤ x2.toInt from by omega) (show x2.toInt < 27306 from by omega) (show x3.toInt % 41 = 0 from by omega) (show 0 ≤ x3.toInt from by omega) (show x3.toInt < 27306 from by omega) (show 2 ≤ x4.toInt from by omega) (show x4.toInt ≤ (ps_a s 1134 (Int32.toNatClampNeg x1)).toInt from by omega) (show 0 ≤ x5.toInt from by omega) (show x5.toInt ≤ (ps_a s 1134 (Int32.toNatClampNeg x2)).toInt from by omega) (show 0 ≤ x6.toInt from by omega) (show x6.toInt ≤ (ps_a s 1134 (Int32.toNatClampNeg x3)).toInt from by omega) (show x5.toInt < (ps_a s 1134 (Int32.toNatClampNeg x2)).toInt from by omega) (show x6.toInt < (ps_a s 1134 (Int32.toNatClampNeg x3)).toInt from by omega) (show (1 : Int) = 0 ∨ x5.toInt + (x4.toInt - 1) ≤ (ps_a s 1134 (Int32.toNatClampNeg x2)).toInt from by omega) (show 41 - x5.toInt ≤ ((n : Nat) : Int) from by omega)
            · have f26_k : v23.toInt ≠ (0 : Int) := xne h24_k
              have a27_k : (x5 + (x4 - 1)).toInt = x5.toInt + (x4 - 1).toInt := xIa (show -2147483648 ≤ x5.toInt + (x4 - 1).toInt from by omega) (show x5.toInt + (x4 - 1).toInt < 2147483648 from by omega)
              have a28_k : (x6 + (x4 - 1)).toInt = x6.toInt + (x4 - 1).toInt := xIa (show -2147483648 ≤ x6.toInt + (x4 - 1).toInt from by omega) (show x6.toInt + (x4 - 1).toInt < 2147483648 from by omega)
              exact ih (n - 1) (show n - 1 < n from by omega) x4 (x5 + (x4 - 1)) (x6 + (x4 - 1)) J (show x1.toInt % 41 = 0 from by omega) (show 0 ≤ x1.toInt from by omega) (show x1.toInt < 27306 from by omega) (show x2.toInt % 41 = 0 from by omega) (show 0 ≤ x2.toInt from by omega) (show x2.toInt < 27306 from by omega) (show x3.toInt % 41 = 0 from by omega) (show 0 ≤ x3.toInt from by omega) (show x3.toInt < 27306 from by omega) (show 2 ≤ x4.toInt from by omega) (show x4.toInt ≤ (ps_a s 1134 (Int32.toNatClampNeg x1)).toInt from by omega) (show 0 ≤ (x5 + (x4 - 1)).toInt from by omega) (show (x5 + (x4 - 1)).toInt ≤ (ps_a s 1134 (Int32.toNatClampNeg x2)).toInt from by omega) (show 0 ≤ (x6 + (x4 - 1)).toInt from by omega) (show (x6 + (x4 - 1)).toInt ≤ (ps_a s 1134 (Int32.toNatClampNeg x3)).toInt from by omega) (show 41 - (x5 + (x4 - 1)).toInt ≤ ((n - 1 : Nat) : Int) from by omega)

theorem ms_260 {x : Nat → Nat → Nat} {t : Int32} {s : ps_S} {d : Nat} {x1 : Int32} {x2 : Int32} {x3 : Int32} {f : Int32 → ps_S → Prop} (J : mJ x t s) {σ : mSig} (hS : Sg (ps_a s 1135) (ps_a s 1136) (ps_a s 1138) (ps_a s 1139) (ps_i s 1131 21).toInt σ) (hF : Fm σ (ps_a s 1134) x1.toInt) (q2_k : x1.toInt % 41 = 0) (q3_k : 0 ≤ x1.toInt) (q4_k : x1.toInt < 27306) (q5_k : x2.toInt % 41 = 0) (q6_k : 0 ≤ x2.toInt) (q7_k : x2.toInt < 27306) (q8_k : x3.toInt % 41 = 0) (q9_k : 0 ≤ x3.toInt) (q10_k : x3.toInt < 27306) (q11_k : (ps_a s 1134 (Int32.toNatClampNeg ((x1 + 1) + 0))).toInt = 6) (k : ∀ (v : Int32), v &&& 1 = v → f v s) : ps_Cl (d + 2) 260 [.ref 1131, .int x1, .int x2, .int x3] s (ps_rI f) := by
  refine pg_260_0 (d := d + 1) ?_
  obtain ⟨l, hl1, hl2⟩ := id hF
  obtain ⟨c, l3, rfl⟩ := wf_ne hl2
  have hp_k := Rw_p (l1 := []) (i := 0) hl1 rfl rfl
  have hlen := hl1.2.2.2.1
  have hc1 : c = 6 := by omega
  subst hc1
  obtain ⟨ks_k, hk_k, hw2⟩ := ws_hd (show ws σ (6 :: l3) [true] from wf_ws hl2)
  rw [kS_f6] at hk_k
  cases hk_k
  obtain ⟨p, q, hpq_k, hp1, hp2⟩ := ws_split (W1 := [false]) (W2 := [false]) hw2
  subst hpq_k
  have hp3 := ws_le hp1
  have hn_k : (ps_a s 1134 (Int32.toNatClampNeg x1)).toInt = (1 + p.length + q.length : Int) := (Rw_n hl1).trans (by simp only [List.length_cons, List.length_append]; omega)
  have hp4 : 1 ≤ p.length := hp3
  refine ms_221 J hS ((show Rw (ps_a s 1134) (x1).toInt ([6] ++ (p ++ q)) from hl1)) (rfl) (hp1) (fun v1 p1_0 => ?_)
  have hv_k : _ := p1_0
  have hv2 : (v1).toInt = 1 + (p.length : Int) := hv_k
  have r2_k : x1.toInt % 41 = 0 → x1.toInt < 27306 → 0 ≤ (ps_a s 1134 (Int32.toNatClampNeg x1)).toInt ∧ (ps_a s 1134 (Int32.toNatClampNeg x1)).toInt ≤ 40 := fun z1_k z2_k => mp_row (i := x1) J z1_k (show 0 ≤ x1.toInt from by omega) z2_k
  have r3_k : x2.toInt % 41 = 0 → x2.toInt < 27306 → 0 ≤ (ps_a s 1134 (Int32.toNatClampNeg x2)).toInt ∧ (ps_a s 1134 (Int32.toNatClampNeg x2)).toInt ≤ 40 := fun z1_k z2_k => mp_row (i := x2) J z1_k (show 0 ≤ x2.toInt from by omega) z2_k
  have r4_k : x3.toInt % 41 = 0 → x3.toInt < 27306 → 0 ≤ (ps_a s 1134 (Int32.toNatClampNeg x3)).toInt ∧ (ps_a s 1134 (Int32.toNatClampNeg x3)).toInt ≤ 40 := fun z1_k z2_k => mp_row (i := x3) J z1_k (show 0 ≤ x3.toInt from by omega) z2_k
  exact ms_260_14 (x1 := x1) (x2 := x2) (x3 := x3) (σ := σ) k  (41 - (0 : Int)).toNat v1 (0) (0) J (show x1.toInt % 41 = 0 from by omega) (show 0 ≤ x1.toInt from by omega) (show x1.toInt < 27306 from by omega) (show x2.toInt % 41 = 0 from by omega) (show 0 ≤ x2.toInt from by omega) (show x2.toInt < 27306 from by omega) (show x3.toInt % 41 = 0 from by omega) (show 0 ≤ x3.toInt from by omega) (show x3.toInt < 27306 from by omega) (show 2 ≤ v1.toInt from by omega) (show v1.toInt ≤ (ps_a s 1134 (Int32.toNatClampNeg x1)).toInt from by omega) (show 0 ≤ (0 : Int) from by omega) (show (0 : Int) ≤ (ps_a s 1134 (Int32.toNatClampNeg x2)).toInt from by omega) (show 0 ≤ (0 : Int) from by omega) (show (0 : Int) ≤ (ps_a s 1134 (Int32.toNatClampNeg x3)).toInt from by omega) (show 41 - (0 : Int) ≤ (((41 - (0 : Int)).toNat : Nat) : Int) from by omega)
