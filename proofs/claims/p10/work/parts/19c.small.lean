set_option maxRecDepth 100000
-- ProofBenchModel.manyOf(I)I
theorem pg_219_0 {d : Nat} {x1 : Int32} {s : ps_S} {Q : Option Value → ps_S → Prop} (h :
  ps_nd (pm_in x1 27400) (Q (some (.int (ps_a s 1134 (Int32.toNatClampNeg x1)))) s)) : ps_At d 219 0 [(0, .ref 1131), (1, .int x1)] [] s Q :=
  ps_wp_at (stops := []) (n := 7) h rfl

-- ProofBenchModel.pieceAt(II)I
theorem pg_220_0 {d : Nat} {x1 : Int32} {x2 : Int32} {s : ps_S} {Q : Option Value → ps_S → Prop} (h :
  ps_nd (pm_in ((x1 + 1) + x2) 27400) (Q (some (.int (ps_a s 1134 (Int32.toNatClampNeg ((x1 + 1) + x2))))) s)) : ps_At d 220 0 [(0, .ref 1131), (1, .int x1), (2, .int x2)] [] s Q :=
  ps_wp_at (stops := []) (n := 11) h rfl

-- ProofBenchModel.areAlike(II)Z
theorem pg_222_0 {d : Nat} {x1 : Int32} {x2 : Int32} {s : ps_S} {Q : Option Value → ps_S → Prop} (h :
  ps_Cl d 219 [.ref 1131, .int x1] s (ps_rI (fun v1 s1 =>
    ps_Cl d 219 [.ref 1131, .int x2] s1 (ps_rI (fun v2 s2 =>
      (v1 = v2 →
        ps_At (d + 1) 222 17 [(0, .ref 1131), (1, .int x1), (2, .int x2), (3, .int 0)] [] s2 Q) ∧
      (v1 ≠ v2 →
        Q (some (.int 0)) s2)))))) : ps_At (d + 1) 222 0 [(0, .ref 1131), (1, .int x1), (2, .int x2)] [] s Q :=
  ps_wp_at (stops := [(17, [0, 1, 2, 3])]) (n := 13) h rfl

theorem pg_222_17 {d : Nat} {x1 : Int32} {x2 : Int32} {x3 : Int32} {s : ps_S} {Q : Option Value → ps_S → Prop} (h :
  ps_Cl d 219 [.ref 1131, .int x1] s (ps_rI (fun v1 s1 =>
    (v1 ≤ x3 →
      Q (some (.int 1)) s1) ∧
    (x3 < v1 →
      ps_Cl d 220 [.ref 1131, .int x1, .int x3] s1 (ps_rI (fun v2 s2 =>
        ps_Cl d 220 [.ref 1131, .int x2, .int x3] s2 (ps_rI (fun v3 s3 =>
          (v2 = v3 →
            ps_At (d + 1) 222 17 [(0, .ref 1131), (1, .int x1), (2, .int x2), (3, .int (x3 + 1))] [] s3 Q) ∧
          (v2 ≠ v3 →
            Q (some (.int 0)) s3))))))))) : ps_At (d + 1) 222 17 [(0, .ref 1131), (1, .int x1), (2, .int x2), (3, .int x3)] [] s Q :=
  ps_wp_at (stops := [(17, [0, 1, 2, 3])]) (n := 22) h rfl

theorem ms_222_17 {x : Nat → Nat → Nat} {t : Int32} {d : Nat} {s : ps_S} {x1 : Int32} {x2 : Int32} {Q : Option Value → ps_S → Prop} (k : ∀ (v : Int32), v &&& 1 = v → Q (some (.int v)) s) : ∀ (n : Nat) (x3 : Int32), (mJ x t s) → (x1.toInt % 41 = 0) → (0 ≤ x1.toInt) → (x1.toInt < 27306) → (x2.toInt % 41 = 0) → (0 ≤ x2.toInt) → (x2.toInt < 27306) → (0 ≤ x3.toInt) → (x3.toInt ≤ 40) → ((ps_a s 1134 (Int32.toNatClampNeg x1)).toInt = (ps_a s 1134 (Int32.toNatClampNeg x2)).toInt) → 50 - x3.toInt ≤ (n : Int) → ps_At (d + 1) 222 17 [(0, .ref 1131), (1, .int x1), (2, .int x2), (3, .int x3)] [] s Q := by
  refine xstr (fun n ih => ?_)
  intro x3 J i0 i1 i2 i3 i4 i5 i6 i7 i8 hm
  have r1 : x1.toInt % 41 = 0 → x1.toInt < 27306 → 0 ≤ (ps_a s 1134 (Int32.toNatClampNeg x1)).toInt ∧ (ps_a s 1134 (Int32.toNatClampNeg x1)).toInt ≤ 40 := fun z1 z2 => mp_row (i := x1) J z1 (show 0 ≤ x1.toInt from by omega) z2
  have r2 : x2.toInt % 41 = 0 → x2.toInt < 27306 → 0 ≤ (ps_a s 1134 (Int32.toNatClampNeg x2)).toInt ∧ (ps_a s 1134 (Int32.toNatClampNeg x2)).toInt ≤ 40 := fun z1 z2 => mp_row (i := x2) J z1 (show 0 ≤ x2.toInt from by omega) z2
  refine pg_222_17 (d := d) ?_
  refine pg_219_0 ?_
  refine ps_nd_i (show pm_in x1 27400 = true from xgi (show 0 ≤ x1.toInt from by omega) (show x1.toInt < 27400 from by omega)) ?_
  refine And.intro (fun h3 => ?_) (fun h3 => ?_)
  · have f4 : (ps_a s 1134 (Int32.toNatClampNeg x1)).toInt ≤ x3.toInt := xle h3
    exact k (1 : Int32) (by decide)
  · have f5 : x3.toInt < (ps_a s 1134 (Int32.toNatClampNeg x1)).toInt := xlt h3
    refine pg_220_0 ?_
    have a6 : (x1 + 1).toInt = x1.toInt + (1 : Int) := xIa (show -2147483648 ≤ x1.toInt + (1 : Int) from by omega) (show x1.toInt + (1 : Int) < 2147483648 from by omega)
    have a7 : ((x1 + 1) + x3).toInt = (x1 + 1).toInt + x3.toInt := xIa (show -2147483648 ≤ (x1 + 1).toInt + x3.toInt from by omega) (show (x1 + 1).toInt + x3.toInt < 2147483648 from by omega)
    refine ps_nd_i (show pm_in ((x1 + 1) + x3) 27400 = true from xgi (show 0 ≤ ((x1 + 1) + x3).toInt from by omega) (show ((x1 + 1) + x3).toInt < 27400 from by omega)) ?_
    have r8 : ((x1 + 1) + x3).toInt % 41 = 0 → ((x1 + 1) + x3).toInt < 27306 → 0 ≤ (ps_a s 1134 (Int32.toNatClampNeg ((x1 + 1) + x3))).toInt ∧ (ps_a s 1134 (Int32.toNatClampNeg ((x1 + 1) + x3))).toInt ≤ 40 := fun z1 z2 => mp_row (i := ((x1 + 1) + x3)) J z1 (show 0 ≤ ((x1 + 1) + x3).toInt from by omega) z2
    refine pg_220_0 ?_
    have a9 : (x2 + 1).toInt = x2.toInt + (1 : Int) := xIa (show -2147483648 ≤ x2.toInt + (1 : Int) from by omega) (show x2.toInt + (1 : Int) < 2147483648 from by omega)
    have a10 : ((x2 + 1) + x3).toInt = (x2 + 1).toInt + x3.toInt := xIa (show -2147483648 ≤ (x2 + 1).toInt + x3.toInt from by omega) (show (x2 + 1).toInt + x3.toInt < 2147483648 from by omega)
    refine ps_nd_i (show pm_in ((x2 + 1) + x3) 27400 = true from xgi (show 0 ≤ ((x2 + 1) + x3).toInt from by omega) (show ((x2 + 1) + x3).toInt < 27400 from by omega)) ?_
    have r11 : ((x2 + 1) + x3).toInt % 41 = 0 → ((x2 + 1) + x3).toInt < 27306 → 0 ≤ (ps_a s 1134 (Int32.toNatClampNeg ((x2 + 1) + x3))).toInt ∧ (ps_a s 1134 (Int32.toNatClampNeg ((x2 + 1) + x3))).toInt ≤ 40 := fun z1 z2 => mp_row (i := ((x2 + 1) + x3)) J z1 (show 0 ≤ ((x2 + 1) + x3).toInt from by omega) z2
    refine And.intro (fun h12 => ?_) (fun h12 => ?_)
    · have f13 : (ps_a s 1134 (Int32.toNatClampNeg ((x1 + 1) + x3))).toInt = (ps_a s 1134 (Int32.toNatClampNeg ((x2 + 1) + x3))).toInt := xeq h12
      have a14 : (x3 + 1).toInt = x3.toInt + (1 : Int) := xIa (show -2147483648 ≤ x3.toInt + (1 : Int) from by omega) (show x3.toInt + (1 : Int) < 2147483648 from by omega)
      exact ih (n - 1) (show n - 1 < n from by omega) (x3 + 1) J (show x1.toInt % 41 = 0 from by omega) (show 0 ≤ x1.toInt from by omega) (show x1.toInt < 27306 from by omega) (show x2.toInt % 41 = 0 from by omega) (show 0 ≤ x2.toInt from by omega) (show x2.toInt < 27306 from by omega) (show 0 ≤ (x3 + 1).toInt from by omega) (show (x3 + 1).toInt ≤ 40 from by omega) (show (ps_a s 1134 (Int32.toNatClampNeg x1)).toInt = (ps_a s 1134 (Int32.toNatClampNeg x2)).toInt from by omega) (show 50 - (x3 + 1).toInt ≤ ((n - 1 : Nat) : Int) from by omega)
    · have f15 : (ps_a s 1134 (Int32.toNatClampNeg ((x1 + 1) + x3))).toInt ≠ (ps_a s 1134 (Int32.toNatClampNeg ((x2 + 1) + x3))).toInt := xne h12
      exact k (0 : Int32) (by decide)

theorem ms_222 {x : Nat → Nat → Nat} {t : Int32} {s : ps_S} {d : Nat} {x1 : Int32} {x2 : Int32} {f : Int32 → ps_S → Prop} (J : mJ x t s) (q0 : x1.toInt % 41 = 0) (q1 : 0 ≤ x1.toInt) (q2 : x1.toInt < 27306) (q3 : x2.toInt % 41 = 0) (q4 : 0 ≤ x2.toInt) (q5 : x2.toInt < 27306) (k : ∀ (v : Int32), v &&& 1 = v → f v s) : ps_Cl (d + 1) 222 [.ref 1131, .int x1, .int x2] s (ps_rI f) := by
  refine pg_222_0 (d := d) ?_
  refine pg_219_0 ?_
  refine ps_nd_i (show pm_in x1 27400 = true from xgi (show 0 ≤ x1.toInt from by omega) (show x1.toInt < 27400 from by omega)) ?_
  have r1 : x1.toInt % 41 = 0 → x1.toInt < 27306 → 0 ≤ (ps_a s 1134 (Int32.toNatClampNeg x1)).toInt ∧ (ps_a s 1134 (Int32.toNatClampNeg x1)).toInt ≤ 40 := fun z1 z2 => mp_row (i := x1) J z1 (show 0 ≤ x1.toInt from by omega) z2
  refine pg_219_0 ?_
  refine ps_nd_i (show pm_in x2 27400 = true from xgi (show 0 ≤ x2.toInt from by omega) (show x2.toInt < 27400 from by omega)) ?_
  have r2 : x2.toInt % 41 = 0 → x2.toInt < 27306 → 0 ≤ (ps_a s 1134 (Int32.toNatClampNeg x2)).toInt ∧ (ps_a s 1134 (Int32.toNatClampNeg x2)).toInt ≤ 40 := fun z1 z2 => mp_row (i := x2) J z1 (show 0 ≤ x2.toInt from by omega) z2
  refine And.intro (fun h3 => ?_) (fun h3 => ?_)
  · have f4 : (ps_a s 1134 (Int32.toNatClampNeg x1)).toInt = (ps_a s 1134 (Int32.toNatClampNeg x2)).toInt := xeq h3
    exact ms_222_17 (x1 := x1) (x2 := x2) k  (50 - (0 : Int)).toNat (0) J (show x1.toInt % 41 = 0 from by omega) (show 0 ≤ x1.toInt from by omega) (show x1.toInt < 27306 from by omega) (show x2.toInt % 41 = 0 from by omega) (show 0 ≤ x2.toInt from by omega) (show x2.toInt < 27306 from by omega) (show 0 ≤ (0 : Int) from by omega) (show (0 : Int) ≤ 40 from by omega) (show (ps_a s 1134 (Int32.toNatClampNeg x1)).toInt = (ps_a s 1134 (Int32.toNatClampNeg x2)).toInt from by omega) (show 50 - (0 : Int) ≤ (((50 - (0 : Int)).toNat : Nat) : Int) from by omega)
  · have f5 : (ps_a s 1134 (Int32.toNatClampNeg x1)).toInt ≠ (ps_a s 1134 (Int32.toNatClampNeg x2)).toInt := xne h3
    exact k (0 : Int32) (by decide)

-- ProofBenchModel.make(I)V
theorem pg_225_0 {d : Nat} {x1 : Int32} {s : ps_S} {Q : Option Value → ps_S → Prop} (h :
  (260 ≤ (ps_i s 1131 34) →
    Q none (ps_ui s 1131 34 ((ps_i s 1131 34) + 1))) ∧
  ((ps_i s 1131 34) < 260 →
    ps_nd (pm_in (ps_i s 1131 34) 260) (Q none (ps_ui (ps_ua s 1149 (Int32.toNatClampNeg (ps_i s 1131 34)) x1) 1131 34 ((ps_i (ps_ua s 1149 (Int32.toNatClampNeg (ps_i s 1131 34)) x1) 1131 34) + 1))))) : ps_At d 225 0 [(0, .ref 1131), (1, .int x1)] [] s Q :=
  ps_wp_at (stops := []) (n := 26) h rfl

-- ProofBenchModel.stepHere()I
theorem pg_233_0 {d : Nat} {s : ps_S} {Q : Option Value → ps_S → Prop} (h :
  ((ps_i s 1131 9) = 3 →
    ((lg_cmp (ps_j s 1131 11) (107148486208869 : Int64)) ≠ 0 →
      ((lg_cmp (ps_j s 1131 11) (418632003437 : Int64)) ≠ 0 →
        ((lg_cmp (ps_j s 1131 11) (32765882169189741 : Int64)) ≠ 0 →
          ((lg_cmp (ps_j s 1131 11) (1651471464 : Int64)) ≠ 0 →
            ((lg_cmp (ps_j s 1131 11) (1818584692 : Int64)) ≠ 0 →
              ((lg_cmp (ps_j s 1131 11) (491394656372 : Int64)) ≠ 0 →
                ((lg_cmp (ps_j s 1131 11) (122537235539572 : Int64)) ≠ 0 →
                  ((lg_cmp (ps_j s 1131 11) (31369558135105652 : Int64)) ≠ 0 →
                    ((lg_cmp (ps_j s 1131 11) (1667330917 : Int64)) ≠ 0 →
                      ((lg_cmp (ps_j s 1131 11) (418498243705 : Int64)) ≠ 0 →
                        ((lg_cmp (ps_j s 1131 11) (110386639889253 : Int64)) ≠ 0 →
                          ((lg_cmp (ps_j s 1131 11) (29103447424000364 : Int64)) ≠ 0 →
                            ((lg_cmp (ps_j s 1131 11) (32493203083583852 : Int64)) ≠ 0 →
                              ((lg_cmp (ps_j s 1131 11) (435811873652 : Int64)) ≠ 0 →
                                ((lg_cmp (ps_j s 1131 11) (1869636974 : Int64)) ≠ 0 →
                                  ((lg_cmp (ps_j s 1131 11) (1935764837 : Int64)) ≠ 0 →
                                    ((lg_cmp (ps_j s 1131 11) (32199680874079077 : Int64)) ≠ 0 →
                                      ((lg_cmp (ps_j s 1131 11) (107075471766116 : Int64)) ≠ 0 →
                                        ((lg_cmp (ps_j s 1131 11) (27985188498925923 : Int64)) ≠ 0 →
                                          Q (some (.int (-1))) s) ∧
                                        ((lg_cmp (ps_j s 1131 11) (27985188498925923 : Int64)) = 0 →
                                          Q (some (.int 18)) s)) ∧
                                      ((lg_cmp (ps_j s 1131 11) (107075471766116 : Int64)) = 0 →
                                        Q (some (.int 17)) s)) ∧
                                    ((lg_cmp (ps_j s 1131 11) (32199680874079077 : Int64)) = 0 →
                                      Q (some (.int 16)) s)) ∧
                                  ((lg_cmp (ps_j s 1131 11) (1935764837 : Int64)) = 0 →
                                    Q (some (.int 15)) s)) ∧
                                ((lg_cmp (ps_j s 1131 11) (1869636974 : Int64)) = 0 →
                                  Q (some (.int 14)) s)) ∧
                              ((lg_cmp (ps_j s 1131 11) (435811873652 : Int64)) = 0 →
                                Q (some (.int 13)) s)) ∧
                            ((lg_cmp (ps_j s 1131 11) (32493203083583852 : Int64)) = 0 →
                              Q (some (.int 12)) s)) ∧
                          ((lg_cmp (ps_j s 1131 11) (29103447424000364 : Int64)) = 0 →
                            Q (some (.int 11)) s)) ∧
                        ((lg_cmp (ps_j s 1131 11) (110386639889253 : Int64)) = 0 →
                          Q (some (.int 10)) s)) ∧
                      ((lg_cmp (ps_j s 1131 11) (418498243705 : Int64)) = 0 →
                        Q (some (.int 9)) s)) ∧
                    ((lg_cmp (ps_j s 1131 11) (1667330917 : Int64)) = 0 →
                      Q (some (.int 8)) s)) ∧
                  ((lg_cmp (ps_j s 1131 11) (31369558135105652 : Int64)) = 0 →
                    Q (some (.int 7)) s)) ∧
                ((lg_cmp (ps_j s 1131 11) (122537235539572 : Int64)) = 0 →
                  Q (some (.int 6)) s)) ∧
              ((lg_cmp (ps_j s 1131 11) (491394656372 : Int64)) = 0 →
                Q (some (.int 5)) s)) ∧
            ((lg_cmp (ps_j s 1131 11) (1818584692 : Int64)) = 0 →
              Q (some (.int 4)) s)) ∧
          ((lg_cmp (ps_j s 1131 11) (1651471464 : Int64)) = 0 →
            Q (some (.int 3)) s)) ∧
        ((lg_cmp (ps_j s 1131 11) (32765882169189741 : Int64)) = 0 →
          Q (some (.int 2)) s)) ∧
      ((lg_cmp (ps_j s 1131 11) (418632003437 : Int64)) = 0 →
        Q (some (.int 1)) s)) ∧
    ((lg_cmp (ps_j s 1131 11) (107148486208869 : Int64)) = 0 →
      Q (some (.int 0)) s)) ∧
  ((ps_i s 1131 9) ≠ 3 →
    Q (some (.int (-1))) s)) : ps_At d 233 0 [(0, .ref 1131)] [] s Q :=
  ps_wp_at (stops := []) (n := 144) h rfl

theorem ms_233 {x : Nat → Nat → Nat} {t : Int32} {s : ps_S} {d : Nat} {f : Int32 → ps_S → Prop} (J : mJ x t s) (k : ∀ (v : Int32), (-1 ≤ v.toInt) → (v.toInt ≤ 18) → (v.toInt = -1 ∨ (ps_i s 1131 9).toInt = 3) → f v s) : ps_Cl d 233 [.ref 1131] s (ps_rI f) := by
  refine pg_233_0 ?_
  have r1 := mf_9 J
  refine And.intro (fun h2 => ?_) (fun h2 => ?_)
  · have f3 : (ps_i s 1131 9).toInt = (3 : Int) := xeq h2
    refine And.intro (fun h4 => ?_) (fun h4 => ?_)
    · have f5 : (lg_cmp (ps_j s 1131 11) (107148486208869 : Int64)).toInt ≠ (0 : Int) := xne h4
      refine And.intro (fun h6 => ?_) (fun h6 => ?_)
      · have f7 : (lg_cmp (ps_j s 1131 11) (418632003437 : Int64)).toInt ≠ (0 : Int) := xne h6
        refine And.intro (fun h8 => ?_) (fun h8 => ?_)
        · have f9 : (lg_cmp (ps_j s 1131 11) (32765882169189741 : Int64)).toInt ≠ (0 : Int) := xne h8
          refine And.intro (fun h10 => ?_) (fun h10 => ?_)
          · have f11 : (lg_cmp (ps_j s 1131 11) (1651471464 : Int64)).toInt ≠ (0 : Int) := xne h10
            refine And.intro (fun h12 => ?_) (fun h12 => ?_)
            · have f13 : (lg_cmp (ps_j s 1131 11) (1818584692 : Int64)).toInt ≠ (0 : Int) := xne h12
              refine And.intro (fun h14 => ?_) (fun h14 => ?_)
              · have f15 : (lg_cmp (ps_j s 1131 11) (491394656372 : Int64)).toInt ≠ (0 : Int) := xne h14
                refine And.intro (fun h16 => ?_) (fun h16 => ?_)
                · have f17 : (lg_cmp (ps_j s 1131 11) (122537235539572 : Int64)).toInt ≠ (0 : Int) := xne h16
                  refine And.intro (fun h18 => ?_) (fun h18 => ?_)
                  · have f19 : (lg_cmp (ps_j s 1131 11) (31369558135105652 : Int64)).toInt ≠ (0 : Int) := xne h18
                    refine And.intro (fun h20 => ?_) (fun h20 => ?_)
                    · have f21 : (lg_cmp (ps_j s 1131 11) (1667330917 : Int64)).toInt ≠ (0 : Int) := xne h20
                      refine And.intro (fun h22 => ?_) (fun h22 => ?_)
                      · have f23 : (lg_cmp (ps_j s 1131 11) (418498243705 : Int64)).toInt ≠ (0 : Int) := xne h22
                        refine And.intro (fun h24 => ?_) (fun h24 => ?_)
                        · have f25 : (lg_cmp (ps_j s 1131 11) (110386639889253 : Int64)).toInt ≠ (0 : Int) := xne h24
                          refine And.intro (fun h26 => ?_) (fun h26 => ?_)
                          · have f27 : (lg_cmp (ps_j s 1131 11) (29103447424000364 : Int64)).toInt ≠ (0 : Int) := xne h26
                            refine And.intro (fun h28 => ?_) (fun h28 => ?_)
                            · have f29 : (lg_cmp (ps_j s 1131 11) (32493203083583852 : Int64)).toInt ≠ (0 : Int) := xne h28
                              refine And.intro (fun h30 => ?_) (fun h30 => ?_)
                              · have f31 : (lg_cmp (ps_j s 1131 11) (435811873652 : Int64)).toInt ≠ (0 : Int) := xne h30
                                refine And.intro (fun h32 => ?_) (fun h32 => ?_)
                                · have f33 : (lg_cmp (ps_j s 1131 11) (1869636974 : Int64)).toInt ≠ (0 : Int) := xne h32
                                  refine And.intro (fun h34 => ?_) (fun h34 => ?_)
                                  · have f35 : (lg_cmp (ps_j s 1131 11) (1935764837 : Int64)).toInt ≠ (0 : Int) := xne h34
                                    refine And.intro (fun h36 => ?_) (fun h36 => ?_)
                                    · have f37 : (lg_cmp (ps_j s 1131 11) (32199680874079077 : Int64)).toInt ≠ (0 : Int) := xne h36
                                      refine And.intro (fun h38 => ?_) (fun h38 => ?_)
                                      · have f39 : (lg_cmp (ps_j s 1131 11) (107075471766116 : Int64)).toInt ≠ (0 : Int) := xne h38
                                        refine And.intro (fun h40 => ?_) (fun h40 => ?_)
                                        · have f41 : (lg_cmp (ps_j s 1131 11) (27985188498925923 : Int64)).toInt ≠ (0 : Int) := xne h40
                                          exact k (-1 : Int32) (show -1 ≤ (-1 : Int) from by omega) (show (-1 : Int) ≤ 18 from by omega) (show (-1 : Int) = -1 ∨ (ps_i s 1131 9).toInt = 3 from by omega)
                                        · have f42 : (lg_cmp (ps_j s 1131 11) (27985188498925923 : Int64)).toInt = (0 : Int) := xeq h40
                                          exact k (18 : Int32) (show -1 ≤ (18 : Int) from by omega) (show (18 : Int) ≤ 18 from by omega) (show (18 : Int) = -1 ∨ (ps_i s 1131 9).toInt = 3 from by omega)
                                      · have f43 : (lg_cmp (ps_j s 1131 11) (107075471766116 : Int64)).toInt = (0 : Int) := xeq h38
                                        exact k (17 : Int32) (show -1 ≤ (17 : Int) from by omega) (show (17 : Int) ≤ 18 from by omega) (show (17 : Int) = -1 ∨ (ps_i s 1131 9).toInt = 3 from by omega)
                                    · have f44 : (lg_cmp (ps_j s 1131 11) (32199680874079077 : Int64)).toInt = (0 : Int) := xeq h36
                                      exact k (16 : Int32) (show -1 ≤ (16 : Int) from by omega) (show (16 : Int) ≤ 18 from by omega) (show (16 : Int) = -1 ∨ (ps_i s 1131 9).toInt = 3 from by omega)
                                  · have f45 : (lg_cmp (ps_j s 1131 11) (1935764837 : Int64)).toInt = (0 : Int) := xeq h34
                                    exact k (15 : Int32) (show -1 ≤ (15 : Int) from by omega) (show (15 : Int) ≤ 18 from by omega) (show (15 : Int) = -1 ∨ (ps_i s 1131 9).toInt = 3 from by omega)
                                · have f46 : (lg_cmp (ps_j s 1131 11) (1869636974 : Int64)).toInt = (0 : Int) := xeq h32
                                  exact k (14 : Int32) (show -1 ≤ (14 : Int) from by omega) (show (14 : Int) ≤ 18 from by omega) (show (14 : Int) = -1 ∨ (ps_i s 1131 9).toInt = 3 from by omega)
                              · have f47 : (lg_cmp (ps_j s 1131 11) (435811873652 : Int64)).toInt = (0 : Int) := xeq h30
                                exact k (13 : Int32) (show -1 ≤ (13 : Int) from by omega) (show (13 : Int) ≤ 18 from by omega) (show (13 : Int) = -1 ∨ (ps_i s 1131 9).toInt = 3 from by omega)
                            · have f48 : (lg_cmp (ps_j s 1131 11) (32493203083583852 : Int64)).toInt = (0 : Int) := xeq h28
                              exact k (12 : Int32) (show -1 ≤ (12 : Int) from by omega) (show (12 : Int) ≤ 18 from by omega) (show (12 : Int) = -1 ∨ (ps_i s 1131 9).toInt = 3 from by omega)
                          · have f49 : (lg_cmp (ps_j s 1131 11) (29103447424000364 : Int64)).toInt = (0 : Int) := xeq h26
                            exact k (11 : Int32) (show -1 ≤ (11 : Int) from by omega) (show (11 : Int) ≤ 18 from by omega) (show (11 : Int) = -1 ∨ (ps_i s 1131 9).toInt = 3 from by omega)
                        · have f50 : (lg_cmp (ps_j s 1131 11) (110386639889253 : Int64)).toInt = (0 : Int) := xeq h24
                          exact k (10 : Int32) (show -1 ≤ (10 : Int) from by omega) (show (10 : Int) ≤ 18 from by omega) (show (10 : Int) = -1 ∨ (ps_i s 1131 9).toInt = 3 from by omega)
                      · have f51 : (lg_cmp (ps_j s 1131 11) (418498243705 : Int64)).toInt = (0 : Int) := xeq h22
                        exact k (9 : Int32) (show -1 ≤ (9 : Int) from by omega) (show (9 : Int) ≤ 18 from by omega) (show (9 : Int) = -1 ∨ (ps_i s 1131 9).toInt = 3 from by omega)
                    · have f52 : (lg_cmp (ps_j s 1131 11) (1667330917 : Int64)).toInt = (0 : Int) := xeq h20
                      exact k (8 : Int32) (show -1 ≤ (8 : Int) from by omega) (show (8 : Int) ≤ 18 from by omega) (show (8 : Int) = -1 ∨ (ps_i s 1131 9).toInt = 3 from by omega)
                  · have f53 : (lg_cmp (ps_j s 1131 11) (31369558135105652 : Int64)).toInt = (0 : Int) := xeq h18
                    exact k (7 : Int32) (show -1 ≤ (7 : Int) from by omega) (show (7 : Int) ≤ 18 from by omega) (show (7 : Int) = -1 ∨ (ps_i s 1131 9).toInt = 3 from by omega)
                · have f54 : (lg_cmp (ps_j s 1131 11) (122537235539572 : Int64)).toInt = (0 : Int) := xeq h16
                  exact k (6 : Int32) (show -1 ≤ (6 : Int) from by omega) (show (6 : Int) ≤ 18 from by omega) (show (6 : Int) = -1 ∨ (ps_i s 1131 9).toInt = 3 from by omega)
              · have f55 : (lg_cmp (ps_j s 1131 11) (491394656372 : Int64)).toInt = (0 : Int) := xeq h14
                exact k (5 : Int32) (show -1 ≤ (5 : Int) from by omega) (show (5 : Int) ≤ 18 from by omega) (show (5 : Int) = -1 ∨ (ps_i s 1131 9).toInt = 3 from by omega)
            · have f56 : (lg_cmp (ps_j s 1131 11) (1818584692 : Int64)).toInt = (0 : Int) := xeq h12
              exact k (4 : Int32) (show -1 ≤ (4 : Int) from by omega) (show (4 : Int) ≤ 18 from by omega) (show (4 : Int) = -1 ∨ (ps_i s 1131 9).toInt = 3 from by omega)
          · have f57 : (lg_cmp (ps_j s 1131 11) (1651471464 : Int64)).toInt = (0 : Int) := xeq h10
            exact k (3 : Int32) (show -1 ≤ (3 : Int) from by omega) (show (3 : Int) ≤ 18 from by omega) (show (3 : Int) = -1 ∨ (ps_i s 1131 9).toInt = 3 from by omega)
        · have f58 : (lg_cmp (ps_j s 1131 11) (32765882169189741 : Int64)).toInt = (0 : Int) := xeq h8
          exact k (2 : Int32) (show -1 ≤ (2 : Int) from by omega) (show (2 : Int) ≤ 18 from by omega) (show (2 : Int) = -1 ∨ (ps_i s 1131 9).toInt = 3 from by omega)
      · have f59 : (lg_cmp (ps_j s 1131 11) (418632003437 : Int64)).toInt = (0 : Int) := xeq h6
        exact k (1 : Int32) (show -1 ≤ (1 : Int) from by omega) (show (1 : Int) ≤ 18 from by omega) (show (1 : Int) = -1 ∨ (ps_i s 1131 9).toInt = 3 from by omega)
    · have f60 : (lg_cmp (ps_j s 1131 11) (107148486208869 : Int64)).toInt = (0 : Int) := xeq h4
      exact k (0 : Int32) (show -1 ≤ (0 : Int) from by omega) (show (0 : Int) ≤ 18 from by omega) (show (0 : Int) = -1 ∨ (ps_i s 1131 9).toInt = 3 from by omega)
  · have f61 : (ps_i s 1131 9).toInt ≠ (3 : Int) := xne h2
    exact k (-1 : Int32) (show -1 ≤ (-1 : Int) from by omega) (show (-1 : Int) ≤ 18 from by omega) (show (-1 : Int) = -1 ∨ (ps_i s 1131 9).toInt = 3 from by omega)

-- ProofBenchModel.premises(I)I
theorem pg_234_0 {d : Nat} {x0 : Int32} {s : ps_S} {Q : Option Value → ps_S → Prop} (h :
  (x0 = 0 →
    Q (some (.int 0)) s) ∧
  (x0 ≠ 0 →
    (x0 = 1 →
    Q (some (.int 0)) s) ∧
  (x0 ≠ 1 →
    (x0 = 2 →
    Q (some (.int 1)) s) ∧
  (x0 ≠ 2 →
    (x0 = 3 →
    Q (some (.int 2)) s) ∧
  (x0 ≠ 3 →
    (x0 = 4 →
    Q (some (.int 1)) s) ∧
  (x0 ≠ 4 →
    (x0 = 5 →
    Q (some (.int 1)) s) ∧
  (x0 ≠ 5 →
    (x0 = 6 →
    Q (some (.int 1)) s) ∧
  (x0 ≠ 6 →
    (x0 = 7 →
    Q (some (.int 1)) s) ∧
  (x0 ≠ 7 →
    (x0 = 8 →
    Q (some (.int 3)) s) ∧
  (x0 ≠ 8 →
    (x0 = 9 →
    Q (some (.int 2)) s) ∧
  (x0 ≠ 9 →
    (x0 = 10 →
    Q (some (.int 1)) s) ∧
  (x0 ≠ 10 →
    (x0 = 11 →
    Q (some (.int 1)) s) ∧
  (x0 ≠ 11 →
    (x0 = 12 →
    Q (some (.int 1)) s) ∧
  (x0 ≠ 12 →
    (x0 = 13 →
    Q (some (.int 1)) s) ∧
  (x0 ≠ 13 →
    (x0 = 14 →
    Q (some (.int 2)) s) ∧
  (x0 ≠ 14 →
    (x0 = 15 →
    Q (some (.int 0)) s) ∧
  (x0 ≠ 15 →
    (x0 = 16 →
    Q (some (.int 2)) s) ∧
  (x0 ≠ 16 →
    Q (some (.int 1)) s)))))))))))))))))) : ps_At d 234 0 [(0, .int x0)] [] s Q :=
  ps_wp_at (stops := []) (n := 40) h rfl

theorem ms_234 {x : Nat → Nat → Nat} {t : Int32} {s : ps_S} {d : Nat} {x0 : Int32} {f : Int32 → ps_S → Prop} (J : mJ x t s) (k : ∀ (v : Int32), (((x0.toInt = 0 ∨ x0.toInt = 1 ∨ x0.toInt = 15) ∧ v.toInt = 0) ∨ ((x0.toInt = 3 ∨ x0.toInt = 9 ∨ x0.toInt = 14 ∨ x0.toInt = 16) ∧ v.toInt = 2) ∨ (x0.toInt = 8 ∧ v.toInt = 3) ∨ (v.toInt = 1 ∧ x0.toInt ≠ 0 ∧ x0.toInt ≠ 1 ∧ x0.toInt ≠ 15 ∧ x0.toInt ≠ 3 ∧ x0.toInt ≠ 9 ∧ x0.toInt ≠ 14 ∧ x0.toInt ≠ 16 ∧ x0.toInt ≠ 8)) → f v s) : ps_Cl d 234 [.int x0] s (ps_rI f) := by
  refine pg_234_0 ?_
  refine And.intro (fun h1 => ?_) (fun h1 => ?_)
  · have f2 : x0.toInt = (0 : Int) := xeq h1
    exact k (0 : Int32) (show ((x0.toInt = 0 ∨ x0.toInt = 1 ∨ x0.toInt = 15) ∧ (0 : Int) = 0) ∨ ((x0.toInt = 3 ∨ x0.toInt = 9 ∨ x0.toInt = 14 ∨ x0.toInt = 16) ∧ (0 : Int) = 2) ∨ (x0.toInt = 8 ∧ (0 : Int) = 3) ∨ ((0 : Int) = 1 ∧ x0.toInt ≠ 0 ∧ x0.toInt ≠ 1 ∧ x0.toInt ≠ 15 ∧ x0.toInt ≠ 3 ∧ x0.toInt ≠ 9 ∧ x0.toInt ≠ 14 ∧ x0.toInt ≠ 16 ∧ x0.toInt ≠ 8) from by omega)
  have f3 : x0.toInt ≠ (0 : Int) := xne h1
  refine And.intro (fun h4 => ?_) (fun h4 => ?_)
  · have f5 : x0.toInt = (1 : Int) := xeq h4
    exact k (0 : Int32) (show ((x0.toInt = 0 ∨ x0.toInt = 1 ∨ x0.toInt = 15) ∧ (0 : Int) = 0) ∨ ((x0.toInt = 3 ∨ x0.toInt = 9 ∨ x0.toInt = 14 ∨ x0.toInt = 16) ∧ (0 : Int) = 2) ∨ (x0.toInt = 8 ∧ (0 : Int) = 3) ∨ ((0 : Int) = 1 ∧ x0.toInt ≠ 0 ∧ x0.toInt ≠ 1 ∧ x0.toInt ≠ 15 ∧ x0.toInt ≠ 3 ∧ x0.toInt ≠ 9 ∧ x0.toInt ≠ 14 ∧ x0.toInt ≠ 16 ∧ x0.toInt ≠ 8) from by omega)
  have f6 : x0.toInt ≠ (1 : Int) := xne h4
  refine And.intro (fun h7 => ?_) (fun h7 => ?_)
  · have f8 : x0.toInt = (2 : Int) := xeq h7
    exact k (1 : Int32) (show ((x0.toInt = 0 ∨ x0.toInt = 1 ∨ x0.toInt = 15) ∧ (1 : Int) = 0) ∨ ((x0.toInt = 3 ∨ x0.toInt = 9 ∨ x0.toInt = 14 ∨ x0.toInt = 16) ∧ (1 : Int) = 2) ∨ (x0.toInt = 8 ∧ (1 : Int) = 3) ∨ ((1 : Int) = 1 ∧ x0.toInt ≠ 0 ∧ x0.toInt ≠ 1 ∧ x0.toInt ≠ 15 ∧ x0.toInt ≠ 3 ∧ x0.toInt ≠ 9 ∧ x0.toInt ≠ 14 ∧ x0.toInt ≠ 16 ∧ x0.toInt ≠ 8) from by omega)
  have f9 : x0.toInt ≠ (2 : Int) := xne h7
  refine And.intro (fun h10 => ?_) (fun h10 => ?_)
  · have f11 : x0.toInt = (3 : Int) := xeq h10
    exact k (2 : Int32) (show ((x0.toInt = 0 ∨ x0.toInt = 1 ∨ x0.toInt = 15) ∧ (2 : Int) = 0) ∨ ((x0.toInt = 3 ∨ x0.toInt = 9 ∨ x0.toInt = 14 ∨ x0.toInt = 16) ∧ (2 : Int) = 2) ∨ (x0.toInt = 8 ∧ (2 : Int) = 3) ∨ ((2 : Int) = 1 ∧ x0.toInt ≠ 0 ∧ x0.toInt ≠ 1 ∧ x0.toInt ≠ 15 ∧ x0.toInt ≠ 3 ∧ x0.toInt ≠ 9 ∧ x0.toInt ≠ 14 ∧ x0.toInt ≠ 16 ∧ x0.toInt ≠ 8) from by omega)
  have f12 : x0.toInt ≠ (3 : Int) := xne h10
  refine And.intro (fun h13 => ?_) (fun h13 => ?_)
  · have f14 : x0.toInt = (4 : Int) := xeq h13
    exact k (1 : Int32) (show ((x0.toInt = 0 ∨ x0.toInt = 1 ∨ x0.toInt = 15) ∧ (1 : Int) = 0) ∨ ((x0.toInt = 3 ∨ x0.toInt = 9 ∨ x0.toInt = 14 ∨ x0.toInt = 16) ∧ (1 : Int) = 2) ∨ (x0.toInt = 8 ∧ (1 : Int) = 3) ∨ ((1 : Int) = 1 ∧ x0.toInt ≠ 0 ∧ x0.toInt ≠ 1 ∧ x0.toInt ≠ 15 ∧ x0.toInt ≠ 3 ∧ x0.toInt ≠ 9 ∧ x0.toInt ≠ 14 ∧ x0.toInt ≠ 16 ∧ x0.toInt ≠ 8) from by omega)
  have f15 : x0.toInt ≠ (4 : Int) := xne h13
  refine And.intro (fun h16 => ?_) (fun h16 => ?_)
  · have f17 : x0.toInt = (5 : Int) := xeq h16
    exact k (1 : Int32) (show ((x0.toInt = 0 ∨ x0.toInt = 1 ∨ x0.toInt = 15) ∧ (1 : Int) = 0) ∨ ((x0.toInt = 3 ∨ x0.toInt = 9 ∨ x0.toInt = 14 ∨ x0.toInt = 16) ∧ (1 : Int) = 2) ∨ (x0.toInt = 8 ∧ (1 : Int) = 3) ∨ ((1 : Int) = 1 ∧ x0.toInt ≠ 0 ∧ x0.toInt ≠ 1 ∧ x0.toInt ≠ 15 ∧ x0.toInt ≠ 3 ∧ x0.toInt ≠ 9 ∧ x0.toInt ≠ 14 ∧ x0.toInt ≠ 16 ∧ x0.toInt ≠ 8) from by omega)
  have f18 : x0.toInt ≠ (5 : Int) := xne h16
  refine And.intro (fun h19 => ?_) (fun h19 => ?_)
  · have f20 : x0.toInt = (6 : Int) := xeq h19
    exact k (1 : Int32) (show ((x0.toInt = 0 ∨ x0.toInt = 1 ∨ x0.toInt = 15) ∧ (1 : Int) = 0) ∨ ((x0.toInt = 3 ∨ x0.toInt = 9 ∨ x0.toInt = 14 ∨ x0.toInt = 16) ∧ (1 : Int) = 2) ∨ (x0.toInt = 8 ∧ (1 : Int) = 3) ∨ ((1 : Int) = 1 ∧ x0.toInt ≠ 0 ∧ x0.toInt ≠ 1 ∧ x0.toInt ≠ 15 ∧ x0.toInt ≠ 3 ∧ x0.toInt ≠ 9 ∧ x0.toInt ≠ 14 ∧ x0.toInt ≠ 16 ∧ x0.toInt ≠ 8) from by omega)
  have f21 : x0.toInt ≠ (6 : Int) := xne h19
  refine And.intro (fun h22 => ?_) (fun h22 => ?_)
  · have f23 : x0.toInt = (7 : Int) := xeq h22
    exact k (1 : Int32) (show ((x0.toInt = 0 ∨ x0.toInt = 1 ∨ x0.toInt = 15) ∧ (1 : Int) = 0) ∨ ((x0.toInt = 3 ∨ x0.toInt = 9 ∨ x0.toInt = 14 ∨ x0.toInt = 16) ∧ (1 : Int) = 2) ∨ (x0.toInt = 8 ∧ (1 : Int) = 3) ∨ ((1 : Int) = 1 ∧ x0.toInt ≠ 0 ∧ x0.toInt ≠ 1 ∧ x0.toInt ≠ 15 ∧ x0.toInt ≠ 3 ∧ x0.toInt ≠ 9 ∧ x0.toInt ≠ 14 ∧ x0.toInt ≠ 16 ∧ x0.toInt ≠ 8) from by omega)
  have f24 : x0.toInt ≠ (7 : Int) := xne h22
  refine And.intro (fun h25 => ?_) (fun h25 => ?_)
  · have f26 : x0.toInt = (8 : Int) := xeq h25
    exact k (3 : Int32) (show ((x0.toInt = 0 ∨ x0.toInt = 1 ∨ x0.toInt = 15) ∧ (3 : Int) = 0) ∨ ((x0.toInt = 3 ∨ x0.toInt = 9 ∨ x0.toInt = 14 ∨ x0.toInt = 16) ∧ (3 : Int) = 2) ∨ (x0.toInt = 8 ∧ (3 : Int) = 3) ∨ ((3 : Int) = 1 ∧ x0.toInt ≠ 0 ∧ x0.toInt ≠ 1 ∧ x0.toInt ≠ 15 ∧ x0.toInt ≠ 3 ∧ x0.toInt ≠ 9 ∧ x0.toInt ≠ 14 ∧ x0.toInt ≠ 16 ∧ x0.toInt ≠ 8) from by omega)
  have f27 : x0.toInt ≠ (8 : Int) := xne h25
  refine And.intro (fun h28 => ?_) (fun h28 => ?_)
  · have f29 : x0.toInt = (9 : Int) := xeq h28
    exact k (2 : Int32) (show ((x0.toInt = 0 ∨ x0.toInt = 1 ∨ x0.toInt = 15) ∧ (2 : Int) = 0) ∨ ((x0.toInt = 3 ∨ x0.toInt = 9 ∨ x0.toInt = 14 ∨ x0.toInt = 16) ∧ (2 : Int) = 2) ∨ (x0.toInt = 8 ∧ (2 : Int) = 3) ∨ ((2 : Int) = 1 ∧ x0.toInt ≠ 0 ∧ x0.toInt ≠ 1 ∧ x0.toInt ≠ 15 ∧ x0.toInt ≠ 3 ∧ x0.toInt ≠ 9 ∧ x0.toInt ≠ 14 ∧ x0.toInt ≠ 16 ∧ x0.toInt ≠ 8) from by omega)
  have f30 : x0.toInt ≠ (9 : Int) := xne h28
  refine And.intro (fun h31 => ?_) (fun h31 => ?_)
  · have f32 : x0.toInt = (10 : Int) := xeq h31
    exact k (1 : Int32) (show ((x0.toInt = 0 ∨ x0.toInt = 1 ∨ x0.toInt = 15) ∧ (1 : Int) = 0) ∨ ((x0.toInt = 3 ∨ x0.toInt = 9 ∨ x0.toInt = 14 ∨ x0.toInt = 16) ∧ (1 : Int) = 2) ∨ (x0.toInt = 8 ∧ (1 : Int) = 3) ∨ ((1 : Int) = 1 ∧ x0.toInt ≠ 0 ∧ x0.toInt ≠ 1 ∧ x0.toInt ≠ 15 ∧ x0.toInt ≠ 3 ∧ x0.toInt ≠ 9 ∧ x0.toInt ≠ 14 ∧ x0.toInt ≠ 16 ∧ x0.toInt ≠ 8) from by omega)
  have f33 : x0.toInt ≠ (10 : Int) := xne h31
  refine And.intro (fun h34 => ?_) (fun h34 => ?_)
  · have f35 : x0.toInt = (11 : Int) := xeq h34
    exact k (1 : Int32) (show ((x0.toInt = 0 ∨ x0.toInt = 1 ∨ x0.toInt = 15) ∧ (1 : Int) = 0) ∨ ((x0.toInt = 3 ∨ x0.toInt = 9 ∨ x0.toInt = 14 ∨ x0.toInt = 16) ∧ (1 : Int) = 2) ∨ (x0.toInt = 8 ∧ (1 : Int) = 3) ∨ ((1 : Int) = 1 ∧ x0.toInt ≠ 0 ∧ x0.toInt ≠ 1 ∧ x0.toInt ≠ 15 ∧ x0.toInt ≠ 3 ∧ x0.toInt ≠ 9 ∧ x0.toInt ≠ 14 ∧ x0.toInt ≠ 16 ∧ x0.toInt ≠ 8) from by omega)
  have f36 : x0.toInt ≠ (11 : Int) := xne h34
  refine And.intro (fun h37 => ?_) (fun h37 => ?_)
  · have f38 : x0.toInt = (12 : Int) := xeq h37
    exact k (1 : Int32) (show ((x0.toInt = 0 ∨ x0.toInt = 1 ∨ x0.toInt = 15) ∧ (1 : Int) = 0) ∨ ((x0.toInt = 3 ∨ x0.toInt = 9 ∨ x0.toInt = 14 ∨ x0.toInt = 16) ∧ (1 : Int) = 2) ∨ (x0.toInt = 8 ∧ (1 : Int) = 3) ∨ ((1 : Int) = 1 ∧ x0.toInt ≠ 0 ∧ x0.toInt ≠ 1 ∧ x0.toInt ≠ 15 ∧ x0.toInt ≠ 3 ∧ x0.toInt ≠ 9 ∧ x0.toInt ≠ 14 ∧ x0.toInt ≠ 16 ∧ x0.toInt ≠ 8) from by omega)
  have f39 : x0.toInt ≠ (12 : Int) := xne h37
  refine And.intro (fun h40 => ?_) (fun h40 => ?_)
  · have f41 : x0.toInt = (13 : Int) := xeq h40
    exact k (1 : Int32) (show ((x0.toInt = 0 ∨ x0.toInt = 1 ∨ x0.toInt = 15) ∧ (1 : Int) = 0) ∨ ((x0.toInt = 3 ∨ x0.toInt = 9 ∨ x0.toInt = 14 ∨ x0.toInt = 16) ∧ (1 : Int) = 2) ∨ (x0.toInt = 8 ∧ (1 : Int) = 3) ∨ ((1 : Int) = 1 ∧ x0.toInt ≠ 0 ∧ x0.toInt ≠ 1 ∧ x0.toInt ≠ 15 ∧ x0.toInt ≠ 3 ∧ x0.toInt ≠ 9 ∧ x0.toInt ≠ 14 ∧ x0.toInt ≠ 16 ∧ x0.toInt ≠ 8) from by omega)
  have f42 : x0.toInt ≠ (13 : Int) := xne h40
  refine And.intro (fun h43 => ?_) (fun h43 => ?_)
  · have f44 : x0.toInt = (14 : Int) := xeq h43
    exact k (2 : Int32) (show ((x0.toInt = 0 ∨ x0.toInt = 1 ∨ x0.toInt = 15) ∧ (2 : Int) = 0) ∨ ((x0.toInt = 3 ∨ x0.toInt = 9 ∨ x0.toInt = 14 ∨ x0.toInt = 16) ∧ (2 : Int) = 2) ∨ (x0.toInt = 8 ∧ (2 : Int) = 3) ∨ ((2 : Int) = 1 ∧ x0.toInt ≠ 0 ∧ x0.toInt ≠ 1 ∧ x0.toInt ≠ 15 ∧ x0.toInt ≠ 3 ∧ x0.toInt ≠ 9 ∧ x0.toInt ≠ 14 ∧ x0.toInt ≠ 16 ∧ x0.toInt ≠ 8) from by omega)
  have f45 : x0.toInt ≠ (14 : Int) := xne h43
  refine And.intro (fun h46 => ?_) (fun h46 => ?_)
  · have f47 : x0.toInt = (15 : Int) := xeq h46
    exact k (0 : Int32) (show ((x0.toInt = 0 ∨ x0.toInt = 1 ∨ x0.toInt = 15) ∧ (0 : Int) = 0) ∨ ((x0.toInt = 3 ∨ x0.toInt = 9 ∨ x0.toInt = 14 ∨ x0.toInt = 16) ∧ (0 : Int) = 2) ∨ (x0.toInt = 8 ∧ (0 : Int) = 3) ∨ ((0 : Int) = 1 ∧ x0.toInt ≠ 0 ∧ x0.toInt ≠ 1 ∧ x0.toInt ≠ 15 ∧ x0.toInt ≠ 3 ∧ x0.toInt ≠ 9 ∧ x0.toInt ≠ 14 ∧ x0.toInt ≠ 16 ∧ x0.toInt ≠ 8) from by omega)
  have f48 : x0.toInt ≠ (15 : Int) := xne h46
  refine And.intro (fun h49 => ?_) (fun h49 => ?_)
  · have f50 : x0.toInt = (16 : Int) := xeq h49
    exact k (2 : Int32) (show ((x0.toInt = 0 ∨ x0.toInt = 1 ∨ x0.toInt = 15) ∧ (2 : Int) = 0) ∨ ((x0.toInt = 3 ∨ x0.toInt = 9 ∨ x0.toInt = 14 ∨ x0.toInt = 16) ∧ (2 : Int) = 2) ∨ (x0.toInt = 8 ∧ (2 : Int) = 3) ∨ ((2 : Int) = 1 ∧ x0.toInt ≠ 0 ∧ x0.toInt ≠ 1 ∧ x0.toInt ≠ 15 ∧ x0.toInt ≠ 3 ∧ x0.toInt ≠ 9 ∧ x0.toInt ≠ 14 ∧ x0.toInt ≠ 16 ∧ x0.toInt ≠ 8) from by omega)
  have f51 : x0.toInt ≠ (16 : Int) := xne h49
  exact k (1 : Int32) (show ((x0.toInt = 0 ∨ x0.toInt = 1 ∨ x0.toInt = 15) ∧ (1 : Int) = 0) ∨ ((x0.toInt = 3 ∨ x0.toInt = 9 ∨ x0.toInt = 14 ∨ x0.toInt = 16) ∧ (1 : Int) = 2) ∨ (x0.toInt = 8 ∧ (1 : Int) = 3) ∨ ((1 : Int) = 1 ∧ x0.toInt ≠ 0 ∧ x0.toInt ≠ 1 ∧ x0.toInt ≠ 15 ∧ x0.toInt ≠ 3 ∧ x0.toInt ≠ 9 ∧ x0.toInt ≠ 14 ∧ x0.toInt ≠ 16 ∧ x0.toInt ≠ 8) from by omega)

-- ProofBenchModel.hasTerm(I)Z
theorem pg_235_0 {d : Nat} {x0 : Int32} {s : ps_S} {Q : Option Value → ps_S → Prop} (h :
  (x0 = 12 →
    Q (some (.int 1)) s) ∧
  (x0 ≠ 12 →
    (x0 = 13 →
      Q (some (.int 1)) s) ∧
    (x0 ≠ 13 →
      (x0 ≠ 15 →
        Q (some (.int 0)) s) ∧
      (x0 = 15 →
        Q (some (.int 1)) s)))) : ps_At d 235 0 [(0, .int x0)] [] s Q :=
  ps_wp_at (stops := []) (n := 22) h rfl

theorem ms_235 {x : Nat → Nat → Nat} {t : Int32} {s : ps_S} {d : Nat} {x0 : Int32} {f : Int32 → ps_S → Prop} (J : mJ x t s) (k : ∀ (v : Int32), ((v.toInt = 1 ∧ (x0.toInt = 12 ∨ x0.toInt = 13 ∨ x0.toInt = 15)) ∨ (v.toInt = 0 ∧ x0.toInt ≠ 12 ∧ x0.toInt ≠ 13 ∧ x0.toInt ≠ 15)) → v &&& 1 = v → f v s) : ps_Cl d 235 [.int x0] s (ps_rI f) := by
  refine pg_235_0 ?_
  refine And.intro (fun h1 => ?_) (fun h1 => ?_)
  · have f2 : x0.toInt = (12 : Int) := xeq h1
    exact k (1 : Int32) (show ((1 : Int) = 1 ∧ (x0.toInt = 12 ∨ x0.toInt = 13 ∨ x0.toInt = 15)) ∨ ((1 : Int) = 0 ∧ x0.toInt ≠ 12 ∧ x0.toInt ≠ 13 ∧ x0.toInt ≠ 15) from by omega) (by decide)
  · have f3 : x0.toInt ≠ (12 : Int) := xne h1
    refine And.intro (fun h4 => ?_) (fun h4 => ?_)
    · have f5 : x0.toInt = (13 : Int) := xeq h4
      exact k (1 : Int32) (show ((1 : Int) = 1 ∧ (x0.toInt = 12 ∨ x0.toInt = 13 ∨ x0.toInt = 15)) ∨ ((1 : Int) = 0 ∧ x0.toInt ≠ 12 ∧ x0.toInt ≠ 13 ∧ x0.toInt ≠ 15) from by omega) (by decide)
    · have f6 : x0.toInt ≠ (13 : Int) := xne h4
      refine And.intro (fun h7 => ?_) (fun h7 => ?_)
      · have f8 : x0.toInt ≠ (15 : Int) := xne h7
        exact k (0 : Int32) (show ((0 : Int) = 1 ∧ (x0.toInt = 12 ∨ x0.toInt = 13 ∨ x0.toInt = 15)) ∨ ((0 : Int) = 0 ∧ x0.toInt ≠ 12 ∧ x0.toInt ≠ 13 ∧ x0.toInt ≠ 15) from by omega) (by decide)
      · have f9 : x0.toInt = (15 : Int) := xeq h7
        exact k (1 : Int32) (show ((1 : Int) = 1 ∧ (x0.toInt = 12 ∨ x0.toInt = 13 ∨ x0.toInt = 15)) ∨ ((1 : Int) = 0 ∧ x0.toInt ≠ 12 ∧ x0.toInt ≠ 13 ∧ x0.toInt ≠ 15) from by omega) (by decide)

-- ProofBenchModel.hasFormula(I)Z
theorem pg_236_0 {d : Nat} {x0 : Int32} {s : ps_S} {Q : Option Value → ps_S → Prop} (h :
  (x0 = 0 →
    Q (some (.int 1)) s) ∧
  (x0 ≠ 0 →
    (x0 = 6 →
      Q (some (.int 1)) s) ∧
    (x0 ≠ 6 →
      (x0 = 7 →
        Q (some (.int 1)) s) ∧
      (x0 ≠ 7 →
        (x0 = 10 →
          Q (some (.int 1)) s) ∧
        (x0 ≠ 10 →
          (x0 = 13 →
            Q (some (.int 1)) s) ∧
          (x0 ≠ 13 →
            (x0 < 16 →
              Q (some (.int 0)) s) ∧
            (16 ≤ x0 →
              Q (some (.int 1)) s))))))) : ps_At d 236 0 [(0, .int x0)] [] s Q :=
  ps_wp_at (stops := []) (n := 39) h rfl

theorem ms_236 {x : Nat → Nat → Nat} {t : Int32} {s : ps_S} {d : Nat} {x0 : Int32} {f : Int32 → ps_S → Prop} (J : mJ x t s) (k : ∀ (v : Int32), ((v.toInt = 1 ∧ (x0.toInt = 0 ∨ x0.toInt = 6 ∨ x0.toInt = 7 ∨ x0.toInt = 10 ∨ x0.toInt = 13 ∨ 16 ≤ x0.toInt)) ∨ (v.toInt = 0 ∧ x0.toInt ≠ 0 ∧ x0.toInt ≠ 6 ∧ x0.toInt ≠ 7 ∧ x0.toInt ≠ 10 ∧ x0.toInt ≠ 13 ∧ x0.toInt < 16)) → v &&& 1 = v → f v s) : ps_Cl d 236 [.int x0] s (ps_rI f) := by
  refine pg_236_0 ?_
  refine And.intro (fun h1 => ?_) (fun h1 => ?_)
  · have f2 : x0.toInt = (0 : Int) := xeq h1
    exact k (1 : Int32) (show ((1 : Int) = 1 ∧ (x0.toInt = 0 ∨ x0.toInt = 6 ∨ x0.toInt = 7 ∨ x0.toInt = 10 ∨ x0.toInt = 13 ∨ 16 ≤ x0.toInt)) ∨ ((1 : Int) = 0 ∧ x0.toInt ≠ 0 ∧ x0.toInt ≠ 6 ∧ x0.toInt ≠ 7 ∧ x0.toInt ≠ 10 ∧ x0.toInt ≠ 13 ∧ x0.toInt < 16) from by omega) (by decide)
  · have f3 : x0.toInt ≠ (0 : Int) := xne h1
    refine And.intro (fun h4 => ?_) (fun h4 => ?_)
    · have f5 : x0.toInt = (6 : Int) := xeq h4
      exact k (1 : Int32) (show ((1 : Int) = 1 ∧ (x0.toInt = 0 ∨ x0.toInt = 6 ∨ x0.toInt = 7 ∨ x0.toInt = 10 ∨ x0.toInt = 13 ∨ 16 ≤ x0.toInt)) ∨ ((1 : Int) = 0 ∧ x0.toInt ≠ 0 ∧ x0.toInt ≠ 6 ∧ x0.toInt ≠ 7 ∧ x0.toInt ≠ 10 ∧ x0.toInt ≠ 13 ∧ x0.toInt < 16) from by omega) (by decide)
    · have f6 : x0.toInt ≠ (6 : Int) := xne h4
      refine And.intro (fun h7 => ?_) (fun h7 => ?_)
      · have f8 : x0.toInt = (7 : Int) := xeq h7
        exact k (1 : Int32) (show ((1 : Int) = 1 ∧ (x0.toInt = 0 ∨ x0.toInt = 6 ∨ x0.toInt = 7 ∨ x0.toInt = 10 ∨ x0.toInt = 13 ∨ 16 ≤ x0.toInt)) ∨ ((1 : Int) = 0 ∧ x0.toInt ≠ 0 ∧ x0.toInt ≠ 6 ∧ x0.toInt ≠ 7 ∧ x0.toInt ≠ 10 ∧ x0.toInt ≠ 13 ∧ x0.toInt < 16) from by omega) (by decide)
      · have f9 : x0.toInt ≠ (7 : Int) := xne h7
        refine And.intro (fun h10 => ?_) (fun h10 => ?_)
        · have f11 : x0.toInt = (10 : Int) := xeq h10
          exact k (1 : Int32) (show ((1 : Int) = 1 ∧ (x0.toInt = 0 ∨ x0.toInt = 6 ∨ x0.toInt = 7 ∨ x0.toInt = 10 ∨ x0.toInt = 13 ∨ 16 ≤ x0.toInt)) ∨ ((1 : Int) = 0 ∧ x0.toInt ≠ 0 ∧ x0.toInt ≠ 6 ∧ x0.toInt ≠ 7 ∧ x0.toInt ≠ 10 ∧ x0.toInt ≠ 13 ∧ x0.toInt < 16) from by omega) (by decide)
        · have f12 : x0.toInt ≠ (10 : Int) := xne h10
          refine And.intro (fun h13 => ?_) (fun h13 => ?_)
          · have f14 : x0.toInt = (13 : Int) := xeq h13
            exact k (1 : Int32) (show ((1 : Int) = 1 ∧ (x0.toInt = 0 ∨ x0.toInt = 6 ∨ x0.toInt = 7 ∨ x0.toInt = 10 ∨ x0.toInt = 13 ∨ 16 ≤ x0.toInt)) ∨ ((1 : Int) = 0 ∧ x0.toInt ≠ 0 ∧ x0.toInt ≠ 6 ∧ x0.toInt ≠ 7 ∧ x0.toInt ≠ 10 ∧ x0.toInt ≠ 13 ∧ x0.toInt < 16) from by omega) (by decide)
          · have f15 : x0.toInt ≠ (13 : Int) := xne h13
            refine And.intro (fun h16 => ?_) (fun h16 => ?_)
            · have f17 : x0.toInt < (16 : Int) := xlt h16
              exact k (0 : Int32) (show ((0 : Int) = 1 ∧ (x0.toInt = 0 ∨ x0.toInt = 6 ∨ x0.toInt = 7 ∨ x0.toInt = 10 ∨ x0.toInt = 13 ∨ 16 ≤ x0.toInt)) ∨ ((0 : Int) = 0 ∧ x0.toInt ≠ 0 ∧ x0.toInt ≠ 6 ∧ x0.toInt ≠ 7 ∧ x0.toInt ≠ 10 ∧ x0.toInt ≠ 13 ∧ x0.toInt < 16) from by omega) (by decide)
            · have f18 : (16 : Int) ≤ x0.toInt := xle h16
              exact k (1 : Int32) (show ((1 : Int) = 1 ∧ (x0.toInt = 0 ∨ x0.toInt = 6 ∨ x0.toInt = 7 ∨ x0.toInt = 10 ∨ x0.toInt = 13 ∨ 16 ≤ x0.toInt)) ∨ ((1 : Int) = 0 ∧ x0.toInt ≠ 0 ∧ x0.toInt ≠ 6 ∧ x0.toInt ≠ 7 ∧ x0.toInt ≠ 10 ∧ x0.toInt ≠ 13 ∧ x0.toInt < 16) from by omega) (by decide)

-- ProofBenchModel.anyNumber()I
theorem pg_237_0 {d : Nat} {s : ps_S} {Q : Option Value → ps_S → Prop} (h :
  ps_Cl d 192 [.ref 1131] s (ps_rI (fun v1 s1 =>
    (v1 ≠ 0 →
      ((ps_i s1 1131 9) ≠ 4 →
        ps_Cl d 197 [.ref 1131, .int 0] s1 (ps_rV (fun s2 =>
          Q (some (.int (ps_i s1 1131 10))) s2))) ∧
      ((ps_i s1 1131 9) = 4 →
        ps_Cl d 197 [.ref 1131, .int 1] s1 (ps_rV (fun s3 =>
          Q (some (.int (ps_i s1 1131 10))) s3)))) ∧
    (v1 = 0 →
      Q (some (.int 0)) s1)))) : ps_At (d + 1) 237 0 [(0, .ref 1131)] [] s Q :=
  ps_wp_at (stops := []) (n := 24) h rfl

theorem ms_237 {x : Nat → Nat → Nat} {t : Int32} {s : ps_S} {d : Nat} {f : Int32 → ps_S → Prop} (J : mJ x t s) (q0 : (ps_i s 1131 8).toInt ≤ (ps_i s 1131 4).toInt) (k : ∀ (v : Int32) (s' : ps_S), mJ x t s' → kp [] [5, 6, 7, 8, 9, 10, 11] s s' → ((ps_i s' 1131 8).toInt ≤ (ps_i s' 1131 4).toInt) → (0 ≤ v.toInt) → (v.toInt ≤ 9999) → (1 ≤ (ps_i s 1131 5).toInt → 1 ≤ (ps_i s' 1131 5).toInt) → f v s') : ps_Cl (d + 3) 237 [.ref 1131] s (ps_rI f) := by
  have r1 := mf_8 J
  have r2 := mf_4 J
  have K : kp [] [5, 6, 7, 8, 9, 10, 11] s s := kp_refl
  refine pg_237_0 (d := d + 2) ?_
  refine ms_192 J  (fun v3 p3_0 b3 => ?_)
  have p3_0' : (v3.toInt = 0 ∧ 1 ≤ (ps_i s 1131 5).toInt) ∨ (v3.toInt = 1 ∧ (ps_i s 1131 5).toInt = 0) := p3_0
  have r4 := mf_5 J
  refine And.intro (fun h5 => ?_) (fun h5 => ?_)
  · have f6 : v3.toInt ≠ (0 : Int) := xne h5
    have r7 := mf_10 J
    have r8 := mf_9 J
    refine And.intro (fun h9 => ?_) (fun h9 => ?_)
    · have f10 : (ps_i s 1131 9).toInt ≠ (4 : Int) := xne h9
      refine ms_197 J (show (ps_i s 1131 8).toInt ≤ (ps_i s 1131 4).toInt from by omega) (fun s11 J11 K11 p11_0 p11_1 p11_2 => ?_)
      have K12 := kpt K K11 rfl rfl
      have p11_0' : (ps_i s11 1131 8).toInt ≤ (ps_i s11 1131 4).toInt := p11_0
      have r13 := mf_8 J11
      have r14 := mf_4 J11
      have u15 : (ps_i s11 1131 4).toInt = (ps_i s 1131 4).toInt := xeq (kp_i K11 4 rfl)
      have p11_1' : 1 ≤ (ps_i s 1131 5).toInt → 1 ≤ (ps_i s11 1131 5).toInt := p11_1
      have r16 := mf_5 J11
      have p11_2' : (0 : Int) = 0 → 1 ≤ (ps_i s11 1131 5).toInt := p11_2
      exact k (ps_i s 1131 10) _ J11 K12 (show (ps_i s11 1131 8).toInt ≤ (ps_i s11 1131 4).toInt from by omega) (show 0 ≤ (ps_i s 1131 10).toInt from by omega) (show (ps_i s 1131 10).toInt ≤ 9999 from by omega) (show 1 ≤ (ps_i s 1131 5).toInt → 1 ≤ (ps_i s11 1131 5).toInt from by omega)
    · have f17 : (ps_i s 1131 9).toInt = (4 : Int) := xeq h9
      refine ms_197 J (show (ps_i s 1131 8).toInt ≤ (ps_i s 1131 4).toInt from by omega) (fun s18 J18 K18 p18_0 p18_1 p18_2 => ?_)
      have K19 := kpt K K18 rfl rfl
      have p18_0' : (ps_i s18 1131 8).toInt ≤ (ps_i s18 1131 4).toInt := p18_0
      have r20 := mf_8 J18
      have r21 := mf_4 J18
      have u22 : (ps_i s18 1131 4).toInt = (ps_i s 1131 4).toInt := xeq (kp_i K18 4 rfl)
      have p18_1' : 1 ≤ (ps_i s 1131 5).toInt → 1 ≤ (ps_i s18 1131 5).toInt := p18_1
      have r23 := mf_5 J18
      have p18_2' : (1 : Int) = 0 → 1 ≤ (ps_i s18 1131 5).toInt := p18_2
      exact k (ps_i s 1131 10) _ J18 K19 (show (ps_i s18 1131 8).toInt ≤ (ps_i s18 1131 4).toInt from by omega) (show 0 ≤ (ps_i s 1131 10).toInt from by omega) (show (ps_i s 1131 10).toInt ≤ 9999 from by omega) (show 1 ≤ (ps_i s 1131 5).toInt → 1 ≤ (ps_i s18 1131 5).toInt from by omega)
  · have f24 : v3.toInt = (0 : Int) := xeq h5
    exact k (0 : Int32) _ J K (show (ps_i s 1131 8).toInt ≤ (ps_i s 1131 4).toInt from by omega) (show 0 ≤ (0 : Int) from by omega) (show (0 : Int) ≤ 9999 from by omega) (show 1 ≤ (ps_i s 1131 5).toInt → 1 ≤ (ps_i s 1131 5).toInt from by omega)

-- ProofBenchModel.because(I)V
theorem pg_241_0 {d : Nat} {x1 : Int32} {s : ps_S} {Q : Option Value → ps_S → Prop} (h :
  ((ps_i s 1131 50) = 0 →
    Q none (ps_ui s 1131 50 x1)) ∧
  ((ps_i s 1131 50) ≠ 0 →
    ((ps_i s 1131 50) ≤ x1 →
      Q none s) ∧
    (x1 < (ps_i s 1131 50) →
      Q none (ps_ui s 1131 50 x1)))) : ps_At d 241 0 [(0, .ref 1131), (1, .int x1)] [] s Q :=
  ps_wp_at (stops := []) (n := 18) h rfl

theorem ms_241 {x : Nat → Nat → Nat} {t : Int32} {s : ps_S} {d : Nat} {x1 : Int32} {f : ps_S → Prop} (J : mJ x t s) (q0 : 1 ≤ x1.toInt) (q1 : x1.toInt ≤ 5) (k : ∀ (s' : ps_S), mJ x t s' → kp [] [50] s s' → (1 ≤ (ps_i s' 1131 50).toInt) → f s') : ps_Cl d 241 [.ref 1131, .int x1] s (ps_rV f) := by
  have K : kp [] [50] s s := kp_refl
  refine pg_241_0 ?_
  have r1 := mf_50 J
  refine And.intro (fun h2 => ?_) (fun h2 => ?_)
  · have f3 : (ps_i s 1131 50).toInt = (0 : Int) := xeq h2
    have J4 := mwi_50 (v := x1) J (show 0 ≤ x1.toInt from by omega) (show x1.toInt ≤ 5 from by omega)
    have K5 := kpi K (q := 50) (v := x1) rfl
    exact k _ J4 K5 (show 1 ≤ x1.toInt from by omega)
  · have f6 : (ps_i s 1131 50).toInt ≠ (0 : Int) := xne h2
    refine And.intro (fun h7 => ?_) (fun h7 => ?_)
    · have f8 : (ps_i s 1131 50).toInt ≤ x1.toInt := xle h7
      exact k _ J K (show 1 ≤ (ps_i s 1131 50).toInt from by omega)
    · have f9 : x1.toInt < (ps_i s 1131 50).toInt := xlt h7
      have J10 := mwi_50 (v := x1) J (show 0 ≤ x1.toInt from by omega) (show x1.toInt ≤ 5 from by omega)
      have K11 := kpi K (q := 50) (v := x1) rfl
      exact k _ J10 K11 (show 1 ≤ x1.toInt from by omega)

-- ProofBenchModel.stepRow(I)I
theorem pg_242_0 {d : Nat} {x0 : Int32} {s : ps_S} {Q : Option Value → ps_S → Prop} (h :
  Q (some (.int ((0 : Int32) + ((41 : Int32) * x0)))) s) : ps_At d 242 0 [(0, .int x0)] [] s Q :=
  ps_wp_at (stops := []) (n := 8) h rfl

-- ProofBenchModel.assumedRow(II)I
theorem pg_243_0 {d : Nat} {x0 : Int32} {x1 : Int32} {s : ps_S} {Q : Option Value → ps_S → Prop} (h :
  Q (some (.int ((1640 : Int32) + ((41 : Int32) * (((12 : Int32) * x0) + x1))))) s) : ps_At d 243 0 [(0, .int x0), (1, .int x1)] [] s Q :=
  ps_wp_at (stops := []) (n := 12) h rfl

-- ProofBenchModel.first(I)I
theorem pg_244_0 {d : Nat} {x1 : Int32} {s : ps_S} {Q : Option Value → ps_S → Prop} (h :
  ps_nd (pm_in x1 40) (ps_Cl d 242 [.int (ps_a s 1153 (Int32.toNatClampNeg x1))] s (ps_rI (fun v1 s1 =>
    Q (some (.int v1)) s1)))) : ps_At (d + 1) 244 0 [(0, .ref 1131), (1, .int x1)] [] s Q :=
  ps_wp_at (stops := []) (n := 8) h rfl

-- ProofBenchModel.second(I)I
theorem pg_245_0 {d : Nat} {x1 : Int32} {s : ps_S} {Q : Option Value → ps_S → Prop} (h :
  ps_nd (pm_in x1 40) (ps_Cl d 242 [.int (ps_a s 1154 (Int32.toNatClampNeg x1))] s (ps_rI (fun v1 s1 =>
    Q (some (.int v1)) s1)))) : ps_At (d + 1) 245 0 [(0, .ref 1131), (1, .int x1)] [] s Q :=
  ps_wp_at (stops := []) (n := 8) h rfl

-- ProofBenchModel.third(I)I
theorem pg_246_0 {d : Nat} {x1 : Int32} {s : ps_S} {Q : Option Value → ps_S → Prop} (h :
  ps_nd (pm_in x1 40) (ps_Cl d 242 [.int (ps_a s 1155 (Int32.toNatClampNeg x1))] s (ps_rI (fun v1 s1 =>
    Q (some (.int v1)) s1)))) : ps_At (d + 1) 246 0 [(0, .ref 1131), (1, .int x1)] [] s Q :=
  ps_wp_at (stops := []) (n := 8) h rfl

-- ProofBenchModel.headOf(I)I
theorem pg_247_0 {d : Nat} {x1 : Int32} {s : ps_S} {Q : Option Value → ps_S → Prop} (h :
  ps_Cl d 220 [.ref 1131, .int x1, .int 0] s (ps_rI (fun v1 s1 =>
    Q (some (.int v1)) s1))) : ps_At (d + 1) 247 0 [(0, .ref 1131), (1, .int x1)] [] s Q :=
  ps_wp_at (stops := []) (n := 7) h rfl

-- ProofBenchModel.havePremises(I)Z
theorem pg_250_0 {d : Nat} {x1 : Int32} {s : ps_S} {Q : Option Value → ps_S → Prop} (h :
  ps_nd (pm_in x1 40) (ps_Cl d 234 [.int (ps_a s 1152 (Int32.toNatClampNeg x1))] s (ps_rI (fun v1 s1 =>
    ps_nd (pm_in x1 40) (((ps_a s1 1152 (Int32.toNatClampNeg x1)) ≠ 2 →
      (v1 < 1 →
        ps_At (d + 1) 250 54 [(0, .ref 1131), (1, .int x1), (2, .int v1)] [] s1 Q) ∧
      (1 ≤ v1 →
        ps_nd (pm_in x1 40) ((x1 ≤ (ps_a s1 1153 (Int32.toNatClampNeg x1)) →
          Q (some (.int 0)) s1) ∧
        ((ps_a s1 1153 (Int32.toNatClampNeg x1)) < x1 →
          ps_At (d + 1) 250 54 [(0, .ref 1131), (1, .int x1), (2, .int v1)] [] s1 Q)))) ∧
    ((ps_a s1 1152 (Int32.toNatClampNeg x1)) = 2 →
      ps_nd (pm_in x1 40) (((ps_i s1 1131 54) ≤ (ps_a s1 1153 (Int32.toNatClampNeg x1)) →
        Q (some (.int 0)) s1) ∧
      ((ps_a s1 1153 (Int32.toNatClampNeg x1)) < (ps_i s1 1131 54) →
        Q (some (.int 1)) s1)))))))) : ps_At (d + 1) 250 0 [(0, .ref 1131), (1, .int x1)] [] s Q :=
  ps_wp_at (stops := [(54, [0, 1, 2]), (69, [0, 1, 2])]) (n := 37) h rfl

theorem pg_250_54 {d : Nat} {x1 : Int32} {x2 : Int32} {s : ps_S} {Q : Option Value → ps_S → Prop} (h :
  (x2 < 2 →
    ps_At (d + 1) 250 69 [(0, .ref 1131), (1, .int x1), (2, .int x2)] [] s Q) ∧
  (2 ≤ x2 →
    ps_nd (pm_in x1 40) ((x1 ≤ (ps_a s 1154 (Int32.toNatClampNeg x1)) →
      Q (some (.int 0)) s) ∧
    ((ps_a s 1154 (Int32.toNatClampNeg x1)) < x1 →
      ps_At (d + 1) 250 69 [(0, .ref 1131), (1, .int x1), (2, .int x2)] [] s Q)))) : ps_At (d + 1) 250 54 [(0, .ref 1131), (1, .int x1), (2, .int x2)] [] s Q :=
  ps_wp_at (stops := [(54, [0, 1, 2]), (69, [0, 1, 2])]) (n := 13) h rfl

theorem pg_250_69 {d : Nat} {x1 : Int32} {x2 : Int32} {s : ps_S} {Q : Option Value → ps_S → Prop} (h :
  (x2 < 3 →
    Q (some (.int 1)) s) ∧
  (3 ≤ x2 →
    ps_nd (pm_in x1 40) ((x1 ≤ (ps_a s 1155 (Int32.toNatClampNeg x1)) →
      Q (some (.int 0)) s) ∧
    ((ps_a s 1155 (Int32.toNatClampNeg x1)) < x1 →
      Q (some (.int 1)) s)))) : ps_At (d + 1) 250 69 [(0, .ref 1131), (1, .int x1), (2, .int x2)] [] s Q :=
  ps_wp_at (stops := [(54, [0, 1, 2]), (69, [0, 1, 2])]) (n := 19) h rfl

theorem ms_250_69 {x : Nat → Nat → Nat} {t : Int32} {d : Nat} {s : ps_S} {x1 : Int32} {Q : Option Value → ps_S → Prop} (k : ∀ (v : Int32), (v.toInt = 0 ∨ (ps_a s 1152 (Int32.toNatClampNeg x1)).toInt ≠ 2 ∨ (ps_a s 1153 (Int32.toNatClampNeg x1)).toInt < (ps_i s 1131 54).toInt) → (v.toInt = 0 ∨ (ps_a s 1152 (Int32.toNatClampNeg x1)).toInt = 0 ∨ (ps_a s 1152 (Int32.toNatClampNeg x1)).toInt = 1 ∨ (ps_a s 1152 (Int32.toNatClampNeg x1)).toInt = 2 ∨ (ps_a s 1152 (Int32.toNatClampNeg x1)).toInt = 15 ∨ (ps_a s 1153 (Int32.toNatClampNeg x1)).toInt < x1.toInt) → (v.toInt = 0 ∨ ((ps_a s 1152 (Int32.toNatClampNeg x1)).toInt ≠ 3 ∧ (ps_a s 1152 (Int32.toNatClampNeg x1)).toInt ≠ 9 ∧ (ps_a s 1152 (Int32.toNatClampNeg x1)).toInt ≠ 14 ∧ (ps_a s 1152 (Int32.toNatClampNeg x1)).toInt ≠ 16 ∧ (ps_a s 1152 (Int32.toNatClampNeg x1)).toInt ≠ 8) ∨ (ps_a s 1154 (Int32.toNatClampNeg x1)).toInt < x1.toInt) → (v.toInt = 0 ∨ (ps_a s 1152 (Int32.toNatClampNeg x1)).toInt ≠ 8 ∨ (ps_a s 1155 (Int32.toNatClampNeg x1)).toInt < x1.toInt) → v &&& 1 = v → Q (some (.int v)) s) (x2 : Int32) (J : mJ x t s) (i0 : 0 ≤ x1.toInt) (i1 : x1.toInt < 40) (i2 : (((ps_a s 1152 (Int32.toNatClampNeg x1)).toInt = 0 ∨ (ps_a s 1152 (Int32.toNatClampNeg x1)).toInt = 1 ∨ (ps_a s 1152 (Int32.toNatClampNeg x1)).toInt = 15) ∧ x2.toInt = 0) ∨ (((ps_a s 1152 (Int32.toNatClampNeg x1)).toInt = 3 ∨ (ps_a s 1152 (Int32.toNatClampNeg x1)).toInt = 9 ∨ (ps_a s 1152 (Int32.toNatClampNeg x1)).toInt = 14 ∨ (ps_a s 1152 (Int32.toNatClampNeg x1)).toInt = 16) ∧ x2.toInt = 2) ∨ ((ps_a s 1152 (Int32.toNatClampNeg x1)).toInt = 8 ∧ x2.toInt = 3) ∨ (x2.toInt = 1 ∧ (ps_a s 1152 (Int32.toNatClampNeg x1)).toInt ≠ 0 ∧ (ps_a s 1152 (Int32.toNatClampNeg x1)).toInt ≠ 1 ∧ (ps_a s 1152 (Int32.toNatClampNeg x1)).toInt ≠ 15 ∧ (ps_a s 1152 (Int32.toNatClampNeg x1)).toInt ≠ 3 ∧ (ps_a s 1152 (Int32.toNatClampNeg x1)).toInt ≠ 9 ∧ (ps_a s 1152 (Int32.toNatClampNeg x1)).toInt ≠ 14 ∧ (ps_a s 1152 (Int32.toNatClampNeg x1)).toInt ≠ 16 ∧ (ps_a s 1152 (Int32.toNatClampNeg x1)).toInt ≠ 8)) (i3 : (ps_a s 1152 (Int32.toNatClampNeg x1)).toInt ≠ 2) (i4 : x2.toInt < 1 ∨ (ps_a s 1153 (Int32.toNatClampNeg x1)).toInt < x1.toInt) (i5 : x2.toInt < 2 ∨ (ps_a s 1154 (Int32.toNatClampNeg x1)).toInt < x1.toInt) : ps_At (d + 1) 250 69 [(0, .ref 1131), (1, .int x1), (2, .int x2)] [] s Q := by
  have r1 : 0 ≤ (ps_a s 1152 (Int32.toNatClampNeg x1)).toInt ∧ (ps_a s 1152 (Int32.toNatClampNeg x1)).toInt ≤ 18 := ma_1152 (i := x1) J (show 0 ≤ x1.toInt from by omega) (show x1.toInt < 40 from by omega)
  have r2 : -1 ≤ (ps_a s 1153 (Int32.toNatClampNeg x1)).toInt ∧ (ps_a s 1153 (Int32.toNatClampNeg x1)).toInt ≤ 9999 := ma_1153 (i := x1) J (show 0 ≤ x1.toInt from by omega) (show x1.toInt < 40 from by omega)
  have r3 : 0 ≤ (ps_a s 1154 (Int32.toNatClampNeg x1)).toInt ∧ (ps_a s 1154 (Int32.toNatClampNeg x1)).toInt ≤ 9999 := ma_1154 (i := x1) J (show 0 ≤ x1.toInt from by omega) (show x1.toInt < 40 from by omega)
  refine pg_250_69 (d := d) ?_
  refine And.intro (fun h4 => ?_) (fun h4 => ?_)
  · have f5 : x2.toInt < (3 : Int) := xlt h4
    have r6 := mf_54 J
    have r7 : 0 ≤ (ps_a s 1155 (Int32.toNatClampNeg x1)).toInt ∧ (ps_a s 1155 (Int32.toNatClampNeg x1)).toInt ≤ 9999 := ma_1155 (i := x1) J (show 0 ≤ x1.toInt from by omega) (show x1.toInt < 40 from by omega)
    exact k (1 : Int32) (show (1 : Int) = 0 ∨ (ps_a s 1152 (Int32.toNatClampNeg x1)).toInt ≠ 2 ∨ (ps_a s 1153 (Int32.toNatClampNeg x1)).toInt < (ps_i s 1131 54).toInt from by omega) (show (1 : Int) = 0 ∨ (ps_a s 1152 (Int32.toNatClampNeg x1)).toInt = 0 ∨ (ps_a s 1152 (Int32.toNatClampNeg x1)).toInt = 1 ∨ (ps_a s 1152 (Int32.toNatClampNeg x1)).toInt = 2 ∨ (ps_a s 1152 (Int32.toNatClampNeg x1)).toInt = 15 ∨ (ps_a s 1153 (Int32.toNatClampNeg x1)).toInt < x1.toInt from by omega) (show (1 : Int) = 0 ∨ ((ps_a s 1152 (Int32.toNatClampNeg x1)).toInt ≠ 3 ∧ (ps_a s 1152 (Int32.toNatClampNeg x1)).toInt ≠ 9 ∧ (ps_a s 1152 (Int32.toNatClampNeg x1)).toInt ≠ 14 ∧ (ps_a s 1152 (Int32.toNatClampNeg x1)).toInt ≠ 16 ∧ (ps_a s 1152 (Int32.toNatClampNeg x1)).toInt ≠ 8) ∨ (ps_a s 1154 (Int32.toNatClampNeg x1)).toInt < x1.toInt from by omega) (show (1 : Int) = 0 ∨ (ps_a s 1152 (Int32.toNatClampNeg x1)).toInt ≠ 8 ∨ (ps_a s 1155 (Int32.toNatClampNeg x1)).toInt < x1.toInt from by omega) (by decide)
  · have f8 : (3 : Int) ≤ x2.toInt := xle h4
    refine ps_nd_i (show pm_in x1 40 = true from xgi (show 0 ≤ x1.toInt from by omega) (show x1.toInt < 40 from by omega)) ?_
    have r9 : 0 ≤ (ps_a s 1155 (Int32.toNatClampNeg x1)).toInt ∧ (ps_a s 1155 (Int32.toNatClampNeg x1)).toInt ≤ 9999 := ma_1155 (i := x1) J (show 0 ≤ x1.toInt from by omega) (show x1.toInt < 40 from by omega)
    refine And.intro (fun h10 => ?_) (fun h10 => ?_)
    · have f11 : x1.toInt ≤ (ps_a s 1155 (Int32.toNatClampNeg x1)).toInt := xle h10
      have r12 := mf_54 J
      exact k (0 : Int32) (show (0 : Int) = 0 ∨ (ps_a s 1152 (Int32.toNatClampNeg x1)).toInt ≠ 2 ∨ (ps_a s 1153 (Int32.toNatClampNeg x1)).toInt < (ps_i s 1131 54).toInt from by omega) (show (0 : Int) = 0 ∨ (ps_a s 1152 (Int32.toNatClampNeg x1)).toInt = 0 ∨ (ps_a s 1152 (Int32.toNatClampNeg x1)).toInt = 1 ∨ (ps_a s 1152 (Int32.toNatClampNeg x1)).toInt = 2 ∨ (ps_a s 1152 (Int32.toNatClampNeg x1)).toInt = 15 ∨ (ps_a s 1153 (Int32.toNatClampNeg x1)).toInt < x1.toInt from by omega) (show (0 : Int) = 0 ∨ ((ps_a s 1152 (Int32.toNatClampNeg x1)).toInt ≠ 3 ∧ (ps_a s 1152 (Int32.toNatClampNeg x1)).toInt ≠ 9 ∧ (ps_a s 1152 (Int32.toNatClampNeg x1)).toInt ≠ 14 ∧ (ps_a s 1152 (Int32.toNatClampNeg x1)).toInt ≠ 16 ∧ (ps_a s 1152 (Int32.toNatClampNeg x1)).toInt ≠ 8) ∨ (ps_a s 1154 (Int32.toNatClampNeg x1)).toInt < x1.toInt from by omega) (show (0 : Int) = 0 ∨ (ps_a s 1152 (Int32.toNatClampNeg x1)).toInt ≠ 8 ∨ (ps_a s 1155 (Int32.toNatClampNeg x1)).toInt < x1.toInt from by omega) (by decide)
    · have f13 : (ps_a s 1155 (Int32.toNatClampNeg x1)).toInt < x1.toInt := xlt h10
      have r14 := mf_54 J
      exact k (1 : Int32) (show (1 : Int) = 0 ∨ (ps_a s 1152 (Int32.toNatClampNeg x1)).toInt ≠ 2 ∨ (ps_a s 1153 (Int32.toNatClampNeg x1)).toInt < (ps_i s 1131 54).toInt from by omega) (show (1 : Int) = 0 ∨ (ps_a s 1152 (Int32.toNatClampNeg x1)).toInt = 0 ∨ (ps_a s 1152 (Int32.toNatClampNeg x1)).toInt = 1 ∨ (ps_a s 1152 (Int32.toNatClampNeg x1)).toInt = 2 ∨ (ps_a s 1152 (Int32.toNatClampNeg x1)).toInt = 15 ∨ (ps_a s 1153 (Int32.toNatClampNeg x1)).toInt < x1.toInt from by omega) (show (1 : Int) = 0 ∨ ((ps_a s 1152 (Int32.toNatClampNeg x1)).toInt ≠ 3 ∧ (ps_a s 1152 (Int32.toNatClampNeg x1)).toInt ≠ 9 ∧ (ps_a s 1152 (Int32.toNatClampNeg x1)).toInt ≠ 14 ∧ (ps_a s 1152 (Int32.toNatClampNeg x1)).toInt ≠ 16 ∧ (ps_a s 1152 (Int32.toNatClampNeg x1)).toInt ≠ 8) ∨ (ps_a s 1154 (Int32.toNatClampNeg x1)).toInt < x1.toInt from by omega) (show (1 : Int) = 0 ∨ (ps_a s 1152 (Int32.toNatClampNeg x1)).toInt ≠ 8 ∨ (ps_a s 1155 (Int32.toNatClampNeg x1)).toInt < x1.toInt from by omega) (by decide)

theorem ms_250_54 {x : Nat → Nat → Nat} {t : Int32} {d : Nat} {s : ps_S} {x1 : Int32} {Q : Option Value → ps_S → Prop} (k : ∀ (v : Int32), (v.toInt = 0 ∨ (ps_a s 1152 (Int32.toNatClampNeg x1)).toInt ≠ 2 ∨ (ps_a s 1153 (Int32.toNatClampNeg x1)).toInt < (ps_i s 1131 54).toInt) → (v.toInt = 0 ∨ (ps_a s 1152 (Int32.toNatClampNeg x1)).toInt = 0 ∨ (ps_a s 1152 (Int32.toNatClampNeg x1)).toInt = 1 ∨ (ps_a s 1152 (Int32.toNatClampNeg x1)).toInt = 2 ∨ (ps_a s 1152 (Int32.toNatClampNeg x1)).toInt = 15 ∨ (ps_a s 1153 (Int32.toNatClampNeg x1)).toInt < x1.toInt) → (v.toInt = 0 ∨ ((ps_a s 1152 (Int32.toNatClampNeg x1)).toInt ≠ 3 ∧ (ps_a s 1152 (Int32.toNatClampNeg x1)).toInt ≠ 9 ∧ (ps_a s 1152 (Int32.toNatClampNeg x1)).toInt ≠ 14 ∧ (ps_a s 1152 (Int32.toNatClampNeg x1)).toInt ≠ 16 ∧ (ps_a s 1152 (Int32.toNatClampNeg x1)).toInt ≠ 8) ∨ (ps_a s 1154 (Int32.toNatClampNeg x1)).toInt < x1.toInt) → (v.toInt = 0 ∨ (ps_a s 1152 (Int32.toNatClampNeg x1)).toInt ≠ 8 ∨ (ps_a s 1155 (Int32.toNatClampNeg x1)).toInt < x1.toInt) → v &&& 1 = v → Q (some (.int v)) s) (x2 : Int32) (J : mJ x t s) (i0 : 0 ≤ x1.toInt) (i1 : x1.toInt < 40) (i2 : (((ps_a s 1152 (Int32.toNatClampNeg x1)).toInt = 0 ∨ (ps_a s 1152 (Int32.toNatClampNeg x1)).toInt = 1 ∨ (ps_a s 1152 (Int32.toNatClampNeg x1)).toInt = 15) ∧ x2.toInt = 0) ∨ (((ps_a s 1152 (Int32.toNatClampNeg x1)).toInt = 3 ∨ (ps_a s 1152 (Int32.toNatClampNeg x1)).toInt = 9 ∨ (ps_a s 1152 (Int32.toNatClampNeg x1)).toInt = 14 ∨ (ps_a s 1152 (Int32.toNatClampNeg x1)).toInt = 16) ∧ x2.toInt = 2) ∨ ((ps_a s 1152 (Int32.toNatClampNeg x1)).toInt = 8 ∧ x2.toInt = 3) ∨ (x2.toInt = 1 ∧ (ps_a s 1152 (Int32.toNatClampNeg x1)).toInt ≠ 0 ∧ (ps_a s 1152 (Int32.toNatClampNeg x1)).toInt ≠ 1 ∧ (ps_a s 1152 (Int32.toNatClampNeg x1)).toInt ≠ 15 ∧ (ps_a s 1152 (Int32.toNatClampNeg x1)).toInt ≠ 3 ∧ (ps_a s 1152 (Int32.toNatClampNeg x1)).toInt ≠ 9 ∧ (ps_a s 1152 (Int32.toNatClampNeg x1)).toInt ≠ 14 ∧ (ps_a s 1152 (Int32.toNatClampNeg x1)).toInt ≠ 16 ∧ (ps_a s 1152 (Int32.toNatClampNeg x1)).toInt ≠ 8)) (i3 : (ps_a s 1152 (Int32.toNatClampNeg x1)).toInt ≠ 2) (i4 : x2.toInt < 1 ∨ (ps_a s 1153 (Int32.toNatClampNeg x1)).toInt < x1.toInt) : ps_At (d + 1) 250 54 [(0, .ref 1131), (1, .int x1), (2, .int x2)] [] s Q := by
  have r1 : 0 ≤ (ps_a s 1152 (Int32.toNatClampNeg x1)).toInt ∧ (ps_a s 1152 (Int32.toNatClampNeg x1)).toInt ≤ 18 := ma_1152 (i := x1) J (show 0 ≤ x1.toInt from by omega) (show x1.toInt < 40 from by omega)
  have r2 : -1 ≤ (ps_a s 1153 (Int32.toNatClampNeg x1)).toInt ∧ (ps_a s 1153 (Int32.toNatClampNeg x1)).toInt ≤ 9999 := ma_1153 (i := x1) J (show 0 ≤ x1.toInt from by omega) (show x1.toInt < 40 from by omega)
  refine pg_250_54 (d := d) ?_
  refine And.intro (fun h3 => ?_) (fun h3 => ?_)
  · have f4 : x2.toInt < (2 : Int) := xlt h3
    have r5 : 0 ≤ (ps_a s 1154 (Int32.toNatClampNeg x1)).toInt ∧ (ps_a s 1154 (Int32.toNatClampNeg x1)).toInt ≤ 9999 := ma_1154 (i := x1) J (show 0 ≤ x1.toInt from by omega) (show x1.toInt < 40 from by omega)
    exact ms_250_69 (x1 := x1) k  x2 J (show 0 ≤ x1.toInt from by omega) (show x1.toInt < 40 from by omega) (show (((ps_a s 1152 (Int32.toNatClampNeg x1)).toInt = 0 ∨ (ps_a s 1152 (Int32.toNatClampNeg x1)).toInt = 1 ∨ (ps_a s 1152 (Int32.toNatClampNeg x1)).toInt = 15) ∧ x2.toInt = 0) ∨ (((ps_a s 1152 (Int32.toNatClampNeg x1)).toInt = 3 ∨ (ps_a s 1152 (Int32.toNatClampNeg x1)).toInt = 9 ∨ (ps_a s 1152 (Int32.toNatClampNeg x1)).toInt = 14 ∨ (ps_a s 1152 (Int32.toNatClampNeg x1)).toInt = 16) ∧ x2.toInt = 2) ∨ ((ps_a s 1152 (Int32.toNatClampNeg x1)).toInt = 8 ∧ x2.toInt = 3) ∨ (x2.toInt = 1 ∧ (ps_a s 1152 (Int32.toNatClampNeg x1)).toInt ≠ 0 ∧ (ps_a s 1152 (Int32.toNatClampNeg x1)).toInt ≠ 1 ∧ (ps_a s 1152 (Int32.toNatClampNeg x1)).toInt ≠ 15 ∧ (ps_a s 1152 (Int32.toNatClampNeg x1)).toInt ≠ 3 ∧ (ps_a s 1152 (Int32.toNatClampNeg x1)).toInt ≠ 9 ∧ (ps_a s 1152 (Int32.toNatClampNeg x1)).toInt ≠ 14 ∧ (ps_a s 1152 (Int32.toNatClampNeg x1)).toInt ≠ 16 ∧ (ps_a s 1152 (Int32.toNatClampNeg x1)).toInt ≠ 8) from by omega) (show (ps_a s 1152 (Int32.toNatClampNeg x1)).toInt ≠ 2 from by omega) (show x2.toInt < 1 ∨ (ps_a s 1153 (Int32.toNatClampNeg x1)).toInt < x1.toInt from by omega) (show x2.toInt < 2 ∨ (ps_a s 1154 (Int32.toNatClampNeg x1)).toInt < x1.toInt from by omega)
  · have f6 : (2 : Int) ≤ x2.toInt := xle h3
    refine ps_nd_i (show pm_in x1 40 = true from xgi (show 0 ≤ x1.toInt from by omega) (show x1.toInt < 40 from by omega)) ?_
    have r7 : 0 ≤ (ps_a s 1154 (Int32.toNatClampNeg x1)).toInt ∧ (ps_a s 1154 (Int32.toNatClampNeg x1)).toInt ≤ 9999 := ma_1154 (i := x1) J (show 0 ≤ x1.toInt from by omega) (show x1.toInt < 40 from by omega)
    refine And.intro (fun h8 => ?_) (fun h8 => ?_)
    · have f9 : x1.toInt ≤ (ps_a s 1154 (Int32.toNatClampNeg x1)).toInt := xle h8
      have r10 := mf_54 J
      have r11 : 0 ≤ (ps_a s 1155 (Int32.toNatClampNeg x1)).toInt ∧ (ps_a s 1155 (Int32.toNatClampNeg x1)).toInt ≤ 9999 := ma_1155 (i := x1) J (show 0 ≤ x1.toInt from by omega) (show x1.toInt < 40 from by omega)
      exact k (0 : Int32) (show (0 : Int) = 0 ∨ (ps_a s 1152 (Int32.toNatClampNeg x1)).toInt ≠ 2 ∨ (ps_a s 1153 (Int32.toNatClampNeg x1)).toInt < (ps_i s 1131 54).toInt from by omega) (show (0 : Int) = 0 ∨ (ps_a s 1152 (Int32.toNatClampNeg x1)).toInt = 0 ∨ (ps_a s 1152 (Int32.toNatClampNeg x1)).toInt = 1 ∨ (ps_a s 1152 (Int32.toNatClampNeg x1)).toInt = 2 ∨ (ps_a s 1152 (Int32.toNatClampNeg x1)).toInt = 15 ∨ (ps_a s 1153 (Int32.toNatClampNeg x1)).toInt < x1.toInt from by omega) (show (0 : Int) = 0 ∨ ((ps_a s 1152 (Int32.toNatClampNeg x1)).toInt ≠ 3 ∧ (ps_a s 1152 (Int32.toNatClampNeg x1)).toInt ≠ 9 ∧ (ps_a s 1152 (Int32.toNatClampNeg x1)).toInt ≠ 14 ∧ (ps_a s 1152 (Int32.toNatClampNeg x1)).toInt ≠ 16 ∧ (ps_a s 1152 (Int32.toNatClampNeg x1)).toInt ≠ 8) ∨ (ps_a s 1154 (Int32.toNatClampNeg x1)).toInt < x1.toInt from by omega) (show (0 : Int) = 0 ∨ (ps_a s 1152 (Int32.toNatClampNeg x1)).toInt ≠ 8 ∨ (ps_a s 1155 (Int32.toNatClampNeg x1)).toInt < x1.toInt from by omega) (by decide)
    · have f12 : (ps_a s 1154 (Int32.toNatClampNeg x1)).toInt < x1.toInt := xlt h8
      exact ms_250_69 (x1 := x1) k  x2 J (show 0 ≤ x1.toInt from by omega) (show x1.toInt < 40 from by omega) (show (((ps_a s 1152 (Int32.toNatClampNeg x1)).toInt = 0 ∨ (ps_a s 1152 (Int32.toNatClampNeg x1)).toInt = 1 ∨ (ps_a s 1152 (Int32.toNatClampNeg x1)).toInt = 15) ∧ x2.toInt = 0) ∨ (((ps_a s 1152 (Int32.toNatClampNeg x1)).toInt = 3 ∨ (ps_a s 1152 (Int32.toNatClampNeg x1)).toInt = 9 ∨ (ps_a s 1152 (Int32.toNatClampNeg x1)).toInt = 14 ∨ (ps_a s 1152 (Int32.toNatClampNeg x1)).toInt = 16) ∧ x2.toInt = 2) ∨ ((ps_a s 1152 (Int32.toNatClampNeg x1)).toInt = 8 ∧ x2.toInt = 3) ∨ (x2.toInt = 1 ∧ (ps_a s 1152 (Int32.toNatClampNeg x1)).toInt ≠ 0 ∧ (ps_a s 1152 (Int32.toNatClampNeg x1)).toInt ≠ 1 ∧ (ps_a s 1152 (Int32.toNatClampNeg x1)).toInt ≠ 15 ∧ (ps_a s 1152 (Int32.toNatClampNeg x1)).toInt ≠ 3 ∧ (ps_a s 1152 (Int32.toNatClampNeg x1)).toInt ≠ 9 ∧ (ps_a s 1152 (Int32.toNatClampNeg x1)).toInt ≠ 14 ∧ (ps_a s 1152 (Int32.toNatClampNeg x1)).toInt ≠ 16 ∧ (ps_a s 1152 (Int32.toNatClampNeg x1)).toInt ≠ 8) from by omega) (show (ps_a s 1152 (Int32.toNatClampNeg x1)).toInt ≠ 2 from by omega) (show x2.toInt < 1 ∨ (ps_a s 1153 (Int32.toNatClampNeg x1)).toInt < x1.toInt from by omega) (show x2.toInt < 2 ∨ (ps_a s 1154 (Int32.toNatClampNeg x1)).toInt < x1.toInt from by omega)

theorem ms_250 {x : Nat → Nat → Nat} {t : Int32} {s : ps_S} {d : Nat} {x1 : Int32} {f : Int32 → ps_S → Prop} (J : mJ x t s) (q0 : 0 ≤ x1.toInt) (q1 : x1.toInt < 40) (k : ∀ (v : Int32), (v.toInt = 0 ∨ (ps_a s 1152 (Int32.toNatClampNeg x1)).toInt ≠ 2 ∨ (ps_a s 1153 (Int32.toNatClampNeg x1)).toInt < (ps_i s 1131 54).toInt) → (v.toInt = 0 ∨ (ps_a s 1152 (Int32.toNatClampNeg x1)).toInt = 0 ∨ (ps_a s 1152 (Int32.toNatClampNeg x1)).toInt = 1 ∨ (ps_a s 1152 (Int32.toNatClampNeg x1)).toInt = 2 ∨ (ps_a s 1152 (Int32.toNatClampNeg x1)).toInt = 15 ∨ (ps_a s 1153 (Int32.toNatClampNeg x1)).toInt < x1.toInt) → (v.toInt = 0 ∨ ((ps_a s 1152 (Int32.toNatClampNeg x1)).toInt ≠ 3 ∧ (ps_a s 1152 (Int32.toNatClampNeg x1)).toInt ≠ 9 ∧ (ps_a s 1152 (Int32.toNatClampNeg x1)).toInt ≠ 14 ∧ (ps_a s 1152 (Int32.toNatClampNeg x1)).toInt ≠ 16 ∧ (ps_a s 1152 (Int32.toNatClampNeg x1)).toInt ≠ 8) ∨ (ps_a s 1154 (Int32.toNatClampNeg x1)).toInt < x1.toInt) → (v.toInt = 0 ∨ (ps_a s 1152 (Int32.toNatClampNeg x1)).toInt ≠ 8 ∨ (ps_a s 1155 (Int32.toNatClampNeg x1)).toInt < x1.toInt) → v &&& 1 = v → f v s) : ps_Cl (d + 1) 250 [.ref 1131, .int x1] s (ps_rI f) := by
  refine pg_250_0 (d := d) ?_
  refine ps_nd_i (show pm_in x1 40 = true from xgi (show 0 ≤ x1.toInt from by omega) (show x1.toInt < 40 from by omega)) ?_
  have r1 : 0 ≤ (ps_a s 1152 (Int32.toNatClampNeg x1)).toInt ∧ (ps_a s 1152 (Int32.toNatClampNeg x1)).toInt ≤ 18 := ma_1152 (i := x1) J (show 0 ≤ x1.toInt from by omega) (show x1.toInt < 40 from by omega)
  refine ms_234 J  (fun v2 p2_0 => ?_)
  have p2_0' : (((ps_a s 1152 (Int32.toNatClampNeg x1)).toInt = 0 ∨ (ps_a s 1152 (Int32.toNatClampNeg x1)).toInt = 1 ∨ (ps_a s 1152 (Int32.toNatClampNeg x1)).toInt = 15) ∧ v2.toInt = 0) ∨ (((ps_a s 1152 (Int32.toNatClampNeg x1)).toInt = 3 ∨ (ps_a s 1152 (Int32.toNatClampNeg x1)).toInt = 9 ∨ (ps_a s 1152 (Int32.toNatClampNeg x1)).toInt = 14 ∨ (ps_a s 1152 (Int32.toNatClampNeg x1)).toInt = 16) ∧ v2.toInt = 2) ∨ ((ps_a s 1152 (Int32.toNatClampNeg x1)).toInt = 8 ∧ v2.toInt = 3) ∨ (v2.toInt = 1 ∧ (ps_a s 1152 (Int32.toNatClampNeg x1)).toInt ≠ 0 ∧ (ps_a s 1152 (Int32.toNatClampNeg x1)).toInt ≠ 1 ∧ (ps_a s 1152 (Int32.toNatClampNeg x1)).toInt ≠ 15 ∧ (ps_a s 1152 (Int32.toNatClampNeg x1)).toInt ≠ 3 ∧ (ps_a s 1152 (Int32.toNatClampNeg x1)).toInt ≠ 9 ∧ (ps_a s 1152 (Int32.toNatClampNeg x1)).toInt ≠ 14 ∧ (ps_a s 1152 (Int32.toNatClampNeg x1)).toInt ≠ 16 ∧ (ps_a s 1152 (Int32.toNatClampNeg x1)).toInt ≠ 8) := p2_0
  refine ps_nd_i (show pm_in x1 40 = true from xgi (show 0 ≤ x1.toInt from by omega) (show x1.toInt < 40 from by omega)) ?_
  refine And.intro (fun h3 => ?_) (fun h3 => ?_)
  · have f4 : (ps_a s 1152 (Int32.toNatClampNeg x1)).toInt ≠ (2 : Int) := xne h3
    refine And.intro (fun h5 => ?_) (fun h5 => ?_)
    · have f6 : v2.toInt < (1 : Int) := xlt h5
      have r7 : -1 ≤ (ps_a s 1153 (Int32.toNatClampNeg x1)).toInt ∧ (ps_a s 1153 (Int32.toNatClampNeg x1)).toInt ≤ 9999 := ma_1153 (i := x1) J (show 0 ≤ x1.toInt from by omega) (show x1.toInt < 40 from by omega)
      exact ms_250_54 (x1 := x1) k  v2 J (show 0 ≤ x1.toInt from by omega) (show x1.toInt < 40 from by omega) (show (((ps_a s 1152 (Int32.toNatClampNeg x1)).toInt = 0 ∨ (ps_a s 1152 (Int32.toNatClampNeg x1)).toInt = 1 ∨ (ps_a s 1152 (Int32.toNatClampNeg x1)).toInt = 15) ∧ v2.toInt = 0) ∨ (((ps_a s 1152 (Int32.toNatClampNeg x1)).toInt = 3 ∨ (ps_a s 1152 (Int32.toNatClampNeg x1)).toInt = 9 ∨ (ps_a s 1152 (Int32.toNatClampNeg x1)).toInt = 14 ∨ (ps_a s 1152 (Int32.toNatClampNeg x1)).toInt = 16) ∧ v2.toInt = 2) ∨ ((ps_a s 1152 (Int32.toNatClampNeg x1)).toInt = 8 ∧ v2.toInt = 3) ∨ (v2.toInt = 1 ∧ (ps_a s 1152 (Int32.toNatClampNeg x1)).toInt ≠ 0 ∧ (ps_a s 1152 (Int32.toNatClampNeg x1)).toInt ≠ 1 ∧ (ps_a s 1152 (Int32.toNatClampNeg x1)).toInt ≠ 15 ∧ (ps_a s 1152 (Int32.toNatClampNeg x1)).toInt ≠ 3 ∧ (ps_a s 1152 (Int32.toNatClampNeg x1)).toInt ≠ 9 ∧ (ps_a s 1152 (Int32.toNatClampNeg x1)).toInt ≠ 14 ∧ (ps_a s 1152 (Int32.toNatClampNeg x1)).toInt ≠ 16 ∧ (ps_a s 1152 (Int32.toNatClampNeg x1)).toInt ≠ 8) from by omega) (show (ps_a s 1152 (Int32.toNatClampNeg x1)).toInt ≠ 2 from by omega) (show v2.toInt < 1 ∨ (ps_a s 1153 (Int32.toNatClampNeg x1)).toInt < x1.toInt from by omega)
    · have f8 : (1 : Int) ≤ v2.toInt := xle h5
      refine ps_nd_i (show pm_in x1 40 = true from xgi (show 0 ≤ x1.toInt from by omega) (show x1.toInt < 40 from by omega)) ?_
      have r9 : -1 ≤ (ps_a s 1153 (Int32.toNatClampNeg x1)).toInt ∧ (ps_a s 1153 (Int32.toNatClampNeg x1)).toInt ≤ 9999 := ma_1153 (i := x1) J (show 0 ≤ x1.toInt from by omega) (show x1.toInt < 40 from by omega)
      refine And.intro (fun h10 => ?_) (fun h10 => ?_)
      · have f11 : x1.toInt ≤ (ps_a s 1153 (Int32.toNatClampNeg x1)).toInt := xle h10
        have r12 := mf_54 J
        have r13 : 0 ≤ (ps_a s 1154 (Int32.toNatClampNeg x1)).toInt ∧ (ps_a s 1154 (Int32.toNatClampNeg x1)).toInt ≤ 9999 := ma_1154 (i := x1) J (show 0 ≤ x1.toInt from by omega) (show x1.toInt < 40 from by omega)
        have r14 : 0 ≤ (ps_a s 1155 (Int32.toNatClampNeg x1)).toInt ∧ (ps_a s 1155 (Int32.toNatClampNeg x1)).toInt ≤ 9999 := ma_1155 (i := x1) J (show 0 ≤ x1.toInt from by omega) (show x1.toInt < 40 from by omega)
        exact k (0 : Int32) (show (0 : Int) = 0 ∨ (ps_a s 1152 (Int32.toNatClampNeg x1)).toInt ≠ 2 ∨ (ps_a s 1153 (Int32.toNatClampNeg x1)).toInt < (ps_i s 1131 54).toInt from by omega) (show (0 : Int) = 0 ∨ (ps_a s 1152 (Int32.toNatClampNeg x1)).toInt = 0 ∨ (ps_a s 1152 (Int32.toNatClampNeg x1)).toInt = 1 ∨ (ps_a s 1152 (Int32.toNatClampNeg x1)).toInt = 2 ∨ (ps_a s 1152 (Int32.toNatClampNeg x1)).toInt = 15 ∨ (ps_a s 1153 (Int32.toNatClampNeg x1)).toInt < x1.toInt from by omega) (show (0 : Int) = 0 ∨ ((ps_a s 1152 (Int32.toNatClampNeg x1)).toInt ≠ 3 ∧ (ps_a s 1152 (Int32.toNatClampNeg x1)).toInt ≠ 9 ∧ (ps_a s 1152 (Int32.toNatClampNeg x1)).toInt ≠ 14 ∧ (ps_a s 1152 (Int32.toNatClampNeg x1)).toInt ≠ 16 ∧ (ps_a s 1152 (Int32.toNatClampNeg x1)).toInt ≠ 8) ∨ (ps_a s 1154 (Int32.toNatClampNeg x1)).toInt < x1.toInt from by omega) (show (0 : Int) = 0 ∨ (ps_a s 1152 (Int32.toNatClampNeg x1)).toInt ≠ 8 ∨ (ps_a s 1155 (Int32.toNatClampNeg x1)).toInt < x1.toInt from by omega) (by decide)
      · have f15 : (ps_a s 1153 (Int32.toNatClampNeg x1)).toInt < x1.toInt := xlt h10
        exact ms_250_54 (x1 := x1) k  v2 J (show 0 ≤ x1.toInt from by omega) (show x1.toInt < 40 from by omega) (show (((ps_a s 1152 (Int32.toNatClampNeg x1)).toInt = 0 ∨ (ps_a s 1152 (Int32.toNatClampNeg x1)).toInt = 1 ∨ (ps_a s 1152 (Int32.toNatClampNeg x1)).toInt = 15) ∧ v2.toInt = 0) ∨ (((ps_a s 1152 (Int32.toNatClampNeg x1)).toInt = 3 ∨ (ps_a s 1152 (Int32.toNatClampNeg x1)).toInt = 9 ∨ (ps_a s 1152 (Int32.toNatClampNeg x1)).toInt = 14 ∨ (ps_a s 1152 (Int32.toNatClampNeg x1)).toInt = 16) ∧ v2.toInt = 2) ∨ ((ps_a s 1152 (Int32.toNatClampNeg x1)).toInt = 8 ∧ v2.toInt = 3) ∨ (v2.toInt = 1 ∧ (ps_a s 1152 (Int32.toNatClampNeg x1)).toInt ≠ 0 ∧ (ps_a s 1152 (Int32.toNatClampNeg x1)).toInt ≠ 1 ∧ (ps_a s 1152 (Int32.toNatClampNeg x1)).toInt ≠ 15 ∧ (ps_a s 1152 (Int32.toNatClampNeg x1)).toInt ≠ 3 ∧ (ps_a s 1152 (Int32.toNatClampNeg x1)).toInt ≠ 9 ∧ (ps_a s 1152 (Int32.toNatClampNeg x1)).toInt ≠ 14 ∧ (ps_a s 1152 (Int32.toNatClampNeg x1)).toInt ≠ 16 ∧ (ps_a s 1152 (Int32.toNatClampNeg x1)).toInt ≠ 8) from by omega) (show (ps_a s 1152 (Int32.toNatClampNeg x1)).toInt ≠ 2 from by omega) (show v2.toInt < 1 ∨ (ps_a s 1153 (Int32.toNatClampNeg x1)).toInt < x1.toInt from by omega)
  · have f16 : (ps_a s 1152 (Int32.toNatClampNeg x1)).toInt = (2 : Int) := xeq h3
    refine ps_nd_i (show pm_in x1 40 = true from xgi (show 0 ≤ x1.toInt from by omega) (show x1.toInt < 40 from by omega)) ?_
    have r17 : -1 ≤ (ps_a s 1153 (Int32.toNatClampNeg x1)).toInt ∧ (ps_a s 1153 (Int32.toNatClampNeg x1)).toInt ≤ 9999 := ma_1153 (i := x1) J (show 0 ≤ x1.toInt from by omega) (show x1.toInt < 40 from by omega)
    have r18 := mf_54 J
    refine And.intro (fun h19 => ?_) (fun h19 => ?_)
    · have f20 : (ps_i s 1131 54).toInt ≤ (ps_a s 1153 (Int32.toNatClampNeg x1)).toInt := xle h19
      have r21 : 0 ≤ (ps_a s 1154 (Int32.toNatClampNeg x1)).toInt ∧ (ps_a s 1154 (Int32.toNatClampNeg x1)).toInt ≤ 9999 := ma_1154 (i := x1) J (show 0 ≤ x1.toInt from by omega) (show x1.toInt < 40 from by omega)
      have r22 : 0 ≤ (ps_a s 1155 (Int32.toNatClampNeg x1)).toInt ∧ (ps_a s 1155 (Int32.toNatClampNeg x1)).toInt ≤ 9999 := ma_1155 (i := x1) J (show 0 ≤ x1.toInt from by omega) (show x1.toInt < 40 from by omega)
      exact k (0 : Int32) (show (0 : Int) = 0 ∨ (ps_a s 1152 (Int32.toNatClampNeg x1)).toInt ≠ 2 ∨ (ps_a s 1153 (Int32.toNatClampNeg x1)).toInt < (ps_i s 1131 54).toInt from by omega) (show (0 : Int) = 0 ∨ (ps_a s 1152 (Int32.toNatClampNeg x1)).toInt = 0 ∨ (ps_a s 1152 (Int32.toNatClampNeg x1)).toInt = 1 ∨ (ps_a s 1152 (Int32.toNatClampNeg x1)).toInt = 2 ∨ (ps_a s 1152 (Int32.toNatClampNeg x1)).toInt = 15 ∨ (ps_a s 1153 (Int32.toNatClampNeg x1)).toInt < x1.toInt from by omega) (show (0 : Int) = 0 ∨ ((ps_a s 1152 (Int32.toNatClampNeg x1)).toInt ≠ 3 ∧ (ps_a s 1152 (Int32.toNatClampNeg x1)).toInt ≠ 9 ∧ (ps_a s 1152 (Int32.toNatClampNeg x1)).toInt ≠ 14 ∧ (ps_a s 1152 (Int32.toNatClampNeg x1)).toInt ≠ 16 ∧ (ps_a s 1152 (Int32.toNatClampNeg x1)).toInt ≠ 8) ∨ (ps_a s 1154 (Int32.toNatClampNeg x1)).toInt < x1.toInt from by omega) (show (0 : Int) = 0 ∨ (ps_a s 1152 (Int32.toNatClampNeg x1)).toInt ≠ 8 ∨ (ps_a s 1155 (Int32.toNatClampNeg x1)).toInt < x1.toInt from by omega) (by decide)
    · have f23 : (ps_a s 1153 (Int32.toNatClampNeg x1)).toInt < (ps_i s 1131 54).toInt := xlt h19
      have r24 : 0 ≤ (ps_a s 1154 (Int32.toNatClampNeg x1)).toInt ∧ (ps_a s 1154 (Int32.toNatClampNeg x1)).toInt ≤ 9999 := ma_1154 (i := x1) J (show 0 ≤ x1.toInt from by omega) (show x1.toInt < 40 from by omega)
      have r25 : 0 ≤ (ps_a s 1155 (Int32.toNatClampNeg x1)).toInt ∧ (ps_a s 1155 (Int32.toNatClampNeg x1)).toInt ≤ 9999 := ma_1155 (i := x1) J (show 0 ≤ x1.toInt from by omega) (show x1.toInt < 40 from by omega)
      exact k (1 : Int32) (show (1 : Int) = 0 ∨ (ps_a s 1152 (Int32.toNatClampNeg x1)).toInt ≠ 2 ∨ (ps_a s 1153 (Int32.toNatClampNeg x1)).toInt < (ps_i s 1131 54).toInt from by omega) (show (1 : Int) = 0 ∨ (ps_a s 1152 (Int32.toNatClampNeg x1)).toInt = 0 ∨ (ps_a s 1152 (Int32.toNatClampNeg x1)).toInt = 1 ∨ (ps_a s 1152 (Int32.toNatClampNeg x1)).toInt = 2 ∨ (ps_a s 1152 (Int32.toNatClampNeg x1)).toInt = 15 ∨ (ps_a s 1153 (Int32.toNatClampNeg x1)).toInt < x1.toInt from by omega) (show (1 : Int) = 0 ∨ ((ps_a s 1152 (Int32.toNatClampNeg x1)).toInt ≠ 3 ∧ (ps_a s 1152 (Int32.toNatClampNeg x1)).toInt ≠ 9 ∧ (ps_a s 1152 (Int32.toNatClampNeg x1)).toInt ≠ 14 ∧ (ps_a s 1152 (Int32.toNatClampNeg x1)).toInt ≠ 16 ∧ (ps_a s 1152 (Int32.toNatClampNeg x1)).toInt ≠ 8) ∨ (ps_a s 1154 (Int32.toNatClampNeg x1)).toInt < x1.toInt from by omega) (show (1 : Int) = 0 ∨ (ps_a s 1152 (Int32.toNatClampNeg x1)).toInt ≠ 8 ∨ (ps_a s 1155 (Int32.toNatClampNeg x1)).toInt < x1.toInt from by omega) (by decide)

-- ProofBenchModel.leanOn(II)V
theorem pg_251_0 {d : Nat} {x1 : Int32} {x2 : Int32} {s : ps_S} {Q : Option Value → ps_S → Prop} (h :
  ps_nd (pm_in x1 40) (ps_nd (pm_in x2 40) (ps_nd (pm_in x1 40) (ps_nd (pm_in x1 40) (ps_nd (pm_in x2 40) (ps_nd (pm_in x1 40) (ps_nd (pm_in x1 40) (ps_nd (pm_in x2 40) (ps_nd (pm_in x1 40) (Q none (ps_ub (ps_ua (ps_ua s 1158 (Int32.toNatClampNeg x1) ((ps_a s 1158 (Int32.toNatClampNeg x1)) ||| (ps_a s 1158 (Int32.toNatClampNeg x2)))) 1159 (Int32.toNatClampNeg x1) ((ps_a (ps_ua s 1158 (Int32.toNatClampNeg x1) ((ps_a s 1158 (Int32.toNatClampNeg x1)) ||| (ps_a s 1158 (Int32.toNatClampNeg x2)))) 1159 (Int32.toNatClampNeg x1)) ||| (ps_a (ps_ua s 1158 (Int32.toNatClampNeg x1) ((ps_a s 1158 (Int32.toNatClampNeg x1)) ||| (ps_a s 1158 (Int32.toNatClampNeg x2)))) 1159 (Int32.toNatClampNeg x2)))) 1160 (Int32.toNatClampNeg x1) ((ps_b (ps_ua (ps_ua s 1158 (Int32.toNatClampNeg x1) ((ps_a s 1158 (Int32.toNatClampNeg x1)) ||| (ps_a s 1158 (Int32.toNatClampNeg x2)))) 1159 (Int32.toNatClampNeg x1) ((ps_a (ps_ua s 1158 (Int32.toNatClampNeg x1) ((ps_a s 1158 (Int32.toNatClampNeg x1)) ||| (ps_a s 1158 (Int32.toNatClampNeg x2)))) 1159 (Int32.toNatClampNeg x1)) ||| (ps_a (ps_ua s 1158 (Int32.toNatClampNeg x1) ((ps_a s 1158 (Int32.toNatClampNeg x1)) ||| (ps_a s 1158 (Int32.toNatClampNeg x2)))) 1159 (Int32.toNatClampNeg x2)))) 1160 (Int32.toNatClampNeg x1)) ||| (ps_b (ps_ua (ps_ua s 1158 (Int32.toNatClampNeg x1) ((ps_a s 1158 (Int32.toNatClampNeg x1)) ||| (ps_a s 1158 (Int32.toNatClampNeg x2)))) 1159 (Int32.toNatClampNeg x1) ((ps_a (ps_ua s 1158 (Int32.toNatClampNeg x1) ((ps_a s 1158 (Int32.toNatClampNeg x1)) ||| (ps_a s 1158 (Int32.toNatClampNeg x2)))) 1159 (Int32.toNatClampNeg x1)) ||| (ps_a (ps_ua s 1158 (Int32.toNatClampNeg x1) ((ps_a s 1158 (Int32.toNatClampNeg x1)) ||| (ps_a s 1158 (Int32.toNatClampNeg x2)))) 1159 (Int32.toNatClampNeg x2)))) 1160 (Int32.toNatClampNeg x2)))))))))))))) : ps_At d 251 0 [(0, .ref 1131), (1, .int x1), (2, .int x2)] [] s Q :=
  ps_wp_at (stops := []) (n := 36) h rfl

theorem ms_251 {x : Nat → Nat → Nat} {t : Int32} {s : ps_S} {d : Nat} {x1 : Int32} {x2 : Int32} {f : ps_S → Prop} (J : mJ x t s) (q0 : 0 ≤ x1.toInt) (q1 : x1.toInt < 40) (q2 : 0 ≤ x2.toInt) (q3 : x2.toInt < 40) (k : ∀ (s' : ps_S), mJ x t s' → kp [1158, 1159, 1160] [] s s' → f s') : ps_Cl d 251 [.ref 1131, .int x1, .int x2] s (ps_rV f) := by
  have K : kp [1158, 1159, 1160] [] s s := kp_refl
  refine pg_251_0 ?_
  refine ps_nd_i (show pm_in x1 40 = true from xgi (show 0 ≤ x1.toInt from by omega) (show x1.toInt < 40 from by omega)) ?_
  refine ps_nd_i (show pm_in x2 40 = true from xgi (show 0 ≤ x2.toInt from by omega) (show x2.toInt < 40 from by omega)) ?_
  refine ps_nd_i (show pm_in x1 40 = true from xgi (show 0 ≤ x1.toInt from by omega) (show x1.toInt < 40 from by omega)) ?_
  have J1 := mwa_n 1158 (i := (Int32.toNatClampNeg x1)) (v := ((ps_a s 1158 (Int32.toNatClampNeg x1)) ||| (ps_a s 1158 (Int32.toNatClampNeg x2)))) J rfl (by decide)
  have K2 := kpa' K (r := 1158) (i := (Int32.toNatClampNeg x1)) (v := ((ps_a s 1158 (Int32.toNatClampNeg x1)) ||| (ps_a s 1158 (Int32.toNatClampNeg x2)))) rfl
  refine ps_nd_i (show pm_in x1 40 = true from xgi (show 0 ≤ x1.toInt from by omega) (show x1.toInt < 40 from by omega)) ?_
  refine ps_nd_i (show pm_in x2 40 = true from xgi (show 0 ≤ x2.toInt from by omega) (show x2.toInt < 40 from by omega)) ?_
  refine ps_nd_i (show pm_in x1 40 = true from xgi (show 0 ≤ x1.toInt from by omega) (show x1.toInt < 40 from by omega)) ?_
  have J3 := mwa_n 1159 (i := (Int32.toNatClampNeg x1)) (v := ((ps_a s 1159 (Int32.toNatClampNeg x1)) ||| (ps_a s 1159 (Int32.toNatClampNeg x2)))) J1 rfl (by decide)
  have K4 := kpa' K2 (r := 1159) (i := (Int32.toNatClampNeg x1)) (v := ((ps_a s 1159 (Int32.toNatClampNeg x1)) ||| (ps_a s 1159 (Int32.toNatClampNeg x2)))) rfl
  refine ps_nd_i (show pm_in x1 40 = true from xgi (show 0 ≤ x1.toInt from by omega) (show x1.toInt < 40 from by omega)) ?_
  refine ps_nd_i (show pm_in x2 40 = true from xgi (show 0 ≤ x2.toInt from by omega) (show x2.toInt < 40 from by omega)) ?_
  refine ps_nd_i (show pm_in x1 40 = true from xgi (show 0 ≤ x1.toInt from by omega) (show x1.toInt < 40 from by omega)) ?_
  have J5 := mw_b (r := 1160) (i := (Int32.toNatClampNeg x1)) (v := ((ps_b s 1160 (Int32.toNatClampNeg x1)) ||| (ps_b s 1160 (Int32.toNatClampNeg x2)))) J3
  have K6 := kpb' K4 (r := 1160) (i := (Int32.toNatClampNeg x1)) (v := ((ps_b s 1160 (Int32.toNatClampNeg x1)) ||| (ps_b s 1160 (Int32.toNatClampNeg x2)))) rfl
  exact k _ J5 K6

-- ProofBenchModel.axiomRow(II)I
theorem pg_283_0 {d : Nat} {x0 : Int32} {x1 : Int32} {s : ps_S} {Q : Option Value → ps_S → Prop} (h :
  Q (some (.int ((21812 : Int32) + ((41 : Int32) * (((8 : Int32) * x0) + x1))))) s) : ps_At d 283 0 [(0, .int x0), (1, .int x1)] [] s Q :=
  ps_wp_at (stops := []) (n := 12) h rfl
