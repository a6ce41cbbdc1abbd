set_option maxRecDepth 100000
-- ProofBenchModel.sign(I)I
theorem pg_188_0 {d : Nat} {x1 : Int32} {s : ps_S} {Q : Option Value → ps_S → Prop} (h :
  ((ps_i s 1131 4) ≤ x1 →
    Q (some (.int 0)) s) ∧
  (x1 < (ps_i s 1131 4) →
    ps_nd (pm_in x1 1600) (Q (some (.int ((ps_a s 1133 (Int32.toNatClampNeg x1)) &&& 255))) s))) : ps_At d 188 0 [(0, .ref 1131), (1, .int x1)] [] s Q :=
  ps_wp_at (stops := []) (n := 16) h rfl

-- ProofBenchModel.isLetter(I)Z
theorem pg_189_0 {d : Nat} {x0 : Int32} {s : ps_S} {Q : Option Value → ps_S → Prop} (h :
  (x0 < 97 →
    Q (some (.int 0)) s) ∧
  (97 ≤ x0 →
    (122 < x0 →
      Q (some (.int 0)) s) ∧
    (x0 ≤ 122 →
      Q (some (.int 1)) s))) : ps_At d 189 0 [(0, .int x0)] [] s Q :=
  ps_wp_at (stops := []) (n := 15) h rfl

theorem ms_189 {x : Nat → Nat → Nat} {t : Int32} {s : ps_S} {d : Nat} {x0 : Int32} {f : Int32 → ps_S → Prop} (J : mJ x t s) (k : ∀ (v : Int32), (v.toInt = 0 ∨ 97 ≤ x0.toInt) → v &&& 1 = v → f v s) : ps_Cl d 189 [.int x0] s (ps_rI f) := by
  refine pg_189_0 ?_
  refine And.intro (fun h1 => ?_) (fun h1 => ?_)
  · have f2 : x0.toInt < (97 : Int) := xlt h1
    exact k (0 : Int32) (show (0 : Int) = 0 ∨ 97 ≤ x0.toInt from by omega) (by decide)
  · have f3 : (97 : Int) ≤ x0.toInt := xle h1
    refine And.intro (fun h4 => ?_) (fun h4 => ?_)
    · have f5 : (122 : Int) < x0.toInt := xlt h4
      exact k (0 : Int32) (show (0 : Int) = 0 ∨ 97 ≤ x0.toInt from by omega) (by decide)
    · have f6 : x0.toInt ≤ (122 : Int) := xle h4
      exact k (1 : Int32) (show (1 : Int) = 0 ∨ 97 ≤ x0.toInt from by omega) (by decide)

-- ProofBenchModel.isDigit(I)Z
theorem pg_190_0 {d : Nat} {x0 : Int32} {s : ps_S} {Q : Option Value → ps_S → Prop} (h :
  (x0 < 48 →
    Q (some (.int 0)) s) ∧
  (48 ≤ x0 →
    (57 < x0 →
      Q (some (.int 0)) s) ∧
    (x0 ≤ 57 →
      Q (some (.int 1)) s))) : ps_At d 190 0 [(0, .int x0)] [] s Q :=
  ps_wp_at (stops := []) (n := 15) h rfl

theorem ms_190 {x : Nat → Nat → Nat} {t : Int32} {s : ps_S} {d : Nat} {x0 : Int32} {f : Int32 → ps_S → Prop} (J : mJ x t s) (k : ∀ (v : Int32), (v.toInt = 0 ∨ (48 ≤ x0.toInt ∧ x0.toInt ≤ 57)) → v &&& 1 = v → f v s) : ps_Cl d 190 [.int x0] s (ps_rI f) := by
  refine pg_190_0 ?_
  refine And.intro (fun h1 => ?_) (fun h1 => ?_)
  · have f2 : x0.toInt < (48 : Int) := xlt h1
    exact k (0 : Int32) (show (0 : Int) = 0 ∨ (48 ≤ x0.toInt ∧ x0.toInt ≤ 57) from by omega) (by decide)
  · have f3 : (48 : Int) ≤ x0.toInt := xle h1
    refine And.intro (fun h4 => ?_) (fun h4 => ?_)
    · have f5 : (57 : Int) < x0.toInt := xlt h4
      exact k (0 : Int32) (show (0 : Int) = 0 ∨ (48 ≤ x0.toInt ∧ x0.toInt ≤ 57) from by omega) (by decide)
    · have f6 : x0.toInt ≤ (57 : Int) := xle h4
      exact k (1 : Int32) (show (1 : Int) = 0 ∨ (48 ≤ x0.toInt ∧ x0.toInt ≤ 57) from by omega) (by decide)

-- ProofBenchModel.fails(II)V
theorem pg_191_0 {d : Nat} {x1 : Int32} {x2 : Int32} {s : ps_S} {Q : Option Value → ps_S → Prop} (h :
  ((ps_i s 1131 5) ≤ 0 →
    Q none (ps_ui (ps_ui s 1131 5 x1) 1131 6 x2)) ∧
  (0 < (ps_i s 1131 5) →
    Q none s)) : ps_At d 191 0 [(0, .ref 1131), (1, .int x1), (2, .int x2)] [] s Q :=
  ps_wp_at (stops := []) (n := 13) h rfl

theorem ms_191 {x : Nat → Nat → Nat} {t : Int32} {s : ps_S} {d : Nat} {x1 : Int32} {x2 : Int32} {f : ps_S → Prop} (J : mJ x t s) (q0 : 1 ≤ x1.toInt) (q1 : x1.toInt ≤ 6) (k : ∀ (s' : ps_S), mJ x t s' → kp [] [5, 6] s s' → (1 ≤ (ps_i s' 1131 5).toInt) → f s') : ps_Cl d 191 [.ref 1131, .int x1, .int x2] s (ps_rV f) := by
  have K : kp [] [5, 6] s s := kp_refl
  refine pg_191_0 ?_
  have r1 := mf_5 J
  refine And.intro (fun h2 => ?_) (fun h2 => ?_)
  · have f3 : (ps_i s 1131 5).toInt ≤ (0 : Int) := xle h2
    have J4 := mwi_5 (v := x1) J (show 0 ≤ x1.toInt from by omega) (show x1.toInt ≤ 6 from by omega)
    have K5 := kpi K (q := 5) (v := x1) rfl
    have J6 := mwi_n 6 (v := x2) J4 rfl
    have K7 := kpi K5 (q := 6) (v := x2) rfl
    exact k _ J6 K7 (show 1 ≤ x1.toInt from by omega)
  · have f8 : (0 : Int) < (ps_i s 1131 5).toInt := xlt h2
    exact k _ J K (show 1 ≤ (ps_i s 1131 5).toInt from by omega)

-- ProofBenchModel.isGood()Z
theorem pg_192_0 {d : Nat} {s : ps_S} {Q : Option Value → ps_S → Prop} (h :
  ((ps_i s 1131 5) ≠ 0 →
    Q (some (.int 0)) s) ∧
  ((ps_i s 1131 5) = 0 →
    Q (some (.int 1)) s)) : ps_At d 192 0 [(0, .ref 1131)] [] s Q :=
  ps_wp_at (stops := []) (n := 10) h rfl

theorem ms_192 {x : Nat → Nat → Nat} {t : Int32} {s : ps_S} {d : Nat} {f : Int32 → ps_S → Prop} (J : mJ x t s) (k : ∀ (v : Int32), ((v.toInt = 0 ∧ 1 ≤ (ps_i s 1131 5).toInt) ∨ (v.toInt = 1 ∧ (ps_i s 1131 5).toInt = 0)) → v &&& 1 = v → f v s) : ps_Cl d 192 [.ref 1131] s (ps_rI f) := by
  refine pg_192_0 ?_
  have r1 := mf_5 J
  refine And.intro (fun h2 => ?_) (fun h2 => ?_)
  · have f3 : (ps_i s 1131 5).toInt ≠ (0 : Int) := xne h2
    exact k (0 : Int32) (show ((0 : Int) = 0 ∧ 1 ≤ (ps_i s 1131 5).toInt) ∨ ((0 : Int) = 1 ∧ (ps_i s 1131 5).toInt = 0) from by omega) (by decide)
  · have f4 : (ps_i s 1131 5).toInt = (0 : Int) := xeq h2
    exact k (1 : Int32) (show ((1 : Int) = 0 ∧ 1 ≤ (ps_i s 1131 5).toInt) ∨ ((1 : Int) = 1 ∧ (ps_i s 1131 5).toInt = 0) from by omega) (by decide)

-- ProofBenchModel.isKept(J)Z
theorem pg_193_0 {d : Nat} {l0 : Int64} {s : ps_S} {Q : Option Value → ps_S → Prop} (h :
  ((lg_cmp l0 (7497068 : Int64)) = 0 →
    ps_At d 193 80 [(0, .long l0)] [] s Q) ∧
  ((lg_cmp l0 (7497068 : Int64)) ≠ 0 →
    ((lg_cmp l0 (6714734 : Int64)) = 0 →
      ps_At d 193 80 [(0, .long l0)] [] s Q) ∧
    ((lg_cmp l0 (6714734 : Int64)) ≠ 0 →
      ((lg_cmp l0 (418632003437 : Int64)) = 0 →
        ps_At d 193 80 [(0, .long l0)] [] s Q) ∧
      ((lg_cmp l0 (418632003437 : Int64)) ≠ 0 →
        ((lg_cmp l0 (439721161573 : Int64)) = 0 →
          ps_At d 193 80 [(0, .long l0)] [] s Q) ∧
        ((lg_cmp l0 (439721161573 : Int64)) ≠ 0 →
          ((lg_cmp l0 (7237492 : Int64)) = 0 →
            ps_At d 193 80 [(0, .long l0)] [] s Q) ∧
          ((lg_cmp l0 (7237492 : Int64)) ≠ 0 →
            ((lg_cmp l0 (6385252 : Int64)) = 0 →
              ps_At d 193 80 [(0, .long l0)] [] s Q) ∧
            ((lg_cmp l0 (6385252 : Int64)) ≠ 0 →
              ((lg_cmp l0 (28530 : Int64)) = 0 →
                ps_At d 193 80 [(0, .long l0)] [] s Q) ∧
              ((lg_cmp l0 (28530 : Int64)) ≠ 0 →
                ((lg_cmp l0 (6909296 : Int64)) = 0 →
                  ps_At d 193 80 [(0, .long l0)] [] s Q) ∧
                ((lg_cmp l0 (6909296 : Int64)) ≠ 0 →
                  ((lg_cmp l0 (6384748 : Int64)) = 0 →
                    ps_At d 193 80 [(0, .long l0)] [] s Q) ∧
                  ((lg_cmp l0 (6384748 : Int64)) ≠ 0 →
                    ((lg_cmp l0 (1936682341 : Int64)) ≠ 0 →
                      ((lg_cmp l0 (1935764837 : Int64)) = 0 →
                        ps_At d 193 158 [(0, .long l0), (2, .int 0)] [] s Q) ∧
                      ((lg_cmp l0 (1935764837 : Int64)) ≠ 0 →
                        ((lg_cmp l0 (107148486208869 : Int64)) = 0 →
                          ps_At d 193 158 [(0, .long l0), (2, .int 0)] [] s Q) ∧
                        ((lg_cmp l0 (107148486208869 : Int64)) ≠ 0 →
                          ((lg_cmp l0 (32765882169189741 : Int64)) = 0 →
                            ps_At d 193 158 [(0, .long l0), (2, .int 0)] [] s Q) ∧
                          ((lg_cmp l0 (32765882169189741 : Int64)) ≠ 0 →
                            ((lg_cmp l0 (1651471464 : Int64)) = 0 →
                              ps_At d 193 158 [(0, .long l0), (2, .int 0)] [] s Q) ∧
                            ((lg_cmp l0 (1651471464 : Int64)) ≠ 0 →
                              ((lg_cmp l0 (1818584692 : Int64)) = 0 →
                                ps_At d 193 158 [(0, .long l0), (2, .int 0)] [] s Q) ∧
                              ((lg_cmp l0 (1818584692 : Int64)) ≠ 0 →
                                ((lg_cmp l0 (491394656372 : Int64)) = 0 →
                                  ps_At d 193 158 [(0, .long l0), (2, .int 0)] [] s Q) ∧
                                ((lg_cmp l0 (491394656372 : Int64)) ≠ 0 →
                                  ((lg_cmp l0 (122537235539572 : Int64)) = 0 →
                                    ps_At d 193 158 [(0, .long l0), (2, .int 0)] [] s Q) ∧
                                  ((lg_cmp l0 (122537235539572 : Int64)) ≠ 0 →
                                    ((lg_cmp l0 (31369558135105652 : Int64)) = 0 →
                                      ps_At d 193 158 [(0, .long l0), (2, .int 0)] [] s Q) ∧
                                    ((lg_cmp l0 (31369558135105652 : Int64)) ≠ 0 →
                                      ((lg_cmp l0 (1667330917 : Int64)) ≠ 0 →
                                        ((0 : Int32) ≠ 0 →
                                          Q (some (.int 1)) s) ∧
                                        ((0 : Int32) = 0 →
                                          ((0 : Int32) ≠ 0 →
                                            Q (some (.int 1)) s) ∧
                                          ((0 : Int32) = 0 →
                                            ((lg_cmp l0 (418498243705 : Int64)) = 0 →
                                              Q (some (.int 1)) s) ∧
                                            ((lg_cmp l0 (418498243705 : Int64)) ≠ 0 →
                                              ((lg_cmp l0 (29103447424000364 : Int64)) = 0 →
                                                Q (some (.int 1)) s) ∧
                                              ((lg_cmp l0 (29103447424000364 : Int64)) ≠ 0 →
                                                ((lg_cmp l0 (32493203083583852 : Int64)) = 0 →
                                                  Q (some (.int 1)) s) ∧
                                                ((lg_cmp l0 (32493203083583852 : Int64)) ≠ 0 →
                                                  ((lg_cmp l0 (435811873652 : Int64)) = 0 →
                                                    Q (some (.int 1)) s) ∧
                                                  ((lg_cmp l0 (435811873652 : Int64)) ≠ 0 →
                                                    ((lg_cmp l0 (1869636974 : Int64)) = 0 →
                                                      Q (some (.int 1)) s) ∧
                                                    ((lg_cmp l0 (1869636974 : Int64)) ≠ 0 →
                                                      ((lg_cmp l0 (32199680874079077 : Int64)) = 0 →
                                                        Q (some (.int 1)) s) ∧
                                                      ((lg_cmp l0 (32199680874079077 : Int64)) ≠ 0 →
                                                        ((lg_cmp l0 (107075471766116 : Int64)) = 0 →
                                                          Q (some (.int 1)) s) ∧
                                                        ((lg_cmp l0 (107075471766116 : Int64)) ≠ 0 →
                                                          ((lg_cmp l0 (27985188498925923 : Int64)) = 0 →
                                                            Q (some (.int 1)) s) ∧
                                                          ((lg_cmp l0 (27985188498925923 : Int64)) ≠ 0 →
                                                            ((lg_cmp l0 (110386639889253 : Int64)) ≠ 0 →
                                                              Q (some (.int 0)) s) ∧
                                                            ((lg_cmp l0 (110386639889253 : Int64)) = 0 →
                                                              Q (some (.int 1)) s)))))))))))) ∧
                                      ((lg_cmp l0 (1667330917 : Int64)) = 0 →
                                        ps_At d 193 158 [(0, .long l0), (2, .int 0)] [] s Q)))))))))) ∧
                    ((lg_cmp l0 (1936682341 : Int64)) = 0 →
                      ps_At d 193 80 [(0, .long l0)] [] s Q))))))))))) : ps_At d 193 0 [(0, .long l0)] [] s Q :=
  ps_wp_at (stops := [(80, [0]), (158, [0, 2])]) (n := 157) h rfl

theorem pg_193_80 {d : Nat} {l0 : Int64} {s : ps_S} {Q : Option Value → ps_S → Prop} (h :
  ((lg_cmp l0 (1935764837 : Int64)) = 0 →
    ps_At d 193 158 [(0, .long l0), (2, .int 1)] [] s Q) ∧
  ((lg_cmp l0 (1935764837 : Int64)) ≠ 0 →
    ((lg_cmp l0 (107148486208869 : Int64)) = 0 →
      ps_At d 193 158 [(0, .long l0), (2, .int 1)] [] s Q) ∧
    ((lg_cmp l0 (107148486208869 : Int64)) ≠ 0 →
      ((lg_cmp l0 (32765882169189741 : Int64)) = 0 →
        ps_At d 193 158 [(0, .long l0), (2, .int 1)] [] s Q) ∧
      ((lg_cmp l0 (32765882169189741 : Int64)) ≠ 0 →
        ((lg_cmp l0 (1651471464 : Int64)) = 0 →
          ps_At d 193 158 [(0, .long l0), (2, .int 1)] [] s Q) ∧
        ((lg_cmp l0 (1651471464 : Int64)) ≠ 0 →
          ((lg_cmp l0 (1818584692 : Int64)) = 0 →
            ps_At d 193 158 [(0, .long l0), (2, .int 1)] [] s Q) ∧
          ((lg_cmp l0 (1818584692 : Int64)) ≠ 0 →
            ((lg_cmp l0 (491394656372 : Int64)) = 0 →
              ps_At d 193 158 [(0, .long l0), (2, .int 1)] [] s Q) ∧
            ((lg_cmp l0 (491394656372 : Int64)) ≠ 0 →
              ((lg_cmp l0 (122537235539572 : Int64)) = 0 →
                ps_At d 193 158 [(0, .long l0), (2, .int 1)] [] s Q) ∧
              ((lg_cmp l0 (122537235539572 : Int64)) ≠ 0 →
                ((lg_cmp l0 (31369558135105652 : Int64)) = 0 →
                  ps_At d 193 158 [(0, .long l0), (2, .int 1)] [] s Q) ∧
                ((lg_cmp l0 (31369558135105652 : Int64)) ≠ 0 →
                  ((lg_cmp l0 (1667330917 : Int64)) ≠ 0 →
                    ((1 : Int32) ≠ 0 →
                      Q (some (.int 1)) s) ∧
                    ((1 : Int32) = 0 →
                      ((0 : Int32) ≠ 0 →
                        Q (some (.int 1)) s) ∧
                      ((0 : Int32) = 0 →
                        ((lg_cmp l0 (418498243705 : Int64)) = 0 →
                          Q (some (.int 1)) s) ∧
                        ((lg_cmp l0 (418498243705 : Int64)) ≠ 0 →
                          ((lg_cmp l0 (29103447424000364 : Int64)) = 0 →
                            Q (some (.int 1)) s) ∧
                          ((lg_cmp l0 (29103447424000364 : Int64)) ≠ 0 →
                            ((lg_cmp l0 (32493203083583852 : Int64)) = 0 →
                              Q (some (.int 1)) s) ∧
                            ((lg_cmp l0 (32493203083583852 : Int64)) ≠ 0 →
                              ((lg_cmp l0 (435811873652 : Int64)) = 0 →
                                Q (some (.int 1)) s) ∧
                              ((lg_cmp l0 (435811873652 : Int64)) ≠ 0 →
                                ((lg_cmp l0 (1869636974 : Int64)) = 0 →
                                  Q (some (.int 1)) s) ∧
                                ((lg_cmp l0 (1869636974 : Int64)) ≠ 0 →
                                  ((lg_cmp l0 (32199680874079077 : Int64)) = 0 →
                                    Q (some (.int 1)) s) ∧
                                  ((lg_cmp l0 (32199680874079077 : Int64)) ≠ 0 →
                                    ((lg_cmp l0 (107075471766116 : Int64)) = 0 →
                                      Q (some (.int 1)) s) ∧
                                    ((lg_cmp l0 (107075471766116 : Int64)) ≠ 0 →
                                      ((lg_cmp l0 (27985188498925923 : Int64)) = 0 →
                                        Q (some (.int 1)) s) ∧
                                      ((lg_cmp l0 (27985188498925923 : Int64)) ≠ 0 →
                                        ((lg_cmp l0 (110386639889253 : Int64)) ≠ 0 →
                                          Q (some (.int 0)) s) ∧
                                        ((lg_cmp l0 (110386639889253 : Int64)) = 0 →
                                          Q (some (.int 1)) s)))))))))))) ∧
                  ((lg_cmp l0 (1667330917 : Int64)) = 0 →
                    ps_At d 193 158 [(0, .long l0), (2, .int 1)] [] s Q)))))))))) : ps_At d 193 80 [(0, .long l0)] [] s Q :=
  ps_wp_at (stops := [(80, [0]), (158, [0, 2])]) (n := 118) h rfl

theorem pg_193_158 {d : Nat} {l0 : Int64} {x2 : Int32} {s : ps_S} {Q : Option Value → ps_S → Prop} (h :
  (x2 ≠ 0 →
    Q (some (.int 1)) s) ∧
  (x2 = 0 →
    ((1 : Int32) ≠ 0 →
      Q (some (.int 1)) s) ∧
    ((1 : Int32) = 0 →
      ((lg_cmp l0 (418498243705 : Int64)) = 0 →
        Q (some (.int 1)) s) ∧
      ((lg_cmp l0 (418498243705 : Int64)) ≠ 0 →
        ((lg_cmp l0 (29103447424000364 : Int64)) = 0 →
          Q (some (.int 1)) s) ∧
        ((lg_cmp l0 (29103447424000364 : Int64)) ≠ 0 →
          ((lg_cmp l0 (32493203083583852 : Int64)) = 0 →
            Q (some (.int 1)) s) ∧
          ((lg_cmp l0 (32493203083583852 : Int64)) ≠ 0 →
            ((lg_cmp l0 (435811873652 : Int64)) = 0 →
              Q (some (.int 1)) s) ∧
            ((lg_cmp l0 (435811873652 : Int64)) ≠ 0 →
              ((lg_cmp l0 (1869636974 : Int64)) = 0 →
                Q (some (.int 1)) s) ∧
              ((lg_cmp l0 (1869636974 : Int64)) ≠ 0 →
                ((lg_cmp l0 (32199680874079077 : Int64)) = 0 →
                  Q (some (.int 1)) s) ∧
                ((lg_cmp l0 (32199680874079077 : Int64)) ≠ 0 →
                  ((lg_cmp l0 (107075471766116 : Int64)) = 0 →
                    Q (some (.int 1)) s) ∧
                  ((lg_cmp l0 (107075471766116 : Int64)) ≠ 0 →
                    ((lg_cmp l0 (27985188498925923 : Int64)) = 0 →
                      Q (some (.int 1)) s) ∧
                    ((lg_cmp l0 (27985188498925923 : Int64)) ≠ 0 →
                      ((lg_cmp l0 (110386639889253 : Int64)) ≠ 0 →
                        Q (some (.int 0)) s) ∧
                      ((lg_cmp l0 (110386639889253 : Int64)) = 0 →
                        Q (some (.int 1)) s)))))))))))) : ps_At d 193 158 [(0, .long l0), (2, .int x2)] [] s Q :=
  ps_wp_at (stops := [(80, [0]), (158, [0, 2])]) (n := 80) h rfl

theorem ms_193_158 {x : Nat → Nat → Nat} {t : Int32} {d : Nat} {s : ps_S} {l0 : Int64} {Q : Option Value → ps_S → Prop} (k : ∀ (v : Int32), v &&& 1 = v → Q (some (.int v)) s) (x2 : Int32) (J : mJ x t s) : ps_At d 193 158 [(0, .long l0), (2, .int x2)] [] s Q := by
  refine pg_193_158 ?_
  refine And.intro (fun h1 => ?_) (fun h1 => ?_)
  · have f2 : x2.toInt ≠ (0 : Int) := xne h1
    exact k (1 : Int32) (by decide)
  · have f3 : x2.toInt = (0 : Int) := xeq h1
    refine And.intro (fun h4 => ?_) (fun h4 => ?_)
    · have f5 : (1 : Int) ≠ (0 : Int) := xne h4
      exact k (1 : Int32) (by decide)
    · exact absurd (show (1 : Int32) = (0 : Int32) from h4) (by decide)

theorem ms_193_80 {x : Nat → Nat → Nat} {t : Int32} {d : Nat} {s : ps_S} {l0 : Int64} {Q : Option Value → ps_S → Prop} (k : ∀ (v : Int32), v &&& 1 = v → Q (some (.int v)) s) (J : mJ x t s) : ps_At d 193 80 [(0, .long l0)] [] s Q := by
  refine pg_193_80 ?_
  refine And.intro (fun h1 => ?_) (fun h1 => ?_)
  · have f2 : (lg_cmp l0 (1935764837 : Int64)).toInt = (0 : Int) := xeq h1
    exact ms_193_158 (l0 := l0) k  (1) J 
  · have f3 : (lg_cmp l0 (1935764837 : Int64)).toInt ≠ (0 : Int) := xne h1
    refine And.intro (fun h4 => ?_) (fun h4 => ?_)
    · have f5 : (lg_cmp l0 (107148486208869 : Int64)).toInt = (0 : Int) := xeq h4
      exact ms_193_158 (l0 := l0) k  (1) J 
    · have f6 : (lg_cmp l0 (107148486208869 : Int64)).toInt ≠ (0 : Int) := xne h4
      refine And.intro (fun h7 => ?_) (fun h7 => ?_)
      · have f8 : (lg_cmp l0 (32765882169189741 : Int64)).toInt = (0 : Int) := xeq h7
        exact ms_193_158 (l0 := l0) k  (1) J 
      · have f9 : (lg_cmp l0 (32765882169189741 : Int64)).toInt ≠ (0 : Int) := xne h7
        refine And.intro (fun h10 => ?_) (fun h10 => ?_)
        · have f11 : (lg_cmp l0 (1651471464 : Int64)).toInt = (0 : Int) := xeq h10
          exact ms_193_158 (l0 := l0) k  (1) J 
        · have f12 : (lg_cmp l0 (1651471464 : Int64)).toInt ≠ (0 : Int) := xne h10
          refine And.intro (fun h13 => ?_) (fun h13 => ?_)
          · have f14 : (lg_cmp l0 (1818584692 : Int64)).toInt = (0 : Int) := xeq h13
            exact ms_193_158 (l0 := l0) k  (1) J 
          · have f15 : (lg_cmp l0 (1818584692 : Int64)).toInt ≠ (0 : Int) := xne h13
            refine And.intro (fun h16 => ?_) (fun h16 => ?_)
            · have f17 : (lg_cmp l0 (491394656372 : Int64)).toInt = (0 : Int) := xeq h16
              exact ms_193_158 (l0 := l0) k  (1) J 
            · have f18 : (lg_cmp l0 (491394656372 : Int64)).toInt ≠ (0 : Int) := xne h16
              refine And.intro (fun h19 => ?_) (fun h19 => ?_)
              · have f20 : (lg_cmp l0 (122537235539572 : Int64)).toInt = (0 : Int) := xeq h19
                exact ms_193_158 (l0 := l0) k  (1) J 
              · have f21 : (lg_cmp l0 (122537235539572 : Int64)).toInt ≠ (0 : Int) := xne h19
                refine And.intro (fun h22 => ?_) (fun h22 => ?_)
                · have f23 : (lg_cmp l0 (31369558135105652 : Int64)).toInt = (0 : Int) := xeq h22
                  exact ms_193_158 (l0 := l0) k  (1) J 
                · have f24 : (lg_cmp l0 (31369558135105652 : Int64)).toInt ≠ (0 : Int) := xne h22
                  refine And.intro (fun h25 => ?_) (fun h25 => ?_)
                  · have f26 : (lg_cmp l0 (1667330917 : Int64)).toInt ≠ (0 : Int) := xne h25
                    refine And.intro (fun h27 => ?_) (fun h27 => ?_)
                    · have f28 : (1 : Int) ≠ (0 : Int) := xne h27
                      exact k (1 : Int32) (by decide)
                    · exact absurd (show (1 : Int32) = (0 : Int32) from h27) (by decide)
                  · have f29 : (lg_cmp l0 (1667330917 : Int64)).toInt = (0 : Int) := xeq h25
                    exact ms_193_158 (l0 := l0) k  (1) J 

theorem ms_193 {x : Nat → Nat → Nat} {t : Int32} {s : ps_S} {d : Nat} {l0 : Int64} {f : Int32 → ps_S → Prop} (J : mJ x t s) (k : ∀ (v : Int32), v &&& 1 = v → f v s) : ps_Cl d 193 [.long l0] s (ps_rI f) := by
  refine pg_193_0 ?_
  refine And.intro (fun h1 => ?_) (fun h1 => ?_)
  · have f2 : (lg_cmp l0 (7497068 : Int64)).toInt = (0 : Int) := xeq h1
    exact ms_193_80 (l0 := l0) k   J 
  · have f3 : (lg_cmp l0 (7497068 : Int64)).toInt ≠ (0 : Int) := xne h1
    refine And.intro (fun h4 => ?_) (fun h4 => ?_)
    · have f5 : (lg_cmp l0 (6714734 : Int64)).toInt = (0 : Int) := xeq h4
      exact ms_193_80 (l0 := l0) k   J 
    · have f6 : (lg_cmp l0 (6714734 : Int64)).toInt ≠ (0 : Int) := xne h4
      refine And.intro (fun h7 => ?_) (fun h7 => ?_)
      · have f8 : (lg_cmp l0 (418632003437 : Int64)).toInt = (0 : Int) := xeq h7
        exact ms_193_80 (l0 := l0) k   J 
      · have f9 : (lg_cmp l0 (418632003437 : Int64)).toInt ≠ (0 : Int) := xne h7
        refine And.intro (fun h10 => ?_) (fun h10 => ?_)
        · have f11 : (lg_cmp l0 (439721161573 : Int64)).toInt = (0 : Int) := xeq h10
          exact ms_193_80 (l0 := l0) k   J 
        · have f12 : (lg_cmp l0 (439721161573 : Int64)).toInt ≠ (0 : Int) := xne h10
          refine And.intro (fun h13 => ?_) (fun h13 => ?_)
          · have f14 : (lg_cmp l0 (7237492 : Int64)).toInt = (0 : Int) := xeq h13
            exact ms_193_80 (l0 := l0) k   J 
          · have f15 : (lg_cmp l0 (7237492 : Int64)).toInt ≠ (0 : Int) := xne h13
            refine And.intro (fun h16 => ?_) (fun h16 => ?_)
            · have f17 : (lg_cmp l0 (6385252 : Int64)).toInt = (0 : Int) := xeq h16
              exact ms_193_80 (l0 := l0) k   J 
            · have f18 : (lg_cmp l0 (6385252 : Int64)).toInt ≠ (0 : Int) := xne h16
              refine And.intro (fun h19 => ?_) (fun h19 => ?_)
              · have f20 : (lg_cmp l0 (28530 : Int64)).toInt = (0 : Int) := xeq h19
                exact ms_193_80 (l0 := l0) k   J 
              · have f21 : (lg_cmp l0 (28530 : Int64)).toInt ≠ (0 : Int) := xne h19
                refine And.intro (fun h22 => ?_) (fun h22 => ?_)
                · have f23 : (lg_cmp l0 (6909296 : Int64)).toInt = (0 : Int) := xeq h22
                  exact ms_193_80 (l0 := l0) k   J 
                · have f24 : (lg_cmp l0 (6909296 : Int64)).toInt ≠ (0 : Int) := xne h22
                  refine And.intro (fun h25 => ?_) (fun h25 => ?_)
                  · have f26 : (lg_cmp l0 (6384748 : Int64)).toInt = (0 : Int) := xeq h25
                    exact ms_193_80 (l0 := l0) k   J 
                  · have f27 : (lg_cmp l0 (6384748 : Int64)).toInt ≠ (0 : Int) := xne h25
                    refine And.intro (fun h28 => ?_) (fun h28 => ?_)
                    · have f29 : (lg_cmp l0 (1936682341 : Int64)).toInt ≠ (0 : Int) := xne h28
                      refine And.intro (fun h30 => ?_) (fun h30 => ?_)
                      · have f31 : (lg_cmp l0 (1935764837 : Int64)).toInt = (0 : Int) := xeq h30
                        exact ms_193_158 (l0 := l0) k  (0) J 
                      · have f32 : (lg_cmp l0 (1935764837 : Int64)).toInt ≠ (0 : Int) := xne h30
                        refine And.intro (fun h33 => ?_) (fun h33 => ?_)
                        · have f34 : (lg_cmp l0 (107148486208869 : Int64)).toInt = (0 : Int) := xeq h33
                          exact ms_193_158 (l0 := l0) k  (0) J 
                        · have f35 : (lg_cmp l0 (107148486208869 : Int64)).toInt ≠ (0 : Int) := xne h33
                          refine And.intro (fun h36 => ?_) (fun h36 => ?_)
                          · have f37 : (lg_cmp l0 (32765882169189741 : Int64)).toInt = (0 : Int) := xeq h36
                            exact ms_193_158 (l0 := l0) k  (0) J 
                          · have f38 : (lg_cmp l0 (32765882169189741 : Int64)).toInt ≠ (0 : Int) := xne h36
                            refine And.intro (fun h39 => ?_) (fun h39 => ?_)
                            · have f40 : (lg_cmp l0 (1651471464 : Int64)).toInt = (0 : Int) := xeq h39
                              exact ms_193_158 (l0 := l0) k  (0) J 
                            · have f41 : (lg_cmp l0 (1651471464 : Int64)).toInt ≠ (0 : Int) := xne h39
                              refine And.intro (fun h42 => ?_) (fun h42 => ?_)
                              · have f43 : (lg_cmp l0 (1818584692 : Int64)).toInt = (0 : Int) := xeq h42
                                exact ms_193_158 (l0 := l0) k  (0) J 
                              · have f44 : (lg_cmp l0 (1818584692 : Int64)).toInt ≠ (0 : Int) := xne h42
                                refine And.intro (fun h45 => ?_) (fun h45 => ?_)
                                · have f46 : (lg_cmp l0 (491394656372 : Int64)).toInt = (0 : Int) := xeq h45
                                  exact ms_193_158 (l0 := l0) k  (0) J 
                                · have f47 : (lg_cmp l0 (491394656372 : Int64)).toInt ≠ (0 : Int) := xne h45
                                  refine And.intro (fun h48 => ?_) (fun h48 => ?_)
                                  · have f49 : (lg_cmp l0 (122537235539572 : Int64)).toInt = (0 : Int) := xeq h48
                                    exact ms_193_158 (l0 := l0) k  (0) J 
                                  · have f50 : (lg_cmp l0 (122537235539572 : Int64)).toInt ≠ (0 : Int) := xne h48
                                    refine And.intro (fun h51 => ?_) (fun h51 => ?_)
                                    · have f52 : (lg_cmp l0 (31369558135105652 : Int64)).toInt = (0 : Int) := xeq h51
                                      exact ms_193_158 (l0 := l0) k  (0) J 
                                    · have f53 : (lg_cmp l0 (31369558135105652 : Int64)).toInt ≠ (0 : Int) := xne h51
                                      refine And.intro (fun h54 => ?_) (fun h54 => ?_)
                                      · have f55 : (lg_cmp l0 (1667330917 : Int64)).toInt ≠ (0 : Int) := xne h54
                                        refine And.intro (fun h56 => ?_) (fun h56 => ?_)
                                        · exact absurd (show (0 : Int32) ≠ (0 : Int32) from h56) (by decide)
                                        · refine And.intro (fun h57 => ?_) (fun h57 => ?_)
                                          · exact absurd (show (0 : Int32) ≠ (0 : Int32) from h57) (by decide)
                                          · refine And.intro (fun h58 => ?_) (fun h58 => ?_)
                                            · have f59 : (lg_cmp l0 (418498243705 : Int64)).toInt = (0 : Int) := xeq h58
                                              exact k (1 : Int32) (by decide)
                                            · have f60 : (lg_cmp l0 (418498243705 : Int64)).toInt ≠ (0 : Int) := xne h58
                                              refine And.intro (fun h61 => ?_) (fun h61 => ?_)
                                              · have f62 : (lg_cmp l0 (29103447424000364 : Int64)).toInt = (0 : Int) := xeq h61
                                                exact k (1 : Int32) (by decide)
                                              · have f63 : (lg_cmp l0 (29103447424000364 : Int64)).toInt ≠ (0 : Int) := xne h61
                                                refine And.intro (fun h64 => ?_) (fun h64 => ?_)
                                                · have f65 : (lg_cmp l0 (32493203083583852 : Int64)).toInt = (0 : Int) := xeq h64
                                                  exact k (1 : Int32) (by decide)
                                                · have f66 : (lg_cmp l0 (32493203083583852 : Int64)).toInt ≠ (0 : Int) := xne h64
                                                  refine And.intro (fun h67 => ?_) (fun h67 => ?_)
                                                  · have f68 : (lg_cmp l0 (435811873652 : Int64)).toInt = (0 : Int) := xeq h67
                                                    exact k (1 : Int32) (by decide)
                                                  · have f69 : (lg_cmp l0 (435811873652 : Int64)).toInt ≠ (0 : Int) := xne h67
                                                    refine And.intro (fun h70 => ?_) (fun h70 => ?_)
                                                    · have f71 : (lg_cmp l0 (1869636974 : Int64)).toInt = (0 : Int) := xeq h70
                                                      exact k (1 : Int32) (by decide)
                                                    · have f72 : (lg_cmp l0 (1869636974 : Int64)).toInt ≠ (0 : Int) := xne h70
                                                      refine And.intro (fun h73 => ?_) (fun h73 => ?_)
                                                      · have f74 : (lg_cmp l0 (32199680874079077 : Int64)).toInt = (0 : Int) := xeq h73
                                                        exact k (1 : Int32) (by decide)
                                                      · have f75 : (lg_cmp l0 (32199680874079077 : Int64)).toInt ≠ (0 : Int) := xne h73
                                                        refine And.intro (fun h76 => ?_) (fun h76 => ?_)
                                                        · have f77 : (lg_cmp l0 (107075471766116 : Int64)).toInt = (0 : Int) := xeq h76
                                                          exact k (1 : Int32) (by decide)
                                                        · have f78 : (lg_cmp l0 (107075471766116 : Int64)).toInt ≠ (0 : Int) := xne h76
                                                          refine And.intro (fun h79 => ?_) (fun h79 => ?_)
                                                          · have f80 : (lg_cmp l0 (27985188498925923 : Int64)).toInt = (0 : Int) := xeq h79
                                                            exact k (1 : Int32) (by decide)
                                                          · have f81 : (lg_cmp l0 (27985188498925923 : Int64)).toInt ≠ (0 : Int) := xne h79
                                                            refine And.intro (fun h82 => ?_) (fun h82 => ?_)
                                                            · have f83 : (lg_cmp l0 (110386639889253 : Int64)).toInt ≠ (0 : Int) := xne h82
                                                              exact k (0 : Int32) (by decide)
                                                            · have f84 : (lg_cmp l0 (110386639889253 : Int64)).toInt = (0 : Int) := xeq h82
                                                              exact k (1 : Int32) (by decide)
                                      · have f85 : (lg_cmp l0 (1667330917 : Int64)).toInt = (0 : Int) := xeq h54
                                        exact ms_193_158 (l0 := l0) k  (0) J 
                    · have f86 : (lg_cmp l0 (1936682341 : Int64)).toInt = (0 : Int) := xeq h28
                      exact ms_193_80 (l0 := l0) k   J 

-- ProofBenchModel.goOn()V
theorem pg_194_0 {d : Nat} {s : ps_S} {Q : Option Value → ps_S → Prop} (h :
  ps_At (d + 1) 194 8 [(0, .ref 1131)] [] (ps_ui s 1131 7 (ps_i s 1131 8)) Q) : ps_At (d + 1) 194 0 [(0, .ref 1131)] [] s Q :=
  ps_wp_at (stops := [(8, [0]), (58, [0]), (119, [0]), (156, [0, 2]), (199, [0]), (259, [0])]) (n := 6) h rfl

theorem pg_194_8 {d : Nat} {s : ps_S} {Q : Option Value → ps_S → Prop} (h :
  ((ps_i s 1131 4) ≤ (ps_i s 1131 7) →
    ps_At (d + 1) 194 58 [(0, .ref 1131)] [] s Q) ∧
  ((ps_i s 1131 7) < (ps_i s 1131 4) →
    ps_Cl d 188 [.ref 1131, .int (ps_i s 1131 7)] s (ps_rI (fun v1 s1 =>
      (v1 = 32 →
        ps_At (d + 1) 194 8 [(0, .ref 1131)] [] (ps_ui s1 1131 7 ((ps_i s1 1131 7) + 1)) Q) ∧
      (v1 ≠ 32 →
        ps_Cl d 188 [.ref 1131, .int (ps_i s1 1131 7)] s1 (ps_rI (fun v2 s2 =>
          (v2 ≠ 10 →
            ps_At (d + 1) 194 58 [(0, .ref 1131)] [] s2 Q) ∧
          (v2 = 10 →
            ps_At (d + 1) 194 8 [(0, .ref 1131)] [] (ps_ui s2 1131 7 ((ps_i s2 1131 7) + 1)) Q)))))))) : ps_At (d + 1) 194 8 [(0, .ref 1131)] [] s Q :=
  ps_wp_at (stops := [(8, [0]), (58, [0]), (119, [0]), (156, [0, 2]), (199, [0]), (259, [0])]) (n := 33) h rfl

theorem pg_194_58 {d : Nat} {s : ps_S} {Q : Option Value → ps_S → Prop} (h :
  ps_Cl d 188 [.ref 1131, .int (ps_i s 1131 7)] s (ps_rI (fun v1 s1 =>
    ((ps_i (ps_ui s1 1131 8 ((ps_i s1 1131 7) + 1)) 1131 7) < (ps_i (ps_ui s1 1131 8 ((ps_i s1 1131 7) + 1)) 1131 4) →
      ps_Cl d 189 [.int v1] (ps_ui s1 1131 8 ((ps_i s1 1131 7) + 1)) (ps_rI (fun v2 s2 =>
        (v2 = 0 →
          ps_Cl d 190 [.int v1] s2 (ps_rI (fun v3 s3 =>
            (v3 = 0 →
              (v1 ≠ 59 →
                Q none (ps_ui s3 1131 9 1)) ∧
              (v1 = 59 →
                Q none (ps_ui s3 1131 9 5))) ∧
            (v3 ≠ 0 →
              ps_At (d + 1) 194 259 [(0, .ref 1131)] [] (ps_ui (ps_ui s3 1131 10 0) 1131 8 (ps_i (ps_ui s3 1131 10 0) 1131 7)) Q)))) ∧
        (v2 ≠ 0 →
          ps_At (d + 1) 194 119 [(0, .ref 1131)] [] s2 Q)))) ∧
    ((ps_i (ps_ui s1 1131 8 ((ps_i s1 1131 7) + 1)) 1131 4) ≤ (ps_i (ps_ui s1 1131 8 ((ps_i s1 1131 7) + 1)) 1131 7) →
      Q none (ps_ui (ps_ui (ps_ui (ps_ui s1 1131 8 ((ps_i s1 1131 7) + 1)) 1131 9 0) 1131 7 (ps_i (ps_ui (ps_ui s1 1131 8 ((ps_i s1 1131 7) + 1)) 1131 9 0) 1131 4)) 1131 8 (ps_i (ps_ui (ps_ui (ps_ui s1 1131 8 ((ps_i s1 1131 7) + 1)) 1131 9 0) 1131 7 (ps_i (ps_ui (ps_ui s1 1131 8 ((ps_i s1 1131 7) + 1)) 1131 9 0) 1131 4)) 1131 4)))))) : ps_At (d + 1) 194 58 [(0, .ref 1131)] [] s Q :=
  ps_wp_at (stops := [(8, [0]), (58, [0]), (119, [0]), (156, [0, 2]), (199, [0]), (259, [0])]) (n := 55) h rfl

theorem pg_194_119 {d : Nat} {s : ps_S} {Q : Option Value → ps_S → Prop} (h :
  ps_Cl d 188 [.ref 1131, .int (ps_i s 1131 8)] s (ps_rI (fun v1 s1 =>
    ps_Cl d 189 [.int v1] s1 (ps_rI (fun v2 s2 =>
      (v2 = 0 →
        ps_At (d + 1) 194 156 [(0, .ref 1131), (2, .int (ps_i (ps_uj s2 1131 11 0) 1131 7))] [] (ps_uj s2 1131 11 0) Q) ∧
      (v2 ≠ 0 →
        ps_At (d + 1) 194 119 [(0, .ref 1131)] [] (ps_ui s2 1131 8 ((ps_i s2 1131 8) + 1)) Q)))))) : ps_At (d + 1) 194 119 [(0, .ref 1131)] [] s Q :=
  ps_wp_at (stops := [(8, [0]), (58, [0]), (119, [0]), (156, [0, 2]), (199, [0]), (259, [0])]) (n := 21) h rfl

theorem pg_194_156 {d : Nat} {x2 : Int32} {s : ps_S} {Q : Option Value → ps_S → Prop} (h :
  ((ps_i s 1131 8) ≤ x2 →
    ps_At (d + 1) 194 199 [(0, .ref 1131)] [] s Q) ∧
  (x2 < (ps_i s 1131 8) →
    (((ps_i s 1131 7) + 8) ≤ x2 →
      ps_At (d + 1) 194 199 [(0, .ref 1131)] [] s Q) ∧
    (x2 < ((ps_i s 1131 7) + 8) →
      ps_Cl d 188 [.ref 1131, .int x2] s (ps_rI (fun v1 s1 =>
        ps_At (d + 1) 194 156 [(0, .ref 1131), (2, .int (x2 + 1))] [] (ps_uj s1 1131 11 (((ps_j s 1131 11) <<< (Int32.toInt64 (8 : Int32) &&& 63)) ||| (Int32.toInt64 v1))) Q))))) : ps_At (d + 1) 194 156 [(0, .ref 1131), (2, .int x2)] [] s Q :=
  ps_wp_at (stops := [(8, [0]), (58, [0]), (119, [0]), (156, [0, 2]), (199, [0]), (259, [0])]) (n := 25) h rfl

theorem pg_194_199 {d : Nat} {s : ps_S} {Q : Option Value → ps_S → Prop} (h :
  (((ps_i s 1131 8) - (ps_i s 1131 7)) ≤ 8 →
    ps_Cl d 193 [.long (ps_j s 1131 11)] s (ps_rI (fun v1 s1 =>
      (v1 = 0 →
        Q none (ps_ui s1 1131 9 2)) ∧
      (v1 ≠ 0 →
        Q none (ps_ui s1 1131 9 3))))) ∧
  (8 < ((ps_i s 1131 8) - (ps_i s 1131 7)) →
    Q none (ps_ui s 1131 9 1))) : ps_At (d + 1) 194 199 [(0, .ref 1131)] [] s Q :=
  ps_wp_at (stops := [(8, [0]), (58, [0]), (119, [0]), (156, [0, 2]), (199, [0]), (259, [0])]) (n := 28) h rfl

theorem pg_194_259 {d : Nat} {s : ps_S} {Q : Option Value → ps_S → Prop} (h :
  ps_Cl d 188 [.ref 1131, .int (ps_i s 1131 8)] s (ps_rI (fun v1 s1 =>
    ps_Cl d 190 [.int v1] s1 (ps_rI (fun v2 s2 =>
      (v2 = 0 →
        (4 < ((ps_i s2 1131 8) - (ps_i s2 1131 7)) →
          Q none (ps_ui s2 1131 9 1)) ∧
        (((ps_i s2 1131 8) - (ps_i s2 1131 7)) ≤ 4 →
          ps_Cl d 188 [.ref 1131, .int (ps_i s2 1131 8)] s2 (ps_rI (fun v3 s3 =>
            ps_Cl d 189 [.int v3] s3 (ps_rI (fun v4 s4 =>
              (v4 = 0 →
                Q none (ps_ui s4 1131 9 4)) ∧
              (v4 ≠ 0 →
                Q none (ps_ui s4 1131 9 1)))))))) ∧
      (v2 ≠ 0 →
        (4 ≤ ((ps_i s2 1131 8) - (ps_i s2 1131 7)) →
          ps_At (d + 1) 194 259 [(0, .ref 1131)] [] (ps_ui s2 1131 8 ((ps_i s2 1131 8) + 1)) Q) ∧
        (((ps_i s2 1131 8) - (ps_i s2 1131 7)) < 4 →
          ps_Cl d 188 [.ref 1131, .int (ps_i s2 1131 8)] s2 (ps_rI (fun v5 s5 =>
            ps_At (d + 1) 194 259 [(0, .ref 1131)] [] (ps_ui (ps_ui s5 1131 10 ((((10 : Int32) * (ps_i s2 1131 10)) + v5) - 48)) 1131 8 ((ps_i (ps_ui s5 1131 10 ((((10 : Int32) * (ps_i s2 1131 10)) + v5) - 48)) 1131 8) + 1)) Q))))))))) : ps_At (d + 1) 194 259 [(0, .ref 1131)] [] s Q :=
  ps_wp_at (stops := [(8, [0]), (58, [0]), (119, [0]), (156, [0, 2]), (199, [0]), (259, [0])]) (n := 70) h rfl

theorem ms_194_199 {x : Nat → Nat → Nat} {t : Int32} {d : Nat} {s0 : ps_S} {Q : Option Value → ps_S → Prop} (k : ∀ (s' : ps_S), mJ x t s' → kp [] [7, 8, 9, 10, 11] s0 s' → ((ps_i s' 1131 8).toInt ≤ (ps_i s' 1131 4).toInt) → Q none s') (s : ps_S) (J : mJ x t s) (K : kp [] [7, 8, 9, 10, 11] s0 s) (i0 : (ps_i s 1131 8).toInt ≤ (ps_i s 1131 4).toInt) : ps_At (d + 1) 194 199 [(0, .ref 1131)] [] s Q := by
  have r1 := mf_8 J
  have r2 := mf_4 J
  refine pg_194_199 (d := d) ?_
  have r3 := mf_7 J
  have a4 : ((ps_i s 1131 8) - (ps_i s 1131 7)).toInt = (ps_i s 1131 8).toInt - (ps_i s 1131 7).toInt := xIs (show -2147483648 ≤ (ps_i s 1131 8).toInt - (ps_i s 1131 7).toInt from by omega) (show (ps_i s 1131 8).toInt - (ps_i s 1131 7).toInt < 2147483648 from by omega)
  refine And.intro (fun h5 => ?_) (fun h5 => ?_)
  · have f6 : ((ps_i s 1131 8) - (ps_i s 1131 7)).toInt ≤ (8 : Int) := xle h5
    refine ms_193 J  (fun v7 b7 => ?_)
    refine And.intro (fun h8 => ?_) (fun h8 => ?_)
    · have f9 : v7.toInt = (0 : Int) := xeq h8
      have J10 := mwi_9 (v := (2 : Int32)) J (show 0 ≤ (2 : Int) from by omega) (show (2 : Int) ≤ 5 from by omega)
      have K11 := kpi K (q := 9) (v := (2 : Int32)) rfl
      exact k _ J10 K11 (show (ps_i s 1131 8).toInt ≤ (ps_i s 1131 4).toInt from by omega)
    · have f12 : v7.toInt ≠ (0 : Int) := xne h8
      have J13 := mwi_9 (v := (3 : Int32)) J (show 0 ≤ (3 : Int) from by omega) (show (3 : Int) ≤ 5 from by omega)
      have K14 := kpi K (q := 9) (v := (3 : Int32)) rfl
      exact k _ J13 K14 (show (ps_i s 1131 8).toInt ≤ (ps_i s 1131 4).toInt from by omega)
  · have f15 : (8 : Int) < ((ps_i s 1131 8) - (ps_i s 1131 7)).toInt := xlt h5
    have J16 := mwi_9 (v := (1 : Int32)) J (show 0 ≤ (1 : Int) from by omega) (show (1 : Int) ≤ 5 from by omega)
    have K17 := kpi K (q := 9) (v := (1 : Int32)) rfl
    exact k _ J16 K17 (show (ps_i s 1131 8).toInt ≤ (ps_i s 1131 4).toInt from by omega)

theorem ms_194_156 {x : Nat → Nat → Nat} {t : Int32} {d : Nat} {s0 : ps_S} {Q : Option Value → ps_S → Prop} (k : ∀ (s' : ps_S), mJ x t s' → kp [] [7, 8, 9, 10, 11] s0 s' → ((ps_i s' 1131 8).toInt ≤ (ps_i s' 1131 4).toInt) → Q none s') : ∀ (n : Nat) (x2 : Int32) (s : ps_S), (mJ x t s) → (kp [] [7, 8, 9, 10, 11] s0 s) → ((ps_i s 1131 8).toInt ≤ (ps_i s 1131 4).toInt) → (0 ≤ x2.toInt) → (x2.toInt ≤ 1601) → 1700 - x2.toInt ≤ (n : Int) → ps_At (d + 1) 194 156 [(0, .ref 1131), (2, .int x2)] [] s Q := by
  refine xstr (fun n ih => ?_)
  intro x2 s J K i0 i1 i2 hm
  have r1 := mf_8 J
  have r2 := mf_4 J
  refine pg_194_156 (d := d) ?_
  refine And.intro (fun h3 => ?_) (fun h3 => ?_)
  · have f4 : (ps_i s 1131 8).toInt ≤ x2.toInt := xle h3
    exact ms_194_199  k   _ J K (show (ps_i s 1131 8).toInt ≤ (ps_i s 1131 4).toInt from by omega)
  · have f5 : x2.toInt < (ps_i s 1131 8).toInt := xlt h3
    have r6 := mf_7 J
    have a7 : ((ps_i s 1131 7) + 8).toInt = (ps_i s 1131 7).toInt + (8 : Int) := xIa (show -2147483648 ≤ (ps_i s 1131 7).toInt + (8 : Int) from by omega) (show (ps_i s 1131 7).toInt + (8 : Int) < 2147483648 from by omega)
    refine And.intro (fun h8 => ?_) (fun h8 => ?_)
    · have f9 : ((ps_i s 1131 7) + 8).toInt ≤ x2.toInt := xle h8
      exact ms_194_199  k   _ J K (show (ps_i s 1131 8).toInt ≤ (ps_i s 1131 4).toInt from by omega)
    · have f10 : x2.toInt < ((ps_i s 1131 7) + 8).toInt := xlt h8
      refine pg_188_0 ?_
      refine And.intro (fun h11 => ?_) (fun h11 => ?_)
      · have f12 : (ps_i s 1131 4).toInt ≤ x2.toInt := xle h11
        have J13 := mw_j (q := 11) (v := (((ps_j s 1131 11) <<< (Int32.toInt64 (8 : Int32) &&& 63)) ||| (Int32.toInt64 0))) J
        have K14 := kpj K (q := 11) (v := (((ps_j s 1131 11) <<< (Int32.toInt64 (8 : Int32) &&& 63)) ||| (Int32.toInt64 0))) rfl
        have a15 : (x2 + 1).toInt = x2.toInt + (1 : Int) := xIa (show -2147483648 ≤ x2.toInt + (1 : Int) from by omega) (show x2.toInt + (1 : Int) < 2147483648 from by omega)
        exact ih (n - 1) (show n - 1 < n from by omega) (x2 + 1) _ J13 K14 (show (ps_i s 1131 8).toInt ≤ (ps_i s 1131 4).toInt from by omega) (show 0 ≤ (x2 + 1).toInt from by omega) (show (x2 + 1).toInt ≤ 1601 from by omega) (show 1700 - (x2 + 1).toInt ≤ ((n - 1 : Nat) : Int) from by omega)
      · have f16 : x2.toInt < (ps_i s 1131 4).toInt := xlt h11
        refine ps_nd_i (show pm_in x2 1600 = true from xgi (show 0 ≤ x2.toInt from by omega) (show x2.toInt < 1600 from by omega)) ?_
        have n17 : 0 ≤ ((ps_a s 1133 (Int32.toNatClampNeg x2)) &&& 255).toInt ∧ ((ps_a s 1133 (Int32.toNatClampNeg x2)) &&& 255).toInt ≤ 255 := xN (ps_a s 1133 (Int32.toNatClampNeg x2)) (c := 255) (n := 255) (by decide) (by decide)
        have J18 := mw_j (q := 11) (v := (((ps_j s 1131 11) <<< (Int32.toInt64 (8 : Int32) &&& 63)) ||| (Int32.toInt64 ((ps_a s 1133 (Int32.toNatClampNeg x2)) &&& 255)))) J
        have K19 := kpj K (q := 11) (v := (((ps_j s 1131 11) <<< (Int32.toInt64 (8 : Int32) &&& 63)) ||| (Int32.toInt64 ((ps_a s 1133 (Int32.toNatClampNeg x2)) &&& 255)))) rfl
        have a20 : (x2 + 1).toInt = x2.toInt + (1 : Int) := xIa (show -2147483648 ≤ x2.toInt + (1 : Int) from by omega) (show x2.toInt + (1 : Int) < 2147483648 from by omega)
        exact ih (n - 1) (show n - 1 < n from by omega) (x2 + 1) _ J18 K19 (show (ps_i s 1131 8).toInt ≤ (ps_i s 1131 4).toInt from by omega) (show 0 ≤ (x2 + 1).toInt from by omega) (show (x2 + 1).toInt ≤ 1601 from by omega) (show 1700 - (x2 + 1).toInt ≤ ((n - 1 : Nat) : Int) from by omega)

theorem ms_194_119 {x : Nat → Nat → Nat} {t : Int32} {d : Nat} {s0 : ps_S} {Q : Option Value → ps_S → Prop} (k : ∀ (s' : ps_S), mJ x t s' → kp [] [7, 8, 9, 10, 11] s0 s' → ((ps_i s' 1131 8).toInt ≤ (ps_i s' 1131 4).toInt) → Q none s') : ∀ (n : Nat) (s : ps_S), (mJ x t s) → (kp [] [7, 8, 9, 10, 11] s0 s) → ((ps_i s 1131 7).toInt < (ps_i s 1131 4).toInt) → ((ps_i s 1131 8).toInt ≤ (ps_i s 1131 4).toInt) → (ps_i s 1131 4).toInt - (ps_i s 1131 8).toInt ≤ (n : Int) → ps_At (d + 1) 194 119 [(0, .ref 1131)] [] s Q := by
  refine xstr (fun n ih => ?_)
  intro s J K i0 i1 hm
  have r1 := mf_7 J
  have r2 := mf_4 J
  have r3 := mf_8 J
  refine pg_194_119 (d := d) ?_
  refine pg_188_0 ?_
  refine And.intro (fun h4 => ?_) (fun h4 => ?_)
  · have f5 : (ps_i s 1131 4).toInt ≤ (ps_i s 1131 8).toInt := xle h4
    refine ms_189 J  (fun v6 p6_0 b6 => ?_)
    have p6_0' : v6.toInt = 0 ∨ 97 ≤ (0 : Int) := p6_0
    refine And.intro (fun h7 => ?_) (fun h7 => ?_)
    · have f8 : v6.toInt = (0 : Int) := xeq h7
      have J9 := mw_j (q := 11) (v := (0 : Int64)) J
      have K10 := kpj K (q := 11) (v := (0 : Int64)) rfl
      exact ms_194_156  k  (1700 - (ps_i s 1131 7).toInt).toNat (ps_i s 1131 7) _ J9 K10 (show (ps_i s 1131 8).toInt ≤ (ps_i s 1131 4).toInt from by omega) (show 0 ≤ (ps_i s 1131 7).toInt from by omega) (show (ps_i s 1131 7).toInt ≤ 1601 from by omega) (show 1700 - (ps_i s 1131 7).toInt ≤ (((1700 - (ps_i s 1131 7).toInt).toNat : Nat) : Int) from by omega)
    · have f11 : v6.toInt ≠ (0 : Int) := xne h7
      have a12 : ((ps_i s 1131 8) + 1).toInt = (ps_i s 1131 8).toInt + (1 : Int) := xIa (show -2147483648 ≤ (ps_i s 1131 8).toInt + (1 : Int) from by omega) (show (ps_i s 1131 8).toInt + (1 : Int) < 2147483648 from by omega)
      have J13 := mwi_8 (v := ((ps_i s 1131 8) + 1)) J (show 0 ≤ ((ps_i s 1131 8) + 1).toInt from by omega) (show ((ps_i s 1131 8) + 1).toInt ≤ 1601 from by omega)
      have K14 := kpi K (q := 8) (v := ((ps_i s 1131 8) + 1)) rfl
      exact ih (n - 1) (show n - 1 < n from by omega)  _ J13 K14 (show (ps_i s 1131 7).toInt < (ps_i s 1131 4).toInt from by omega) (show ((ps_i s 1131 8) + 1).toInt ≤ (ps_i s 1131 4).toInt from by omega) (show (ps_i s 1131 4).toInt - ((ps_i s 1131 8) + 1).toInt ≤ ((n - 1 : Nat) : Int) from by omega)
  · have f15 : (ps_i s 1131 8).toInt < (ps_i s 1131 4).toInt := xlt h4
    refine ps_nd_i (show pm_in (ps_i s 1131 8) 1600 = true from xgi (show 0 ≤ (ps_i s 1131 8).toInt from by omega) (show (ps_i s 1131 8).toInt < 1600 from by omega)) ?_
    have n16 : 0 ≤ ((ps_a s 1133 (Int32.toNatClampNeg (ps_i s 1131 8))) &&& 255).toInt ∧ ((ps_a s 1133 (Int32.toNatClampNeg (ps_i s 1131 8))) &&& 255).toInt ≤ 255 := xN (ps_a s 1133 (Int32.toNatClampNeg (ps_i s 1131 8))) (c := 255) (n := 255) (by decide) (by decide)
    refine ms_189 J  (fun v17 p17_0 b17 => ?_)
    have p17_0' : v17.toInt = 0 ∨ 97 ≤ ((ps_a s 1133 (Int32.toNatClampNeg (ps_i s 1131 8))) &&& 255).toInt := p17_0
    refine And.intro (fun h18 => ?_) (fun h18 => ?_)
    · have f19 : v17.toInt = (0 : Int) := xeq h18
      have J20 := mw_j (q := 11) (v := (0 : Int64)) J
      have K21 := kpj K (q := 11) (v := (0 : Int64)) rfl
      exact ms_194_156  k  (1700 - (ps_i s 1131 7).toInt).toNat (ps_i s 1131 7) _ J20 K21 (show (ps_i s 1131 8).toInt ≤ (ps_i s 1131 4).toInt from by omega) (show 0 ≤ (ps_i s 1131 7).toInt from by omega) (show (ps_i s 1131 7).toInt ≤ 1601 from by omega) (show 1700 - (ps_i s 1131 7).toInt ≤ (((1700 - (ps_i s 1131 7).toInt).toNat : Nat) : Int) from by omega)
    · have f22 : v17.toInt ≠ (0 : Int) := xne h18
      have a23 : ((ps_i s 1131 8) + 1).toInt = (ps_i s 1131 8).toInt + (1 : Int) := xIa (show -2147483648 ≤ (ps_i s 1131 8).toInt + (1 : Int) from by omega) (show (ps_i s 1131 8).toInt + (1 : Int) < 2147483648 from by omega)
      have J24 := mwi_8 (v := ((ps_i s 1131 8) + 1)) J (show 0 ≤ ((ps_i s 1131 8) + 1).toInt from by omega) (show ((ps_i s 1131 8) + 1).toInt ≤ 1601 from by omega)
      have K25 := kpi K (q := 8) (v := ((ps_i s 1131 8) + 1)) rfl
      exact ih (n - 1) (show n - 1 < n from by omega)  _ J24 K25 (show (ps_i s 1131 7).toInt < (ps_i s 1131 4).toInt from by omega) (show ((ps_i s 1131 8) + 1).toInt ≤ (ps_i s 1131 4).toInt from by omega) (show (ps_i s 1131 4).toInt - ((ps_i s 1131 8) + 1).toInt ≤ ((n - 1 : Nat) : Int) from by omega)

theorem ms_194_259 {x : Nat → Nat → Nat} {t : Int32} {d : Nat} {s0 : ps_S} {Q : Option Value → ps_S → Prop} (k : ∀ (s' : ps_S), mJ x t s' → kp [] [7, 8, 9, 10, 11] s0 s' → ((ps_i s' 1131 8).toInt ≤ (ps_i s' 1131 4).toInt) → Q none s') : ∀ (n : Nat) (s : ps_S), (mJ x t s) → (kp [] [7, 8, 9, 10, 11] s0 s) → ((ps_i s 1131 7).toInt ≤ (ps_i s 1131 8).toInt) → ((ps_i s 1131 8).toInt ≤ (ps_i s 1131 4).toInt) → (((ps_i s 1131 8).toInt - (ps_i s 1131 7).toInt ≤ 0 ∧ (ps_i s 1131 10).toInt = 0) ∨ ((ps_i s 1131 8).toInt - (ps_i s 1131 7).toInt = 1 ∧ (ps_i s 1131 10).toInt ≤ 9) ∨ ((ps_i s 1131 8).toInt - (ps_i s 1131 7).toInt = 2 ∧ (ps_i s 1131 10).toInt ≤ 99) ∨ ((ps_i s 1131 8).toInt - (ps_i s 1131 7).toInt = 3 ∧ (ps_i s 1131 10).toInt ≤ 999) ∨ 4 ≤ (ps_i s 1131 8).toInt - (ps_i s 1131 7).toInt) → (ps_i s 1131 4).toInt - (ps_i s 1131 8).toInt ≤ (n : Int) → ps_At (d + 1) 194 259 [(0, .ref 1131)] [] s Q := by
  refine xstr (fun n ih => ?_)
  intro s J K i0 i1 i2 hm
  have r1 := mf_7 J
  have r2 := mf_8 J
  have r3 := mf_4 J
  have r4 := mf_10 J
  refine pg_194_259 (d := d) ?_
  refine pg_188_0 ?_
  refine And.intro (fun h5 => ?_) (fun h5 => ?_)
  · have f6 : (ps_i s 1131 4).toInt ≤ (ps_i s 1131 8).toInt := xle h5
    refine ms_190 J  (fun v7 p7_0 b7 => ?_)
    have p7_0' : v7.toInt = 0 ∨ (48 ≤ (0 : Int) ∧ (0 : Int) ≤ 57) := p7_0
    refine And.intro (fun h8 => ?_) (fun h8 => ?_)
    · have f9 : v7.toInt = (0 : Int) := xeq h8
      have a10 : ((ps_i s 1131 8) - (ps_i s 1131 7)).toInt = (ps_i s 1131 8).toInt - (ps_i s 1131 7).toInt := xIs (show -2147483648 ≤ (ps_i s 1131 8).toInt - (ps_i s 1131 7).toInt from by omega) (show (ps_i s 1131 8).toInt - (ps_i s 1131 7).toInt < 2147483648 from by omega)
      refine And.intro (fun h11 => ?_) (fun h11 => ?_)
      · have f12 : (4 : Int) < ((ps_i s 1131 8) - (ps_i s 1131 7)).toInt := xlt h11
        have J13 := mwi_9 (v := (1 : Int32)) J (show 0 ≤ (1 : Int) from by omega) (show (1 : Int) ≤ 5 from by omega)
        have K14 := kpi K (q := 9) (v := (1 : Int32)) rfl
        exact k _ J13 K14 (show (ps_i s 1131 8).toInt ≤ (ps_i s 1131 4).toInt from by omega)
      · have f15 : ((ps_i s 1131 8) - (ps_i s 1131 7)).toInt ≤ (4 : Int) := xle h11
        refine pg_188_0 ?_
        refine And.intro (fun h16 => ?_) (fun h16 => ?_)
        · have f17 : (ps_i s 1131 4).toInt ≤ (ps_i s 1131 8).toInt := xle h16
          refine ms_189 J  (fun v18 p18_0 b18 => ?_)
          have p18_0' : v18.toInt = 0 ∨ 97 ≤ (0 : Int) := p18_0
          refine And.intro (fun h19 => ?_) (fun h19 => ?_)
          · have f20 : v18.toInt = (0 : Int) := xeq h19
            have J21 := mwi_9 (v := (4 : Int32)) J (show 0 ≤ (4 : Int) from by omega) (show (4 : Int) ≤ 5 from by omega)
            have K22 := kpi K (q := 9) (v := (4 : Int32)) rfl
            exact k _ J21 K22 (show (ps_i s 1131 8).toInt ≤ (ps_i s 1131 4).toInt from by omega)
          · have f23 : v18.toInt ≠ (0 : Int) := xne h19
            have J24 := mwi_9 (v := (1 : Int32)) J (show 0 ≤ (1 : Int) from by omega) (show (1 : Int) ≤ 5 from by omega)
            have K25 := kpi K (q := 9) (v := (1 : Int32)) rfl
            exact k _ J24 K25 (show (ps_i s 1131 8).toInt ≤ (ps_i s 1131 4).toInt from by omega)
        · have f26 : (ps_i s 1131 8).toInt < (ps_i s 1131 4).toInt := xlt h16
          refine ps_nd_i (show pm_in (ps_i s 1131 8) 1600 = true from xgi (show 0 ≤ (ps_i s 1131 8).toInt from by omega) (show (ps_i s 1131 8).toInt < 1600 from by omega)) ?_
          have n27 : 0 ≤ ((ps_a s 1133 (Int32.toNatClampNeg (ps_i s 1131 8))) &&& 255).toInt ∧ ((ps_a s 1133 (Int32.toNatClampNeg (ps_i s 1131 8))) &&& 255).toInt ≤ 255 := xN (ps_a s 1133 (Int32.toNatClampNeg (ps_i s 1131 8))) (c := 255) (n := 255) (by decide) (by decide)
          refine ms_189 J  (fun v28 p28_0 b28 => ?_)
          have p28_0' : v28.toInt = 0 ∨ 97 ≤ ((ps_a s 1133 (Int32.toNatClampNeg (ps_i s 1131 8))) &&& 255).toInt := p28_0
          refine And.intro (fun h29 => ?_) (fun h29 => ?_)
          · have f30 : v28.toInt = (0 : Int) := xeq h29
            have J31 := mwi_9 (v := (4 : Int32)) J (show 0 ≤ (4 : Int) from by omega) (show (4 : Int) ≤ 5 from by omega)
            have K32 := kpi K (q := 9) (v := (4 : Int32)) rfl
            exact k _ J31 K32 (show (ps_i s 1131 8).toInt ≤ (ps_i s 1131 4).toInt from by omega)
          · have f33 : v28.toInt ≠ (0 : Int) := xne h29
            have J34 := mwi_9 (v := (1 : Int32)) J (show 0 ≤ (1 : Int) from by omega) (show (1 : Int) ≤ 5 from by omega)
            have K35 := kpi K (q := 9) (v := (1 : Int32)) rfl
            exact k _ J34 K35 (show (ps_i s 1131 8).toInt ≤ (ps_i s 1131 4).toInt from by omega)
    · have f36 : v7.toInt ≠ (0 : Int) := xne h8
      have a37 : ((ps_i s 1131 8) - (ps_i s 1131 7)).toInt = (ps_i s 1131 8).toInt - (ps_i s 1131 7).toInt := xIs (show -2147483648 ≤ (ps_i s 1131 8).toInt - (ps_i s 1131 7).toInt from by omega) (show (ps_i s 1131 8).toInt - (ps_i s 1131 7).toInt < 2147483648 from by omega)
      refine And.intro (fun h38 => ?_) (fun h38 => ?_)
      · have f39 : (4 : Int) ≤ ((ps_i s 1131 8) - (ps_i s 1131 7)).toInt := xle h38
        have a40 : ((ps_i s 1131 8) + 1).toInt = (ps_i s 1131 8).toInt + (1 : Int) := xIa (show -2147483648 ≤ (ps_i s 1131 8).toInt + (1 : Int) from by omega) (show (ps_i s 1131 8).toInt + (1 : Int) < 2147483648 from by omega)
        have J41 := mwi_8 (v := ((ps_i s 1131 8) + 1)) J (show 0 ≤ ((ps_i s 1131 8) + 1).toInt from by omega) (show ((ps_i s 1131 8) + 1).toInt ≤ 1601 from by omega)
        have K42 := kpi K (q := 8) (v := ((ps_i s 1131 8) + 1)) rfl
        exact ih (n - 1) (show n - 1 < n from by omega)  _ J41 K42 (show (ps_i s 1131 7).toInt ≤ ((ps_i s 1131 8) + 1).toInt from by omega) (show ((ps_i s 1131 8) + 1).toInt ≤ (ps_i s 1131 4).toInt from by omega) (show (((ps_i s 1131 8) + 1).toInt - (ps_i s 1131 7).toInt ≤ 0 ∧ (ps_i s 1131 10).toInt = 0) ∨ (((ps_i s 1131 8) + 1).toInt - (ps_i s 1131 7).toInt = 1 ∧ (ps_i s 1131 10).toInt ≤ 9) ∨ (((ps_i s 1131 8) + 1).toInt - (ps_i s 1131 7).toInt = 2 ∧ (ps_i s 1131 10).toInt ≤ 99) ∨ (((ps_i s 1131 8) + 1).toInt - (ps_i s 1131 7).toInt = 3 ∧ (ps_i s 1131 10).toInt ≤ 999) ∨ 4 ≤ ((ps_i s 1131 8) + 1).toInt - (ps_i s 1131 7).toInt from by omega) (show (ps_i s 1131 4).toInt - ((ps_i s 1131 8) + 1).toInt ≤ ((n - 1 : Nat) : Int) from by omega)
      · have f43 : ((ps_i s 1131 8) - (ps_i s 1131 7)).toInt < (4 : Int) := xlt h38
        have a44 : ((10 : Int32) * (ps_i s 1131 10)).toInt = (10 : Int) * (ps_i s 1131 10).toInt := xIm (show -2147483648 ≤ (10 : Int) * (ps_i s 1131 10).toInt from by omega) (show (10 : Int) * (ps_i s 1131 10).toInt < 2147483648 from by omega)
        refine pg_188_0 ?_
        refine And.intro (fun h45 => ?_) (fun h45 => ?_)
        · have f46 : (ps_i s 1131 4).toInt ≤ (ps_i s 1131 8).toInt := xle h45
          have a47 : (((10 : Int32) * (ps_i s 1131 10)) + 0).toInt = ((10 : Int32) * (ps_i s 1131 10)).toInt + (0 : Int) := xIa (show -2147483648 ≤ ((10 : Int32) * (ps_i s 1131 10)).toInt + (0 : Int) from by omega) (show ((10 : Int32) * (ps_i s 1131 10)).toInt + (0 : Int) < 2147483648 from by omega)
          have a48 : ((((10 : Int32) * (ps_i s 1131 10)) + 0) - 48).toInt = (((10 : Int32) * (ps_i s 1131 10)) + 0).toInt - (48 : Int) := xIs (show -2147483648 ≤ (((10 : Int32) * (ps_i s 1131 10)) + 0).toInt - (48 : Int) from by omega) (show (((10 : Int32) * (ps_i s 1131 10)) + 0).toInt - (48 : Int) < 2147483648 from by omega)
          have J49 := mwi_10 (v := ((((10 : Int32) * (ps_i s 1131 10)) + 0) - 48)) J (show 0 ≤ ((((10 : Int32) * (ps_i s 1131 10)) + 0) - 48).toInt from by omega) (show ((((10 : Int32) * (ps_i s 1131 10)) + 0) - 48).toInt ≤ 9999 from by omega)
          have K50 := kpi K (q := 10) (v := ((((10 : Int32) * (ps_i s 1131 10)) + 0) - 48)) rfl
          have a51 : ((ps_i s 1131 8) + 1).toInt = (ps_i s 1131 8).toInt + (1 : Int) := xIa (show -2147483648 ≤ (ps_i s 1131 8).toInt + (1 : Int) from by omega) (show (ps_i s 1131 8).toInt + (1 : Int) < 2147483648 from by omega)
          have J52 := mwi_8 (v := ((ps_i s 1131 8) + 1)) J49 (show 0 ≤ ((ps_i s 1131 8) + 1).toInt from by omega) (show ((ps_i s 1131 8) + 1).toInt ≤ 1601 from by omega)
          have K53 := kpi K50 (q := 8) (v := ((ps_i s 1131 8) + 1)) rfl
          exact ih (n - 1) (show n - 1 < n from by omega)  _ J52 K53 (show (ps_i s 1131 7).toInt ≤ ((ps_i s 1131 8) + 1).toInt from by omega) (show ((ps_i s 1131 8) + 1).toInt ≤ (ps_i s 1131 4).toInt from by omega) (show (((ps_i s 1131 8) + 1).toInt - (ps_i s 1131 7).toInt ≤ 0 ∧ ((((10 : Int32) * (ps_i s 1131 10)) + 0) - 48).toInt = 0) ∨ (((ps_i s 1131 8) + 1).toInt - (ps_i s 1131 7).toInt = 1 ∧ ((((10 : Int32) * (ps_i s 1131 10)) + 0) - 48).toInt ≤ 9) ∨ (((ps_i s 1131 8) + 1).toInt - (ps_i s 1131 7).toInt = 2 ∧ ((((10 : Int32) * (ps_i s 1131 10)) + 0) - 48).toInt ≤ 99) ∨ (((ps_i s 1131 8) + 1).toInt - (ps_i s 1131 7).toInt = 3 ∧ ((((10 : Int32) * (ps_i s 1131 10)) + 0) - 48).toInt ≤ 999) ∨ 4 ≤ ((ps_i s 1131 8) + 1).toInt - (ps_i s 1131 7).toInt from by omega) (show (ps_i s 1131 4).toInt - ((ps_i s 1131 8) + 1).toInt ≤ ((n - 1 : Nat) : Int) from by omega)
        · have f54 : (ps_i s 1131 8).toInt < (ps_i s 1131 4).toInt := xlt h45
          refine ps_nd_i (show pm_in (ps_i s 1131 8) 1600 = true from xgi (show 0 ≤ (ps_i s 1131 8).toInt from by omega) (show (ps_i s 1131 8).toInt < 1600 from by omega)) ?_
          have n55 : 0 ≤ ((ps_a s 1133 (Int32.toNatClampNeg (ps_i s 1131 8))) &&& 255).toInt ∧ ((ps_a s 1133 (Int32.toNatClampNeg (ps_i s 1131 8))) &&& 255).toInt ≤ 255 := xN (ps_a s 1133 (Int32.toNatClampNeg (ps_i s 1131 8))) (c := 255) (n := 255) (by decide) (by decide)
          have a56 : (((10 : Int32) * (ps_i s 1131 10)) + ((ps_a s 1133 (Int32.toNatClampNeg (ps_i s 1131 8))) &&& 255)).toInt = ((10 : Int32) * (ps_i s 1131 10)).toInt + ((ps_a s 1133 (Int32.toNatClampNeg (ps_i s 1131 8))) &&& 255).toInt := xIa (show -2147483648 ≤ ((10 : Int32) * (ps_i s 1131 10)).toInt + ((ps_a s 1133 (Int32.toNatClampNeg (ps_i s 1131 8))) &&& 255).toInt from by omega) (show ((10 : Int32) * (ps_i s 1131 10)).toInt + ((ps_a s 1133 (Int32.toNatClampNeg (ps_i s 1131 8))) &&& 255).toInt < 2147483648 from by omega)
          have a57 : ((((10 : Int32) * (ps_i s 1131 10)) + ((ps_a s 1133 (Int32.toNatClampNeg (ps_i s 1131 8))) &&& 255)) - 48).toInt = (((10 : Int32) * (ps_i s 1131 10)) + ((ps_a s 1133 (Int32.toNatClampNeg (ps_i s 1131 8))) &&& 255)).toInt - (48 : Int) := xIs (show -2147483648 ≤ (((10 : Int32) * (ps_i s 1131 10)) + ((ps_a s 1133 (Int32.toNatClampNeg (ps_i s 1131 8))) &&& 255)).toInt - (48 : Int) from by omega) (show (((10 : Int32) * (ps_i s 1131 10)) + ((ps_a s 1133 (Int32.toNatClampNeg (ps_i s 1131 8))) &&& 255)).toInt - (48 : Int) < 2147483648 from by omega)
          have J58 := mwi_10 (v := ((((10 : Int32) * (ps_i s 1131 10)) + ((ps_a s 1133 (Int32.toNatClampNeg (ps_i s 1131 8))) &&& 255)) - 48)) J (show 0 ≤ ((((10 : Int32) * (ps_i s 1131 10)) + ((ps_a s 1133 (Int32.toNatClampNeg (ps_i s 1131 8))) &&& 255)) - 48).toInt from by omega) (show ((((10 : Int32) * (ps_i s 1131 10)) + ((ps_a s 1133 (Int32.toNatClampNeg (ps_i s 1131 8))) &&& 255)) - 48).toInt ≤ 9999 from by omega)
          have K59 := kpi K (q := 10) (v := ((((10 : Int32) * (ps_i s 1131 10)) + ((ps_a s 1133 (Int32.toNatClampNeg (ps_i s 1131 8))) &&& 255)) - 48)) rfl
          have a60 : ((ps_i s 1131 8) + 1).toInt = (ps_i s 1131 8).toInt + (1 : Int) := xIa (show -2147483648 ≤ (ps_i s 1131 8).toInt + (1 : Int) from by omega) (show (ps_i s 1131 8).toInt + (1 : Int) < 2147483648 from by omega)
          have J61 := mwi_8 (v := ((ps_i s 1131 8) + 1)) J58 (show 0 ≤ ((ps_i s 1131 8) + 1).toInt from by omega) (show ((ps_i s 1131 8) + 1).toInt ≤ 1601 from by omega)
          have K62 := kpi K59 (q := 8) (v := ((ps_i s 1131 8) + 1)) rfl
          exact ih (n - 1) (show n - 1 < n from by omega)  _ J61 K62 (show (ps_i s 1131 7).toInt ≤ ((ps_i s 1131 8) + 1).toInt from by omega) (show ((ps_i s 1131 8) + 1).toInt ≤ (ps_i s 1131 4).toInt from by omega) (show (((ps_i s 1131 8) + 1).toInt - (ps_i s 1131 7).toInt ≤ 0 ∧ ((((10 : Int32) * (ps_i s 1131 10)) + ((ps_a s 1133 (Int32.toNatClampNeg (ps_i s 1131 8))) &&& 255)) - 48).toInt = 0) ∨ (((ps_i s 1131 8) + 1).toInt - (ps_i s 1131 7).toInt = 1 ∧ ((((10 : Int32) * (ps_i s 1131 10)) + ((ps_a s 1133 (Int32.toNatClampNeg (ps_i s 1131 8))) &&& 255)) - 48).toInt ≤ 9) ∨ (((ps_i s 1131 8) + 1).toInt - (ps_i s 1131 7).toInt = 2 ∧ ((((10 : Int32) * (ps_i s 1131 10)) + ((ps_a s 1133 (Int32.toNatClampNeg (ps_i s 1131 8))) &&& 255)) - 48).toInt ≤ 99) ∨ (((ps_i s 1131 8) + 1).toInt - (ps_i s 1131 7).toInt = 3 ∧ ((((10 : Int32) * (ps_i s 1131 10)) + ((ps_a s 1133 (Int32.toNatClampNeg (ps_i s 1131 8))) &&& 255)) - 48).toInt ≤ 999) ∨ 4 ≤ ((ps_i s 1131 8) + 1).toInt - (ps_i s 1131 7).toInt from by omega) (show (ps_i s 1131 4).toInt - ((ps_i s 1131 8) + 1).toInt ≤ ((n - 1 : Nat) : Int) from by omega)
  · have f63 : (ps_i s 1131 8).toInt < (ps_i s 1131 4).toInt := xlt h5
    refine ps_nd_i (show pm_in (ps_i s 1131 8) 1600 = true from xgi (show 0 ≤ (ps_i s 1131 8).toInt from by omega) (show (ps_i s 1131 8).toInt < 1600 from by omega)) ?_
    have n64 : 0 ≤ ((ps_a s 1133 (Int32.toNatClampNeg (ps_i s 1131 8))) &&& 255).toInt ∧ ((ps_a s 1133 (Int32.toNatClampNeg (ps_i s 1131 8))) &&& 255).toInt ≤ 255 := xN (ps_a s 1133 (Int32.toNatClampNeg (ps_i s 1131 8))) (c := 255) (n := 255) (by decide) (by decide)
    refine ms_190 J  (fun v65 p65_0 b65 => ?_)
    have p65_0' : v65.toInt = 0 ∨ (48 ≤ ((ps_a s 1133 (Int32.toNatClampNeg (ps_i s 1131 8))) &&& 255).toInt ∧ ((ps_a s 1133 (Int32.toNatClampNeg (ps_i s 1131 8))) &&& 255).toInt ≤ 57) := p65_0
    refine And.intro (fun h66 => ?_) (fun h66 => ?_)
    · have f67 : v65.toInt = (0 : Int) := xeq h66
      have a68 : ((ps_i s 1131 8) - (ps_i s 1131 7)).toInt = (ps_i s 1131 8).toInt - (ps_i s 1131 7).toInt := xIs (show -2147483648 ≤ (ps_i s 1131 8).toInt - (ps_i s 1131 7).toInt from by omega) (show (ps_i s 1131 8).toInt - (ps_i s 1131 7).toInt < 2147483648 from by omega)
      refine And.intro (fun h69 => ?_) (fun h69 => ?_)
      · have f70 : (4 : Int) < ((ps_i s 1131 8) - (ps_i s 1131 7)).toInt := xlt h69
        have J71 := mwi_9 (v := (1 : Int32)) J (show 0 ≤ (1 : Int) from by omega) (show (1 : Int) ≤ 5 from by omega)
        have K72 := kpi K (q := 9) (v := (1 : Int32)) rfl
        exact k _ J71 K72 (show (ps_i s 1131 8).toInt ≤ (ps_i s 1131 4).toInt from by omega)
      · have f73 : ((ps_i s 1131 8) - (ps_i s 1131 7)).toInt ≤ (4 : Int) := xle h69
        refine pg_188_0 ?_
        refine And.intro (fun h74 => ?_) (fun h74 => ?_)
        · have f75 : (ps_i s 1131 4).toInt ≤ (ps_i s 1131 8).toInt := xle h74
          refine ms_189 J  (fun v76 p76_0 b76 => ?_)
          have p76_0' : v76.toInt = 0 ∨ 97 ≤ (0 : Int) := p76_0
          refine And.intro (fun h77 => ?_) (fun h77 => ?_)
          · have f78 : v76.toInt = (0 : Int) := xeq h77
            have J79 := mwi_9 (v := (4 : Int32)) J (show 0 ≤ (4 : Int) from by omega) (show (4 : Int) ≤ 5 from by omega)
            have K80 := kpi K (q := 9) (v := (4 : Int32)) rfl
            exact k _ J79 K80 (show (ps_i s 1131 8).toInt ≤ (ps_i s 1131 4).toInt from by omega)
          · have f81 : v76.toInt ≠ (0 : Int) := xne h77
            have J82 := mwi_9 (v := (1 : Int32)) J (show 0 ≤ (1 : Int) from by omega) (show (1 : Int) ≤ 5 from by omega)
            have K83 := kpi K (q := 9) (v := (1 : Int32)) rfl
            exact k _ J82 K83 (show (ps_i s 1131 8).toInt ≤ (ps_i s 1131 4).toInt from by omega)
        · have f84 : (ps_i s 1131 8).toInt < (ps_i s 1131 4).toInt := xlt h74
          refine ps_nd_i (show pm_in (ps_i s 1131 8) 1600 = true from xgi (show 0 ≤ (ps_i s 1131 8).toInt from by omega) (show (ps_i s 1131 8).toInt < 1600 from by omega)) ?_
          refine ms_189 J  (fun v85 p85_0 b85 => ?_)
          have p85_0' : v85.toInt = 0 ∨ 97 ≤ ((ps_a s 1133 (Int32.toNatClampNeg (ps_i s 1131 8))) &&& 255).toInt := p85_0
          refine And.intro (fun h86 => ?_) (fun h86 => ?_)
          · have f87 : v85.toInt = (0 : Int) := xeq h86
            have J88 := mwi_9 (v := (4 : Int32)) J (show 0 ≤ (4 : Int) from by omega) (show (4 : Int) ≤ 5 from by omega)
            have K89 := kpi K (q := 9) (v := (4 : Int32)) rfl
            exact k _ J88 K89 (show (ps_i s 1131 8).toInt ≤ (ps_i s 1131 4).toInt from by omega)
          · have f90 : v85.toInt ≠ (0 : Int) := xne h86
            have J91 := mwi_9 (v := (1 : Int32)) J (show 0 ≤ (1 : Int) from by omega) (show (1 : Int) ≤ 5 from by omega)
            have K92 := kpi K (q := 9) (v := (1 : Int32)) rfl
            exact k _ J91 K92 (show (ps_i s 1131 8).toInt ≤ (ps_i s 1131 4).toInt from by omega)
    · have f93 : v65.toInt ≠ (0 : Int) := xne h66
      have a94 : ((ps_i s 1131 8) - (ps_i s 1131 7)).toInt = (ps_i s 1131 8).toInt - (ps_i s 1131 7).toInt := xIs (show -2147483648 ≤ (ps_i s 1131 8).toInt - (ps_i s 1131 7).toInt from by omega) (show (ps_i s 1131 8).toInt - (ps_i s 1131 7).toInt < 2147483648 from by omega)
      refine And.intro (fun h95 => ?_) (fun h95 => ?_)
      · have f96 : (4 : Int) ≤ ((ps_i s 1131 8) - (ps_i s 1131 7)).toInt := xle h95
        have a97 : ((ps_i s 1131 8) + 1).toInt = (ps_i s 1131 8).toInt + (1 : Int) := xIa (show -2147483648 ≤ (ps_i s 1131 8).toInt + (1 : Int) from by omega) (show (ps_i s 1131 8).toInt + (1 : Int) < 2147483648 from by omega)
        have J98 := mwi_8 (v := ((ps_i s 1131 8) + 1)) J (show 0 ≤ ((ps_i s 1131 8) + 1).toInt from by omega) (show ((ps_i s 1131 8) + 1).toInt ≤ 1601 from by omega)
        have K99 := kpi K (q := 8) (v := ((ps_i s 1131 8) + 1)) rfl
        exact ih (n - 1) (show n - 1 < n from by omega)  _ J98 K99 (show (ps_i s 1131 7).toInt ≤ ((ps_i s 1131 8) + 1).toInt from by omega) (show ((ps_i s 1131 8) + 1).toInt ≤ (ps_i s 1131 4).toInt from by omega) (show (((ps_i s 1131 8) + 1).toInt - (ps_i s 1131 7).toInt ≤ 0 ∧ (ps_i s 1131 10).toInt = 0) ∨ (((ps_i s 1131 8) + 1).toInt - (ps_i s 1131 7).toInt = 1 ∧ (ps_i s 1131 10).toInt ≤ 9) ∨ (((ps_i s 1131 8) + 1).toInt - (ps_i s 1131 7).toInt = 2 ∧ (ps_i s 1131 10).toInt ≤ 99) ∨ (((ps_i s 1131 8) + 1).toInt - (ps_i s 1131 7).toInt = 3 ∧ (ps_i s 1131 10).toInt ≤ 999) ∨ 4 ≤ ((ps_i s 1131 8) + 1).toInt - (ps_i s 1131 7).toInt from by omega) (show (ps_i s 1131 4).toInt - ((ps_i s 1131 8) + 1).toInt ≤ ((n - 1 : Nat) : Int) from by omega)
      · have f100 : ((ps_i s 1131 8) - (ps_i s 1131 7)).toInt < (4 : Int) := xlt h95
        have a101 : ((10 : Int32) * (ps_i s 1131 10)).toInt = (10 : Int) * (ps_i s 1131 10).toInt := xIm (show -2147483648 ≤ (10 : Int) * (ps_i s 1131 10).toInt from by omega) (show (10 : Int) * (ps_i s 1131 10).toInt < 2147483648 from by omega)
        refine pg_188_0 ?_
        refine And.intro (fun h102 => ?_) (fun h102 => ?_)
        · have f103 : (ps_i s 1131 4).toInt ≤ (ps_i s 1131 8).toInt := xle h102
          have a104 : (((10 : Int32) * (ps_i s 1131 10)) + 0).toInt = ((10 : Int32) * (ps_i s 1131 10)).toInt + (0 : Int) := xIa (show -2147483648 ≤ ((10 : Int32) * (ps_i s 1131 10)).toInt + (0 : Int) from by omega) (show ((10 : Int32) * (ps_i s 1131 10)).toInt + (0 : Int) < 2147483648 from by omega)
          have a105 : ((((10 : Int32) * (ps_i s 1131 10)) + 0) - 48).toInt = (((10 : Int32) * (ps_i s 1131 10)) + 0).toInt - (48 : Int) := xIs (show -2147483648 ≤ (((10 : Int32) * (ps_i s 1131 10)) + 0).toInt - (48 : Int) from by omega) (show (((10 : Int32) * (ps_i s 1131 10)) + 0).toInt - (48 : Int) < 2147483648 from by omega)
          have J106 := mwi_10 (v := ((((10 : Int32) * (ps_i s 1131 10)) + 0) - 48)) J (show 0 ≤ ((((10 : Int32) * (ps_i s 1131 10)) + 0) - 48).toInt from by omega) (show ((((10 : Int32) * (ps_i s 1131 10)) + 0) - 48).toInt ≤ 9999 from by omega)
          have K107 := kpi K (q := 10) (v := ((((10 : Int32) * (ps_i s 1131 10)) + 0) - 48)) rfl
          have a108 : ((ps_i s 1131 8) + 1).toInt = (ps_i s 1131 8).toInt + (1 : Int) := xIa (show -2147483648 ≤ (ps_i s 1131 8).toInt + (1 : Int) from by omega) (show (ps_i s 1131 8).toInt + (1 : Int) < 2147483648 from by omega)
          have J109 := mwi_8 (v := ((ps_i s 1131 8) + 1)) J106 (show 0 ≤ ((ps_i s 1131 8) + 1).toInt from by omega) (show ((ps_i s 1131 8) + 1).toInt ≤ 1601 from by omega)
          have K110 := kpi K107 (q := 8) (v := ((ps_i s 1131 8) + 1)) rfl
          exact ih (n - 1) (show n - 1 < n from by omega)  _ J109 K110 (show (ps_i s 1131 7).toInt ≤ ((ps_i s 1131 8) + 1).toInt from by omega) (show ((ps_i s 1131 8) + 1).toInt ≤ (ps_i s 1131 4).toInt from by omega) (show (((ps_i s 1131 8) + 1).toInt - (ps_i s 1131 7).toInt ≤ 0 ∧ ((((10 : Int32) * (ps_i s 1131 10)) + 0) - 48).toInt = 0) ∨ (((ps_i s 1131 8) + 1).toInt - (ps_i s 1131 7).toInt = 1 ∧ ((((10 : Int32) * (ps_i s 1131 10)) + 0) - 48).toInt ≤ 9) ∨ (((ps_i s 1131 8) + 1).toInt - (ps_i s 1131 7).toInt = 2 ∧ ((((10 : Int32) * (ps_i s 1131 10)) + 0) - 48).toInt ≤ 99) ∨ (((ps_i s 1131 8) + 1).toInt - (ps_i s 1131 7).toInt = 3 ∧ ((((10 : Int32) * (ps_i s 1131 10)) + 0) - 48).toInt ≤ 999) ∨ 4 ≤ ((ps_i s 1131 8) + 1).toInt - (ps_i s 1131 7).toInt from by omega) (show (ps_i s 1131 4).toInt - ((ps_i s 1131 8) + 1).toInt ≤ ((n - 1 : Nat) : Int) from by omega)
        · have f111 : (ps_i s 1131 8).toInt < (ps_i s 1131 4).toInt := xlt h102
          refine ps_nd_i (show pm_in (ps_i s 1131 8) 1600 = true from xgi (show 0 ≤ (ps_i s 1131 8).toInt from by omega) (show (ps_i s 1131 8).toInt < 1600 from by omega)) ?_
          have a112 : (((10 : Int32) * (ps_i s 1131 10)) + ((ps_a s 1133 (Int32.toNatClampNeg (ps_i s 1131 8))) &&& 255)).toInt = ((10 : Int32) * (ps_i s 1131 10)).toInt + ((ps_a s 1133 (Int32.toNatClampNeg (ps_i s 1131 8))) &&& 255).toInt := xIa (show -2147483648 ≤ ((10 : Int32) * (ps_i s 1131 10)).toInt + ((ps_a s 1133 (Int32.toNatClampNeg (ps_i s 1131 8))) &&& 255).toInt from by omega) (show ((10 : Int32) * (ps_i s 1131 10)).toInt + ((ps_a s 1133 (Int32.toNatClampNeg (ps_i s 1131 8))) &&& 255).toInt < 2147483648 from by omega)
          have a113 : ((((10 : Int32) * (ps_i s 1131 10)) + ((ps_a s 1133 (Int32.toNatClampNeg (ps_i s 1131 8))) &&& 255)) - 48).toInt = (((10 : Int32) * (ps_i s 1131 10)) + ((ps_a s 1133 (Int32.toNatClampNeg (ps_i s 1131 8))) &&& 255)).toInt - (48 : Int) := xIs (show -2147483648 ≤ (((10 : Int32) * (ps_i s 1131 10)) + ((ps_a s 1133 (Int32.toNatClampNeg (ps_i s 1131 8))) &&& 255)).toInt - (48 : Int) from by omega) (show (((10 : Int32) * (ps_i s 1131 10)) + ((ps_a s 1133 (Int32.toNatClampNeg (ps_i s 1131 8))) &&& 255)).toInt - (48 : Int) < 2147483648 from by omega)
          have J114 := mwi_10 (v := ((((10 : Int32) * (ps_i s 1131 10)) + ((ps_a s 1133 (Int32.toNatClampNeg (ps_i s 1131 8))) &&& 255)) - 48)) J (show 0 ≤ ((((10 : Int32) * (ps_i s 1131 10)) + ((ps_a s 1133 (Int32.toNatClampNeg (ps_i s 1131 8))) &&& 255)) - 48).toInt from by omega) (show ((((10 : Int32) * (ps_i s 1131 10)) + ((ps_a s 1133 (Int32.toNatClampNeg (ps_i s 1131 8))) &&& 255)) - 48).toInt ≤ 9999 from by omega)
          have K115 := kpi K (q := 10) (v := ((((10 : Int32) * (ps_i s 1131 10)) + ((ps_a s 1133 (Int32.toNatClampNeg (ps_i s 1131 8))) &&& 255)) - 48)) rfl
          have a116 : ((ps_i s 1131 8) + 1).toInt = (ps_i s 1131 8).toInt + (1 : Int) := xIa (show -2147483648 ≤ (ps_i s 1131 8).toInt + (1 : Int) from by omega) (show (ps_i s 1131 8).toInt + (1 : Int) < 2147483648 from by omega)
          have J117 := mwi_8 (v := ((ps_i s 1131 8) + 1)) J114 (show 0 ≤ ((ps_i s 1131 8) + 1).toInt from by omega) (show ((ps_i s 1131 8) + 1).toInt ≤ 1601 from by omega)
          have K118 := kpi K115 (q := 8) (v := ((ps_i s 1131 8) + 1)) rfl
          exact ih (n - 1) (show n - 1 < n from by omega)  _ J117 K118 (show (ps_i s 1131 7).toInt ≤ ((ps_i s 1131 8) + 1).toInt from by omega) (show ((ps_i s 1131 8) + 1).toInt ≤ (ps_i s 1131 4).toInt from by omega) (show (((ps_i s 1131 8) + 1).toInt - (ps_i s 1131 7).toInt ≤ 0 ∧ ((((10 : Int32) * (ps_i s 1131 10)) + ((ps_a s 1133 (Int32.toNatClampNeg (ps_i s 1131 8))) &&& 255)) - 48).toInt = 0) ∨ (((ps_i s 1131 8) + 1).toInt - (ps_i s 1131 7).toInt = 1 ∧ ((((10 : Int32) * (ps_i s 1131 10)) + ((ps_a s 1133 (Int32.toNatClampNeg (ps_i s 1131 8))) &&& 255)) - 48).toInt ≤ 9) ∨ (((ps_i s 1131 8) + 1).toInt - (ps_i s 1131 7).toInt = 2 ∧ ((((10 : Int32) * (ps_i s 1131 10)) + ((ps_a s 1133 (Int32.toNatClampNeg (ps_i s 1131 8))) &&& 255)) - 48).toInt ≤ 99) ∨ (((ps_i s 1131 8) + 1).toInt - (ps_i s 1131 7).toInt = 3 ∧ ((((10 : Int32) * (ps_i s 1131 10)) + ((ps_a s 1133 (Int32.toNatClampNeg (ps_i s 1131 8))) &&& 255)) - 48).toInt ≤ 999) ∨ 4 ≤ ((ps_i s 1131 8) + 1).toInt - (ps_i s 1131 7).toInt from by omega) (show (ps_i s 1131 4).toInt - ((ps_i s 1131 8) + 1).toInt ≤ ((n - 1 : Nat) : Int) from by omega)

theorem ms_194_58 {x : Nat → Nat → Nat} {t : Int32} {d : Nat} {s0 : ps_S} {Q : Option Value → ps_S → Prop} (k : ∀ (s' : ps_S), mJ x t s' → kp [] [7, 8, 9, 10, 11] s0 s' → ((ps_i s' 1131 8).toInt ≤ (ps_i s' 1131 4).toInt) → Q none s') (s : ps_S) (J : mJ x t s) (K : kp [] [7, 8, 9, 10, 11] s0 s) (i0 : (ps_i s 1131 7).toInt ≤ (ps_i s 1131 4).toInt) : ps_At (d + 1) 194 58 [(0, .ref 1131)] [] s Q := by
  have r1 := mf_7 J
  have r2 := mf_4 J
  refine pg_194_58 (d := d) ?_
  refine pg_188_0 ?_
  refine And.intro (fun h3 => ?_) (fun h3 => ?_)
  · have f4 : (ps_i s 1131 4).toInt ≤ (ps_i s 1131 7).toInt := xle h3
    have a5 : ((ps_i s 1131 7) + 1).toInt = (ps_i s 1131 7).toInt + (1 : Int) := xIa (show -2147483648 ≤ (ps_i s 1131 7).toInt + (1 : Int) from by omega) (show (ps_i s 1131 7).toInt + (1 : Int) < 2147483648 from by omega)
    have J6 := mwi_8 (v := ((ps_i s 1131 7) + 1)) J (show 0 ≤ ((ps_i s 1131 7) + 1).toInt from by omega) (show ((ps_i s 1131 7) + 1).toInt ≤ 1601 from by omega)
    have K7 := kpi K (q := 8) (v := ((ps_i s 1131 7) + 1)) rfl
    refine And.intro (fun h8 => ?_) (fun h8 => ?_)
    · have f9 : (ps_i s 1131 7).toInt < (ps_i s 1131 4).toInt := xlt h8
      refine ms_189 J6  (fun v10 p10_0 b10 => ?_)
      have p10_0' : v10.toInt = 0 ∨ 97 ≤ (0 : Int) := p10_0
      refine And.intro (fun h11 => ?_) (fun h11 => ?_)
      · have f12 : v10.toInt = (0 : Int) := xeq h11
        refine ms_190 J6  (fun v13 p13_0 b13 => ?_)
        have p13_0' : v13.toInt = 0 ∨ (48 ≤ (0 : Int) ∧ (0 : Int) ≤ 57) := p13_0
        refine And.intro (fun h14 => ?_) (fun h14 => ?_)
        · have f15 : v13.toInt = (0 : Int) := xeq h14
          refine And.intro (fun h16 => ?_) (fun h16 => ?_)
          · have f17 : (0 : Int) ≠ (59 : Int) := xne h16
            have J18 := mwi_9 (v := (1 : Int32)) J6 (show 0 ≤ (1 : Int) from by omega) (show (1 : Int) ≤ 5 from by omega)
            have K19 := kpi K7 (q := 9) (v := (1 : Int32)) rfl
            exact k _ J18 K19 (show ((ps_i s 1131 7) + 1).toInt ≤ (ps_i s 1131 4).toInt from by omega)
          · exact absurd (show (0 : Int32) = (59 : Int32) from h16) (by decide)
        · have f20 : v13.toInt ≠ (0 : Int) := xne h14
          have J21 := mwi_10 (v := (0 : Int32)) J6 (show 0 ≤ (0 : Int) from by omega) (show (0 : Int) ≤ 9999 from by omega)
          have K22 := kpi K7 (q := 10) (v := (0 : Int32)) rfl
          have J23 := mwi_8 (v := (ps_i s 1131 7)) J21 (show 0 ≤ (ps_i s 1131 7).toInt from by omega) (show (ps_i s 1131 7).toInt ≤ 1601 from by omega)
          have K24 := kpi K22 (q := 8) (v := (ps_i s 1131 7)) rfl
          exact ms_194_259  k  ((ps_i s 1131 4).toInt - (ps_i s 1131 7).toInt).toNat  _ J23 K24 (show (ps_i s 1131 7).toInt ≤ (ps_i s 1131 7).toInt from by omega) (show (ps_i s 1131 7).toInt ≤ (ps_i s 1131 4).toInt from by omega) (show ((ps_i s 1131 7).toInt - (ps_i s 1131 7).toInt ≤ 0 ∧ (0 : Int) = 0) ∨ ((ps_i s 1131 7).toInt - (ps_i s 1131 7).toInt = 1 ∧ (0 : Int) ≤ 9) ∨ ((ps_i s 1131 7).toInt - (ps_i s 1131 7).toInt = 2 ∧ (0 : Int) ≤ 99) ∨ ((ps_i s 1131 7).toInt - (ps_i s 1131 7).toInt = 3 ∧ (0 : Int) ≤ 999) ∨ 4 ≤ (ps_i s 1131 7).toInt - (ps_i s 1131 7).toInt from by omega) (show (ps_i s 1131 4).toInt - (ps_i s 1131 7).toInt ≤ ((((ps_i s 1131 4).toInt - (ps_i s 1131 7).toInt).toNat : Nat) : Int) from by omega)
      · have f25 : v10.toInt ≠ (0 : Int) := xne h11
        exact ms_194_119  k  ((ps_i s 1131 4).toInt - ((ps_i s 1131 7) + 1).toInt).toNat  _ J6 K7 (show (ps_i s 1131 7).toInt < (ps_i s 1131 4).toInt from by omega) (show ((ps_i s 1131 7) + 1).toInt ≤ (ps_i s 1131 4).toInt from by omega) (show (ps_i s 1131 4).toInt - ((ps_i s 1131 7) + 1).toInt ≤ ((((ps_i s 1131 4).toInt - ((ps_i s 1131 7) + 1).toInt).toNat : Nat) : Int) from by omega)
    · have f26 : (ps_i s 1131 4).toInt ≤ (ps_i s 1131 7).toInt := xle h8
      have J27 := mwi_9 (v := (0 : Int32)) J6 (show 0 ≤ (0 : Int) from by omega) (show (0 : Int) ≤ 5 from by omega)
      have K28 := kpi K7 (q := 9) (v := (0 : Int32)) rfl
      have J29 := mwi_7 (v := (ps_i s 1131 4)) J27 (show 0 ≤ (ps_i s 1131 4).toInt from by omega) (show (ps_i s 1131 4).toInt ≤ 1600 from by omega)
      have K30 := kpi K28 (q := 7) (v := (ps_i s 1131 4)) rfl
      have J31 := mwi_8 (v := (ps_i s 1131 4)) J29 (show 0 ≤ (ps_i s 1131 4).toInt from by omega) (show (ps_i s 1131 4).toInt ≤ 1601 from by omega)
      have K32 := kpi K30 (q := 8) (v := (ps_i s 1131 4)) rfl
      exact k _ J31 K32 (show (ps_i s 1131 4).toInt ≤ (ps_i s 1131 4).toInt from by omega)
  · have f33 : (ps_i s 1131 7).toInt < (ps_i s 1131 4).toInt := xlt h3
    refine ps_nd_i (show pm_in (ps_i s 1131 7) 1600 = true from xgi (show 0 ≤ (ps_i s 1131 7).toInt from by omega) (show (ps_i s 1131 7).toInt < 1600 from by omega)) ?_
    have n34 : 0 ≤ ((ps_a s 1133 (Int32.toNatClampNeg (ps_i s 1131 7))) &&& 255).toInt ∧ ((ps_a s 1133 (Int32.toNatClampNeg (ps_i s 1131 7))) &&& 255).toInt ≤ 255 := xN (ps_a s 1133 (Int32.toNatClampNeg (ps_i s 1131 7))) (c := 255) (n := 255) (by decide) (by decide)
    have a35 : ((ps_i s 1131 7) + 1).toInt = (ps_i s 1131 7).toInt + (1 : Int) := xIa (show -2147483648 ≤ (ps_i s 1131 7).toInt + (1 : Int) from by omega) (show (ps_i s 1131 7).toInt + (1 : Int) < 2147483648 from by omega)
    have J36 := mwi_8 (v := ((ps_i s 1131 7) + 1)) J (show 0 ≤ ((ps_i s 1131 7) + 1).toInt from by omega) (show ((ps_i s 1131 7) + 1).toInt ≤ 1601 from by omega)
    have K37 := kpi K (q := 8) (v := ((ps_i s 1131 7) + 1)) rfl
    refine And.intro (fun h38 => ?_) (fun h38 => ?_)
    · have f39 : (ps_i s 1131 7).toInt < (ps_i s 1131 4).toInt := xlt h38
      refine ms_189 J36  (fun v40 p40_0 b40 => ?_)
      have p40_0' : v40.toInt = 0 ∨ 97 ≤ ((ps_a s 1133 (Int32.toNatClampNeg (ps_i s 1131 7))) &&& 255).toInt := p40_0
      refine And.intro (fun h41 => ?_) (fun h41 => ?_)
      · have f42 : v40.toInt = (0 : Int) := xeq h41
        refine ms_190 J36  (fun v43 p43_0 b43 => ?_)
        have p43_0' : v43.toInt = 0 ∨ (48 ≤ ((ps_a s 1133 (Int32.toNatClampNeg (ps_i s 1131 7))) &&& 255).toInt ∧ ((ps_a s 1133 (Int32.toNatClampNeg (ps_i s 1131 7))) &&& 255).toInt ≤ 57) := p43_0
        refine And.intro (fun h44 => ?_) (fun h44 => ?_)
        · have f45 : v43.toInt = (0 : Int) := xeq h44
          refine And.intro (fun h46 => ?_) (fun h46 => ?_)
          · have f47 : ((ps_a s 1133 (Int32.toNatClampNeg (ps_i s 1131 7))) &&& 255).toInt ≠ (59 : Int) := xne h46
            have J48 := mwi_9 (v := (1 : Int32)) J36 (show 0 ≤ (1 : Int) from by omega) (show (1 : Int) ≤ 5 from by omega)
            have K49 := kpi K37 (q := 9) (v := (1 : Int32)) rfl
            exact k _ J48 K49 (show ((ps_i s 1131 7) + 1).toInt ≤ (ps_i s 1131 4).toInt from by omega)
          · have f50 : ((ps_a s 1133 (Int32.toNatClampNeg (ps_i s 1131 7))) &&& 255).toInt = (59 : Int) := xeq h46
            have J51 := mwi_9 (v := (5 : Int32)) J36 (show 0 ≤ (5 : Int) from by omega) (show (5 : Int) ≤ 5 from by omega)
            have K52 := kpi K37 (q := 9) (v := (5 : Int32)) rfl
            exact k _ J51 K52 (show ((ps_i s 1131 7) + 1).toInt ≤ (ps_i s 1131 4).toInt from by omega)
        · have f53 : v43.toInt ≠ (0 : Int) := xne h44
          have J54 := mwi_10 (v := (0 : Int32)) J36 (show 0 ≤ (0 : Int) from by omega) (show (0 : Int) ≤ 9999 from by omega)
          have K55 := kpi K37 (q := 10) (v := (0 : Int32)) rfl
          have J56 := mwi_8 (v := (ps_i s 1131 7)) J54 (show 0 ≤ (ps_i s 1131 7).toInt from by omega) (show (ps_i s 1131 7).toInt ≤ 1601 from by omega)
          have K57 := kpi K55 (q := 8) (v := (ps_i s 1131 7)) rfl
          exact ms_194_259  k  ((ps_i s 1131 4).toInt - (ps_i s 1131 7).toInt).toNat  _ J56 K57 (show (ps_i s 1131 7).toInt ≤ (ps_i s 1131 7).toInt from by omega) (show (ps_i s 1131 7).toInt ≤ (ps_i s 1131 4).toInt from by omega) (show ((ps_i s 1131 7).toInt - (ps_i s 1131 7).toInt ≤ 0 ∧ (0 : Int) = 0) ∨ ((ps_i s 1131 7).toInt - (ps_i s 1131 7).toInt = 1 ∧ (0 : Int) ≤ 9) ∨ ((ps_i s 1131 7).toInt - (ps_i s 1131 7).toInt = 2 ∧ (0 : Int) ≤ 99) ∨ ((ps_i s 1131 7).toInt - (ps_i s 1131 7).toInt = 3 ∧ (0 : Int) ≤ 999) ∨ 4 ≤ (ps_i s 1131 7).toInt - (ps_i s 1131 7).toInt from by omega) (show (ps_i s 1131 4).toInt - (ps_i s 1131 7).toInt ≤ ((((ps_i s 1131 4).toInt - (ps_i s 1131 7).toInt).toNat : Nat) : Int) from by omega)
      · have f58 : v40.toInt ≠ (0 : Int) := xne h41
        exact ms_194_119  k  ((ps_i s 1131 4).toInt - ((ps_i s 1131 7) + 1).toInt).toNat  _ J36 K37 (show (ps_i s 1131 7).toInt < (ps_i s 1131 4).toInt from by omega) (show ((ps_i s 1131 7) + 1).toInt ≤ (ps_i s 1131 4).toInt from by omega) (show (ps_i s 1131 4).toInt - ((ps_i s 1131 7) + 1).toInt ≤ ((((ps_i s 1131 4).toInt - ((ps_i s 1131 7) + 1).toInt).toNat : Nat) : Int) from by omega)
    · have f59 : (ps_i s 1131 4).toInt ≤ (ps_i s 1131 7).toInt := xle h38
      have J60 := mwi_9 (v := (0 : Int32)) J36 (show 0 ≤ (0 : Int) from by omega) (show (0 : Int) ≤ 5 from by omega)
      have K61 := kpi K37 (q := 9) (v := (0 : Int32)) rfl
      have J62 := mwi_7 (v := (ps_i s 1131 4)) J60 (show 0 ≤ (ps_i s 1131 4).toInt from by omega) (show (ps_i s 1131 4).toInt ≤ 1600 from by omega)
      have K63 := kpi K61 (q := 7) (v := (ps_i s 1131 4)) rfl
      have J64 := mwi_8 (v := (ps_i s 1131 4)) J62 (show 0 ≤ (ps_i s 1131 4).toInt from by omega) (show (ps_i s 1131 4).toInt ≤ 1601 from by omega)
      have K65 := kpi K63 (q := 8) (v := (ps_i s 1131 4)) rfl
      exact k _ J64 K65 (show (ps_i s 1131 4).toInt ≤ (ps_i s 1131 4).toInt from by omega)

theorem ms_194_8 {x : Nat → Nat → Nat} {t : Int32} {d : Nat} {s0 : ps_S} {Q : Option Value → ps_S → Prop} (k : ∀ (s' : ps_S), mJ x t s' → kp [] [7, 8, 9, 10, 11] s0 s' → ((ps_i s' 1131 8).toInt ≤ (ps_i s' 1131 4).toInt) → Q none s') : ∀ (n : Nat) (s : ps_S), (mJ x t s) → (kp [] [7, 8, 9, 10, 11] s0 s) → ((ps_i s 1131 7).toInt ≤ (ps_i s 1131 4).toInt) → (ps_i s 1131 4).toInt - (ps_i s 1131 7).toInt ≤ (n : Int) → ps_At (d + 1) 194 8 [(0, .ref 1131)] [] s Q := by
  refine xstr (fun n ih => ?_)
  intro s J K i0 hm
  have r1 := mf_7 J
  have r2 := mf_4 J
  refine pg_194_8 (d := d) ?_
  refine And.intro (fun h3 => ?_) (fun h3 => ?_)
  · have f4 : (ps_i s 1131 4).toInt ≤ (ps_i s 1131 7).toInt := xle h3
    exact ms_194_58  k   _ J K (show (ps_i s 1131 7).toInt ≤ (ps_i s 1131 4).toInt from by omega)
  · have f5 : (ps_i s 1131 7).toInt < (ps_i s 1131 4).toInt := xlt h3
    refine pg_188_0 ?_
    refine And.intro (fun h6 => ?_) (fun h6 => ?_)
    · have f7 : (ps_i s 1131 4).toInt ≤ (ps_i s 1131 7).toInt := xle h6
      refine And.intro (fun h8 => ?_) (fun h8 => ?_)
      · exact absurd (show (0 : Int32) = (32 : Int32) from h8) (by decide)
      · have f9 : (0 : Int) ≠ (32 : Int) := xne h8
        refine pg_188_0 ?_
        refine And.intro (fun h10 => ?_) (fun h10 => ?_)
        · have f11 : (ps_i s 1131 4).toInt ≤ (ps_i s 1131 7).toInt := xle h10
          refine And.intro (fun h12 => ?_) (fun h12 => ?_)
          · have f13 : (0 : Int) ≠ (10 : Int) := xne h12
            exact ms_194_58  k   _ J K (show (ps_i s 1131 7).toInt ≤ (ps_i s 1131 4).toInt from by omega)
          · exact absurd (show (0 : Int32) = (10 : Int32) from h12) (by decide)
        · have f14 : (ps_i s 1131 7).toInt < (ps_i s 1131 4).toInt := xlt h10
          refine ps_nd_i (show pm_in (ps_i s 1131 7) 1600 = true from xgi (show 0 ≤ (ps_i s 1131 7).toInt from by omega) (show (ps_i s 1131 7).toInt < 1600 from by omega)) ?_
          have n15 : 0 ≤ ((ps_a s 1133 (Int32.toNatClampNeg (ps_i s 1131 7))) &&& 255).toInt ∧ ((ps_a s 1133 (Int32.toNatClampNeg (ps_i s 1131 7))) &&& 255).toInt ≤ 255 := xN (ps_a s 1133 (Int32.toNatClampNeg (ps_i s 1131 7))) (c := 255) (n := 255) (by decide) (by decide)
          refine And.intro (fun h16 => ?_) (fun h16 => ?_)
          · have f17 : ((ps_a s 1133 (Int32.toNatClampNeg (ps_i s 1131 7))) &&& 255).toInt ≠ (10 : Int) := xne h16
            exact ms_194_58  k   _ J K (show (ps_i s 1131 7).toInt ≤ (ps_i s 1131 4).toInt from by omega)
          · have f18 : ((ps_a s 1133 (Int32.toNatClampNeg (ps_i s 1131 7))) &&& 255).toInt = (10 : Int) := xeq h16
            have a19 : ((ps_i s 1131 7) + 1).toInt = (ps_i s 1131 7).toInt + (1 : Int) := xIa (show -2147483648 ≤ (ps_i s 1131 7).toInt + (1 : Int) from by omega) (show (ps_i s 1131 7).toInt + (1 : Int) < 2147483648 from by omega)
            have J20 := mwi_7 (v := ((ps_i s 1131 7) + 1)) J (show 0 ≤ ((ps_i s 1131 7) + 1).toInt from by omega) (show ((ps_i s 1131 7) + 1).toInt ≤ 1600 from by omega)
            have K21 := kpi K (q := 7) (v := ((ps_i s 1131 7) + 1)) rfl
            exact ih (n - 1) (show n - 1 < n from by omega)  _ J20 K21 (show ((ps_i s 1131 7) + 1).toInt ≤ (ps_i s 1131 4).toInt from by omega) (show (ps_i s 1131 4).toInt - ((ps_i s 1131 7) + 1).toInt ≤ ((n - 1 : Nat) : Int) from by omega)
    · have f22 : (ps_i s 1131 7).toInt < (ps_i s 1131 4).toInt := xlt h6
      refine ps_nd_i (show pm_in (ps_i s 1131 7) 1600 = true from xgi (show 0 ≤ (ps_i s 1131 7).toInt from by omega) (show (ps_i s 1131 7).toInt < 1600 from by omega)) ?_
      have n23 : 0 ≤ ((ps_a s 1133 (Int32.toNatClampNeg (ps_i s 1131 7))) &&& 255).toInt ∧ ((ps_a s 1133 (Int32.toNatClampNeg (ps_i s 1131 7))) &&& 255).toInt ≤ 255 := xN (ps_a s 1133 (Int32.toNatClampNeg (ps_i s 1131 7))) (c := 255) (n := 255) (by decide) (by decide)
      refine And.intro (fun h24 => ?_) (fun h24 => ?_)
      · have f25 : ((ps_a s 1133 (Int32.toNatClampNeg (ps_i s 1131 7))) &&& 255).toInt = (32 : Int) := xeq h24
        have a26 : ((ps_i s 1131 7) + 1).toInt = (ps_i s 1131 7).toInt + (1 : Int) := xIa (show -2147483648 ≤ (ps_i s 1131 7).toInt + (1 : Int) from by omega) (show (ps_i s 1131 7).toInt + (1 : Int) < 2147483648 from by omega)
        have J27 := mwi_7 (v := ((ps_i s 1131 7) + 1)) J (show 0 ≤ ((ps_i s 1131 7) + 1).toInt from by omega) (show ((ps_i s 1131 7) + 1).toInt ≤ 1600 from by omega)
        have K28 := kpi K (q := 7) (v := ((ps_i s 1131 7) + 1)) rfl
        exact ih (n - 1) (show n - 1 < n from by omega)  _ J27 K28 (show ((ps_i s 1131 7) + 1).toInt ≤ (ps_i s 1131 4).toInt from by omega) (show (ps_i s 1131 4).toInt - ((ps_i s 1131 7) + 1).toInt ≤ ((n - 1 : Nat) : Int) from by omega)
      · have f29 : ((ps_a s 1133 (Int32.toNatClampNeg (ps_i s 1131 7))) &&& 255).toInt ≠ (32 : Int) := xne h24
        refine pg_188_0 ?_
        refine And.intro (fun h30 => ?_) (fun h30 => ?_)
        · have f31 : (ps_i s 1131 4).toInt ≤ (ps_i s 1131 7).toInt := xle h30
          refine And.intro (fun h32 => ?_) (fun h32 => ?_)
          · have f33 : (0 : Int) ≠ (10 : Int) := xne h32
            exact ms_194_58  k   _ J K (show (ps_i s 1131 7).toInt ≤ (ps_i s 1131 4).toInt from by omega)
          · exact absurd (show (0 : Int32) = (10 : Int32) from h32) (by decide)
        · have f34 : (ps_i s 1131 7).toInt < (ps_i s 1131 4).toInt := xlt h30
          refine ps_nd_i (show pm_in (ps_i s 1131 7) 1600 = true from xgi (show 0 ≤ (ps_i s 1131 7).toInt from by omega) (show (ps_i s 1131 7).toInt < 1600 from by omega)) ?_
          refine And.intro (fun h35 => ?_) (fun h35 => ?_)
          · have f36 : ((ps_a s 1133 (Int32.toNatClampNeg (ps_i s 1131 7))) &&& 255).toInt ≠ (10 : Int) := xne h35
            exact ms_194_58  k   _ J K (show (ps_i s 1131 7).toInt ≤ (ps_i s 1131 4).toInt from by omega)
          · have f37 : ((ps_a s 1133 (Int32.toNatClampNeg (ps_i s 1131 7))) &&& 255).toInt = (10 : Int) := xeq h35
            have a38 : ((ps_i s 1131 7) + 1).toInt = (ps_i s 1131 7).toInt + (1 : Int) := xIa (show -2147483648 ≤ (ps_i s 1131 7).toInt + (1 : Int) from by omega) (show (ps_i s 1131 7).toInt + (1 : Int) < 2147483648 from by omega)
            have J39 := mwi_7 (v := ((ps_i s 1131 7) + 1)) J (show 0 ≤ ((ps_i s 1131 7) + 1).toInt from by omega) (show ((ps_i s 1131 7) + 1).toInt ≤ 1600 from by omega)
            have K40 := kpi K (q := 7) (v := ((ps_i s 1131 7) + 1)) rfl
            exact ih (n - 1) (show n - 1 < n from by omega)  _ J39 K40 (show ((ps_i s 1131 7) + 1).toInt ≤ (ps_i s 1131 4).toInt from by omega) (show (ps_i s 1131 4).toInt - ((ps_i s 1131 7) + 1).toInt ≤ ((n - 1 : Nat) : Int) from by omega)

theorem ms_194 {x : Nat → Nat → Nat} {t : Int32} {s : ps_S} {d : Nat} {f : ps_S → Prop} (J : mJ x t s) (q0 : (ps_i s 1131 8).toInt ≤ (ps_i s 1131 4).toInt) (k : ∀ (s' : ps_S), mJ x t s' → kp [] [7, 8, 9, 10, 11] s s' → ((ps_i s' 1131 8).toInt ≤ (ps_i s' 1131 4).toInt) → f s') : ps_Cl (d + 1) 194 [.ref 1131] s (ps_rV f) := by
  have r1 := mf_8 J
  have r2 := mf_4 J
  have K : kp [] [7, 8, 9, 10, 11] s s := kp_refl
  refine pg_194_0 (d := d) ?_
  have J3 := mwi_7 (v := (ps_i s 1131 8)) J (show 0 ≤ (ps_i s 1131 8).toInt from by omega) (show (ps_i s 1131 8).toInt ≤ 1600 from by omega)
  have K4 := kpi K (q := 7) (v := (ps_i s 1131 8)) rfl
  exact ms_194_8  k  ((ps_i s 1131 4).toInt - (ps_i s 1131 8).toInt).toNat  _ J3 K4 (show (ps_i s 1131 8).toInt ≤ (ps_i s 1131 4).toInt from by omega) (show (ps_i s 1131 4).toInt - (ps_i s 1131 8).toInt ≤ ((((ps_i s 1131 4).toInt - (ps_i s 1131 8).toInt).toNat : Nat) : Int) from by omega)

-- ProofBenchModel.isWord(J)Z
theorem pg_195_0 {d : Nat} {l1 : Int64} {s : ps_S} {Q : Option Value → ps_S → Prop} (h :
  ((ps_i s 1131 9) ≠ 3 →
    Q (some (.int 0)) s) ∧
  ((ps_i s 1131 9) = 3 →
    ((lg_cmp (ps_j s 1131 11) l1) ≠ 0 →
      Q (some (.int 0)) s) ∧
    ((lg_cmp (ps_j s 1131 11) l1) = 0 →
      Q (some (.int 1)) s))) : ps_At d 195 0 [(0, .ref 1131), (1, .long l1)] [] s Q :=
  ps_wp_at (stops := []) (n := 18) h rfl

theorem ms_195 {x : Nat → Nat → Nat} {t : Int32} {s : ps_S} {d : Nat} {l1 : Int64} {f : Int32 → ps_S → Prop} (J : mJ x t s) (k : ∀ (v : Int32), (v.toInt = 0 ∨ (ps_i s 1131 9).toInt = 3) → v &&& 1 = v → f v s) : ps_Cl d 195 [.ref 1131, .long l1] s (ps_rI f) := by
  refine pg_195_0 ?_
  have r1 := mf_9 J
  refine And.intro (fun h2 => ?_) (fun h2 => ?_)
  · have f3 : (ps_i s 1131 9).toInt ≠ (3 : Int) := xne h2
    exact k (0 : Int32) (show (0 : Int) = 0 ∨ (ps_i s 1131 9).toInt = 3 from by omega) (by decide)
  · have f4 : (ps_i s 1131 9).toInt = (3 : Int) := xeq h2
    refine And.intro (fun h5 => ?_) (fun h5 => ?_)
    · have f6 : (lg_cmp (ps_j s 1131 11) l1).toInt ≠ (0 : Int) := xne h5
      exact k (0 : Int32) (show (0 : Int) = 0 ∨ (ps_i s 1131 9).toInt = 3 from by omega) (by decide)
    · have f7 : (lg_cmp (ps_j s 1131 11) l1).toInt = (0 : Int) := xeq h5
      exact k (1 : Int32) (show (1 : Int) = 0 ∨ (ps_i s 1131 9).toInt = 3 from by omega) (by decide)

-- ProofBenchModel.misplaced()V
theorem pg_196_0 {d : Nat} {s : ps_S} {Q : Option Value → ps_S → Prop} (h :
  ((ps_i s 1131 9) ≠ 1 →
    ps_Cl d 191 [.ref 1131, .int 2, .int (ps_i s 1131 7)] s (ps_rV (fun s1 =>
      Q none s1))) ∧
  ((ps_i s 1131 9) = 1 →
    ps_Cl d 191 [.ref 1131, .int 1, .int (ps_i s 1131 7)] s (ps_rV (fun s2 =>
      Q none s2)))) : ps_At (d + 1) 196 0 [(0, .ref 1131)] [] s Q :=
  ps_wp_at (stops := []) (n := 18) h rfl

theorem ms_196 {x : Nat → Nat → Nat} {t : Int32} {s : ps_S} {d : Nat} {f : ps_S → Prop} (J : mJ x t s) (k : ∀ (s' : ps_S), mJ x t s' → kp [] [5, 6] s s' → (1 ≤ (ps_i s' 1131 5).toInt) → f s') : ps_Cl (d + 1) 196 [.ref 1131] s (ps_rV f) := by
  have K : kp [] [5, 6] s s := kp_refl
  refine pg_196_0 (d := d) ?_
  have r1 := mf_9 J
  refine And.intro (fun h2 => ?_) (fun h2 => ?_)
  · have f3 : (ps_i s 1131 9).toInt ≠ (1 : Int) := xne h2
    have r4 := mf_7 J
    refine ms_191 J (show 1 ≤ (2 : Int) from by omega) (show (2 : Int) ≤ 6 from by omega) (fun s5 J5 K5 p5_0 => ?_)
    have K6 := kpt K K5 rfl rfl
    have p5_0' : 1 ≤ (ps_i s5 1131 5).toInt := p5_0
    have r7 := mf_5 J5
    exact k _ J5 K6 (show 1 ≤ (ps_i s5 1131 5).toInt from by omega)
  · have f8 : (ps_i s 1131 9).toInt = (1 : Int) := xeq h2
    have r9 := mf_7 J
    refine ms_191 J (show 1 ≤ (1 : Int) from by omega) (show (1 : Int) ≤ 6 from by omega) (fun s10 J10 K10 p10_0 => ?_)
    have K11 := kpt K K10 rfl rfl
    have p10_0' : 1 ≤ (ps_i s10 1131 5).toInt := p10_0
    have r12 := mf_5 J10
    exact k _ J10 K11 (show 1 ≤ (ps_i s10 1131 5).toInt from by omega)

-- ProofBenchModel.must(Z)V
theorem pg_197_0 {d : Nat} {x1 : Int32} {s : ps_S} {Q : Option Value → ps_S → Prop} (h :
  ps_Cl d 192 [.ref 1131] s (ps_rI (fun v1 s1 =>
    (v1 ≠ 0 →
      (x1 = 0 →
        ps_Cl d 196 [.ref 1131] s1 (ps_rV (fun s2 =>
          Q none s2))) ∧
      (x1 ≠ 0 →
        ps_Cl d 194 [.ref 1131] s1 (ps_rV (fun s3 =>
          Q none s3)))) ∧
    (v1 = 0 →
      Q none s1)))) : ps_At (d + 1) 197 0 [(0, .ref 1131), (1, .int x1)] [] s Q :=
  ps_wp_at (stops := []) (n := 15) h rfl

theorem ms_197 {x : Nat → Nat → Nat} {t : Int32} {s : ps_S} {d : Nat} {x1 : Int32} {f : ps_S → Prop} (J : mJ x t s) (q0 : (ps_i s 1131 8).toInt ≤ (ps_i s 1131 4).toInt) (k : ∀ (s' : ps_S), mJ x t s' → kp [] [5, 6, 7, 8, 9, 10, 11] s s' → ((ps_i s' 1131 8).toInt ≤ (ps_i s' 1131 4).toInt) → (1 ≤ (ps_i s 1131 5).toInt → 1 ≤ (ps_i s' 1131 5).toInt) → (x1.toInt = 0 → 1 ≤ (ps_i s' 1131 5).toInt) → f s') : ps_Cl (d + 2) 197 [.ref 1131, .int x1] s (ps_rV f) := by
  have r1 := mf_8 J
  have r2 := mf_4 J
  have K : kp [] [5, 6, 7, 8, 9, 10, 11] s s := kp_refl
  refine pg_197_0 (d := d + 1) ?_
  refine ms_192 J  (fun v3 p3_0 b3 => ?_)
  have p3_0' : (v3.toInt = 0 ∧ 1 ≤ (ps_i s 1131 5).toInt) ∨ (v3.toInt = 1 ∧ (ps_i s 1131 5).toInt = 0) := p3_0
  have r4 := mf_5 J
  refine And.intro (fun h5 => ?_) (fun h5 => ?_)
  · have f6 : v3.toInt ≠ (0 : Int) := xne h5
    refine And.intro (fun h7 => ?_) (fun h7 => ?_)
    · have f8 : x1.toInt = (0 : Int) := xeq h7
      refine ms_196 J  (fun s9 J9 K9 p9_0 => ?_)
      have K10 := kpt K K9 rfl rfl
      have p9_0' : 1 ≤ (ps_i s9 1131 5).toInt := p9_0
      have r11 := mf_5 J9
      have r12 := mf_8 J9
      have u13 : (ps_i s9 1131 8).toInt = (ps_i s 1131 8).toInt := xeq (kp_i K9 8 rfl)
      have r14 := mf_4 J9
      have u15 : (ps_i s9 1131 4).toInt = (ps_i s 1131 4).toInt := xeq (kp_i K9 4 rfl)
      exact k _ J9 K10 (show (ps_i s9 1131 8).toInt ≤ (ps_i s9 1131 4).toInt from by omega) (show 1 ≤ (ps_i s 1131 5).toInt → 1 ≤ (ps_i s9 1131 5).toInt from by omega) (show x1.toInt = 0 → 1 ≤ (ps_i s9 1131 5).toInt from by omega)
    · have f16 : x1.toInt ≠ (0 : Int) := xne h7
      refine ms_194 J (show (ps_i s 1131 8).toInt ≤ (ps_i s 1131 4).toInt from by omega) (fun s17 J17 K17 p17_0 => ?_)
      have K18 := kpt K K17 rfl rfl
      have p17_0' : (ps_i s17 1131 8).toInt ≤ (ps_i s17 1131 4).toInt := p17_0
      have r19 := mf_8 J17
      have r20 := mf_4 J17
      have u21 : (ps_i s17 1131 4).toInt = (ps_i s 1131 4).toInt := xeq (kp_i K17 4 rfl)
      have r22 := mf_5 J17
      have u23 : (ps_i s17 1131 5).toInt = (ps_i s 1131 5).toInt := xeq (kp_i K17 5 rfl)
      exact k _ J17 K18 (show (ps_i s17 1131 8).toInt ≤ (ps_i s17 1131 4).toInt from by omega) (show 1 ≤ (ps_i s 1131 5).toInt → 1 ≤ (ps_i s17 1131 5).toInt from by omega) (show x1.toInt = 0 → 1 ≤ (ps_i s17 1131 5).toInt from by omega)
  · have f24 : v3.toInt = (0 : Int) := xeq h5
    exact k _ J K (show (ps_i s 1131 8).toInt ≤ (ps_i s 1131 4).toInt from by omega) (show 1 ≤ (ps_i s 1131 5).toInt → 1 ≤ (ps_i s 1131 5).toInt from by omega) (show x1.toInt = 0 → 1 ≤ (ps_i s 1131 5).toInt from by omega)

-- ProofBenchModel.beginText()V
theorem pg_198_0 {d : Nat} {s : ps_S} {Q : Option Value → ps_S → Prop} (h :
  ps_At (d + 1) 198 20 [(0, .ref 1131), (1, .int 0)] [] (ps_ui (ps_ui (ps_ui s 1131 5 0) 1131 6 (-1)) 1131 4 (ps_i (ps_ui (ps_ui s 1131 5 0) 1131 6 (-1)) 1131 3)) Q) : ps_At (d + 1) 198 0 [(0, .ref 1131)] [] s Q :=
  ps_wp_at (stops := [(20, [0, 1])]) (n := 14) h rfl

theorem pg_198_20 {d : Nat} {x1 : Int32} {s : ps_S} {Q : Option Value → ps_S → Prop} (h :
  ((ps_i s 1131 4) ≤ x1 →
    ps_Cl d 194 [.ref 1131] (ps_ui (ps_ui (ps_ui (ps_ui s 1131 3 0) 1131 8 0) 1131 23 0) 1131 22 (ps_i (ps_ui (ps_ui (ps_ui s 1131 3 0) 1131 8 0) 1131 23 0) 1131 21)) (ps_rV (fun s1 =>
      Q none s1))) ∧
  (x1 < (ps_i s 1131 4) →
    ps_nd (pm_in x1 1620) (ps_nd (pm_in x1 1600) (ps_At (d + 1) 198 20 [(0, .ref 1131), (1, .int (x1 + 1))] [] (ps_ua s 1133 (Int32.toNatClampNeg x1) (Int8.toInt32 (Int32.toInt8 (ps_a s 1132 (Int32.toNatClampNeg x1))))) Q)))) : ps_At (d + 1) 198 20 [(0, .ref 1131), (1, .int x1)] [] s Q :=
  ps_wp_at (stops := [(20, [0, 1])]) (n := 32) h rfl

theorem ms_198_20 {x : Nat → Nat → Nat} {t : Int32} {d : Nat} {s0 : ps_S} {Q : Option Value → ps_S → Prop} (k : ∀ (s' : ps_S), mJ x t s' → kp [1133] [3, 4, 5, 6, 7, 8, 9, 10, 11, 22, 23] s0 s' → ((ps_i s' 1131 8).toInt ≤ (ps_i s' 1131 4).toInt) → ((ps_i s' 1131 5).toInt = 0) → ((ps_i s' 1131 3).toInt = 0) → ((ps_i s' 1131 23).toInt = 0) → ((ps_i s' 1131 22).toInt = (ps_i s' 1131 21).toInt) → Q none s') : ∀ (n : Nat) (x1 : Int32) (s : ps_S), (mJ x t s) → (kp [1133] [3, 4, 5, 6, 7, 8, 9, 10, 11, 22, 23] s0 s) → (0 ≤ x1.toInt) → (x1.toInt ≤ (ps_i s 1131 4).toInt) → ((ps_i s 1131 5).toInt = 0) → (ps_i s 1131 4).toInt - x1.toInt ≤ (n : Int) → ps_At (d + 2) 198 20 [(0, .ref 1131), (1, .int x1)] [] s Q := by
  refine xstr (fun n ih => ?_)
  intro x1 s J K i0 i1 i2 hm
  have r1 := mf_4 J
  have r2 := mf_5 J
  refine pg_198_20 (d := d + 1) ?_
  refine And.intro (fun h3 => ?_) (fun h3 => ?_)
  · have f4 : (ps_i s 1131 4).toInt ≤ x1.toInt := xle h3
    have J5 := mwi_3 (v := (0 : Int32)) J (show 0 ≤ (0 : Int) from by omega) (show (0 : Int) ≤ 1600 from by omega)
    have K6 := kpi K (q := 3) (v := (0 : Int32)) rfl
    have J7 := mwi_8 (v := (0 : Int32)) J5 (show 0 ≤ (0 : Int) from by omega) (show (0 : Int) ≤ 1601 from by omega)
    have K8 := kpi K6 (q := 8) (v := (0 : Int32)) rfl
    have J9 := mwi_23 (v := (0 : Int32)) J7 (show 0 ≤ (0 : Int) from by omega) (show (0 : Int) ≤ 12 from by omega)
    have K10 := kpi K8 (q := 23) (v := (0 : Int32)) rfl
    have r11 := mf_21 J
    have J12 := mwi_22 (v := (ps_i s 1131 21)) J9 (show 0 ≤ (ps_i s 1131 21).toInt from by omega) (show (ps_i s 1131 21).toInt ≤ 1 from by omega)
    have K13 := kpi K10 (q := 22) (v := (ps_i s 1131 21)) rfl
    refine ms_194 J12 (show (0 : Int) ≤ (ps_i s 1131 4).toInt from by omega) (fun s14 J14 K14 p14_0 => ?_)
    have K15 := kpt K13 K14 rfl rfl
    have p14_0' : (ps_i s14 1131 8).toInt ≤ (ps_i s14 1131 4).toInt := p14_0
    have r16 := mf_8 J14
    have r17 := mf_4 J14
    have u18 : (ps_i s14 1131 4).toInt = (ps_i s 1131 4).toInt := xeq (kp_i K14 4 rfl)
    have r19 := mf_5 J14
    have u20 : (ps_i s14 1131 5).toInt = (ps_i s 1131 5).toInt := xeq (kp_i K14 5 rfl)
    have r21 := mf_3 J14
    have u22 : (ps_i s14 1131 3).toInt = (0 : Int) := xeq (kp_i K14 3 rfl)
    have r23 := mf_23 J14
    have u24 : (ps_i s14 1131 23).toInt = (0 : Int) := xeq (kp_i K14 23 rfl)
    have r25 := mf_22 J14
    have u26 : (ps_i s14 1131 22).toInt = (ps_i s 1131 21).toInt := xeq (kp_i K14 22 rfl)
    have r27 := mf_21 J14
    have u28 : (ps_i s14 1131 21).toInt = (ps_i s 1131 21).toInt := xeq (kp_i K14 21 rfl)
    exact k _ J14 K15 (show (ps_i s14 1131 8).toInt ≤ (ps_i s14 1131 4).toInt from by omega) (show (ps_i s14 1131 5).toInt = 0 from by omega) (show (ps_i s14 1131 3).toInt = 0 from by omega) (show (ps_i s14 1131 23).toInt = 0 from by omega) (show (ps_i s14 1131 22).toInt = (ps_i s14 1131 21).toInt from by omega)
  · have f29 : x1.toInt < (ps_i s 1131 4).toInt := xlt h3
    refine ps_nd_i (show pm_in x1 1620 = true from xgi (show 0 ≤ x1.toInt from by omega) (show x1.toInt < 1620 from by omega)) ?_
    refine ps_nd_i (show pm_in x1 1600 = true from xgi (show 0 ≤ x1.toInt from by omega) (show x1.toInt < 1600 from by omega)) ?_
    have J30 := mwa_n 1133 (i := (Int32.toNatClampNeg x1)) (v := (Int8.toInt32 (Int32.toInt8 (ps_a s 1132 (Int32.toNatClampNeg x1))))) J rfl (by decide)
    have K31 := kpa' K (r := 1133) (i := (Int32.toNatClampNeg x1)) (v := (Int8.toInt32 (Int32.toInt8 (ps_a s 1132 (Int32.toNatClampNeg x1))))) rfl
    have a32 : (x1 + 1).toInt = x1.toInt + (1 : Int) := xIa (show -2147483648 ≤ x1.toInt + (1 : Int) from by omega) (show x1.toInt + (1 : Int) < 2147483648 from by omega)
    exact ih (n - 1) (show n - 1 < n from by omega) (x1 + 1) _ J30 K31 (show 0 ≤ (x1 + 1).toInt from by omega) (show (x1 + 1).toInt ≤ (ps_i s 1131 4).toInt from by omega) (show (ps_i s 1131 5).toInt = 0 from by omega) (show (ps_i s 1131 4).toInt - (x1 + 1).toInt ≤ ((n - 1 : Nat) : Int) from by omega)

theorem ms_198 {x : Nat → Nat → Nat} {t : Int32} {s : ps_S} {d : Nat} {f : ps_S → Prop} (J : mJ x t s) (k : ∀ (s' : ps_S), mJ x t s' → kp [1133] [3, 4, 5, 6, 7, 8, 9, 10, 11, 22, 23] s s' → ((ps_i s' 1131 8).toInt ≤ (ps_i s' 1131 4).toInt) → ((ps_i s' 1131 5).toInt = 0) → ((ps_i s' 1131 3).toInt = 0) → ((ps_i s' 1131 23).toInt = 0) → ((ps_i s' 1131 22).toInt = (ps_i s' 1131 21).toInt) → f s') : ps_Cl (d + 2) 198 [.ref 1131] s (ps_rV f) := by
  have K : kp [1133] [3, 4, 5, 6, 7, 8, 9, 10, 11, 22, 23] s s := kp_refl
  refine pg_198_0 (d := d + 1) ?_
  have J1 := mwi_5 (v := (0 : Int32)) J (show 0 ≤ (0 : Int) from by omega) (show (0 : Int) ≤ 6 from by omega)
  have K2 := kpi K (q := 5) (v := (0 : Int32)) rfl
  have J3 := mwi_n 6 (v := (-1 : Int32)) J1 rfl
  have K4 := kpi K2 (q := 6) (v := (-1 : Int32)) rfl
  have r5 := mf_3 J
  have J6 := mwi_4 (v := (ps_i s 1131 3)) J3 (show 0 ≤ (ps_i s 1131 3).toInt from by omega) (show (ps_i s 1131 3).toInt ≤ 1600 from by omega)
  have K7 := kpi K4 (q := 4) (v := (ps_i s 1131 3)) rfl
  exact ms_198_20  k  ((ps_i s 1131 3).toInt - (0 : Int)).toNat (0) _ J6 K7 (show 0 ≤ (0 : Int) from by omega) (show (0 : Int) ≤ (ps_i s 1131 3).toInt from by omega) (show (0 : Int) = 0 from by omega) (show (ps_i s 1131 3).toInt - (0 : Int) ≤ ((((ps_i s 1131 3).toInt - (0 : Int)).toNat : Nat) : Int) from by omega)

-- ProofBenchModel.fault(I)I
theorem pg_199_0 {d : Nat} {x1 : Int32} {s : ps_S} {Q : Option Value → ps_S → Prop} (h :
  (x1 ≠ 0 →
    (x1 ≠ 1 →
      Q (some (.int (-1))) s) ∧
    (x1 = 1 →
      Q (some (.int (ps_i s 1131 6))) s)) ∧
  (x1 = 0 →
    Q (some (.int (ps_i s 1131 5))) s)) : ps_At d 199 0 [(0, .ref 1131), (1, .int x1)] [] s Q :=
  ps_wp_at (stops := []) (n := 17) h rfl

theorem ms_199 {x : Nat → Nat → Nat} {t : Int32} {s : ps_S} {d : Nat} {x1 : Int32} {f : Int32 → ps_S → Prop} (J : mJ x t s) (k : ∀ (v : Int32), f v s) : ps_Cl d 199 [.ref 1131, .int x1] s (ps_rI f) := by
  refine pg_199_0 ?_
  refine And.intro (fun h1 => ?_) (fun h1 => ?_)
  · have f2 : x1.toInt ≠ (0 : Int) := xne h1
    refine And.intro (fun h3 => ?_) (fun h3 => ?_)
    · have f4 : x1.toInt ≠ (1 : Int) := xne h3
      exact k (-1 : Int32)
    · have f5 : x1.toInt = (1 : Int) := xeq h3
      exact k (ps_i s 1131 6)
  · have f6 : x1.toInt = (0 : Int) := xeq h1
    have r7 := mf_5 J
    exact k (ps_i s 1131 5)

-- ProofBenchModel.isIn(III)Z
theorem pg_200_0 {d : Nat} {x0 : Int32} {x1 : Int32} {x2 : Int32} {s : ps_S} {Q : Option Value → ps_S → Prop} (h :
  (x0 < x1 →
    Q (some (.int 0)) s) ∧
  (x1 ≤ x0 →
    (x2 < x0 →
      Q (some (.int 0)) s) ∧
    (x0 ≤ x2 →
      Q (some (.int 1)) s))) : ps_At d 200 0 [(0, .int x0), (1, .int x1), (2, .int x2)] [] s Q :=
  ps_wp_at (stops := []) (n := 15) h rfl

theorem ms_200 {x : Nat → Nat → Nat} {t : Int32} {s : ps_S} {d : Nat} {x0 : Int32} {x1 : Int32} {x2 : Int32} {f : Int32 → ps_S → Prop} (J : mJ x t s) (k : ∀ (v : Int32), (v.toInt = 0 ∨ (x1.toInt ≤ x0.toInt ∧ x0.toInt ≤ x2.toInt)) → v &&& 1 = v → f v s) : ps_Cl d 200 [.int x0, .int x1, .int x2] s (ps_rI f) := by
  refine pg_200_0 ?_
  refine And.intro (fun h1 => ?_) (fun h1 => ?_)
  · have f2 : x0.toInt < x1.toInt := xlt h1
    exact k (0 : Int32) (show (0 : Int) = 0 ∨ (x1.toInt ≤ x0.toInt ∧ x0.toInt ≤ x2.toInt) from by omega) (by decide)
  · have f3 : x1.toInt ≤ x0.toInt := xle h1
    refine And.intro (fun h4 => ?_) (fun h4 => ?_)
    · have f5 : x2.toInt < x0.toInt := xlt h4
      exact k (0 : Int32) (show (0 : Int) = 0 ∨ (x1.toInt ≤ x0.toInt ∧ x0.toInt ≤ x2.toInt) from by omega) (by decide)
    · have f6 : x0.toInt ≤ x2.toInt := xle h4
      exact k (1 : Int32) (show (1 : Int) = 0 ∨ (x1.toInt ≤ x0.toInt ∧ x0.toInt ≤ x2.toInt) from by omega) (by decide)
