set_option maxRecDepth 100000
/-! the reference's tokens -/
-- ProofBenchModel.sign(I)I
theorem pl_188_0 {n : Nat} {x1 : Int32} {s : ps_S} {Q : Option Value → ps_S → Prop} (h :
  ((ps_i s 1131 4) ≤ x1 →
    Q (some (.int 0)) s) ∧
  (x1 < (ps_i s 1131 4) →
    (pm_in x1 1600 = true →
      Q (some (.int ((ps_a s 1133 (Int32.toNatClampNeg x1)) &&& 255))) s))) : pl_At (n + 1) 188 0 [(0, .ref 1131), (1, .int x1)] [] s Q :=
  pl_wp_at (stops := []) (f := 16) h rfl

-- ProofBenchModel.isLetter(I)Z
theorem pl_189_0 {n : Nat} {x0 : Int32} {s : ps_S} {Q : Option Value → ps_S → Prop} (h :
  (x0 < 97 →
    Q (some (.int 0)) s) ∧
  (97 ≤ x0 →
    (122 < x0 →
      Q (some (.int 0)) s) ∧
    (x0 ≤ 122 →
      Q (some (.int 1)) s))) : pl_At (n + 1) 189 0 [(0, .int x0)] [] s Q :=
  pl_wp_at (stops := []) (f := 15) h rfl

-- ProofBenchModel.isDigit(I)Z
theorem pl_190_0 {n : Nat} {x0 : Int32} {s : ps_S} {Q : Option Value → ps_S → Prop} (h :
  (x0 < 48 →
    Q (some (.int 0)) s) ∧
  (48 ≤ x0 →
    (57 < x0 →
      Q (some (.int 0)) s) ∧
    (x0 ≤ 57 →
      Q (some (.int 1)) s))) : pl_At (n + 1) 190 0 [(0, .int x0)] [] s Q :=
  pl_wp_at (stops := []) (f := 15) h rfl

-- ProofBenchModel.isKept(J)Z
theorem pl_193_0 {n : Nat} {l0 : Int64} {s : ps_S} {Q : Option Value → ps_S → Prop} (h :
  ((lg_cmp l0 (7497068 : Int64)) = 0 →
    pl_At n 193 80 [(0, .long l0)] [] s Q) ∧
  ((lg_cmp l0 (7497068 : Int64)) ≠ 0 →
    ((lg_cmp l0 (6714734 : Int64)) = 0 →
      pl_At n 193 80 [(0, .long l0)] [] s Q) ∧
    ((lg_cmp l0 (6714734 : Int64)) ≠ 0 →
      ((lg_cmp l0 (418632003437 : Int64)) = 0 →
        pl_At n 193 80 [(0, .long l0)] [] s Q) ∧
      ((lg_cmp l0 (418632003437 : Int64)) ≠ 0 →
        ((lg_cmp l0 (439721161573 : Int64)) = 0 →
          pl_At n 193 80 [(0, .long l0)] [] s Q) ∧
        ((lg_cmp l0 (439721161573 : Int64)) ≠ 0 →
          ((lg_cmp l0 (7237492 : Int64)) = 0 →
            pl_At n 193 80 [(0, .long l0)] [] s Q) ∧
          ((lg_cmp l0 (7237492 : Int64)) ≠ 0 →
            ((lg_cmp l0 (6385252 : Int64)) = 0 →
              pl_At n 193 80 [(0, .long l0)] [] s Q) ∧
            ((lg_cmp l0 (6385252 : Int64)) ≠ 0 →
              ((lg_cmp l0 (28530 : Int64)) = 0 →
                pl_At n 193 80 [(0, .long l0)] [] s Q) ∧
              ((lg_cmp l0 (28530 : Int64)) ≠ 0 →
                ((lg_cmp l0 (6909296 : Int64)) = 0 →
                  pl_At n 193 80 [(0, .long l0)] [] s Q) ∧
                ((lg_cmp l0 (6909296 : Int64)) ≠ 0 →
                  ((lg_cmp l0 (6384748 : Int64)) = 0 →
                    pl_At n 193 80 [(0, .long l0)] [] s Q) ∧
                  ((lg_cmp l0 (6384748 : Int64)) ≠ 0 →
                    ((lg_cmp l0 (1936682341 : Int64)) ≠ 0 →
                      ((lg_cmp l0 (1935764837 : Int64)) = 0 →
                        pl_At n 193 158 [(0, .long l0), (2, .int 0)] [] s Q) ∧
                      ((lg_cmp l0 (1935764837 : Int64)) ≠ 0 →
                        ((lg_cmp l0 (107148486208869 : Int64)) = 0 →
                          pl_At n 193 158 [(0, .long l0), (2, .int 0)] [] s Q) ∧
                        ((lg_cmp l0 (107148486208869 : Int64)) ≠ 0 →
                          ((lg_cmp l0 (32765882169189741 : Int64)) = 0 →
                            pl_At n 193 158 [(0, .long l0), (2, .int 0)] [] s Q) ∧
                          ((lg_cmp l0 (32765882169189741 : Int64)) ≠ 0 →
                            ((lg_cmp l0 (1651471464 : Int64)) = 0 →
                              pl_At n 193 158 [(0, .long l0), (2, .int 0)] [] s Q) ∧
                            ((lg_cmp l0 (1651471464 : Int64)) ≠ 0 →
                              ((lg_cmp l0 (1818584692 : Int64)) = 0 →
                                pl_At n 193 158 [(0, .long l0), (2, .int 0)] [] s Q) ∧
                              ((lg_cmp l0 (1818584692 : Int64)) ≠ 0 →
                                ((lg_cmp l0 (491394656372 : Int64)) = 0 →
                                  pl_At n 193 158 [(0, .long l0), (2, .int 0)] [] s Q) ∧
                                ((lg_cmp l0 (491394656372 : Int64)) ≠ 0 →
                                  ((lg_cmp l0 (122537235539572 : Int64)) = 0 →
                                    pl_At n 193 158 [(0, .long l0), (2, .int 0)] [] s Q) ∧
                                  ((lg_cmp l0 (122537235539572 : Int64)) ≠ 0 →
                                    ((lg_cmp l0 (31369558135105652 : Int64)) = 0 →
                                      pl_At n 193 158 [(0, .long l0), (2, .int 0)] [] s Q) ∧
                                    ((lg_cmp l0 (31369558135105652 : Int64)) ≠ 0 →
                                      ((lg_cmp l0 (1667330917 : Int64)) ≠ 0 →
                                        ((0 : Int32) ≠ 0 →
                                          Q (some (.int 1)) s) ∧
                                        ((0 : Int32) = 0 →
                                          ((0 : Int32) ≠ 0 →
                                            Q (some (.int 1)) s) ∧
                                          ((0 : Int32) = 0 →
                                            ((lg_cmp l0 (418498243705 : Int64)) = 0 →
                                              Q (some (.int 1)) s) ∧
                                            ((lg_cmp l0 (418498243705 : Int64)) ≠ 0 →
                                              ((lg_cmp l0 (29103447424000364 : Int64)) = 0 →
                                                Q (some (.int 1)) s) ∧
                                              ((lg_cmp l0 (29103447424000364 : Int64)) ≠ 0 →
                                                ((lg_cmp l0 (32493203083583852 : Int64)) = 0 →
                                                  Q (some (.int 1)) s) ∧
                                                ((lg_cmp l0 (32493203083583852 : Int64)) ≠ 0 →
                                                  ((lg_cmp l0 (435811873652 : Int64)) = 0 →
                                                    Q (some (.int 1)) s) ∧
                                                  ((lg_cmp l0 (435811873652 : Int64)) ≠ 0 →
                                                    ((lg_cmp l0 (1869636974 : Int64)) = 0 →
                                                      Q (some (.int 1)) s) ∧
                                                    ((lg_cmp l0 (1869636974 : Int64)) ≠ 0 →
                                                      ((lg_cmp l0 (32199680874079077 : Int64)) = 0 →
                                                        Q (some (.int 1)) s) ∧
                                                      ((lg_cmp l0 (32199680874079077 : Int64)) ≠ 0 →
                                                        ((lg_cmp l0 (107075471766116 : Int64)) = 0 →
                                                          Q (some (.int 1)) s) ∧
                                                        ((lg_cmp l0 (107075471766116 : Int64)) ≠ 0 →
                                                          ((lg_cmp l0 (27985188498925923 : Int64)) = 0 →
                                                            Q (some (.int 1)) s) ∧
                                                          ((lg_cmp l0 (27985188498925923 : Int64)) ≠ 0 →
                                                            ((lg_cmp l0 (110386639889253 : Int64)) ≠ 0 →
                                                              Q (some (.int 0)) s) ∧
                                                            ((lg_cmp l0 (110386639889253 : Int64)) = 0 →
                                                              Q (some (.int 1)) s)))))))))))) ∧
                                      ((lg_cmp l0 (1667330917 : Int64)) = 0 →
                                        pl_At n 193 158 [(0, .long l0), (2, .int 0)] [] s Q)))))))))) ∧
                    ((lg_cmp l0 (1936682341 : Int64)) = 0 →
                      pl_At n 193 80 [(0, .long l0)] [] s Q))))))))))) : pl_At (n + 1) 193 0 [(0, .long l0)] [] s Q :=
  pl_wp_at (stops := [(80, [0]), (158, [0, 2])]) (f := 157) h rfl

theorem pl_193_80 {n : Nat} {l0 : Int64} {s : ps_S} {Q : Option Value → ps_S → Prop} (h :
  ((lg_cmp l0 (1935764837 : Int64)) = 0 →
    pl_At n 193 158 [(0, .long l0), (2, .int 1)] [] s Q) ∧
  ((lg_cmp l0 (1935764837 : Int64)) ≠ 0 →
    ((lg_cmp l0 (107148486208869 : Int64)) = 0 →
      pl_At n 193 158 [(0, .long l0), (2, .int 1)] [] s Q) ∧
    ((lg_cmp l0 (107148486208869 : Int64)) ≠ 0 →
      ((lg_cmp l0 (32765882169189741 : Int64)) = 0 →
        pl_At n 193 158 [(0, .long l0), (2, .int 1)] [] s Q) ∧
      ((lg_cmp l0 (32765882169189741 : Int64)) ≠ 0 →
        ((lg_cmp l0 (1651471464 : Int64)) = 0 →
          pl_At n 193 158 [(0, .long l0), (2, .int 1)] [] s Q) ∧
        ((lg_cmp l0 (1651471464 : Int64)) ≠ 0 →
          ((lg_cmp l0 (1818584692 : Int64)) = 0 →
            pl_At n 193 158 [(0, .long l0), (2, .int 1)] [] s Q) ∧
          ((lg_cmp l0 (1818584692 : Int64)) ≠ 0 →
            ((lg_cmp l0 (491394656372 : Int64)) = 0 →
              pl_At n 193 158 [(0, .long l0), (2, .int 1)] [] s Q) ∧
            ((lg_cmp l0 (491394656372 : Int64)) ≠ 0 →
              ((lg_cmp l0 (122537235539572 : Int64)) = 0 →
                pl_At n 193 158 [(0, .long l0), (2, .int 1)] [] s Q) ∧
              ((lg_cmp l0 (122537235539572 : Int64)) ≠ 0 →
                ((lg_cmp l0 (31369558135105652 : Int64)) = 0 →
                  pl_At n 193 158 [(0, .long l0), (2, .int 1)] [] s Q) ∧
                ((lg_cmp l0 (31369558135105652 : Int64)) ≠ 0 →
                  ((lg_cmp l0 (1667330917 : Int64)) ≠ 0 →
                    ((1 : Int32) ≠ 0 →
                      Q (some (.int 1)) s) ∧
                    ((1 : Int32) = 0 →
                      ((0 : Int32) ≠ 0 →
                        Q (some (.int 1)) s) ∧
                      ((0 : Int32) = 0 →
                        ((lg_cmp l0 (418498243705 : Int64)) = 0 →
                          Q (some (.int 1)) s) ∧
                        ((lg_cmp l0 (418498243705 : Int64)) ≠ 0 →
                          ((lg_cmp l0 (29103447424000364 : Int64)) = 0 →
                            Q (some (.int 1)) s) ∧
                          ((lg_cmp l0 (29103447424000364 : Int64)) ≠ 0 →
                            ((lg_cmp l0 (32493203083583852 : Int64)) = 0 →
                              Q (some (.int 1)) s) ∧
                            ((lg_cmp l0 (32493203083583852 : Int64)) ≠ 0 →
                              ((lg_cmp l0 (435811873652 : Int64)) = 0 →
                                Q (some (.int 1)) s) ∧
                              ((lg_cmp l0 (435811873652 : Int64)) ≠ 0 →
                                ((lg_cmp l0 (1869636974 : Int64)) = 0 →
                                  Q (some (.int 1)) s) ∧
                                ((lg_cmp l0 (1869636974 : Int64)) ≠ 0 →
                                  ((lg_cmp l0 (32199680874079077 : Int64)) = 0 →
                                    Q (some (.int 1)) s) ∧
                                  ((lg_cmp l0 (32199680874079077 : Int64)) ≠ 0 →
                                    ((lg_cmp l0 (107075471766116 : Int64)) = 0 →
                                      Q (some (.int 1)) s) ∧
                                    ((lg_cmp l0 (107075471766116 : Int64)) ≠ 0 →
                                      ((lg_cmp l0 (27985188498925923 : Int64)) = 0 →
                                        Q (some (.int 1)) s) ∧
                                      ((lg_cmp l0 (27985188498925923 : Int64)) ≠ 0 →
                                        ((lg_cmp l0 (110386639889253 : Int64)) ≠ 0 →
                                          Q (some (.int 0)) s) ∧
                                        ((lg_cmp l0 (110386639889253 : Int64)) = 0 →
                                          Q (some (.int 1)) s)))))))))))) ∧
                  ((lg_cmp l0 (1667330917 : Int64)) = 0 →
                    pl_At n 193 158 [(0, .long l0), (2, .int 1)] [] s Q)))))))))) : pl_At (n + 1) 193 80 [(0, .long l0)] [] s Q :=
  pl_wp_at (stops := [(80, [0]), (158, [0, 2])]) (f := 118) h rfl

theorem pl_193_158 {n : Nat} {l0 : Int64} {x2 : Int32} {s : ps_S} {Q : Option Value → ps_S → Prop} (h :
  (x2 ≠ 0 →
    Q (some (.int 1)) s) ∧
  (x2 = 0 →
    ((1 : Int32) ≠ 0 →
      Q (some (.int 1)) s) ∧
    ((1 : Int32) = 0 →
      ((lg_cmp l0 (418498243705 : Int64)) = 0 →
        Q (some (.int 1)) s) ∧
      ((lg_cmp l0 (418498243705 : Int64)) ≠ 0 →
        ((lg_cmp l0 (29103447424000364 : Int64)) = 0 →
          Q (some (.int 1)) s) ∧
        ((lg_cmp l0 (29103447424000364 : Int64)) ≠ 0 →
          ((lg_cmp l0 (32493203083583852 : Int64)) = 0 →
            Q (some (.int 1)) s) ∧
          ((lg_cmp l0 (32493203083583852 : Int64)) ≠ 0 →
            ((lg_cmp l0 (435811873652 : Int64)) = 0 →
              Q (some (.int 1)) s) ∧
            ((lg_cmp l0 (435811873652 : Int64)) ≠ 0 →
              ((lg_cmp l0 (1869636974 : Int64)) = 0 →
                Q (some (.int 1)) s) ∧
              ((lg_cmp l0 (1869636974 : Int64)) ≠ 0 →
                ((lg_cmp l0 (32199680874079077 : Int64)) = 0 →
                  Q (some (.int 1)) s) ∧
                ((lg_cmp l0 (32199680874079077 : Int64)) ≠ 0 →
                  ((lg_cmp l0 (107075471766116 : Int64)) = 0 →
                    Q (some (.int 1)) s) ∧
                  ((lg_cmp l0 (107075471766116 : Int64)) ≠ 0 →
                    ((lg_cmp l0 (27985188498925923 : Int64)) = 0 →
                      Q (some (.int 1)) s) ∧
                    ((lg_cmp l0 (27985188498925923 : Int64)) ≠ 0 →
                      ((lg_cmp l0 (110386639889253 : Int64)) ≠ 0 →
                        Q (some (.int 0)) s) ∧
                      ((lg_cmp l0 (110386639889253 : Int64)) = 0 →
                        Q (some (.int 1)) s)))))))))))) : pl_At (n + 1) 193 158 [(0, .long l0), (2, .int x2)] [] s Q :=
  pl_wp_at (stops := [(80, [0]), (158, [0, 2])]) (f := 80) h rfl

-- ProofBenchModel.goOn()V
theorem pl_194_0 {n : Nat} {s : ps_S} {Q : Option Value → ps_S → Prop} (h :
  pl_At n 194 8 [(0, .ref 1131)] [] (ps_ui s 1131 7 (ps_i s 1131 8)) Q) : pl_At (n + 1) 194 0 [(0, .ref 1131)] [] s Q :=
  pl_wp_at (stops := [(8, [0]), (58, [0]), (119, [0]), (156, [0, 2]), (199, [0]), (259, [0])]) (f := 6) h rfl

theorem pl_194_8 {n : Nat} {s : ps_S} {Q : Option Value → ps_S → Prop} (h :
  ((ps_i s 1131 4) ≤ (ps_i s 1131 7) →
    pl_At n 194 58 [(0, .ref 1131)] [] s Q) ∧
  ((ps_i s 1131 7) < (ps_i s 1131 4) →
    pl_Cl n 188 [.ref 1131, .int (ps_i s 1131 7)] s (ps_rI (fun v1 s1 =>
      (v1 = 32 →
        pl_At n 194 8 [(0, .ref 1131)] [] (ps_ui s1 1131 7 ((ps_i s1 1131 7) + 1)) Q) ∧
      (v1 ≠ 32 →
        pl_Cl n 188 [.ref 1131, .int (ps_i s1 1131 7)] s1 (ps_rI (fun v2 s2 =>
          (v2 ≠ 10 →
            pl_At n 194 58 [(0, .ref 1131)] [] s2 Q) ∧
          (v2 = 10 →
            pl_At n 194 8 [(0, .ref 1131)] [] (ps_ui s2 1131 7 ((ps_i s2 1131 7) + 1)) Q)))))))) : pl_At (n + 1) 194 8 [(0, .ref 1131)] [] s Q :=
  pl_wp_at (stops := [(8, [0]), (58, [0]), (119, [0]), (156, [0, 2]), (199, [0]), (259, [0])]) (f := 33) h rfl

theorem pl_194_58 {n : Nat} {s : ps_S} {Q : Option Value → ps_S → Prop} (h :
  pl_Cl n 188 [.ref 1131, .int (ps_i s 1131 7)] s (ps_rI (fun v1 s1 =>
    ((ps_i (ps_ui s1 1131 8 ((ps_i s1 1131 7) + 1)) 1131 7) < (ps_i (ps_ui s1 1131 8 ((ps_i s1 1131 7) + 1)) 1131 4) →
      pl_Cl n 189 [.int v1] (ps_ui s1 1131 8 ((ps_i s1 1131 7) + 1)) (ps_rI (fun v2 s2 =>
        (v2 = 0 →
          pl_Cl n 190 [.int v1] s2 (ps_rI (fun v3 s3 =>
            (v3 = 0 →
              (v1 ≠ 59 →
                Q none (ps_ui s3 1131 9 1)) ∧
              (v1 = 59 →
                Q none (ps_ui s3 1131 9 5))) ∧
            (v3 ≠ 0 →
              pl_At n 194 259 [(0, .ref 1131)] [] (ps_ui (ps_ui s3 1131 10 0) 1131 8 (ps_i (ps_ui s3 1131 10 0) 1131 7)) Q)))) ∧
        (v2 ≠ 0 →
          pl_At n 194 119 [(0, .ref 1131)] [] s2 Q)))) ∧
    ((ps_i (ps_ui s1 1131 8 ((ps_i s1 1131 7) + 1)) 1131 4) ≤ (ps_i (ps_ui s1 1131 8 ((ps_i s1 1131 7) + 1)) 1131 7) →
      Q none (ps_ui (ps_ui (ps_ui (ps_ui s1 1131 8 ((ps_i s1 1131 7) + 1)) 1131 9 0) 1131 7 (ps_i (ps_ui (ps_ui s1 1131 8 ((ps_i s1 1131 7) + 1)) 1131 9 0) 1131 4)) 1131 8 (ps_i (ps_ui (ps_ui (ps_ui s1 1131 8 ((ps_i s1 1131 7) + 1)) 1131 9 0) 1131 7 (ps_i (ps_ui (ps_ui s1 1131 8 ((ps_i s1 1131 7) + 1)) 1131 9 0) 1131 4)) 1131 4)))))) : pl_At (n + 1) 194 58 [(0, .ref 1131)] [] s Q :=
  pl_wp_at (stops := [(8, [0]), (58, [0]), (119, [0]), (156, [0, 2]), (199, [0]), (259, [0])]) (f := 55) h rfl

theorem pl_194_119 {n : Nat} {s : ps_S} {Q : Option Value → ps_S → Prop} (h :
  pl_Cl n 188 [.ref 1131, .int (ps_i s 1131 8)] s (ps_rI (fun v1 s1 =>
    pl_Cl n 189 [.int v1] s1 (ps_rI (fun v2 s2 =>
      (v2 = 0 →
        pl_At n 194 156 [(0, .ref 1131), (2, .int (ps_i (ps_uj s2 1131 11 0) 1131 7))] [] (ps_uj s2 1131 11 0) Q) ∧
      (v2 ≠ 0 →
        pl_At n 194 119 [(0, .ref 1131)] [] (ps_ui s2 1131 8 ((ps_i s2 1131 8) + 1)) Q)))))) : pl_At (n + 1) 194 119 [(0, .ref 1131)] [] s Q :=
  pl_wp_at (stops := [(8, [0]), (58, [0]), (119, [0]), (156, [0, 2]), (199, [0]), (259, [0])]) (f := 21) h rfl

theorem pl_194_156 {n : Nat} {x2 : Int32} {s : ps_S} {Q : Option Value → ps_S → Prop} (h :
  ((ps_i s 1131 8) ≤ x2 →
    pl_At n 194 199 [(0, .ref 1131)] [] s Q) ∧
  (x2 < (ps_i s 1131 8) →
    (((ps_i s 1131 7) + 8) ≤ x2 →
      pl_At n 194 199 [(0, .ref 1131)] [] s Q) ∧
    (x2 < ((ps_i s 1131 7) + 8) →
      pl_Cl n 188 [.ref 1131, .int x2] s (ps_rI (fun v1 s1 =>
        pl_At n 194 156 [(0, .ref 1131), (2, .int (x2 + 1))] [] (ps_uj s1 1131 11 (((ps_j s 1131 11) <<< (Int32.toInt64 (8 : Int32) &&& 63)) ||| (Int32.toInt64 v1))) Q))))) : pl_At (n + 1) 194 156 [(0, .ref 1131), (2, .int x2)] [] s Q :=
  pl_wp_at (stops := [(8, [0]), (58, [0]), (119, [0]), (156, [0, 2]), (199, [0]), (259, [0])]) (f := 25) h rfl

theorem pl_194_199 {n : Nat} {s : ps_S} {Q : Option Value → ps_S → Prop} (h :
  (((ps_i s 1131 8) - (ps_i s 1131 7)) ≤ 8 →
    pl_Cl n 193 [.long (ps_j s 1131 11)] s (ps_rI (fun v1 s1 =>
      (v1 = 0 →
        Q none (ps_ui s1 1131 9 2)) ∧
      (v1 ≠ 0 →
        Q none (ps_ui s1 1131 9 3))))) ∧
  (8 < ((ps_i s 1131 8) - (ps_i s 1131 7)) →
    Q none (ps_ui s 1131 9 1))) : pl_At (n + 1) 194 199 [(0, .ref 1131)] [] s Q :=
  pl_wp_at (stops := [(8, [0]), (58, [0]), (119, [0]), (156, [0, 2]), (199, [0]), (259, [0])]) (f := 28) h rfl

theorem pl_194_259 {n : Nat} {s : ps_S} {Q : Option Value → ps_S → Prop} (h :
  pl_Cl n 188 [.ref 1131, .int (ps_i s 1131 8)] s (ps_rI (fun v1 s1 =>
    pl_Cl n 190 [.int v1] s1 (ps_rI (fun v2 s2 =>
      (v2 = 0 →
        (4 < ((ps_i s2 1131 8) - (ps_i s2 1131 7)) →
          Q none (ps_ui s2 1131 9 1)) ∧
        (((ps_i s2 1131 8) - (ps_i s2 1131 7)) ≤ 4 →
          pl_Cl n 188 [.ref 1131, .int (ps_i s2 1131 8)] s2 (ps_rI (fun v3 s3 =>
            pl_Cl n 189 [.int v3] s3 (ps_rI (fun v4 s4 =>
              (v4 = 0 →
                Q none (ps_ui s4 1131 9 4)) ∧
              (v4 ≠ 0 →
                Q none (ps_ui s4 1131 9 1)))))))) ∧
      (v2 ≠ 0 →
        (4 ≤ ((ps_i s2 1131 8) - (ps_i s2 1131 7)) →
          pl_At n 194 259 [(0, .ref 1131)] [] (ps_ui s2 1131 8 ((ps_i s2 1131 8) + 1)) Q) ∧
        (((ps_i s2 1131 8) - (ps_i s2 1131 7)) < 4 →
          pl_Cl n 188 [.ref 1131, .int (ps_i s2 1131 8)] s2 (ps_rI (fun v5 s5 =>
            pl_At n 194 259 [(0, .ref 1131)] [] (ps_ui (ps_ui s5 1131 10 ((((10 : Int32) * (ps_i s2 1131 10)) + v5) - 48)) 1131 8 ((ps_i (ps_ui s5 1131 10 ((((10 : Int32) * (ps_i s2 1131 10)) + v5) - 48)) 1131 8) + 1)) Q))))))))) : pl_At (n + 1) 194 259 [(0, .ref 1131)] [] s Q :=
  pl_wp_at (stops := [(8, [0]), (58, [0]), (119, [0]), (156, [0, 2]), (199, [0]), (259, [0])]) (f := 70) h rfl

theorem fs_188 {n : Nat} {x1 : Int32} {s : ps_S} {R : Int32 → ps_S → Prop} {T : Nat → Nat} {N a : Nat} (H : mv_T s T N) (hx : x1.toInt = a) (k : ∀ v : Int32, v.toInt = (if a < N then (T a : Int) else 0) → R v s) : pl_Cl n 188 [.ref 1131, .int x1] s (ps_rI R) := by
  cases n with
  | zero => exact pl_At_0
  | succ n =>
  obtain ⟨H2, H3, H4⟩ := H
  show pl_At (n + 1) 188 0 [(0, .ref 1131), (1, .int x1)] [] s (ps_rI R)
  refine pl_188_0 ?_
  refine ⟨fun h5 => ?_, fun h5 => ?_⟩
  · have h5 : (ps_i s 1131 4).toInt ≤ x1.toInt := xle h5
    refine k _ ?_
    rw [if_neg (by omega)]
    rfl
  · have h5 : x1.toInt < (ps_i s 1131 4).toInt := xlt h5
    intro b13
    obtain ⟨b13, c13⟩ := pl_in b13
    rw [xtn hx]
    refine k _ ?_
    rw [if_pos (by omega), H4 a (by omega)]

theorem fs_189 {n : Nat} {x1 : Int32} {s : ps_S} {R : Int32 → ps_S → Prop} (k1 : (97 ≤ x1.toInt ∧ x1.toInt ≤ 122) → R 1 s) (k0 : ¬((97 ≤ x1.toInt ∧ x1.toInt ≤ 122)) → R 0 s) : pl_Cl n 189 [.int x1] s (ps_rI R) := by
  cases n with
  | zero => exact pl_At_0
  | succ n =>
  show pl_At (n + 1) 189 0 [(0, .int x1)] [] s (ps_rI R)
  refine pl_189_0 ?_
  refine ⟨fun h3 => ?_, fun h3 => ?_⟩
  · have h3 : x1.toInt < (97 : Int) := xlt h3
    exact k0 (by omega)
  · have h3 : (97 : Int) ≤ x1.toInt := xle h3
    refine ⟨fun h9 => ?_, fun h9 => ?_⟩
    · have h9 : (122 : Int) < x1.toInt := xlt h9
      exact k0 (by omega)
    · have h9 : x1.toInt ≤ (122 : Int) := xle h9
      exact k1 (by omega)

theorem fs_190 {n : Nat} {x1 : Int32} {s : ps_S} {R : Int32 → ps_S → Prop} (k1 : (48 ≤ x1.toInt ∧ x1.toInt ≤ 57) → R 1 s) (k0 : ¬((48 ≤ x1.toInt ∧ x1.toInt ≤ 57)) → R 0 s) : pl_Cl n 190 [.int x1] s (ps_rI R) := by
  cases n with
  | zero => exact pl_At_0
  | succ n =>
  show pl_At (n + 1) 190 0 [(0, .int x1)] [] s (ps_rI R)
  refine pl_190_0 ?_
  refine ⟨fun h3 => ?_, fun h3 => ?_⟩
  · have h3 : x1.toInt < (48 : Int) := xlt h3
    exact k0 (by omega)
  · have h3 : (48 : Int) ≤ x1.toInt := xle h3
    refine ⟨fun h9 => ?_, fun h9 => ?_⟩
    · have h9 : (57 : Int) < x1.toInt := xlt h9
      exact k0 (by omega)
    · have h9 : x1.toInt ≤ (57 : Int) := xle h9
      exact k1 (by omega)

theorem fs_193_158 {n : Nat} {l0 : Int64} {x2 : Int32} {s : ps_S} {R : Int32 → ps_S → Prop} (k1 : R 1 s) : pl_At n 193 158 [(0, .long l0), (2, .int x2)] [] s (ps_rI R) := by
  cases n with
  | zero => exact pl_At_0
  | succ n =>
  refine pl_193_158 ?_
  refine ⟨fun h165 => ?_, fun h165 => ?_⟩
  · have h165 : x2.toInt ≠ (0 : Int) := xne h165
    exact k1
  · have h165 : x2.toInt = (0 : Int) := xeq h165
    refine ⟨fun h169 => ?_, fun h169 => ?_⟩
    · exact k1
    · exact absurd h169 (by decide)
theorem fs_193_80 {n : Nat} {l0 : Int64} {s : ps_S} {R : Int32 → ps_S → Prop} (k1 : R 1 s) : pl_At n 193 80 [(0, .long l0)] [] s (ps_rI R) := by
  cases n with
  | zero => exact pl_At_0
  | succ n =>
  refine pl_193_80 ?_
  refine ⟨fun h91 => ?_, fun h91 => ?_⟩
  · have h91 := lg_z h91
    exact fs_193_158 k1
  · have h91 := lg_nz h91
    refine ⟨fun h99 => ?_, fun h99 => ?_⟩
    · have h99 := lg_z h99
      exact fs_193_158 k1
    · have h99 := lg_nz h99
      refine ⟨fun h107 => ?_, fun h107 => ?_⟩
      · have h107 := lg_z h107
        exact fs_193_158 k1
      · have h107 := lg_nz h107
        refine ⟨fun h115 => ?_, fun h115 => ?_⟩
        · have h115 := lg_z h115
          exact fs_193_158 k1
        · have h115 := lg_nz h115
          refine ⟨fun h123 => ?_, fun h123 => ?_⟩
          · have h123 := lg_z h123
            exact fs_193_158 k1
          · have h123 := lg_nz h123
            refine ⟨fun h131 => ?_, fun h131 => ?_⟩
            · have h131 := lg_z h131
              exact fs_193_158 k1
            · have h131 := lg_nz h131
              refine ⟨fun h139 => ?_, fun h139 => ?_⟩
              · have h139 := lg_z h139
                exact fs_193_158 k1
              · have h139 := lg_nz h139
                refine ⟨fun h147 => ?_, fun h147 => ?_⟩
                · have h147 := lg_z h147
                  exact fs_193_158 k1
                · have h147 := lg_nz h147
                  refine ⟨fun h155 => ?_, fun h155 => ?_⟩
                  · have h155 := lg_nz h155
                    refine ⟨fun h165 => ?_, fun h165 => ?_⟩
                    · exact k1
                    · exact absurd h165 (by decide)
                  · have h155 := lg_z h155
                    exact fs_193_158 k1
theorem tx_keyms : tx_keys.map tx_m = [439721161573, 6385252, 28530, 6909296, 6384748, 1936682341, 1935764837, 7237492, 7497068, 6714734, 418632003437, 107148486208869, 32765882169189741, 1651471464, 1818584692, 491394656372, 122537235539572, 31369558135105652, 1667330917, 418498243705, 110386639889253, 29103447424000364, 32493203083583852, 435811873652, 1869636974, 32199680874079077, 107075471766116, 27985188498925923] := by decide +kernel
theorem fs_193 {n : Nat} {l0 : Int64} {w : List Nat} {s : ps_S} {R : Int32 → ps_S → Prop} (hw : tx_w w) (hl : l0 = tx_m w) (k1 : tx_at tx_keys w ≠ none → R 1 s) (k0 : tx_at tx_keys w = none → R 0 s) : pl_Cl n 193 [.long l0] s (ps_rI R) := by
  cases n with
  | zero => exact pl_At_0
  | succ n =>
  show pl_At (n + 1) 193 0 [(0, .long l0)] [] s (ps_rI R)
  have km : ∀ c : Int64, l0 = c → c ∈ tx_keys.map tx_m → R 1 s := fun c e hc => k1 (tx_kept_mem hw hl (by rw [e]; exact hc))
  refine pl_193_0 ?_
  refine ⟨fun h5 => ?_, fun h5 => ?_⟩
  · have h5 := lg_z h5
    exact fs_193_80 (km _ h5 (by decide +kernel))
  · have h5 := lg_nz h5
    refine ⟨fun h13 => ?_, fun h13 => ?_⟩
    · have h13 := lg_z h13
      exact fs_193_80 (km _ h13 (by decide +kernel))
    · have h13 := lg_nz h13
      refine ⟨fun h21 => ?_, fun h21 => ?_⟩
      · have h21 := lg_z h21
        exact fs_193_80 (km _ h21 (by decide +kernel))
      · have h21 := lg_nz h21
        refine ⟨fun h29 => ?_, fun h29 => ?_⟩
        · have h29 := lg_z h29
          exact fs_193_80 (km _ h29 (by decide +kernel))
        · have h29 := lg_nz h29
          refine ⟨fun h37 => ?_, fun h37 => ?_⟩
          · have h37 := lg_z h37
            exact fs_193_80 (km _ h37 (by decide +kernel))
          · have h37 := lg_nz h37
            refine ⟨fun h45 => ?_, fun h45 => ?_⟩
            · have h45 := lg_z h45
              exact fs_193_80 (km _ h45 (by decide +kernel))
            · have h45 := lg_nz h45
              refine ⟨fun h53 => ?_, fun h53 => ?_⟩
              · have h53 := lg_z h53
                exact fs_193_80 (km _ h53 (by decide +kernel))
              · have h53 := lg_nz h53
                refine ⟨fun h61 => ?_, fun h61 => ?_⟩
                · have h61 := lg_z h61
                  exact fs_193_80 (km _ h61 (by decide +kernel))
                · have h61 := lg_nz h61
                  refine ⟨fun h69 => ?_, fun h69 => ?_⟩
                  · have h69 := lg_z h69
                    exact fs_193_80 (km _ h69 (by decide +kernel))
                  · have h69 := lg_nz h69
                    refine ⟨fun h77 => ?_, fun h77 => ?_⟩
                    · have h77 := lg_nz h77
                      refine ⟨fun h91 => ?_, fun h91 => ?_⟩
                      · have h91 := lg_z h91
                        exact fs_193_158 (km _ h91 (by decide +kernel))
                      · have h91 := lg_nz h91
                        refine ⟨fun h99 => ?_, fun h99 => ?_⟩
                        · have h99 := lg_z h99
                          exact fs_193_158 (km _ h99 (by decide +kernel))
                        · have h99 := lg_nz h99
                          refine ⟨fun h107 => ?_, fun h107 => ?_⟩
                          · have h107 := lg_z h107
                            exact fs_193_158 (km _ h107 (by decide +kernel))
                          · have h107 := lg_nz h107
                            refine ⟨fun h115 => ?_, fun h115 => ?_⟩
                            · have h115 := lg_z h115
                              exact fs_193_158 (km _ h115 (by decide +kernel))
                            · have h115 := lg_nz h115
                              refine ⟨fun h123 => ?_, fun h123 => ?_⟩
                              · have h123 := lg_z h123
                                exact fs_193_158 (km _ h123 (by decide +kernel))
                              · have h123 := lg_nz h123
                                refine ⟨fun h131 => ?_, fun h131 => ?_⟩
                                · have h131 := lg_z h131
                                  exact fs_193_158 (km _ h131 (by decide +kernel))
                                · have h131 := lg_nz h131
                                  refine ⟨fun h139 => ?_, fun h139 => ?_⟩
                                  · have h139 := lg_z h139
                                    exact fs_193_158 (km _ h139 (by decide +kernel))
                                  · have h139 := lg_nz h139
                                    refine ⟨fun h147 => ?_, fun h147 => ?_⟩
                                    · have h147 := lg_z h147
                                      exact fs_193_158 (km _ h147 (by decide +kernel))
                                    · have h147 := lg_nz h147
                                      refine ⟨fun h155 => ?_, fun h155 => ?_⟩
                                      · have h155 := lg_nz h155
                                        refine ⟨fun h165 => ?_, fun h165 => ?_⟩
                                        · exact absurd h165 (by decide)
                                        · refine ⟨fun h169 => ?_, fun h169 => ?_⟩
                                          · exact absurd h169 (by decide)
                                          · refine ⟨fun h177 => ?_, fun h177 => ?_⟩
                                            · have h177 := lg_z h177
                                              exact km _ h177 (by decide +kernel)
                                            · have h177 := lg_nz h177
                                              refine ⟨fun h185 => ?_, fun h185 => ?_⟩
                                              · have h185 := lg_z h185
                                                exact km _ h185 (by decide +kernel)
                                              · have h185 := lg_nz h185
                                                refine ⟨fun h193 => ?_, fun h193 => ?_⟩
                                                · have h193 := lg_z h193
                                                  exact km _ h193 (by decide +kernel)
                                                · have h193 := lg_nz h193
                                                  refine ⟨fun h201 => ?_, fun h201 => ?_⟩
                                                  · have h201 := lg_z h201
                                                    exact km _ h201 (by decide +kernel)
                                                  · have h201 := lg_nz h201
                                                    refine ⟨fun h209 => ?_, fun h209 => ?_⟩
                                                    · have h209 := lg_z h209
                                                      exact km _ h209 (by decide +kernel)
                                                    · have h209 := lg_nz h209
                                                      refine ⟨fun h217 => ?_, fun h217 => ?_⟩
                                                      · have h217 := lg_z h217
                                                        exact km _ h217 (by decide +kernel)
                                                      · have h217 := lg_nz h217
                                                        refine ⟨fun h225 => ?_, fun h225 => ?_⟩
                                                        · have h225 := lg_z h225
                                                          exact km _ h225 (by decide +kernel)
                                                        · have h225 := lg_nz h225
                                                          refine ⟨fun h233 => ?_, fun h233 => ?_⟩
                                                          · have h233 := lg_z h233
                                                            exact km _ h233 (by decide +kernel)
                                                          · have h233 := lg_nz h233
                                                            refine ⟨fun h241 => ?_, fun h241 => ?_⟩
                                                            · have h241 := lg_nz h241
                                                              refine k0 (tx_kept hl ?_)
                                                              rw [tx_keyms]
                                                              simp only [List.mem_cons, List.not_mem_nil, or_false, not_or]
                                                              (repeat' apply And.intro) <;> assumption
                                                            · have h241 := lg_z h241
                                                              exact km _ h241 (by decide +kernel)
                                      · have h155 := lg_z h155
                                        exact fs_193_158 (km _ h155 (by decide +kernel))
                    · have h77 := lg_z h77
                      exact fs_193_80 (km _ h77 (by decide +kernel))

/-- the token at p stands -/
def mv_A (T : Nat → Nat) (N p : Nat) (s s' : ps_S) : Prop := kq [] [7, 8, 9, 10, 11] s s' ∧ mv_K s' (tx_tok T N p)

theorem fs_194_199 {n : Nat} {T : Nat → Nat} {N p a e : Nat} {s0 s : ps_S} {R : ps_S → Prop} (H : mv_T s0 T N) (F : kq [] [7, 8, 9, 10, 11] s0 s) (ha : tx_to tx_B T N p = a) (haN : a < N) (hL : tx_L (T a) = true) (he : tx_to tx_L T N a = e) (h7 : (ps_i s 1131 7).toInt = a) (h8 : (ps_i s 1131 8).toInt = e) (hw : e - a ≤ 8 → ps_j s 1131 11 = tx_m (tx_wd T a (e - a))) (k : ∀ s', mv_A T N p s0 s' → R s') : pl_At n 194 199 [(0, .ref 1131)] [] s (ps_rV R) := by
  cases n with
  | zero => exact pl_At_0
  | succ n =>
  have hN := H.2.1
  have hae : a ≤ e := he ▸ tx_to_ge
  have heN : e ≤ N := he ▸ tx_to_le (by omega)
  have e1 : ((ps_i s 1131 8) - (ps_i s 1131 7)).toInt = (e : Int) - a := by rw [xIs (by omega) (by omega)]; omega
  have hww : e - a ≤ 8 → tx_w (tx_wd T a (e - a)) := fun z => tx_wd_w (fun j hj => (tx_to_all (n := N) (p := a) (Nat.le_add_right a j) (by omega)).2) z
  refine pl_194_199 ?_
  refine ⟨fun h211 => ?_, fun h211 => ?_⟩
  · have h211 : ((ps_i s 1131 8) - (ps_i s 1131 7)).toInt ≤ (8 : Int) := xle h211
    refine fs_193 (hww (by omega)) (hw (by omega)) (fun q222 => ?_) (fun q222 => ?_)
    · refine ⟨fun h225 => ?_, fun h225 => ?_⟩
      · exact absurd h225 (by decide)
      · refine k _ ⟨kqi F rfl, ?_⟩
        rw [tx_tok_word ha haN hL, he, if_neg (by omega)]
        cases ek : tx_at tx_keys (tx_wd T a (e - a)) with
        | none => exact (q222 ek).elim
        | some q => exact ⟨rfl, h7, h8, fun _ => hw (by omega), (fun z => by cases z)⟩
    · refine ⟨fun h225 => ?_, fun h225 => ?_⟩
      · refine k _ ⟨kqi F rfl, ?_⟩
        rw [tx_tok_word ha haN hL, he, if_neg (by omega), q222]
        exact ⟨rfl, h7, h8, fun _ => hw (by omega), (fun z => by cases z)⟩
      · exact absurd h225 (by decide)
  · have h211 : (8 : Int) < ((ps_i s 1131 8) - (ps_i s 1131 7)).toInt := xlt h211
    refine k _ ⟨kqi F rfl, ?_⟩
    rw [tx_tok_word ha haN hL, he, if_pos (by omega)]
    exact ⟨rfl, h7, h8, (fun z => by rcases z with z | z <;> cases z), (fun z => by cases z)⟩

theorem fs_194_156 {T : Nat → Nat} {N p a e : Nat} {s0 : ps_S} {R : ps_S → Prop} (H : mv_T s0 T N) (ha : tx_to tx_B T N p = a) (haN : a < N) (hL : tx_L (T a) = true) (he : tx_to tx_L T N a = e) (k : ∀ s', mv_A T N p s0 s' → R s') : ∀ (n : Nat) {x2 : Int32} {s : ps_S} {c : Nat}, kq [] [7, 8, 9, 10, 11] s0 s → (ps_i s 1131 7).toInt = a → (ps_i s 1131 8).toInt = e → x2.toInt = c → a ≤ c → c ≤ e → c ≤ a + 8 → ps_j s 1131 11 = tx_m (tx_wd T a (c - a)) → pl_At n 194 156 [(0, .ref 1131), (2, .int x2)] [] s (ps_rV R)
  | 0, _, _, _, _, _, _, _, _, _, _, _ => pl_At_0
  | n + 1, x2, s, c, F, h7, h8, hx, hac, hce, hc8, hw => by
    have hN := H.2.1
    have heN : e ≤ N := he ▸ tx_to_le (by omega)
    have HT : mv_T s T N := mv_T_kq H F rfl rfl
    have h8' : (8 : Int32).toInt = 8 := by decide
    have e8 : ((ps_i s 1131 7) + 8).toInt = (a : Int) + 8 := by rw [xIa (by omega) (by omega)]; omega
    refine pl_194_156 ?_
    refine ⟨fun h161 => ?_, fun h161 => ?_⟩
    · have h161 : (ps_i s 1131 8).toInt ≤ x2.toInt := xle h161
      exact fs_194_199 H F ha haN hL he h7 h8 (fun z => by rw [show e = c from by omega]; exact hw) k
    · have h161 : x2.toInt < (ps_i s 1131 8).toInt := xlt h161
      refine ⟨fun h172 => ?_, fun h172 => ?_⟩
      · have h172 : ((ps_i s 1131 7) + 8).toInt ≤ x2.toInt := xle h172
        exact fs_194_199 H F ha haN hL he h7 h8 (fun z => by rw [show e = c from by omega]; exact hw) k
      · have h172 : x2.toInt < ((ps_i s 1131 7) + 8).toInt := xlt h172
        refine fs_188 HT hx (fun v185 q185 => ?_)
        have hl := tx_L_c.mp (tx_to_all (n := N) (p := a) hac (show c < tx_to tx_L T N a by omega)).2
        rw [if_pos (by omega)] at q185
        refine fs_194_156 H ha haN hL he k n (kqj F rfl) h7 h8 (xj1 hx (by omega)) (by omega) (by omega) (by omega) ?_
        rw [show c + 1 - a = (c - a) + 1 from by omega]
        show _ = Int64.ofNat (tx_en 256 0 (tx_wd T a (c - a) ++ [T (a + (c - a))]))
        rw [tx_en_snoc, show a + (c - a) = c from by omega, Nat.sub_zero]
        have hww : tx_w (tx_wd T a (c - a)) := tx_wd_w (fun j hj => (tx_to_all (n := N) (p := a) (Nat.le_add_right a j) (by omega)).2) (by omega)
        have hlt := tx_en_lt (b := 256) (o := 0) (k := 7) (by decide) (by decide) hww.1 (by rw [tx_wd_len]; omega)
        exact xsh hw q185 (by omega) (by omega)
theorem fs_194_119 {T : Nat → Nat} {N p a : Nat} {s0 : ps_S} {R : ps_S → Prop} (H : mv_T s0 T N) (ha : tx_to tx_B T N p = a) (haN : a < N) (hL : tx_L (T a) = true) (k : ∀ s', mv_A T N p s0 s' → R s') : ∀ (n : Nat) {s : ps_S} {b : Nat}, kq [] [7, 8, 9, 10, 11] s0 s → (ps_i s 1131 7).toInt = a → (ps_i s 1131 8).toInt = b → a < b → b ≤ N → (∀ j, a ≤ j → j < b → j < N ∧ tx_L (T j) = true) → pl_At n 194 119 [(0, .ref 1131)] [] s (ps_rV R)
  | 0, _, _, _, _, _, _, _, _ => pl_At_0
  | n + 1, s, b, F, h7, h8, hab, hbN, hall => by
    have hN := H.2.1
    have HT : mv_T s T N := mv_T_kq H F rfl rfl
    refine pl_194_119 ?_
    refine fs_188 HT h8 (fun v124 q124 => ?_)
    refine fs_189 (fun q127 => ?_) (fun q127 => ?_)
    · refine ⟨fun h130 => ?_, fun h130 => ?_⟩
      · exact absurd h130 (by decide)
      · have hbl : b < N := by
          refine Nat.lt_of_not_le (fun z => ?_)
          rw [if_neg (by omega)] at q124
          omega
        rw [if_pos hbl] at q124
        refine fs_194_119 H ha haN hL k n (kqi F rfl) h7 (xj1 h8 (by omega)) (by omega) (by omega) (fun j h1 h2 => ?_)
        by_cases e : j = b
        · rw [e]
          exact ⟨hbl, tx_L_c.mpr (by omega)⟩
        · exact hall j h1 (by omega)
    · refine ⟨fun h130 => ?_, fun h130 => ?_⟩
      · have he : tx_to tx_L T N a = b := tx_to_is (by omega) hall (by
          by_cases z : b < N
          · right
            rw [if_pos z] at q124
            rw [Bool.eq_false_iff]
            intro y
            have := tx_L_c.mp y
            omega
          · exact Or.inl (by omega))
        refine fs_194_156 H ha haN hL he k n (kqj F rfl) h7 h8 h7 (Nat.le_refl _) (by omega) (by omega) ?_
        rw [Nat.sub_self]
        rfl
      · exact absurd h130 (by decide)
theorem fs_194_259 {T : Nat → Nat} {N p a : Nat} {s0 : ps_S} {R : ps_S → Prop} (H : mv_T s0 T N) (ha : tx_to tx_B T N p = a) (haN : a < N) (hL : ¬ tx_L (T a) = true) (hD : tx_D (T a) = true) (k : ∀ s', mv_A T N p s0 s' → R s') : ∀ (n : Nat) {s : ps_S} {b : Nat}, kq [] [7, 8, 9, 10, 11] s0 s → (ps_i s 1131 7).toInt = a → (ps_i s 1131 8).toInt = b → a ≤ b → b ≤ N → (∀ j, a ≤ j → j < b → j < N ∧ tx_D (T j) = true) → (b - a ≤ 4 → (ps_i s 1131 10).toInt = (tx_dec T a (b - a) : Nat)) → pl_At n 194 259 [(0, .ref 1131)] [] s (ps_rV R)
  | 0, _, _, _, _, _, _, _, _, _ => pl_At_0
  | n + 1, s, b, F, h7, h8, hab, hbN, hall, hnum => by
    have hN := H.2.1
    have HT : mv_T s T N := mv_T_kq H F rfl rfl
    have e1 : ((ps_i s 1131 8) - (ps_i s 1131 7)).toInt = (b : Int) - a := by rw [xIs (by omega) (by omega)]; omega
    have he : (¬ (b < N ∧ tx_D (T b) = true)) → tx_to tx_D T N a = b := fun z => tx_to_is hab hall (by
      by_cases y : b < N
      · right
        rw [Bool.eq_false_iff]
        exact fun x => z ⟨y, x⟩
      · exact Or.inl (by omega))
    have nd : ∀ v : Int32, v.toInt = (if b < N then (T b : Int) else 0) → ¬ (48 ≤ v.toInt ∧ v.toInt ≤ 57) → ¬ (b < N ∧ tx_D (T b) = true) := fun v hv hn z => by
      rw [if_pos z.1] at hv
      have := tx_D_c.mp z.2
      omega
    have yd : ∀ v : Int32, v.toInt = (if b < N then (T b : Int) else 0) → (48 ≤ v.toInt ∧ v.toInt ≤ 57) → b < N ∧ v.toInt = T b ∧ tx_D (T b) = true := fun v hv hn => by
      have hbl : b < N := by
        refine Nat.lt_of_not_le (fun z => ?_)
        rw [if_neg (by omega)] at hv
        omega
      rw [if_pos hbl] at hv
      exact ⟨hbl, hv, tx_D_c.mpr (by omega)⟩
    have more : ∀ j, b < N → tx_D (T b) = true → a ≤ j → j < b + 1 → j < N ∧ tx_D (T j) = true := fun j y1 y2 h1 h2 => by
      by_cases e : j = b
      · rw [e]
        exact ⟨y1, y2⟩
      · exact hall j h1 (by omega)
    refine pl_194_259 ?_
    refine fs_188 HT h8 (fun v264 q264 => ?_)
    refine fs_190 (fun q267 => ?_) (fun q267 => ?_)
    · refine ⟨fun h270 => ?_, fun h270 => ?_⟩
      · exact absurd h270 (by decide)
      · refine ⟨fun h283 => ?_, fun h283 => ?_⟩
        · have h283 : (4 : Int) ≤ ((ps_i s 1131 8) - (ps_i s 1131 7)).toInt := xle h283
          obtain ⟨y1, y2, y3⟩ := yd _ q264 q267
          refine fs_194_259 H ha haN hL hD k n (kqi F rfl) h7 (xj1 h8 (by omega)) (by omega) (by omega) (fun j => more j y1 y3) (fun z => ?_)
          exfalso
          omega
        · have h283 : ((ps_i s 1131 8) - (ps_i s 1131 7)).toInt < (4 : Int) := xlt h283
          refine fs_188 HT h8 (fun v299 q299 => ?_)
          obtain ⟨y1, y2, y3⟩ := yd _ q264 q267
          refine fs_194_259 H ha haN hL hD k n (kqi (kqi F rfl) rfl) h7 (xj1 (show (ps_i s 1131 8).toInt = b from h8) (by omega)) (by omega) (by omega) (fun j => more j y1 y3) (fun z => ?_)
          rw [show b + 1 - a = (b - a) + 1 from by omega]
          show (((10 : Int32) * (ps_i s 1131 10)) + v299 - 48).toInt = ((tx_dec T a (b - a) * 10 + (T (a + (b - a)) - 48) : Nat) : Int)
          rw [show a + (b - a) = b from by omega]
          rw [if_pos y1] at q299
          have hd := tx_dec_lt (T := T) (a := a) (k := b - a) (fun j hj => (hall (a + j) (by omega) (by omega)).2)
          have h4 : 10 ^ (b - a) ≤ 10 ^ 3 := Nat.pow_le_pow_right (by decide) (by omega)
          have hn := hnum (by omega)
          have g1 := tx_D_c.mp y3
          have h10 : (10 : Int32).toInt = 10 := by decide
          have h48 : (48 : Int32).toInt = 48 := by decide
          have m0 : (10 : Int32).toInt * (ps_i s 1131 10).toInt = 10 * (tx_dec T a (b - a) : Nat) := by rw [h10, hn]
          have m1 : ((10 : Int32) * (ps_i s 1131 10)).toInt = 10 * (tx_dec T a (b - a) : Nat) := by rw [xIm (by omega) (by omega), m0]
          have m2 : (((10 : Int32) * (ps_i s 1131 10)) + v299).toInt = 10 * (tx_dec T a (b - a) : Nat) + T b := by rw [xIa (by omega) (by omega)]; omega
          rw [xIs (by omega) (by omega)]
          omega
    · refine ⟨fun h270 => ?_, fun h270 => ?_⟩
      · refine ⟨fun h333 => ?_, fun h333 => ?_⟩
        · have h333 : (4 : Int) < ((ps_i s 1131 8) - (ps_i s 1131 7)).toInt := xlt h333
          have hb := he (nd _ q264 q267)
          refine k _ ⟨kqi F rfl, ?_⟩
          rw [tx_tok_num ha haN hL hD, hb, if_pos (Or.inl (by omega))]
          exact ⟨rfl, h7, h8, (fun z => by rcases z with z | z <;> cases z), (fun z => by cases z)⟩
        · have h333 : ((ps_i s 1131 8) - (ps_i s 1131 7)).toInt ≤ (4 : Int) := xle h333
          refine fs_188 HT h8 (fun v341 q341 => ?_)
          refine fs_189 (fun q344 => ?_) (fun q344 => ?_)
          · refine ⟨fun h347 => ?_, fun h347 => ?_⟩
            · exact absurd h347 (by decide)
            · have hb := he (nd _ q264 q267)
              have hbl : b < N := by
                refine Nat.lt_of_not_le (fun z => ?_)
                rw [if_neg (by omega)] at q341
                omega
              rw [if_pos hbl] at q341
              refine k _ ⟨kqi F rfl, ?_⟩
              rw [tx_tok_num ha haN hL hD, hb, if_pos (Or.inr ⟨hbl, tx_L_c.mpr (by omega)⟩)]
              exact ⟨rfl, h7, h8, (fun z => by rcases z with z | z <;> cases z), (fun z => by cases z)⟩
          · refine ⟨fun h347 => ?_, fun h347 => ?_⟩
            · have hb := he (nd _ q264 q267)
              refine k _ ⟨kqi F rfl, ?_⟩
              rw [tx_tok_num ha haN hL hD, hb, if_neg (fun z => by
                rcases z with z | ⟨z1, z2⟩
                · omega
                · have := tx_L_c.mp z2
                  rw [if_pos z1] at q341
                  omega)]
              exact ⟨rfl, h7, h8, (fun z => by rcases z with z | z <;> cases z), fun _ => hnum (by omega)⟩
            · exact absurd h347 (by decide)
      · exact absurd h270 (by decide)

theorem fs_194_58 {n : Nat} {T : Nat → Nat} {N p a : Nat} {s0 s : ps_S} {R : ps_S → Prop} (H : mv_T s0 T N) (F : kq [] [7, 8, 9, 10, 11] s0 s) (ha : tx_to tx_B T N p = a) (haN : a ≤ N) (h7 : (ps_i s 1131 7).toInt = a) (k : ∀ s', mv_A T N p s0 s' → R s') : pl_At n 194 58 [(0, .ref 1131)] [] s (ps_rV R) := by
  cases n with
  | zero => exact pl_At_0
  | succ n =>
  have hN := H.2.1
  have HT : mv_T s T N := mv_T_kq H F rfl rfl
  have hsz : (ps_i (ps_ui s 1131 8 (ps_i s 1131 7 + 1)) 1131 4).toInt = N := HT.1
  have h7' : (ps_i (ps_ui s 1131 8 (ps_i s 1131 7 + 1)) 1131 7).toInt = a := h7
  have h8' : (ps_i (ps_ui s 1131 8 (ps_i s 1131 7 + 1)) 1131 8).toInt = (a + 1 : Nat) := xj1 h7 (by omega)
  have F8 : kq [] [7, 8, 9, 10, 11] s0 (ps_ui s 1131 8 (ps_i s 1131 7 + 1)) := kqi F rfl
  have hz : (ps_i (ps_ui (ps_ui s 1131 8 (ps_i s 1131 7 + 1)) 1131 9 0) 1131 4).toInt = N := HT.1
  refine pl_194_58 ?_
  refine fs_188 HT h7 (fun v63 q63 => ?_)
  refine ⟨fun h85 => ?_, fun h85 => ?_⟩
  · have h85 : (ps_i (ps_ui s 1131 8 ((ps_i s 1131 7) + 1)) 1131 7).toInt < (ps_i (ps_ui s 1131 8 ((ps_i s 1131 7) + 1)) 1131 4).toInt := xlt h85
    have hbl : a < N := by omega
    rw [if_pos hbl] at q63
    refine fs_189 (fun q113 => ?_) (fun q113 => ?_)
    · have hL : tx_L (T a) = true := tx_L_c.mpr (by omega)
      refine ⟨fun h116 => ?_, fun h116 => ?_⟩
      · exact absurd h116 (by decide)
      · exact fs_194_119 H ha hbl hL k n F8 h7 h8' (by omega) (by omega) (fun j h1 h2 => by
          rw [show j = a from by omega]
          exact ⟨hbl, hL⟩)
    · have hL : ¬ tx_L (T a) = true := fun z => by
        have := tx_L_c.mp z
        omega
      refine ⟨fun h116 => ?_, fun h116 => ?_⟩
      · refine fs_190 (fun q240 => ?_) (fun q240 => ?_)
        · have hD : tx_D (T a) = true := tx_D_c.mpr (by omega)
          refine ⟨fun h243 => ?_, fun h243 => ?_⟩
          · exact absurd h243 (by decide)
          · exact fs_194_259 H ha hbl hL hD k n (kqi (kqi F8 rfl) rfl) h7 h7 (Nat.le_refl _) (by omega) (fun j h1 h2 => by omega) (fun _ => by
              rw [Nat.sub_self]
              rfl)
        · have hD : ¬ tx_D (T a) = true := fun z => by
            have := tx_D_c.mp z
            omega
          refine ⟨fun h243 => ?_, fun h243 => ?_⟩
          · refine ⟨fun h365 => ?_, fun h365 => ?_⟩
            · have h365 : v63.toInt ≠ (59 : Int) := xne h365
              refine k _ ⟨kqi F8 rfl, ?_⟩
              rw [tx_tok_sign ha hbl hL hD, if_neg (by omega)]
              exact ⟨rfl, h7, h8', (fun z => by rcases z with z | z <;> cases z), (fun z => by cases z)⟩
            · have h365 : v63.toInt = (59 : Int) := xeq h365
              refine k _ ⟨kqi F8 rfl, ?_⟩
              rw [tx_tok_sign ha hbl hL hD, if_pos (by omega)]
              exact ⟨rfl, h7, h8', (fun z => by rcases z with z | z <;> cases z), (fun z => by cases z)⟩
          · exact absurd h243 (by decide)
      · exact absurd h116 (by decide)
  · have h85 : (ps_i (ps_ui s 1131 8 ((ps_i s 1131 7) + 1)) 1131 4).toInt ≤ (ps_i (ps_ui s 1131 8 ((ps_i s 1131 7) + 1)) 1131 7).toInt := xle h85
    refine k _ ⟨kqi (kqi (kqi F8 rfl) rfl) rfl, ?_⟩
    rw [tx_tok_end ha (by omega)]
    exact ⟨rfl, (by show (ps_i s 1131 4).toInt = a; rw [HT.1]; omega), (by show (ps_i s 1131 4).toInt = a; rw [HT.1]; omega), (fun z => by rcases z with z | z <;> cases z), (fun z => by cases z)⟩
theorem fs_194_8 {T : Nat → Nat} {N p : Nat} {s0 : ps_S} {R : ps_S → Prop} (H : mv_T s0 T N) (k : ∀ s', mv_A T N p s0 s' → R s') : ∀ (n : Nat) {s : ps_S} {b : Nat}, kq [] [7, 8, 9, 10, 11] s0 s → (ps_i s 1131 7).toInt = b → p ≤ b → b ≤ N → (∀ j, p ≤ j → j < b → j < N ∧ tx_B (T j) = true) → pl_At n 194 8 [(0, .ref 1131)] [] s (ps_rV R)
  | 0, _, _, _, _, _, _, _ => pl_At_0
  | n + 1, s, b, F, h7, hab, hbN, hall => by
    have hN := H.2.1
    have HT : mv_T s T N := mv_T_kq H F rfl rfl
    have hsz := HT.1
    have more : b < N → (T b = 32 ∨ T b = 10) → pl_At n 194 8 [(0, .ref 1131)] [] (ps_ui s 1131 7 ((ps_i s 1131 7) + 1)) (ps_rV R) := fun hbl hc => fs_194_8 H k n (kqi F rfl) (xj1 h7 (by omega)) (by omega) (by omega) (fun j h1 h2 => by
      by_cases e : j = b
      · rw [e]
        exact ⟨hbl, tx_B_c.mpr hc⟩
      · exact hall j h1 (by omega))
    refine pl_194_8 ?_
    refine ⟨fun h16 => ?_, fun h16 => ?_⟩
    · have h16 : (ps_i s 1131 4).toInt ≤ (ps_i s 1131 7).toInt := xle h16
      exact fs_194_58 H F (tx_to_is hab hall (Or.inl (by omega))) hbN h7 k
    · have h16 : (ps_i s 1131 7).toInt < (ps_i s 1131 4).toInt := xlt h16
      have hbl : b < N := by omega
      refine fs_188 HT h7 (fun v24 q24 => ?_)
      rw [if_pos hbl] at q24
      refine ⟨fun h29 => ?_, fun h29 => ?_⟩
      · have h29 : v24.toInt = (32 : Int) := xeq h29
        exact more hbl (by omega)
      · have h29 : v24.toInt ≠ (32 : Int) := xne h29
        refine fs_188 HT h7 (fun v37 q37 => ?_)
        rw [if_pos hbl] at q37
        refine ⟨fun h42 => ?_, fun h42 => ?_⟩
        · have h42 : v37.toInt ≠ (10 : Int) := xne h42
          exact fs_194_58 H F (tx_to_is hab hall (Or.inr (by
            rw [Bool.eq_false_iff]
            intro z
            have := tx_B_c.mp z
            omega))) hbN h7 k
        · have h42 : v37.toInt = (10 : Int) := xeq h42
          exact more hbl (by omega)
theorem fs_194 {n : Nat} {T : Nat → Nat} {N p : Nat} {s : ps_S} {R : ps_S → Prop} (H : mv_T s T N) (hp : (ps_i s 1131 8).toInt = p) (hpN : p ≤ N) (k : ∀ s', mv_A T N p s s' → R s') : pl_Cl n 194 [.ref 1131] s (ps_rV R) := by
  cases n with
  | zero => exact pl_At_0
  | succ n =>
  show pl_At (n + 1) 194 0 [(0, .ref 1131)] [] s (ps_rV R)
  refine pl_194_0 ?_
  exact fs_194_8 H k n (kqi kq_refl rfl) hp (Nat.le_refl _) hpN (fun j h1 h2 => by omega)

