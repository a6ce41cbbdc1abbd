set_option maxRecDepth 100000
theorem pl_193_0 {n : Nat} {l0 : Int64} {s : ps_S} {Q : Option Value → ps_S → Prop} (h :
  ((lg_cmp l0 (7497068 : Int64)) = 0 →
    pl_At n 193 80 [(0, .long l0)] [] s Q) ∧
  ((lg_cmp l0 (7497068 : Int64)) ≠ 0 →
    ((lg_cmp l0 (6714734 : Int64)) = 0 →
      pl_At n 193 80 [(0, .long l0)] [] s Q) ∧
    ((lg_cmp l0 (6714734 : Int64)) ≠ 0 →
      ((lg_cmp l0 (418632003437 : Int64)) = 0 →
        pl_At n 193 80 [(0, .long l0)] [] s Q) ∧
      ((lg_cmp l0 (418632003437 : Int64)) ≠ 0 →
        ((lg_cmp l0 (439721161573 : Int64)) = 0 →
          pl_At n 193 80 [(0, .long l0)] [] s Q) ∧
        ((lg_cmp l0 (439721161573 : Int64)) ≠ 0 →
          ((lg_cmp l0 (7237492 : Int64)) = 0 →
            pl_At n 193 80 [(0, .long l0)] [] s Q) ∧
          ((lg_cmp l0 (7237492 : Int64)) ≠ 0 →
            ((lg_cmp l0 (6385252 : Int64)) = 0 →
              pl_At n 193 80 [(0, .long l0)] [] s Q) ∧
            ((lg_cmp l0 (6385252 : Int64)) ≠ 0 →
              ((lg_cmp l0 (28530 : Int64)) = 0 →
                pl_At n 193 80 [(0, .long l0)] [] s Q) ∧
              ((lg_cmp l0 (28530 : Int64)) ≠ 0 →
                ((lg_cmp l0 (6909296 : Int64)) = 0 →
                  pl_At n 193 80 [(0, .long l0)] [] s Q) ∧
                ((lg_cmp l0 (6909296 : Int64)) ≠ 0 →
                  ((lg_cmp l0 (6384748 : Int64)) = 0 →
                    pl_At n 193 80 [(0, .long l0)] [] s Q) ∧
                  ((lg_cmp l0 (6384748 : Int64)) ≠ 0 →
                    ((lg_cmp l0 (1936682341 : Int64)) ≠ 0 →
                      ((lg_cmp l0 (1935764837 : Int64)) = 0 →
                        pl_At n 193 158 [(0, .long l0), (2, .int 0)] [] s Q) ∧
                      ((lg_cmp l0 (1935764837 : Int64)) ≠ 0 →
                        ((lg_cmp l0 (107148486208869 : Int64)) = 0 →
                          pl_At n 193 158 [(0, .long l0), (2, .int 0)] [] s Q) ∧
                        ((lg_cmp l0 (107148486208869 : Int64)) ≠ 0 →
                          ((lg_cmp l0 (32765882169189741 : Int64)) = 0 →
                            pl_At n 193 158 [(0, .long l0), (2, .int 0)] [] s Q) ∧
                          ((lg_cmp l0 (32765882169189741 : Int64)) ≠ 0 →
                            ((lg_cmp l0 (1651471464 : Int64)) = 0 →
                              pl_At n 193 158 [(0, .long l0), (2, .int 0)] [] s Q) ∧
                            ((lg_cmp l0 (1651471464 : Int64)) ≠ 0 →
                              ((lg_cmp l0 (1818584692 : Int64)) = 0 →
                                pl_At n 193 158 [(0, .long l0), (2, .int 0)] [] s Q) ∧
                              ((lg_cmp l0 (1818584692 : Int64)) ≠ 0 →
                                ((lg_cmp l0 (491394656372 : Int64)) = 0 →
                                  pl_At n 193 158 [(0, .long l0), (2, .int 0)] [] s Q) ∧
                                ((lg_cmp l0 (491394656372 : Int64)) ≠ 0 →
                                  ((lg_cmp l0 (122537235539572 : Int64)) = 0 →
                                    pl_At n 193 158 [(0, .long l0), (2, .int 0)] [] s Q) ∧
                                  ((lg_cmp l0 (122537235539572 : Int64)) ≠ 0 →
                                    ((lg_cmp l0 (31369558135105652 : Int64)) = 0 →
                                      pl_At n 193 158 [(0, .long l0), (2, .int 0)] [] s Q) ∧
                                    ((lg_cmp l0 (31369558135105652 : Int64)) ≠ 0 →
                                      ((lg_cmp l0 (1667330917 : Int64)) ≠ 0 →
                                        ((0 : Int32) ≠ 0 →
                                          Q (some (.int 1)) s) ∧
                                        ((0 : Int32) = 0 →
                                          ((0 : Int32) ≠ 0 →
                                            Q (some (.int 1)) s) ∧
                                          ((0 : Int32) = 0 →
                                            ((lg_cmp l0 (418498243705 : Int64)) = 0 →
                                              Q (some (.int 1)) s) ∧
                                            ((lg_cmp l0 (418498243705 : Int64)) ≠ 0 →
                                              ((lg_cmp l0 (29103447424000364 : Int64)) = 0 →
                                                Q (some (.int 1)) s) ∧
                                              ((lg_cmp l0 (29103447424000364 : Int64)) ≠ 0 →
                                                ((lg_cmp l0 (32493203083583852 : Int64)) = 0 →
                                                  Q (some (.int 1)) s) ∧
                                                ((lg_cmp l0 (32493203083583852 : Int64)) ≠ 0 →
                                                  ((lg_cmp l0 (435811873652 : Int64)) = 0 →
                                                    Q (some (.int 1)) s) ∧
                                                  ((lg_cmp l0 (435811873652 : Int64)) ≠ 0 →
                                                    ((lg_cmp l0 (1869636974 : Int64)) = 0 →
                                                      Q (some (.int 1)) s) ∧
                                                    ((lg_cmp l0 (1869636974 : Int64)) ≠ 0 →
                                                      ((lg_cmp l0 (32199680874079077 : Int64)) = 0 →
                                                        Q (some (.int 1)) s) ∧
                                                      ((lg_cmp l0 (32199680874079077 : Int64)) ≠ 0 →
                                                        ((lg_cmp l0 (107075471766116 : Int64)) = 0 →
                                                          Q (some (.int 1)) s) ∧
                                                        ((lg_cmp l0 (107075471766116 : Int64)) ≠ 0 →
                                                          ((lg_cmp l0 (27985188498925923 : Int64)) = 0 →
                                                            Q (some (.int 1)) s) ∧
                                                          ((lg_cmp l0 (27985188498925923 : Int64)) ≠ 0 →
                                                            ((lg_cmp l0 (110386639889253 : Int64)) ≠ 0 →
                                                              Q (some (.int 0)) s) ∧
                                                            ((lg_cmp l0 (110386639889253 : Int64)) = 0 →
                                                              Q (some (.int 1)) s)))))))))))) ∧
                                      ((lg_cmp l0 (1667330917 : Int64)) = 0 →
                                        pl_At n 193 158 [(0, .long l0), (2, .int 0)] [] s Q)))))))))) ∧
                    ((lg_cmp l0 (1936682341 : Int64)) = 0 →
                      pl_At n 193 80 [(0, .long l0)] [] s Q))))))))))) : pl_At (n + 1) 193 0 [(0, .long l0)] [] s Q :=
  pl_wp_at (stops := [(80, [0]), (158, [0, 2])]) (f := 157) h rfl

