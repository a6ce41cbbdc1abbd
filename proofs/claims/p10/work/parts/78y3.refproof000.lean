set_option maxRecDepth 100000
/-! the reference reads a proof, step by step -/
-- ProofBenchModel.stepHere()I
theorem pl_233_0 {n : Nat} {s : ps_S} {Q : Option Value → ps_S → Prop} (h :
  ((ps_i s 1131 9) = 3 →
    ((lg_cmp (ps_j s 1131 11) (107148486208869 : Int64)) ≠ 0 →
      ((lg_cmp (ps_j s 1131 11) (418632003437 : Int64)) ≠ 0 →
        ((lg_cmp (ps_j s 1131 11) (32765882169189741 : Int64)) ≠ 0 →
          ((lg_cmp (ps_j s 1131 11) (1651471464 : Int64)) ≠ 0 →
            ((lg_cmp (ps_j s 1131 11) (1818584692 : Int64)) ≠ 0 →
              ((lg_cmp (ps_j s 1131 11) (491394656372 : Int64)) ≠ 0 →
                ((lg_cmp (ps_j s 1131 11) (122537235539572 : Int64)) ≠ 0 →
                  ((lg_cmp (ps_j s 1131 11) (31369558135105652 : Int64)) ≠ 0 →
                    ((lg_cmp (ps_j s 1131 11) (1667330917 : Int64)) ≠ 0 →
                      ((lg_cmp (ps_j s 1131 11) (418498243705 : Int64)) ≠ 0 →
                        ((lg_cmp (ps_j s 1131 11) (110386639889253 : Int64)) ≠ 0 →
                          ((lg_cmp (ps_j s 1131 11) (29103447424000364 : Int64)) ≠ 0 →
                            ((lg_cmp (ps_j s 1131 11) (32493203083583852 : Int64)) ≠ 0 →
                              ((lg_cmp (ps_j s 1131 11) (435811873652 : Int64)) ≠ 0 →
                                ((lg_cmp (ps_j s 1131 11) (1869636974 : Int64)) ≠ 0 →
                                  ((lg_cmp (ps_j s 1131 11) (1935764837 : Int64)) ≠ 0 →
                                    ((lg_cmp (ps_j s 1131 11) (32199680874079077 : Int64)) ≠ 0 →
                                      ((lg_cmp (ps_j s 1131 11) (107075471766116 : Int64)) ≠ 0 →
                                        ((lg_cmp (ps_j s 1131 11) (27985188498925923 : Int64)) ≠ 0 →
                                          Q (some (.int (-1))) s) ∧
                                        ((lg_cmp (ps_j s 1131 11) (27985188498925923 : Int64)) = 0 →
                                          Q (some (.int 18)) s)) ∧
                                      ((lg_cmp (ps_j s 1131 11) (107075471766116 : Int64)) = 0 →
                                        Q (some (.int 17)) s)) ∧
                                    ((lg_cmp (ps_j s 1131 11) (32199680874079077 : Int64)) = 0 →
                                      Q (some (.int 16)) s)) ∧
                                  ((lg_cmp (ps_j s 1131 11) (1935764837 : Int64)) = 0 →
                                    Q (some (.int 15)) s)) ∧
                                ((lg_cmp (ps_j s 1131 11) (1869636974 : Int64)) = 0 →
                                  Q (some (.int 14)) s)) ∧
                              ((lg_cmp (ps_j s 1131 11) (435811873652 : Int64)) = 0 →
                                Q (some (.int 13)) s)) ∧
                            ((lg_cmp (ps_j s 1131 11) (32493203083583852 : Int64)) = 0 →
                              Q (some (.int 12)) s)) ∧
                          ((lg_cmp (ps_j s 1131 11) (29103447424000364 : Int64)) = 0 →
                            Q (some (.int 11)) s)) ∧
                        ((lg_cmp (ps_j s 1131 11) (110386639889253 : Int64)) = 0 →
                          Q (some (.int 10)) s)) ∧
                      ((lg_cmp (ps_j s 1131 11) (418498243705 : Int64)) = 0 →
                        Q (some (.int 9)) s)) ∧
                    ((lg_cmp (ps_j s 1131 11) (1667330917 : Int64)) = 0 →
                      Q (some (.int 8)) s)) ∧
                  ((lg_cmp (ps_j s 1131 11) (31369558135105652 : Int64)) = 0 →
                    Q (some (.int 7)) s)) ∧
                ((lg_cmp (ps_j s 1131 11) (122537235539572 : Int64)) = 0 →
                  Q (some (.int 6)) s)) ∧
              ((lg_cmp (ps_j s 1131 11) (491394656372 : Int64)) = 0 →
                Q (some (.int 5)) s)) ∧
            ((lg_cmp (ps_j s 1131 11) (1818584692 : Int64)) = 0 →
              Q (some (.int 4)) s)) ∧
          ((lg_cmp (ps_j s 1131 11) (1651471464 : Int64)) = 0 →
            Q (some (.int 3)) s)) ∧
        ((lg_cmp (ps_j s 1131 11) (32765882169189741 : Int64)) = 0 →
          Q (some (.int 2)) s)) ∧
      ((lg_cmp (ps_j s 1131 11) (418632003437 : Int64)) = 0 →
        Q (some (.int 1)) s)) ∧
    ((lg_cmp (ps_j s 1131 11) (107148486208869 : Int64)) = 0 →
      Q (some (.int 0)) s)) ∧
  ((ps_i s 1131 9) ≠ 3 →
    Q (some (.int (-1))) s)) : pl_At (n + 1) 233 0 [(0, .ref 1131)] [] s Q :=
  pl_wp_at (stops := []) (f := 144) h rfl

