set_option maxRecDepth 100000
theorem ms_193 {x : Nat → Nat → Nat} {t : Int32} {s : ps_S} {d : Nat} {l0 : Int64} {f : Int32 → ps_S → Prop} (J : mJ x t s) (k : ∀ (v : Int32), v &&& 1 = v → f v s) : ps_Cl d 193 [.long l0] s (ps_rI f) := by
  refine pg_193_0 ?_
  refine And.intro (fun h1 => ?_) (fun h1 => ?_)
  · have f2 : (lg_cmp l0 (7497068 : Int64)).toInt = (0 : Int) := xeq h1
    exact ms_193_80 (l0 := l0) k   J 
  · have f3 : (lg_cmp l0 (7497068 : Int64)).toInt ≠ (0 : Int) := xne h1
    refine And.intro (fun h4 => ?_) (fun h4 => ?_)
    · have f5 : (lg_cmp l0 (6714734 : Int64)).toInt = (0 : Int) := xeq h4
      exact ms_193_80 (l0 := l0) k   J 
    · have f6 : (lg_cmp l0 (6714734 : Int64)).toInt ≠ (0 : Int) := xne h4
      refine And.intro (fun h7 => ?_) (fun h7 => ?_)
      · have f8 : (lg_cmp l0 (418632003437 : Int64)).toInt = (0 : Int) := xeq h7
        exact ms_193_80 (l0 := l0) k   J 
      · have f9 : (lg_cmp l0 (418632003437 : Int64)).toInt ≠ (0 : Int) := xne h7
        refine And.intro (fun h10 => ?_) (fun h10 => ?_)
        · have f11 : (lg_cmp l0 (439721161573 : Int64)).toInt = (0 : Int) := xeq h10
          exact ms_193_80 (l0 := l0) k   J 
        · have f12 : (lg_cmp l0 (439721161573 : Int64)).toInt ≠ (0 : Int) := xne h10
          refine And.intro (fun h13 => ?_) (fun h13 => ?_)
          · have f14 : (lg_cmp l0 (7237492 : Int64)).toInt = (0 : Int) := xeq h13
            exact ms_193_80 (l0 := l0) k   J 
          · have f15 : (lg_cmp l0 (7237492 : Int64)).toInt ≠ (0 : Int) := xne h13
            refine And.intro (fun h16 => ?_) (fun h16 => ?_)
            · have f17 : (lg_cmp l0 (6385252 : Int64)).toInt = (0 : Int) := xeq h16
              exact ms_193_80 (l0 := l0) k   J 
            · have f18 : (lg_cmp l0 (6385252 : Int64)).toInt ≠ (0 : Int) := xne h16
              refine And.intro (fun h19 => ?_) (fun h19 => ?_)
              · have f20 : (lg_cmp l0 (28530 : Int64)).toInt = (0 : Int) := xeq h19
                exact ms_193_80 (l0 := l0) k   J 
              · have f21 : (lg_cmp l0 (28530 : Int64)).toInt ≠ (0 : Int) := xne h19
                refine And.intro (fun h22 => ?_) (fun h22 => ?_)
                · have f23 : (lg_cmp l0 (6909296 : Int64)).toInt = (0 : Int) := xeq h22
                  exact ms_193_80 (l0 := l0) k   J 
                · have f24 : (lg_cmp l0 (6909296 : Int64)).toInt ≠ (0 : Int) := xne h22
                  refine And.intro (fun h25 => ?_) (fun h25 => ?_)
                  · have f26 : (lg_cmp l0 (6384748 : Int64)).toInt = (0 : Int) := xeq h25
                    exact ms_193_80 (l0 := l0) k   J 
                  · have f27 : (lg_cmp l0 (6384748 : Int64)).toInt ≠ (0 : Int) := xne h25
                    refine And.intro (fun h28 => ?_) (fun h28 => ?_)
                    · have f29 : (lg_cmp l0 (1936682341 : Int64)).toInt ≠ (0 : Int) := xne h28
                      refine And.intro (fun h30 => ?_) (fun h30 => ?_)
                      · have f31 : (lg_cmp l0 (1935764837 : Int64)).toInt = (0 : Int) := xeq h30
                        exact ms_193_158 (l0 := l0) k  (0) J 
                      · have f32 : (lg_cmp l0 (1935764837 : Int64)).toInt ≠ (0 : Int) := xne h30
                        refine And.intro (fun h33 => ?_) (fun h33 => ?_)
                        · have f34 : (lg_cmp l0 (107148486208869 : Int64)).toInt = (0 : Int) := xeq h33
                          exact ms_193_158 (l0 := l0) k  (0) J 
                        · have f35 : (lg_cmp l0 (107148486208869 : Int64)).toInt ≠ (0 : Int) := xne h33
                          refine And.intro (fun h36 => ?_) (fun h36 => ?_)
                          · have f37 : (lg_cmp l0 (32765882169189741 : Int64)).toInt = (0 : Int) := xeq h36
                            exact ms_193_158 (l0 := l0) k  (0) J 
                          · have f38 : (lg_cmp l0 (32765882169189741 : Int64)).toInt ≠ (0 : Int) := xne h36
                            refine And.intro (fun h39 => ?_) (fun h39 => ?_)
                            · have f40 : (lg_cmp l0 (1651471464 : Int64)).toInt = (0 : Int) := xeq h39
                              exact ms_193_158 (l0 := l0) k  (0) J 
                            · have f41 : (lg_cmp l0 (1651471464 : Int64)).toInt ≠ (0 : Int) := xne h39
                              refine And.intro (fun h42 => ?_) (fun h42 => ?_)
                              · have f43 : (lg_cmp l0 (1818584692 : Int64)).toInt = (0 : Int) := xeq h42
                                exact ms_193_158 (l0 := l0) k  (0) J 
                              · have f44 : (lg_cmp l0 (1818584692 : Int64)).toInt ≠ (0 : Int) := xne h42
                                refine And.intro (fun h45 => ?_) (fun h45 => ?_)
                                · have f46 : (lg_cmp l0 (491394656372 : Int64)).toInt = (0 : Int) := xeq h45
                                  exact ms_193_158 (l0 := l0) k  (0) J 
                                · have f47 : (lg_cmp l0 (491394656372 : Int64)).toInt ≠ (0 : Int) := xne h45
                                  refine And.intro (fun h48 => ?_) (fun h48 => ?_)
                                  · have f49 : (lg_cmp l0 (122537235539572 : Int64)).toInt = (0 : Int) := xeq h48
                                    exact ms_193_158 (l0 := l0) k  (0) J 
                                  · have f50 : (lg_cmp l0 (122537235539572 : Int64)).toInt ≠ (0 : Int) := xne h48
                                    refine And.intro (fun h51 => ?_) (fun h51 => ?_)
                                    · have f52 : (lg_cmp l0 (31369558135105652 : Int64)).toInt = (0 : Int) := xeq h51
                                      exact ms_193_158 (l0 := l0) k  (0) J 
                                    · have f53 : (lg_cmp l0 (31369558135105652 : Int64)).toInt ≠ (0 : Int) := xne h51
                                      refine And.intro (fun h54 => ?_) (fun h54 => ?_)
                                      · have f55 : (lg_cmp l0 (1667330917 : Int64)).toInt ≠ (0 : Int) := xne h54
                                        refine And.intro (fun h56 => ?_) (fun h56 => ?_)
                                        · exact absurd (show (0 : Int32) ≠ (0 : Int32) from h56) (by decide)
                                        · refine And.intro (fun h57 => ?_) (fun h57 => ?_)
                                          · exact absurd (show (0 : Int32) ≠ (0 : Int32) from h57) (by decide)
                                          · refine And.intro (fun h58 => ?_) (fun h58 => ?_)
                                            · have f59 : (lg_cmp l0 (418498243705 : Int64)).toInt = (0 : Int) := xeq h58
                                              exact k (1 : Int32) (by decide)
                                            · have f60 : (lg_cmp l0 (418498243705 : Int64)).toInt ≠ (0 : Int) := xne h58
                                              refine And.intro (fun h61 => ?_) (fun h61 => ?_)
                                              · have f62 : (lg_cmp l0 (29103447424000364 : Int64)).toInt = (0 : Int) := xeq h61
                                                exact k (1 : Int32) (by decide)
                                              · have f63 : (lg_cmp l0 (29103447424000364 : Int64)).toInt ≠ (0 : Int) := xne h61
                                                refine And.intro (fun h64 => ?_) (fun h64 => ?_)
                                                · have f65 : (lg_cmp l0 (32493203083583852 : Int64)).toInt = (0 : Int) := xeq h64
                                                  exact k (1 : Int32) (by decide)
                                                · have f66 : (lg_cmp l0 (32493203083583852 : Int64)).toInt ≠ (0 : Int) := xne h64
                                                  refine And.intro (fun h67 => ?_) (fun h67 => ?_)
                                                  · have f68 : (lg_cmp l0 (435811873652 : Int64)).toInt = (0 : Int) := xeq h67
                                                    exact k (1 : Int32) (by decide)
                                                  · have f69 : (lg_cmp l0 (435811873652 : Int64)).toInt ≠ (0 : Int) := xne h67
                                                    refine And.intro (fun h70 => ?_) (fun h70 => ?_)
                                                    · have f71 : (lg_cmp l0 (1869636974 : Int64)).toInt = (0 : Int) := xeq h70
                                                      exact k (1 : Int32) (by decide)
                                                    · have f72 : (lg_cmp l0 (1869636974 : Int64)).toInt ≠ (0 : Int) := xne h70
                                                      refine And.intro (fun h73 => ?_) (fun h73 => ?_)
                                                      · have f74 : (lg_cmp l0 (32199680874079077 : Int64)).toInt = (0 : Int) := xeq h73
                                                        exact k (1 : Int32) (by decide)
                                                      · have f75 : (lg_cmp l0 (32199680874079077 : Int64)).toInt ≠ (0 : Int) := xne h73
                                                        refine And.intro (fun h76 => ?_) (fun h76 => ?_)
                                                        · have f77 : (lg_cmp l0 (107075471766116 : Int64)).toInt = (0 : Int) := xeq h76
                                                          exact k (1 : Int32) (by decide)
                                                        · have f78 : (lg_cmp l0 (107075471766116 : Int64)).toInt ≠ (0 : Int) := xne h76
                                                          refine And.intro (fun h79 => ?_) (fun h79 => ?_)
                                                          · have f80 : (lg_cmp l0 (27985188498925923 : Int64)).toInt = (0 : Int) := xeq h79
                                                            exact k (1 : Int32) (by decide)
                                                          · have f81 : (lg_cmp l0 (27985188498925923 : Int64)).toInt ≠ (0 : Int) := xne h79
                                                            refine And.intro (fun h82 => ?_) (fun h82 => ?_)
                                                            · have f83 : (lg_cmp l0 (110386639889253 : Int64)).toInt ≠ (0 : Int) := xne h82
                                                              exact k (0 : Int32) (by decide)
                                                            · have f84 : (lg_cmp l0 (110386639889253 : Int64)).toInt = (0 : Int) := xeq h82
                                                              exact k (1 : Int32) (by decide)
                                      · have f85 : (lg_cmp l0 (1667330917 : Int64)).toInt = (0 : Int) := xeq h54
                                        exact ms_193_158 (l0 := l0) k  (0) J 
                    · have f86 : (lg_cmp l0 (1936682341 : Int64)).toInt = (0 : Int) := xeq h28
                      exact ms_193_80 (l0 := l0) k   J 

-- ProofBenchModel.goOn()V
