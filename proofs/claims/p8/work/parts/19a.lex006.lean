set_option maxRecDepth 100000
theorem ms_193_80 {x : Nat → Nat → Nat} {t : Int32} {d : Nat} {s : ps_S} {l0 : Int64} {Q : Option Value → ps_S → Prop} (k : ∀ (v : Int32), v &&& 1 = v → Q (some (.int v)) s) (J : mJ x t s) : ps_At d 193 80 [(0, .long l0)] [] s Q := by
  refine pg_193_80 ?_
  refine And.intro (fun h1 => ?_) (fun h1 => ?_)
  · have f2 : (lg_cmp l0 (1935764837 : Int64)).toInt = (0 : Int) := xeq h1
    exact ms_193_158 (l0 := l0) k  (1) J 
  · have f3 : (lg_cmp l0 (1935764837 : Int64)).toInt ≠ (0 : Int) := xne h1
    refine And.intro (fun h4 => ?_) (fun h4 => ?_)
    · have f5 : (lg_cmp l0 (107148486208869 : Int64)).toInt = (0 : Int) := xeq h4
      exact ms_193_158 (l0 := l0) k  (1) J 
    · have f6 : (lg_cmp l0 (107148486208869 : Int64)).toInt ≠ (0 : Int) := xne h4
      refine And.intro (fun h7 => ?_) (fun h7 => ?_)
      · have f8 : (lg_cmp l0 (32765882169189741 : Int64)).toInt = (0 : Int) := xeq h7
        exact ms_193_158 (l0 := l0) k  (1) J 
      · have f9 : (lg_cmp l0 (32765882169189741 : Int64)).toInt ≠ (0 : Int) := xne h7
        refine And.intro (fun h10 => ?_) (fun h10 => ?_)
        · have f11 : (lg_cmp l0 (1651471464 : Int64)).toInt = (0 : Int) := xeq h10
          exact ms_193_158 (l0 := l0) k  (1) J 
        · have f12 : (lg_cmp l0 (1651471464 : Int64)).toInt ≠ (0 : Int) := xne h10
          refine And.intro (fun h13 => ?_) (fun h13 => ?_)
          · have f14 : (lg_cmp l0 (1818584692 : Int64)).toInt = (0 : Int) := xeq h13
            exact ms_193_158 (l0 := l0) k  (1) J 
          · have f15 : (lg_cmp l0 (1818584692 : Int64)).toInt ≠ (0 : Int) := xne h13
            refine And.intro (fun h16 => ?_) (fun h16 => ?_)
            · have f17 : (lg_cmp l0 (491394656372 : Int64)).toInt = (0 : Int) := xeq h16
              exact ms_193_158 (l0 := l0) k  (1) J 
            · have f18 : (lg_cmp l0 (491394656372 : Int64)).toInt ≠ (0 : Int) := xne h16
              refine And.intro (fun h19 => ?_) (fun h19 => ?_)
              · have f20 : (lg_cmp l0 (122537235539572 : Int64)).toInt = (0 : Int) := xeq h19
                exact ms_193_158 (l0 := l0) k  (1) J 
              · have f21 : (lg_cmp l0 (122537235539572 : Int64)).toInt ≠ (0 : Int) := xne h19
                refine And.intro (fun h22 => ?_) (fun h22 => ?_)
                · have f23 : (lg_cmp l0 (31369558135105652 : Int64)).toInt = (0 : Int) := xeq h22
                  exact ms_193_158 (l0 := l0) k  (1) J 
                · have f24 : (lg_cmp l0 (31369558135105652 : Int64)).toInt ≠ (0 : Int) := xne h22
                  refine And.intro (fun h25 => ?_) (fun h25 => ?_)
                  · have f26 : (lg_cmp l0 (1667330917 : Int64)).toInt ≠ (0 : Int) := xne h25
                    refine And.intro (fun h27 => ?_) (fun h27 => ?_)
                    · have f28 : (1 : Int) ≠ (0 : Int) := xne h27
                      exact k (1 : Int32) (by decide)
                    · exact absurd (show (1 : Int32) = (0 : Int32) from h27) (by decide)
                  · have f29 : (lg_cmp l0 (1667330917 : Int64)).toInt = (0 : Int) := xeq h25
                    exact ms_193_158 (l0 := l0) k  (1) J 

