set_option maxRecDepth 100000
theorem ms_193_158 {x : Nat → Nat → Nat} {t : Int32} {d : Nat} {s : ps_S} {l0 : Int64} {Q : Option Value → ps_S → Prop} (k : ∀ (v : Int32), v &&& 1 = v → Q (some (.int v)) s) (x2 : Int32) (J : mJ x t s) : ps_At d 193 158 [(0, .long l0), (2, .int x2)] [] s Q := by
  refine pg_193_158 ?_
  refine And.intro (fun h1 => ?_) (fun h1 => ?_)
  · have f2 : x2.toInt ≠ (0 : Int) := xne h1
    exact k (1 : Int32) (by decide)
  · have f3 : x2.toInt = (0 : Int) := xeq h1
    refine And.intro (fun h4 => ?_) (fun h4 => ?_)
    · have f5 : (1 : Int) ≠ (0 : Int) := xne h4
      exact k (1 : Int32) (by decide)
    · exact absurd (show (1 : Int32) = (0 : Int32) from h4) (by decide)

