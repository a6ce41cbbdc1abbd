set_option maxRecDepth 100000
theorem fs_193_158 {n : Nat} {l0 : Int64} {x2 : Int32} {s : ps_S} {R : Int32 → ps_S → Prop} (k1 : R 1 s) : pl_At n 193 158 [(0, .long l0), (2, .int x2)] [] s (ps_rI R) := by
  cases n with
  | zero => exact pl_At_0
  | succ n =>
  refine pl_193_158 ?_
  refine ⟨fun h165 => ?_, fun h165 => ?_⟩
  · have h165 : x2.toInt ≠ (0 : Int) := xne h165
    exact k1
  · have h165 : x2.toInt = (0 : Int) := xeq h165
    refine ⟨fun h169 => ?_, fun h169 => ?_⟩
    · exact k1
    · exact absurd h169 (by decide)
