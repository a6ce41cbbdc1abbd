set_option maxRecDepth 100000
theorem fm_289 {n : Nat} {x1 : Int32} {s : ps_S} {l : List Nat} {R : Int32 → ps_S → Prop} (hW : mv_W s 25789 l) (k : ∀ v : Int32, pc_is l x1 v → R v s) : pl_Cl n 289 [.ref 1131, .int x1] s (ps_rI R) := by
  cases n with
  | zero => exact pl_At_0
  | succ n =>
  show pl_At (n + 1) 289 0 [(0, .ref 1131), (1, .int x1)] [] s (ps_rI R)
  refine pl_289_0 ?_
  exact fm_264 (to := 25789) (by decide) (by decide) hW k


