set_option maxRecDepth 100000
theorem fs_193_80 {n : Nat} {l0 : Int64} {s : ps_S} {R : Int32 → ps_S → Prop} (k1 : R 1 s) : pl_At n 193 80 [(0, .long l0)] [] s (ps_rI R) := by
  cases n with
  | zero => exact pl_At_0
  | succ n =>
  refine pl_193_80 ?_
  refine ⟨fun h91 => ?_, fun h91 => ?_⟩
  · have h91 := lg_z h91
    exact fs_193_158 k1
  · have h91 := lg_nz h91
    refine ⟨fun h99 => ?_, fun h99 => ?_⟩
    · have h99 := lg_z h99
      exact fs_193_158 k1
    · have h99 := lg_nz h99
      refine ⟨fun h107 => ?_, fun h107 => ?_⟩
      · have h107 := lg_z h107
        exact fs_193_158 k1
      · have h107 := lg_nz h107
        refine ⟨fun h115 => ?_, fun h115 => ?_⟩
        · have h115 := lg_z h115
          exact fs_193_158 k1
        · have h115 := lg_nz h115
          refine ⟨fun h123 => ?_, fun h123 => ?_⟩
          · have h123 := lg_z h123
            exact fs_193_158 k1
          · have h123 := lg_nz h123
            refine ⟨fun h131 => ?_, fun h131 => ?_⟩
            · have h131 := lg_z h131
              exact fs_193_158 k1
            · have h131 := lg_nz h131
              refine ⟨fun h139 => ?_, fun h139 => ?_⟩
              · have h139 := lg_z h139
                exact fs_193_158 k1
              · have h139 := lg_nz h139
                refine ⟨fun h147 => ?_, fun h147 => ?_⟩
                · have h147 := lg_z h147
                  exact fs_193_158 k1
                · have h147 := lg_nz h147
                  refine ⟨fun h155 => ?_, fun h155 => ?_⟩
                  · have h155 := lg_nz h155
                    refine ⟨fun h165 => ?_, fun h165 => ?_⟩
                    · exact k1
                    · exact absurd h165 (by decide)
                  · have h155 := lg_z h155
                    exact fs_193_158 k1
