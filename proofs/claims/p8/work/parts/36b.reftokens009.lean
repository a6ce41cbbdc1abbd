set_option maxRecDepth 100000
theorem fs_193 {n : Nat} {l0 : Int64} {w : List Nat} {s : ps_S} {R : Int32 → ps_S → Prop} (hw : tx_w w) (hl : l0 = tx_m w) (k1 : tx_at tx_keys w ≠ none → R 1 s) (k0 : tx_at tx_keys w = none → R 0 s) : pl_Cl n 193 [.long l0] s (ps_rI R) := by
  cases n with
  | zero => exact pl_At_0
  | succ n =>
  show pl_At (n + 1) 193 0 [(0, .long l0)] [] s (ps_rI R)
  have km : ∀ c : Int64, l0 = c → c ∈ tx_keys.map tx_m → R 1 s := fun c e hc => k1 (tx_kept_mem hw hl (by rw [e]; exact hc))
  refine pl_193_0 ?_
  refine ⟨fun h5 => ?_, fun h5 => ?_⟩
  · have h5 := lg_z h5
    exact fs_193_80 (km _ h5 (by decide +kernel))
  · have h5 := lg_nz h5
    refine ⟨fun h13 => ?_, fun h13 => ?_⟩
    · have h13 := lg_z h13
      exact fs_193_80 (km _ h13 (by decide +kernel))
    · have h13 := lg_nz h13
      refine ⟨fun h21 => ?_, fun h21 => ?_⟩
      · have h21 := lg_z h21
        exact fs_193_80 (km _ h21 (by decide +kernel))
      · have h21 := lg_nz h21
        refine ⟨fun h29 => ?_, fun h29 => ?_⟩
        · have h29 := lg_z h29
          exact fs_193_80 (km _ h29 (by decide +kernel))
        · have h29 := lg_nz h29
          refine ⟨fun h37 => ?_, fun h37 => ?_⟩
          · have h37 := lg_z h37
            exact fs_193_80 (km _ h37 (by decide +kernel))
          · have h37 := lg_nz h37
            refine ⟨fun h45 => ?_, fun h45 => ?_⟩
            · have h45 := lg_z h45
              exact fs_193_80 (km _ h45 (by decide +kernel))
            · have h45 := lg_nz h45
              refine ⟨fun h53 => ?_, fun h53 => ?_⟩
              · have h53 := lg_z h53
                exact fs_193_80 (km _ h53 (by decide +kernel))
              · have h53 := lg_nz h53
                refine ⟨fun h61 => ?_, fun h61 => ?_⟩
                · have h61 := lg_z h61
                  exact fs_193_80 (km _ h61 (by decide +kernel))
                · have h61 := lg_nz h61
                  refine ⟨fun h69 => ?_, fun h69 => ?_⟩
                  · have h69 := lg_z h69
                    exact fs_193_80 (km _ h69 (by decide +kernel))
                  · have h69 := lg_nz h69
                    refine ⟨fun h77 => ?_, fun h77 => ?_⟩
                    · have h77 := lg_nz h77
                      refine ⟨fun h91 => ?_, fun h91 => ?_⟩
                      · have h91 := lg_z h91
                        exact fs_193_158 (km _ h91 (by decide +kernel))
                      · have h91 := lg_nz h91
                        refine ⟨fun h99 => ?_, fun h99 => ?_⟩
                        · have h99 := lg_z h99
                          exact fs_193_158 (km _ h99 (by decide +kernel))
                        · have h99 := lg_nz h99
                          refine ⟨fun h107 => ?_, fun h107 => ?_⟩
                          · have h107 := lg_z h107
                            exact fs_193_158 (km _ h107 (by decide +kernel))
                          · have h107 := lg_nz h107
                            refine ⟨fun h115 => ?_, fun h115 => ?_⟩
                            · have h115 := lg_z h115
                              exact fs_193_158 (km _ h115 (by decide +kernel))
                            · have h115 := lg_nz h115
                              refine ⟨fun h123 => ?_, fun h123 => ?_⟩
                              · have h123 := lg_z h123
                                exact fs_193_158 (km _ h123 (by decide +kernel))
                              · have h123 := lg_nz h123
                                refine ⟨fun h131 => ?_, fun h131 => ?_⟩
                                · have h131 := lg_z h131
                                  exact fs_193_158 (km _ h131 (by decide +kernel))
                                · have h131 := lg_nz h131
                                  refine ⟨fun h139 => ?_, fun h139 => ?_⟩
                                  · have h139 := lg_z h139
                                    exact fs_193_158 (km _ h139 (by decide +kernel))
                                  · have h139 := lg_nz h139
                                    refine ⟨fun h147 => ?_, fun h147 => ?_⟩
                                    · have h147 := lg_z h147
                                      exact fs_193_158 (km _ h147 (by decide +kernel))
                                    · have h147 := lg_nz h147
                                      refine ⟨fun h155 => ?_, fun h155 => ?_⟩
                                      · have h155 := lg_nz h155
                                        refine ⟨fun h165 => ?_, fun h165 => ?_⟩
                                        · exact absurd h165 (by decide)
                                        · refine ⟨fun h169 => ?_, fun h169 => ?_⟩
                                          · exact absurd h169 (by decide)
                                          · refine ⟨fun h177 => ?_, fun h177 => ?_⟩
                                            · have h177 := lg_z h177
                                              exact km _ h177 (by decide +kernel)
                                            · have h177 := lg_nz h177
                                              refine ⟨fun h185 => ?_, fun h185 => ?_⟩
                                              · have h185 := lg_z h185
                                                exact km _ h185 (by decide +kernel)
                                              · have h185 := lg_nz h185
                                                refine ⟨fun h193 => ?_, fun h193 => ?_⟩
                                                · have h193 := lg_z h193
                                                  exact km _ h193 (by decide +kernel)
                                                · have h193 := lg_nz h193
                                                  refine ⟨fun h201 => ?_, fun h201 => ?_⟩
                                                  · have h201 := lg_z h201
                                                    exact km _ h201 (by decide +kernel)
                                                  · have h201 := lg_nz h201
                                                    refine ⟨fun h209 => ?_, fun h209 => ?_⟩
                                                    · have h209 := lg_z h209
                                                      exact km _ h209 (by decide +kernel)
                                                    · have h209 := lg_nz h209
                                                      refine ⟨fun h217 => ?_, fun h217 => ?_⟩
                                                      · have h217 := lg_z h217
                                                        exact km _ h217 (by decide +kernel)
                                                      · have h217 := lg_nz h217
                                                        refine ⟨fun h225 => ?_, fun h225 => ?_⟩
                                                        · have h225 := lg_z h225
                                                          exact km _ h225 (by decide +kernel)
                                                        · have h225 := lg_nz h225
                                                          refine ⟨fun h233 => ?_, fun h233 => ?_⟩
                                                          · have h233 := lg_z h233
                                                            exact km _ h233 (by decide +kernel)
                                                          · have h233 := lg_nz h233
                                                            refine ⟨fun h241 => ?_, fun h241 => ?_⟩
                                                            · have h241 := lg_nz h241
                                                              refine k0 (tx_kept hl ?_)
                                                              rw [tx_keyms]
                                                              simp only [List.mem_cons, List.not_mem_nil, or_false, not_or]
                                                              (repeat' apply And.intro) <;> assumption
                                                            · have h241 := lg_z h241
                                                              exact km _ h241 (by decide +kernel)
                                      · have h155 := lg_z h155
                                        exact fs_193_158 (km _ h155 (by decide +kernel))
                    · have h77 := lg_z h77
                      exact fs_193_80 (km _ h77 (by decide +kernel))

