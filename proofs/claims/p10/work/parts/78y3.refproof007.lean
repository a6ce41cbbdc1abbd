set_option maxRecDepth 100000
theorem fm_233 {n : Nat} {s : ps_S} {T : Nat → Nat} {N p : Nat} {R : Int32 → ps_S → Prop} (hp : p ≤ N) (hK : mv_K s (tx_tok T N p)) (k1 : ∀ v : Int32, (tx_tok T N p).1 = 3 → tp_ok (tx_tok T N p).2.2.2.2 → v.toInt = (kd (tx_tok T N p).2.2.2.2 : Nat) → R v s) (k0 : ∀ v : Int32, ¬ ((tx_tok T N p).1 = 3 ∧ tp_ok (tx_tok T N p).2.2.2.2) → v.toInt = -1 → R v s) : pl_Cl n 233 [.ref 1131] s (ps_rI R) := by
  cases n with
  | zero => exact pl_At_0
  | succ n =>
  show pl_At (n + 1) 233 0 [(0, .ref 1131)] [] s (ps_rI R)
  have h9 := hK.1
  refine pl_233_0 ⟨fun w => ?_, fun w => ?_⟩
  · have w : (ps_i s 1131 9).toInt = 3 := xeq w
    have h3 : (tx_tok T N p).1 = 3 := by omega
    have h28 := (tx_tok_ok (T := T) hp).2.2.2.2.1 h3
    have e0 := kw_eq hK h3 (w := [97, 115, 115, 117, 109, 101]) (q := 11) (l1 := (107148486208869 : Int64)) (by decide) (by decide +kernel)
    have e1 := kw_eq hK h3 (w := [97, 120, 105, 111, 109]) (q := 10) (l1 := (418632003437 : Int64)) (by decide) (by decide +kernel)
    have e2 := kw_eq hK h3 (w := [116, 104, 101, 111, 114, 101, 109]) (q := 12) (l1 := (32765882169189741 : Int64)) (by decide) (by decide +kernel)
    have e3 := kw_eq hK h3 (w := [98, 111, 116, 104]) (q := 13) (l1 := (1651471464 : Int64)) (by decide) (by decide +kernel)
    have e4 := kw_eq hK h3 (w := [108, 101, 102, 116]) (q := 14) (l1 := (1818584692 : Int64)) (by decide) (by decide +kernel)
    have e5 := kw_eq hK h3 (w := [114, 105, 103, 104, 116]) (q := 15) (l1 := (491394656372 : Int64)) (by decide) (by decide +kernel)
    have e6 := kw_eq hK h3 (w := [111, 114, 108, 101, 102, 116]) (q := 16) (l1 := (122537235539572 : Int64)) (by decide) (by decide +kernel)
    have e7 := kw_eq hK h3 (w := [111, 114, 114, 105, 103, 104, 116]) (q := 17) (l1 := (31369558135105652 : Int64)) (by decide) (by decide +kernel)
    have e8 := kw_eq hK h3 (w := [99, 97, 115, 101]) (q := 18) (l1 := (1667330917 : Int64)) (by decide) (by decide +kernel)
    have e9 := kw_eq hK h3 (w := [97, 112, 112, 108, 121]) (q := 19) (l1 := (418498243705 : Int64)) (by decide) (by decide +kernel)
    have e10 := kw_eq hK h3 (w := [100, 101, 100, 117, 99, 101]) (q := 20) (l1 := (110386639889253 : Int64)) (by decide) (by decide +kernel)
    have e11 := kw_eq hK h3 (w := [103, 101, 110, 101, 114, 97, 108]) (q := 21) (l1 := (29103447424000364 : Int64)) (by decide) (by decide +kernel)
    have e12 := kw_eq hK h3 (w := [115, 112, 101, 99, 105, 97, 108]) (q := 22) (l1 := (32493203083583852 : Int64)) (by decide) (by decide +kernel)
    have e13 := kw_eq hK h3 (w := [101, 120, 105, 115, 116]) (q := 23) (l1 := (435811873652 : Int64)) (by decide) (by decide +kernel)
    have e14 := kw_eq hK h3 (w := [111, 112, 101, 110]) (q := 24) (l1 := (1869636974 : Int64)) (by decide) (by decide +kernel)
    have e15 := kw_eq hK h3 (w := [115, 97, 109, 101]) (q := 6) (l1 := (1935764837 : Int64)) (by decide) (by decide +kernel)
    have e16 := kw_eq hK h3 (w := [114, 101, 112, 108, 97, 99, 101]) (q := 25) (l1 := (32199680874079077 : Int64)) (by decide) (by decide +kernel)
    have e17 := kw_eq hK h3 (w := [97, 98, 115, 117, 114, 100]) (q := 26) (l1 := (107075471766116 : Int64)) (by decide) (by decide +kernel)
    have e18 := kw_eq hK h3 (w := [99, 108, 97, 115, 115, 105, 99]) (q := 27) (l1 := (27985188498925923 : Int64)) (by decide) (by decide +kernel)
    refine ⟨fun w0 => ?_, fun w0 => ?_⟩
    · have w0 := e0.2 w0
      refine ⟨fun w1 => ?_, fun w1 => ?_⟩
      · have w1 := e1.2 w1
        refine ⟨fun w2 => ?_, fun w2 => ?_⟩
        · have w2 := e2.2 w2
          refine ⟨fun w3 => ?_, fun w3 => ?_⟩
          · have w3 := e3.2 w3
            refine ⟨fun w4 => ?_, fun w4 => ?_⟩
            · have w4 := e4.2 w4
              refine ⟨fun w5 => ?_, fun w5 => ?_⟩
              · have w5 := e5.2 w5
                refine ⟨fun w6 => ?_, fun w6 => ?_⟩
                · have w6 := e6.2 w6
                  refine ⟨fun w7 => ?_, fun w7 => ?_⟩
                  · have w7 := e7.2 w7
                    refine ⟨fun w8 => ?_, fun w8 => ?_⟩
                    · have w8 := e8.2 w8
                      refine ⟨fun w9 => ?_, fun w9 => ?_⟩
                      · have w9 := e9.2 w9
                        refine ⟨fun w10 => ?_, fun w10 => ?_⟩
                        · have w10 := e10.2 w10
                          refine ⟨fun w11 => ?_, fun w11 => ?_⟩
                          · have w11 := e11.2 w11
                            refine ⟨fun w12 => ?_, fun w12 => ?_⟩
                            · have w12 := e12.2 w12
                              refine ⟨fun w13 => ?_, fun w13 => ?_⟩
                              · have w13 := e13.2 w13
                                refine ⟨fun w14 => ?_, fun w14 => ?_⟩
                                · have w14 := e14.2 w14
                                  refine ⟨fun w15 => ?_, fun w15 => ?_⟩
                                  · have w15 := e15.2 w15
                                    refine ⟨fun w16 => ?_, fun w16 => ?_⟩
                                    · have w16 := e16.2 w16
                                      refine ⟨fun w17 => ?_, fun w17 => ?_⟩
                                      · have w17 := e17.2 w17
                                        refine ⟨fun w18 => ?_, fun w18 => ?_⟩
                                        · have w18 := e18.2 w18
                                          exact k0 _ (fun z => by have z2 := z.2; unfold tp_ok at z2; omega) (by decide)
                                        · have w18 := e18.1 w18
                                          exact k1 _ h3 (by rw [w18]; decide) (by rw [w18]; decide)
                                      · have w17 := e17.1 w17
                                        exact k1 _ h3 (by rw [w17]; decide) (by rw [w17]; decide)
                                    · have w16 := e16.1 w16
                                      exact k1 _ h3 (by rw [w16]; decide) (by rw [w16]; decide)
                                  · have w15 := e15.1 w15
                                    exact k1 _ h3 (by rw [w15]; decide) (by rw [w15]; decide)
                                · have w14 := e14.1 w14
                                  exact k1 _ h3 (by rw [w14]; decide) (by rw [w14]; decide)
                              · have w13 := e13.1 w13
                                exact k1 _ h3 (by rw [w13]; decide) (by rw [w13]; decide)
                            · have w12 := e12.1 w12
                              exact k1 _ h3 (by rw [w12]; decide) (by rw [w12]; decide)
                          · have w11 := e11.1 w11
                            exact k1 _ h3 (by rw [w11]; decide) (by rw [w11]; decide)
                        · have w10 := e10.1 w10
                          exact k1 _ h3 (by rw [w10]; decide) (by rw [w10]; decide)
                      · have w9 := e9.1 w9
                        exact k1 _ h3 (by rw [w9]; decide) (by rw [w9]; decide)
                    · have w8 := e8.1 w8
                      exact k1 _ h3 (by rw [w8]; decide) (by rw [w8]; decide)
                  · have w7 := e7.1 w7
                    exact k1 _ h3 (by rw [w7]; decide) (by rw [w7]; decide)
                · have w6 := e6.1 w6
                  exact k1 _ h3 (by rw [w6]; decide) (by rw [w6]; decide)
              · have w5 := e5.1 w5
                exact k1 _ h3 (by rw [w5]; decide) (by rw [w5]; decide)
            · have w4 := e4.1 w4
              exact k1 _ h3 (by rw [w4]; decide) (by rw [w4]; decide)
          · have w3 := e3.1 w3
            exact k1 _ h3 (by rw [w3]; decide) (by rw [w3]; decide)
        · have w2 := e2.1 w2
          exact k1 _ h3 (by rw [w2]; decide) (by rw [w2]; decide)
      · have w1 := e1.1 w1
        exact k1 _ h3 (by rw [w1]; decide) (by rw [w1]; decide)
    · have w0 := e0.1 w0
      exact k1 _ h3 (by rw [w0]; decide) (by rw [w0]; decide)
  · have w : (ps_i s 1131 9).toInt ≠ 3 := xne w
    exact k0 _ (fun z => by omega) (by decide)

