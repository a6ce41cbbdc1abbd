set_option maxRecDepth 100000
-- ProofBenchModel.push(IZ)V
theorem pg_211_0 {d : Nat} {x1 : Int32} {x2 : Int32} {s : ps_S} {Q : Option Value → ps_S → Prop} (h :
  ps_nd (pm_in (ps_i s 1131 29) 16) (ps_nd (pm_in (ps_i (ps_ua s 1144 (Int32.toNatClampNeg (ps_i s 1131 29)) x1) 1131 29) 16) (ps_nd (pm_in (ps_i (ps_ua (ps_ua s 1144 (Int32.toNatClampNeg (ps_i s 1131 29)) x1) 1145 (Int32.toNatClampNeg (ps_i (ps_ua s 1144 (Int32.toNatClampNeg (ps_i s 1131 29)) x1) 1131 29)) (x2 &&& 1)) 1131 29) 16) (ps_nd (pm_in (ps_i (ps_ua (ps_ua (ps_ua s 1144 (Int32.toNatClampNeg (ps_i s 1131 29)) x1) 1145 (Int32.toNatClampNeg (ps_i (ps_ua s 1144 (Int32.toNatClampNeg (ps_i s 1131 29)) x1) 1131 29)) (x2 &&& 1)) 1146 (Int32.toNatClampNeg (ps_i (ps_ua (ps_ua s 1144 (Int32.toNatClampNeg (ps_i s 1131 29)) x1) 1145 (Int32.toNatClampNeg (ps_i (ps_ua s 1144 (Int32.toNatClampNeg (ps_i s 1131 29)) x1) 1131 29)) (x2 &&& 1)) 1131 29)) ((0 : Int32) &&& 1)) 1131 29) 16) (Q none (ps_ui (ps_ua (ps_ua (ps_ua (ps_ua s 1144 (Int32.toNatClampNeg (ps_i s 1131 29)) x1) 1145 (Int32.toNatClampNeg (ps_i (ps_ua s 1144 (Int32.toNatClampNeg (ps_i s 1131 29)) x1) 1131 29)) (x2 &&& 1)) 1146 (Int32.toNatClampNeg (ps_i (ps_ua (ps_ua s 1144 (Int32.toNatClampNeg (ps_i s 1131 29)) x1) 1145 (Int32.toNatClampNeg (ps_i (ps_ua s 1144 (Int32.toNatClampNeg (ps_i s 1131 29)) x1) 1131 29)) (x2 &&& 1)) 1131 29)) ((0 : Int32) &&& 1)) 1147 (Int32.toNatClampNeg (ps_i (ps_ua (ps_ua (ps_ua s 1144 (Int32.toNatClampNeg (ps_i s 1131 29)) x1) 1145 (Int32.toNatClampNeg (ps_i (ps_ua s 1144 (Int32.toNatClampNeg (ps_i s 1131 29)) x1) 1131 29)) (x2 &&& 1)) 1146 (Int32.toNatClampNeg (ps_i (ps_ua (ps_ua s 1144 (Int32.toNatClampNeg (ps_i s 1131 29)) x1) 1145 (Int32.toNatClampNeg (ps_i (ps_ua s 1144 (Int32.toNatClampNeg (ps_i s 1131 29)) x1) 1131 29)) (x2 &&& 1)) 1131 29)) ((0 : Int32) &&& 1)) 1131 29)) ((0 : Int32) &&& 1)) 1131 29 ((ps_i (ps_ua (ps_ua (ps_ua (ps_ua s 1144 (Int32.toNatClampNeg (ps_i s 1131 29)) x1) 1145 (Int32.toNatClampNeg (ps_i (ps_ua s 1144 (Int32.toNatClampNeg (ps_i s 1131 29)) x1) 1131 29)) (x2 &&& 1)) 1146 (Int32.toNatClampNeg (ps_i (ps_ua (ps_ua s 1144 (Int32.toNatClampNeg (ps_i s 1131 29)) x1) 1145 (Int32.toNatClampNeg (ps_i (ps_ua s 1144 (Int32.toNatClampNeg (ps_i s 1131 29)) x1) 1131 29)) (x2 &&& 1)) 1131 29)) ((0 : Int32) &&& 1)) 1147 (Int32.toNatClampNeg (ps_i (ps_ua (ps_ua (ps_ua s 1144 (Int32.toNatClampNeg (ps_i s 1131 29)) x1) 1145 (Int32.toNatClampNeg (ps_i (ps_ua s 1144 (Int32.toNatClampNeg (ps_i s 1131 29)) x1) 1131 29)) (x2 &&& 1)) 1146 (Int32.toNatClampNeg (ps_i (ps_ua (ps_ua s 1144 (Int32.toNatClampNeg (ps_i s 1131 29)) x1) 1145 (Int32.toNatClampNeg (ps_i (ps_ua s 1144 (Int32.toNatClampNeg (ps_i s 1131 29)) x1) 1131 29)) (x2 &&& 1)) 1131 29)) ((0 : Int32) &&& 1)) 1131 29)) ((0 : Int32) &&& 1)) 1131 29) + 1))))))) : ps_At d 211 0 [(0, .ref 1131), (1, .int x1), (2, .int x2)] [] s Q :=
  ps_wp_at (stops := []) (n := 33) h rfl

theorem ms_211 {x : Nat → Nat → Nat} {t : Int32} {s : ps_S} {d : Nat} {x1 : Int32} {x2 : Int32} {f : ps_S → Prop} (J : mJ x t s) (q0 : (ps_i s 1131 29).toInt ≤ 14) (k : ∀ (s' : ps_S), mJ x t s' → kp [1144, 1145, 1146, 1147] [29] s s' → ((ps_i s' 1131 29).toInt = (ps_i s 1131 29).toInt + 1) → (∀ i : Nat, ps_a s' 1144 i = if i = (ps_i s 1131 29).toInt.toNat then x1 else ps_a s 1144 i) → (∀ i : Nat, ps_a s' 1145 i = if i = (ps_i s 1131 29).toInt.toNat then (x2 &&& 1) else ps_a s 1145 i) → (∀ i : Nat, ps_a s' 1146 i = if i = (ps_i s 1131 29).toInt.toNat then ((0 : Int32) &&& 1) else ps_a s 1146 i) → (∀ i : Nat, ps_a s' 1147 i = if i = (ps_i s 1131 29).toInt.toNat then ((0 : Int32) &&& 1) else ps_a s 1147 i) → f s') : ps_Cl d 211 [.ref 1131, .int x1, .int x2] s (ps_rV f) := by
  have r1 := mf_29 J
  have K : kp [1144, 1145, 1146, 1147] [29] s s := kp_refl
  refine pg_211_0 ?_
  refine ps_nd_i (show pm_in (ps_i s 1131 29) 16 = true from xgi (show 0 ≤ (ps_i s 1131 29).toInt from by omega) (show (ps_i s 1131 29).toInt < 16 from by omega)) ?_
  have J2 := mwa_n 1144 (i := (Int32.toNatClampNeg (ps_i s 1131 29))) (v := x1) J rfl (by decide)
  have K3 := kpa' K (r := 1144) (i := (Int32.toNatClampNeg (ps_i s 1131 29))) (v := x1) rfl
  refine ps_nd_i (show pm_in (ps_i s 1131 29) 16 = true from xgi (show 0 ≤ (ps_i s 1131 29).toInt from by omega) (show (ps_i s 1131 29).toInt < 16 from by omega)) ?_
  have J4 := mwa_n 1145 (i := (Int32.toNatClampNeg (ps_i s 1131 29))) (v := (x2 &&& 1)) J2 rfl (by decide)
  have K5 := kpa' K3 (r := 1145) (i := (Int32.toNatClampNeg (ps_i s 1131 29))) (v := (x2 &&& 1)) rfl
  refine ps_nd_i (show pm_in (ps_i s 1131 29) 16 = true from xgi (show 0 ≤ (ps_i s 1131 29).toInt from by omega) (show (ps_i s 1131 29).toInt < 16 from by omega)) ?_
  have J6 := mwa_n 1146 (i := (Int32.toNatClampNeg (ps_i s 1131 29))) (v := ((0 : Int32) &&& 1)) J4 rfl (by decide)
  have K7 := kpa' K5 (r := 1146) (i := (Int32.toNatClampNeg (ps_i s 1131 29))) (v := ((0 : Int32) &&& 1)) rfl
  refine ps_nd_i (show pm_in (ps_i s 1131 29) 16 = true from xgi (show 0 ≤ (ps_i s 1131 29).toInt from by omega) (show (ps_i s 1131 29).toInt < 16 from by omega)) ?_
  have J8 := mwa_n 1147 (i := (Int32.toNatClampNeg (ps_i s 1131 29))) (v := ((0 : Int32) &&& 1)) J6 rfl (by decide)
  have K9 := kpa' K7 (r := 1147) (i := (Int32.toNatClampNeg (ps_i s 1131 29))) (v := ((0 : Int32) &&& 1)) rfl
  have a10 : ((ps_i s 1131 29) + 1).toInt = (ps_i s 1131 29).toInt + (1 : Int) := xIa (show -2147483648 ≤ (ps_i s 1131 29).toInt + (1 : Int) from by omega) (show (ps_i s 1131 29).toInt + (1 : Int) < 2147483648 from by omega)
  have J11 := mwi_29 (v := ((ps_i s 1131 29) + 1)) J8 (show 0 ≤ ((ps_i s 1131 29) + 1).toInt from by omega) (show ((ps_i s 1131 29) + 1).toInt ≤ 16 from by omega)
  have K12 := kpi K9 (q := 29) (v := ((ps_i s 1131 29) + 1)) rfl
  exact k _ J11 K12 (show ((ps_i s 1131 29) + 1).toInt = (ps_i s 1131 29).toInt + 1 from by omega) (fun i => ua_if) (fun i => ua_if) (fun i => ua_if) (fun i => ua_if)

-- ProofBenchModel.pieceHere()I
theorem pg_213_0 {d : Nat} {s : ps_S} {Q : Option Value → ps_S → Prop} (h :
  ps_Cl d 195 [.ref 1131, .long (439721161573 : Int64)] s (ps_rI (fun v1 s1 =>
    (v1 = 0 →
      ps_Cl d 195 [.ref 1131, .long (6385252 : Int64)] s1 (ps_rI (fun v2 s2 =>
        (v2 = 0 →
          ps_Cl d 195 [.ref 1131, .long (28530 : Int64)] s2 (ps_rI (fun v3 s3 =>
            (v3 = 0 →
              ps_Cl d 195 [.ref 1131, .long (6909296 : Int64)] s3 (ps_rI (fun v4 s4 =>
                (v4 ≠ 0 →
                  Q (some (.int 3)) s4) ∧
                (v4 = 0 →
                  ps_Cl d 195 [.ref 1131, .long (7237492 : Int64)] s4 (ps_rI (fun v5 s5 =>
                    (v5 = 0 →
                      ps_Cl d 195 [.ref 1131, .long (6384748 : Int64)] s5 (ps_rI (fun v6 s6 =>
                        (v6 = 0 →
                          ps_Cl d 195 [.ref 1131, .long (1936682341 : Int64)] s6 (ps_rI (fun v7 s7 =>
                            (v7 = 0 →
                              ps_Cl d 195 [.ref 1131, .long (1935764837 : Int64)] s7 (ps_rI (fun v8 s8 =>
                                (v8 = 0 →
                                  ps_Cl d 206 [.ref 1131] s8 (ps_rI (fun v9 s9 =>
                                    (0 ≤ v9 →
                                      ps_Cl d 206 [.ref 1131] s9 (ps_rI (fun v10 s10 =>
                                        Q (some (.int ((10 : Int32) + v10))) s10))) ∧
                                    (v9 < 0 →
                                      Q (some (.int (-1))) s9)))) ∧
                                (v8 ≠ 0 →
                                  Q (some (.int 6)) s8)))) ∧
                            (v7 ≠ 0 →
                              Q (some (.int 5)) s7)))) ∧
                        (v6 ≠ 0 →
                          Q (some (.int 4)) s6)))) ∧
                    (v5 ≠ 0 →
                      Q (some (.int 3)) s5))))))) ∧
            (v3 ≠ 0 →
              Q (some (.int 2)) s3)))) ∧
        (v2 ≠ 0 →
          Q (some (.int 1)) s2)))) ∧
    (v1 ≠ 0 →
      Q (some (.int 0)) s1)))) : ps_At (d + 1) 213 0 [(0, .ref 1131)] [] s Q :=
  ps_wp_at (stops := []) (n := 61) h rfl

theorem ms_213 {x : Nat → Nat → Nat} {t : Int32} {s : ps_S} {d : Nat} {f : Int32 → ps_S → Prop} (J : mJ x t s) (k : ∀ (v : Int32), (v.toInt = -1 ∨ (0 ≤ v.toInt ∧ v.toInt ≤ 6) ∨ (10 ≤ v.toInt ∧ v.toInt < 10 + (ps_a s 1135 (Int32.toNatClampNeg (ps_i s 1131 22))).toInt)) → ((ps_i s 1131 9).toInt = 3 ∧ (lg_cmp (ps_j s 1131 11) (7237492 : Int64)).toInt = 0 → v.toInt = 3) → f v s) : ps_Cl (d + 1) 213 [.ref 1131] s (ps_rI f) := by
  refine pg_213_0 (d := d) ?_
  refine mx_195 J  (fun v1 p1_0 p1_1 p1_2 p1_3 b1 => ?_)
  have p1_0' : 0 ≤ v1.toInt := p1_0
  have p1_1' : v1.toInt ≤ 1 := p1_1
  have w4 : _ := p1_2
  refine And.intro (fun h2 => ?_) (fun h2 => ?_)
  · have f3 : v1.toInt = (0 : Int) := xeq h2
    refine mx_195 J  (fun v4 p4_0 p4_1 p4_2 p4_3 b4 => ?_)
    have p4_0' : 0 ≤ v4.toInt := p4_0
    have p4_1' : v4.toInt ≤ 1 := p4_1
    have w16 : _ := p4_2
    refine And.intro (fun h5 => ?_) (fun h5 => ?_)
    · have f6 : v4.toInt = (0 : Int) := xeq h5
      refine mx_195 J  (fun v7 p7_0 p7_1 p7_2 p7_3 b7 => ?_)
      have p7_0' : 0 ≤ v7.toInt := p7_0
      have p7_1' : v7.toInt ≤ 1 := p7_1
      have w28 : _ := p7_2
      refine And.intro (fun h8 => ?_) (fun h8 => ?_)
      · have f9 : v7.toInt = (0 : Int) := xeq h8
        refine mx_195 J  (fun v10 p10_0 p10_1 p10_2 p10_3 b10 => ?_)
        have p10_0' : 0 ≤ v10.toInt := p10_0
        have p10_1' : v10.toInt ≤ 1 := p10_1
        refine And.intro (fun h11 => ?_) (fun h11 => ?_)
        · have f12 : v10.toInt ≠ (0 : Int) := xne h11
          have r13 := mf_22 J
          have r14 : 0 ≤ (ps_a s 1135 (Int32.toNatClampNeg (ps_i s 1131 22))).toInt ∧ (ps_a s 1135 (Int32.toNatClampNeg (ps_i s 1131 22))).toInt ≤ 6 := ma_1135 (i := (ps_i s 1131 22)) J (show 0 ≤ (ps_i s 1131 22).toInt from by omega) (show (ps_i s 1131 22).toInt < 2 from by omega)
          exact k (3 : Int32) (show (3 : Int) = -1 ∨ (0 ≤ (3 : Int) ∧ (3 : Int) ≤ 6) ∨ (10 ≤ (3 : Int) ∧ (3 : Int) < 10 + (ps_a s 1135 (Int32.toNatClampNeg (ps_i s 1131 22))).toInt) from by omega) (fun _ => (by decide))
        · have f15 : v10.toInt = (0 : Int) := xeq h11
          refine mx_195 J  (fun v16 p16_0 p16_1 p16_2 p16_3 b16 => ?_)
          have p16_0' : 0 ≤ v16.toInt := p16_0
          have p16_1' : v16.toInt ≤ 1 := p16_1
          have w50 : _ := p16_3
          refine And.intro (fun h17 => ?_) (fun h17 => ?_)
          · have f18 : v16.toInt = (0 : Int) := xeq h17
            refine mx_195 J  (fun v19 p19_0 p19_1 p19_2 p19_3 b19 => ?_)
            have p19_0' : 0 ≤ v19.toInt := p19_0
            have p19_1' : v19.toInt ≤ 1 := p19_1
            refine And.intro (fun h20 => ?_) (fun h20 => ?_)
            · have f21 : v19.toInt = (0 : Int) := xeq h20
              refine mx_195 J  (fun v22 p22_0 p22_1 p22_2 p22_3 b22 => ?_)
              have p22_0' : 0 ≤ v22.toInt := p22_0
              have p22_1' : v22.toInt ≤ 1 := p22_1
              refine And.intro (fun h23 => ?_) (fun h23 => ?_)
              · have f24 : v22.toInt = (0 : Int) := xeq h23
                refine mx_195 J  (fun v25 p25_0 p25_1 p25_2 p25_3 b25 => ?_)
                have p25_0' : 0 ≤ v25.toInt := p25_0
                have p25_1' : v25.toInt ≤ 1 := p25_1
                refine And.intro (fun h26 => ?_) (fun h26 => ?_)
                · have f27 : v25.toInt = (0 : Int) := xeq h26
                  refine mx_206 J  (fun v28 p28_0 p28_1 p28_2 p28_3 => ?_)
                  have p28_0' : -1 ≤ v28.toInt := p28_0
                  have p28_1' : v28.toInt < (ps_a s 1135 (Int32.toNatClampNeg (ps_i s 1131 22))).toInt := p28_1
                  have r29 := mf_22 J
                  have r30 : 0 ≤ (ps_a s 1135 (Int32.toNatClampNeg (ps_i s 1131 22))).toInt ∧ (ps_a s 1135 (Int32.toNatClampNeg (ps_i s 1131 22))).toInt ≤ 6 := ma_1135 (i := (ps_i s 1131 22)) J (show 0 ≤ (ps_i s 1131 22).toInt from by omega) (show (ps_i s 1131 22).toInt < 2 from by omega)
                  have hz : _ := p28_2
                  refine And.intro (fun h31 => ?_) (fun h31 => ?_)
                  · have f32 : (0 : Int) ≤ v28.toInt := xle h31
                    refine mx_206 J  (fun v33 p33_0 p33_1 p33_2 p33_3 => ?_)
                    have p33_0' : -1 ≤ v33.toInt := p33_0
                    have p33_1' : v33.toInt < (ps_a s 1135 (Int32.toNatClampNeg (ps_i s 1131 22))).toInt := p33_1
                    have hz2 : _ := p33_3
                    have hv0 : 0 ≤ (v33).toInt := (by rcases Int.lt_or_le (v33).toInt 0 with q | q; exact absurd (hz (by omega)) (hz2 (by omega) _ (by omega) (by omega)); exact q)
                    have a34 : ((10 : Int32) + v33).toInt = (10 : Int) + v33.toInt := xIa (show -2147483648 ≤ (10 : Int) + v33.toInt from by omega) (show (10 : Int) + v33.toInt < 2147483648 from by omega)
                    exact k ((10 : Int32) + v33) (show ((10 : Int32) + v33).toInt = -1 ∨ (0 ≤ ((10 : Int32) + v33).toInt ∧ ((10 : Int32) + v33).toInt ≤ 6) ∨ (10 ≤ ((10 : Int32) + v33).toInt ∧ ((10 : Int32) + v33).toInt < 10 + (ps_a s 1135 (Int32.toNatClampNeg (ps_i s 1131 22))).toInt) from by omega) (fun h => (by exfalso; have h1 := h.1; have h2 := h.2; omega))
                  · have f35 : v28.toInt < (0 : Int) := xlt h31
                    exact k (-1 : Int32) (show (-1 : Int) = -1 ∨ (0 ≤ (-1 : Int) ∧ (-1 : Int) ≤ 6) ∨ (10 ≤ (-1 : Int) ∧ (-1 : Int) < 10 + (ps_a s 1135 (Int32.toNatClampNeg (ps_i s 1131 22))).toInt) from by omega) (fun h => (by exfalso; have h1 := h.1; have h2 := h.2; omega))
                · have f36 : v25.toInt ≠ (0 : Int) := xne h26
                  have r37 := mf_22 J
                  have r38 : 0 ≤ (ps_a s 1135 (Int32.toNatClampNeg (ps_i s 1131 22))).toInt ∧ (ps_a s 1135 (Int32.toNatClampNeg (ps_i s 1131 22))).toInt ≤ 6 := ma_1135 (i := (ps_i s 1131 22)) J (show 0 ≤ (ps_i s 1131 22).toInt from by omega) (show (ps_i s 1131 22).toInt < 2 from by omega)
                  exact k (6 : Int32) (show (6 : Int) = -1 ∨ (0 ≤ (6 : Int) ∧ (6 : Int) ≤ 6) ∨ (10 ≤ (6 : Int) ∧ (6 : Int) < 10 + (ps_a s 1135 (Int32.toNatClampNeg (ps_i s 1131 22))).toInt) from by omega) (fun h => (by exfalso; have h1 := h.1; have h2 := h.2; omega))
              · have f39 : v22.toInt ≠ (0 : Int) := xne h23
                have r40 := mf_22 J
                have r41 : 0 ≤ (ps_a s 1135 (Int32.toNatClampNeg (ps_i s 1131 22))).toInt ∧ (ps_a s 1135 (Int32.toNatClampNeg (ps_i s 1131 22))).toInt ≤ 6 := ma_1135 (i := (ps_i s 1131 22)) J (show 0 ≤ (ps_i s 1131 22).toInt from by omega) (show (ps_i s 1131 22).toInt < 2 from by omega)
                exact k (5 : Int32) (show (5 : Int) = -1 ∨ (0 ≤ (5 : Int) ∧ (5 : Int) ≤ 6) ∨ (10 ≤ (5 : Int) ∧ (5 : Int) < 10 + (ps_a s 1135 (Int32.toNatClampNeg (ps_i s 1131 22))).toInt) from by omega) (fun h => (by exfalso; have h1 := h.1; have h2 := h.2; omega))
            · have f42 : v19.toInt ≠ (0 : Int) := xne h20
              have r43 := mf_22 J
              have r44 : 0 ≤ (ps_a s 1135 (Int32.toNatClampNeg (ps_i s 1131 22))).toInt ∧ (ps_a s 1135 (Int32.toNatClampNeg (ps_i s 1131 22))).toInt ≤ 6 := ma_1135 (i := (ps_i s 1131 22)) J (show 0 ≤ (ps_i s 1131 22).toInt from by omega) (show (ps_i s 1131 22).toInt < 2 from by omega)
              exact k (4 : Int32) (show (4 : Int) = -1 ∨ (0 ≤ (4 : Int) ∧ (4 : Int) ≤ 6) ∨ (10 ≤ (4 : Int) ∧ (4 : Int) < 10 + (ps_a s 1135 (Int32.toNatClampNeg (ps_i s 1131 22))).toInt) from by omega) (fun h => (by exfalso; have h1 := h.1; have h2 := h.2; omega))
          · have f45 : v16.toInt ≠ (0 : Int) := xne h17
            have r46 := mf_22 J
            have r47 : 0 ≤ (ps_a s 1135 (Int32.toNatClampNeg (ps_i s 1131 22))).toInt ∧ (ps_a s 1135 (Int32.toNatClampNeg (ps_i s 1131 22))).toInt ≤ 6 := ma_1135 (i := (ps_i s 1131 22)) J (show 0 ≤ (ps_i s 1131 22).toInt from by omega) (show (ps_i s 1131 22).toInt < 2 from by omega)
            exact k (3 : Int32) (show (3 : Int) = -1 ∨ (0 ≤ (3 : Int) ∧ (3 : Int) ≤ 6) ∨ (10 ≤ (3 : Int) ∧ (3 : Int) < 10 + (ps_a s 1135 (Int32.toNatClampNeg (ps_i s 1131 22))).toInt) from by omega) (fun _ => (by decide))
      · have f48 : v7.toInt ≠ (0 : Int) := xne h8
        have r49 := mf_22 J
        have r50 : 0 ≤ (ps_a s 1135 (Int32.toNatClampNeg (ps_i s 1131 22))).toInt ∧ (ps_a s 1135 (Int32.toNatClampNeg (ps_i s 1131 22))).toInt ≤ 6 := ma_1135 (i := (ps_i s 1131 22)) J (show 0 ≤ (ps_i s 1131 22).toInt from by omega) (show (ps_i s 1131 22).toInt < 2 from by omega)
        exact k (2 : Int32) (show (2 : Int) = -1 ∨ (0 ≤ (2 : Int) ∧ (2 : Int) ≤ 6) ∨ (10 ≤ (2 : Int) ∧ (2 : Int) < 10 + (ps_a s 1135 (Int32.toNatClampNeg (ps_i s 1131 22))).toInt) from by omega) (fun h => absurd (lgx h.2 (w28.resolve_left (by omega)).2) (by decide))
    · have f51 : v4.toInt ≠ (0 : Int) := xne h5
      have r52 := mf_22 J
      have r53 : 0 ≤ (ps_a s 1135 (Int32.toNatClampNeg (ps_i s 1131 22))).toInt ∧ (ps_a s 1135 (Int32.toNatClampNeg (ps_i s 1131 22))).toInt ≤ 6 := ma_1135 (i := (ps_i s 1131 22)) J (show 0 ≤ (ps_i s 1131 22).toInt from by omega) (show (ps_i s 1131 22).toInt < 2 from by omega)
      exact k (1 : Int32) (show (1 : Int) = -1 ∨ (0 ≤ (1 : Int) ∧ (1 : Int) ≤ 6) ∨ (10 ≤ (1 : Int) ∧ (1 : Int) < 10 + (ps_a s 1135 (Int32.toNatClampNeg (ps_i s 1131 22))).toInt) from by omega) (fun h => absurd (lgx h.2 (w16.resolve_left (by omega)).2) (by decide))
  · have f54 : v1.toInt ≠ (0 : Int) := xne h2
    have r55 := mf_22 J
    have r56 : 0 ≤ (ps_a s 1135 (Int32.toNatClampNeg (ps_i s 1131 22))).toInt ∧ (ps_a s 1135 (Int32.toNatClampNeg (ps_i s 1131 22))).toInt ≤ 6 := ma_1135 (i := (ps_i s 1131 22)) J (show 0 ≤ (ps_i s 1131 22).toInt from by omega) (show (ps_i s 1131 22).toInt < 2 from by omega)
    exact k (0 : Int32) (show (0 : Int) = -1 ∨ (0 ≤ (0 : Int) ∧ (0 : Int) ≤ 6) ∨ (10 ≤ (0 : Int) ∧ (0 : Int) < 10 + (ps_a s 1135 (Int32.toNatClampNeg (ps_i s 1131 22))).toInt) from by omega) (fun h => absurd (lgx h.2 (w4.resolve_left (by omega)).2) (by decide))
