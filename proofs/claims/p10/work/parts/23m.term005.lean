set_option maxRecDepth 100000
theorem ms_215 {x : Nat → Nat → Nat} {t : Int32} {s : ps_S} {d : Nat} {x1 : Int32} {f : ps_S → Prop} (J : mJ x t s) {σ : mSig} {l : List Nat} {b : Bool} (hS2 : Sg (ps_a s 1135) (ps_a s 1136) (ps_a s 1138) (ps_a s 1139) (ps_i s 1131 22).toInt σ) (hR : Rw (ps_a s 1134) x1.toInt (l)) (hH0 : RH σ (ps_a s 1144) (ps_a s 1145) (ps_a s 1146) (ps_a s 1147) (ps_i s 1131 29).toInt (ps_i s 1131 30).toInt (ps_i s 1131 31).toInt (ps_i s 1131 32).toInt (l) b false) (q3 : (ps_i s 1131 8).toInt ≤ (ps_i s 1131 4).toInt) (q4 : (ps_i s 1131 5).toInt = 0) (q5 : (ps_i s 1131 29).toInt ≤ 13) (q6 : 0 ≤ (ps_i s 1131 30).toInt) (q7 : (ps_i s 1131 30).toInt ≤ 5) (q8 : (ps_i s 1131 31).toInt ≤ 40) (k : ∀ (s' : ps_S), mJ x t s' → kp [1134, 1143, 1144, 1145, 1146, 1147] [5, 6, 7, 8, 9, 10, 11, 23, 29, 31] s s' → ((ps_i s' 1131 8).toInt ≤ (ps_i s' 1131 4).toInt) → (1 ≤ (ps_i s' 1131 5).toInt ∨ ((ps_i s' 1131 29).toInt ≤ 13 ∧ 0 ≤ (ps_i s' 1131 30).toInt ∧ (ps_i s' 1131 30).toInt ≤ 5 ∧ (ps_i s' 1131 31).toInt ≤ 40 ∧ (ps_i s 1131 31).toInt < (ps_i s' 1131 31).toInt)) → ((ps_i s 1131 31).toInt ≤ (ps_i s' 1131 31).toInt) → (1 ≤ (ps_i s' 1131 5).toInt ∨ ∃ l2, Rw (ps_a s' 1134) x1.toInt l2 ∧ RQ σ (ps_a s' 1144) (ps_a s' 1145) (ps_a s' 1146) (ps_a s' 1147) (ps_i s' 1131 29).toInt (ps_i s' 1131 30).toInt (ps_i s' 1131 31).toInt (ps_i s' 1131 32).toInt l2 b) → (∀ i : Nat, (i : Int) < x1.toInt ∨ x1.toInt + 41 ≤ (i : Int) → ps_a s' 1134 i = ps_a s 1134 i) → f s') : ps_Cl (d + 4) 215 [.ref 1131, .int x1] s (ps_rV f) := by
  have r1 := mf_8 J
  have r2 := mf_4 J
  have r3 := mf_5 J
  have r4 := mf_29 J
  have r5 := mf_31 J
  have K : kp [1134, 1143, 1144, 1145, 1146, 1147] [5, 6, 7, 8, 9, 10, 11, 23, 29, 31] s s := kp_refl
  refine pg_215_0 (d := d + 3) ?_
  have hO : ∀ i : Nat, (i : Int) < x1.toInt ∨ x1.toInt + 41 ≤ (i : Int) → ps_a s 1134 i = ps_a s 1134 i := fun i _ => rfl
  have r6 := mf_9 J
  refine And.intro (fun h7 => ?_) (fun h7 => ?_)
  · have f8 : (ps_i s 1131 9).toInt ≠ (2 : Int) := xne h7
    exact ms_215_19 (x1 := x1) (σ := σ) (l := l) (b := b) k   _ J K hS2 hR hH0 hO (show (ps_i s 1131 8).toInt ≤ (ps_i s 1131 4).toInt from by omega) (show (ps_i s 1131 29).toInt ≤ 13 from by omega) (show 0 ≤ (ps_i s 1131 30).toInt from by omega) (show (ps_i s 1131 30).toInt ≤ 5 from by omega) (show (ps_i s 1131 31).toInt ≤ 40 from by omega) (show (ps_i s 1131 31).toInt = (ps_i s 1131 31).toInt from by omega) (show (ps_i s 1131 5).toInt = 0 from by omega)
  · have f9 : (ps_i s 1131 9).toInt = (2 : Int) := xeq h7
    refine ms_206 J  (fun v10 p10_0 p10_1 => ?_)
    have p10_0' : -1 ≤ v10.toInt := p10_0
    have p10_1' : v10.toInt < (ps_a s 1135 (Int32.toNatClampNeg (ps_i s 1131 22))).toInt := p10_1
    have r11 := mf_22 J
    have r12 : 0 ≤ (ps_a s 1135 (Int32.toNatClampNeg (ps_i s 1131 22))).toInt ∧ (ps_a s 1135 (Int32.toNatClampNeg (ps_i s 1131 22))).toInt ≤ 6 := ma_1135 (i := (ps_i s 1131 22)) J (show 0 ≤ (ps_i s 1131 22).toInt from by omega) (show (ps_i s 1131 22).toInt < 2 from by omega)
    refine And.intro (fun h13 => ?_) (fun h13 => ?_)
    · have f14 : (0 : Int) ≤ v10.toInt := xle h13
      exact ms_215_19 (x1 := x1) (σ := σ) (l := l) (b := b) k   _ J K hS2 hR hH0 hO (show (ps_i s 1131 8).toInt ≤ (ps_i s 1131 4).toInt from by omega) (show (ps_i s 1131 29).toInt ≤ 13 from by omega) (show 0 ≤ (ps_i s 1131 30).toInt from by omega) (show (ps_i s 1131 30).toInt ≤ 5 from by omega) (show (ps_i s 1131 31).toInt ≤ 40 from by omega) (show (ps_i s 1131 31).toInt = (ps_i s 1131 31).toInt from by omega) (show (ps_i s 1131 5).toInt = 0 from by omega)
    · have f15 : v10.toInt < (0 : Int) := xlt h13
      refine And.intro (fun h16 => ?_) (fun h16 => ?_)
      · exact absurd (show (1 : Int32) = (0 : Int32) from h16) (by decide)
      · have f17 : (1 : Int) ≠ (0 : Int) := xne h16
        have a18 : ((ps_i s 1131 31) + 1).toInt = (ps_i s 1131 31).toInt + (1 : Int) := xIa (show -2147483648 ≤ (ps_i s 1131 31).toInt + (1 : Int) from by omega) (show (ps_i s 1131 31).toInt + (1 : Int) < 2147483648 from by omega)
        refine And.intro (fun h19 => ?_) (fun h19 => ?_)
        · have f20 : (40 : Int) < ((ps_i s 1131 31) + 1).toInt := xlt h19
          exact ms_215_45 (x1 := x1) (σ := σ) (l := l) (b := b) k   _ J K hS2 hR hH0 hO (show (ps_i s 1131 8).toInt ≤ (ps_i s 1131 4).toInt from by omega) (show (ps_i s 1131 29).toInt ≤ 13 from by omega) (show 0 ≤ (ps_i s 1131 30).toInt from by omega) (show (ps_i s 1131 30).toInt ≤ 5 from by omega) (show (ps_i s 1131 31).toInt ≤ 40 from by omega) (show (ps_i s 1131 31).toInt = (ps_i s 1131 31).toInt from by omega) (show (ps_i s 1131 5).toInt = 0 from by omega)
        · have f21 : ((ps_i s 1131 31) + 1).toInt ≤ (40 : Int) := xle h19
          refine And.intro (fun h22 => ?_) (fun h22 => ?_)
          · have f23 : (ps_i s 1131 29).toInt ≤ (12 : Int) := xle h22
            exact ms_215_49 (x1 := x1) (σ := σ) (l := l) (b := b) k   _ J K hS2 hR hH0 hO (show (ps_i s 1131 8).toInt ≤ (ps_i s 1131 4).toInt from by omega) (show (ps_i s 1131 29).toInt ≤ 13 from by omega) (show 0 ≤ (ps_i s 1131 30).toInt from by omega) (show (ps_i s 1131 30).toInt ≤ 5 from by omega) (show (ps_i s 1131 31).toInt ≤ 40 from by omega) (show (ps_i s 1131 31).toInt = (ps_i s 1131 31).toInt from by omega) (show 1 ≤ (ps_i s 1131 5).toInt ∨ ((ps_i s 1131 31).toInt + 1 ≤ 40 ∧ (ps_i s 1131 29).toInt ≤ 12) from by omega)
          · have f24 : (12 : Int) < (ps_i s 1131 29).toInt := xlt h22
            exact ms_215_45 (x1 := x1) (σ := σ) (l := l) (b := b) k   _ J K hS2 hR hH0 hO (show (ps_i s 1131 8).toInt ≤ (ps_i s 1131 4).toInt from by omega) (show (ps_i s 1131 29).toInt ≤ 13 from by omega) (show 0 ≤ (ps_i s 1131 30).toInt from by omega) (show (ps_i s 1131 30).toInt ≤ 5 from by omega) (show (ps_i s 1131 31).toInt ≤ 40 from by omega) (show (ps_i s 1131 31).toInt = (ps_i s 1131 31).toInt from by omega) (show (ps_i s 1131 5).toInt = 0 from by omega)

