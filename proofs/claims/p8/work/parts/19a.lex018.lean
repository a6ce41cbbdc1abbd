set_option maxRecDepth 100000
theorem ms_197 {x : Nat → Nat → Nat} {t : Int32} {s : ps_S} {d : Nat} {x1 : Int32} {f : ps_S → Prop} (J : mJ x t s) (q0 : (ps_i s 1131 8).toInt ≤ (ps_i s 1131 4).toInt) (k : ∀ (s' : ps_S), mJ x t s' → kp [] [5, 6, 7, 8, 9, 10, 11] s s' → ((ps_i s' 1131 8).toInt ≤ (ps_i s' 1131 4).toInt) → (1 ≤ (ps_i s 1131 5).toInt → 1 ≤ (ps_i s' 1131 5).toInt) → (x1.toInt = 0 → 1 ≤ (ps_i s' 1131 5).toInt) → f s') : ps_Cl (d + 2) 197 [.ref 1131, .int x1] s (ps_rV f) := by
  have r1 := mf_8 J
  have r2 := mf_4 J
  have K : kp [] [5, 6, 7, 8, 9, 10, 11] s s := kp_refl
  refine pg_197_0 (d := d + 1) ?_
  refine ms_192 J  (fun v3 p3_0 b3 => ?_)
  have p3_0' : (v3.toInt = 0 ∧ 1 ≤ (ps_i s 1131 5).toInt) ∨ (v3.toInt = 1 ∧ (ps_i s 1131 5).toInt = 0) := p3_0
  have r4 := mf_5 J
  refine And.intro (fun h5 => ?_) (fun h5 => ?_)
  · have f6 : v3.toInt ≠ (0 : Int) := xne h5
    refine And.intro (fun h7 => ?_) (fun h7 => ?_)
    · have f8 : x1.toInt = (0 : Int) := xeq h7
      refine ms_196 J  (fun s9 J9 K9 p9_0 => ?_)
      have K10 := kpt K K9 rfl rfl
      have p9_0' : 1 ≤ (ps_i s9 1131 5).toInt := p9_0
      have r11 := mf_5 J9
      have r12 := mf_8 J9
      have u13 : (ps_i s9 1131 8).toInt = (ps_i s 1131 8).toInt := xeq (kp_i K9 8 rfl)
      have r14 := mf_4 J9
      have u15 : (ps_i s9 1131 4).toInt = (ps_i s 1131 4).toInt := xeq (kp_i K9 4 rfl)
      exact k _ J9 K10 (show (ps_i s9 1131 8).toInt ≤ (ps_i s9 1131 4).toInt from by omega) (show 1 ≤ (ps_i s 1131 5).toInt → 1 ≤ (ps_i s9 1131 5).toInt from by omega) (show x1.toInt = 0 → 1 ≤ (ps_i s9 1131 5).toInt from by omega)
    · have f16 : x1.toInt ≠ (0 : Int) := xne h7
      refine ms_194 J (show (ps_i s 1131 8).toInt ≤ (ps_i s 1131 4).toInt from by omega) (fun s17 J17 K17 p17_0 => ?_)
      have K18 := kpt K K17 rfl rfl
      have p17_0' : (ps_i s17 1131 8).toInt ≤ (ps_i s17 1131 4).toInt := p17_0
      have r19 := mf_8 J17
      have r20 := mf_4 J17
      have u21 : (ps_i s17 1131 4).toInt = (ps_i s 1131 4).toInt := xeq (kp_i K17 4 rfl)
      have r22 := mf_5 J17
      have u23 : (ps_i s17 1131 5).toInt = (ps_i s 1131 5).toInt := xeq (kp_i K17 5 rfl)
      exact k _ J17 K18 (show (ps_i s17 1131 8).toInt ≤ (ps_i s17 1131 4).toInt from by omega) (show 1 ≤ (ps_i s 1131 5).toInt → 1 ≤ (ps_i s17 1131 5).toInt from by omega) (show x1.toInt = 0 → 1 ≤ (ps_i s17 1131 5).toInt from by omega)
  · have f24 : v3.toInt = (0 : Int) := xeq h5
    exact k _ J K (show (ps_i s 1131 8).toInt ≤ (ps_i s 1131 4).toInt from by omega) (show 1 ≤ (ps_i s 1131 5).toInt → 1 ≤ (ps_i s 1131 5).toInt from by omega) (show x1.toInt = 0 → 1 ≤ (ps_i s 1131 5).toInt from by omega)

-- ProofBenchModel.beginText()V
