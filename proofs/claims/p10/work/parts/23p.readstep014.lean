set_option maxRecDepth 100000
theorem ms_238 {x : Nat → Nat → Nat} {t : Int32} {s : ps_S} {d : Nat} {f : ps_S → Prop} (J : mJ x t s) {σ : mSig} {ax n0 : Int} (hS2 : Sg (ps_a s 1135) (ps_a s 1136) (ps_a s 1138) (ps_a s 1139) (ps_i s 1131 22).toInt σ) (hRs : SRs σ (ps_a s 1134) (ps_a s 1152) (ps_a s 1153) ax (n0)) (hax : (ps_a s 1137 (Int32.toNatClampNeg (ps_i s 1131 22))).toInt = ax) (q3 : (ps_i s 1131 8).toInt ≤ (ps_i s 1131 4).toInt) (q4 : (ps_i s 1131 5).toInt = 0) (q5 : (ps_i s 1131 42).toInt = n0) (k : ∀ (s' : ps_S), mJ x t s' → kp [1134, 1143, 1144, 1145, 1146, 1147, 1148, 1152, 1153, 1154, 1155, 1156] [5, 6, 7, 8, 9, 10, 11, 23, 29, 30, 31, 32, 42] s s' → ((ps_i s' 1131 8).toInt ≤ (ps_i s' 1131 4).toInt) → (1 ≤ (ps_i s' 1131 5).toInt ∨ SRs σ (ps_a s' 1134) (ps_a s' 1152) (ps_a s' 1153) ax (ps_i s' 1131 42).toInt) → (∀ k : Nat, (k : Int) < 22468 ∨ 25748 ≤ (k : Int) → ps_a s' 1134 k = ps_a s 1134 k) → (1 ≤ (ps_i s' 1131 5).toInt ∨ (ps_i s' 1131 42).toInt = (ps_i s 1131 42).toInt + 1) → ((ps_i s 1131 42).toInt ≤ (ps_i s' 1131 42).toInt) → f s') : ps_Cl (d + 6) 238 [.ref 1131] s (ps_rV f) := by
  have r1 := mf_8 J
  have r2 := mf_4 J
  have r3 := mf_5 J
  have K : kp [1134, 1143, 1144, 1145, 1146, 1147, 1148, 1152, 1153, 1154, 1155, 1156] [5, 6, 7, 8, 9, 10, 11, 23, 29, 30, 31, 32, 42] s s := kp_refl
  refine pg_238_0 (d := d + 5) ?_
  have hFR : ∀ k : Nat, (k : Int) < 22468 ∨ 25748 ≤ (k : Int) → ps_a s 1134 k = ps_a s 1134 k := fun _ _ => rfl
  have r4 := mf_42 J
  refine ms_233 J  (fun v5 p5_0 p5_1 p5_2 => ?_)
  have p5_0' : -1 ≤ v5.toInt := p5_0
  have p5_1' : v5.toInt ≤ 18 := p5_1
  have p5_2' : v5.toInt = -1 ∨ (ps_i s 1131 9).toInt = 3 := p5_2
  have r6 := mf_9 J
  refine And.intro (fun h7 => ?_) (fun h7 => ?_)
  · have f8 : v5.toInt < (0 : Int) := xlt h7
    exact ms_238_20 (σ := σ) (ax := ax) (n0 := n0) k  (ps_i s 1131 42) v5 _ J K hS2 hRs hFR hax (show (ps_i s 1131 8).toInt ≤ (ps_i s 1131 4).toInt from by omega) (show (ps_i s 1131 5).toInt = 0 from by omega) (show (ps_i s 1131 42).toInt = (ps_i s 1131 42).toInt from by omega) (show (ps_i s 1131 42).toInt = n0 from by omega) (show (ps_i s 1131 42).toInt = (ps_i s 1131 42).toInt from by omega) (show -1 ≤ v5.toInt from by omega) (show v5.toInt ≤ 18 from by omega) (show v5.toInt < 0 ∨ (ps_i s 1131 42).toInt = 40 from by omega)
  · have f9 : (0 : Int) ≤ v5.toInt := xle h7
    refine And.intro (fun h10 => ?_) (fun h10 => ?_)
    · have f11 : (ps_i s 1131 42).toInt ≠ (40 : Int) := xne h10
      exact ms_238_24 (σ := σ) (ax := ax) (n0 := n0) k  (ps_i s 1131 42) v5 _ J K hS2 hRs hFR hax (show (ps_i s 1131 8).toInt ≤ (ps_i s 1131 4).toInt from by omega) (show (ps_i s 1131 42).toInt = (ps_i s 1131 42).toInt from by omega) (show (ps_i s 1131 42).toInt = n0 from by omega) (show (ps_i s 1131 42).toInt = (ps_i s 1131 42).toInt from by omega) (show -1 ≤ v5.toInt from by omega) (show v5.toInt ≤ 18 from by omega) (show 1 ≤ (ps_i s 1131 5).toInt ∨ (0 ≤ v5.toInt ∧ (ps_i s 1131 42).toInt < 40) from by omega)
    · have f12 : (ps_i s 1131 42).toInt = (40 : Int) := xeq h10
      exact ms_238_20 (σ := σ) (ax := ax) (n0 := n0) k  (ps_i s 1131 42) v5 _ J K hS2 hRs hFR hax (show (ps_i s 1131 8).toInt ≤ (ps_i s 1131 4).toInt from by omega) (show (ps_i s 1131 5).toInt = 0 from by omega) (show (ps_i s 1131 42).toInt = (ps_i s 1131 42).toInt from by omega) (show (ps_i s 1131 42).toInt = n0 from by omega) (show (ps_i s 1131 42).toInt = (ps_i s 1131 42).toInt from by omega) (show -1 ≤ v5.toInt from by omega) (show v5.toInt ≤ 18 from by omega) (show v5.toInt < 0 ∨ (ps_i s 1131 42).toInt = 40 from by omega)

