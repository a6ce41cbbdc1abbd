set_option maxRecDepth 100000
theorem ms_238_20 {x : Nat → Nat → Nat} {t : Int32} {d : Nat} {s0 : ps_S} {σ : mSig} {ax n0 : Int} {Q : Option Value → ps_S → Prop} (k : ∀ (s' : ps_S), mJ x t s' → kp [1134, 1143, 1144, 1145, 1146, 1147, 1148, 1152, 1153, 1154, 1155, 1156] [5, 6, 7, 8, 9, 10, 11, 23, 29, 30, 31, 32, 42] s0 s' → ((ps_i s' 1131 8).toInt ≤ (ps_i s' 1131 4).toInt) → (1 ≤ (ps_i s' 1131 5).toInt ∨ SRs σ (ps_a s' 1134) (ps_a s' 1152) (ps_a s' 1153) ax (ps_i s' 1131 42).toInt) → (∀ k : Nat, (k : Int) < 22468 ∨ 25748 ≤ (k : Int) → ps_a s' 1134 k = ps_a s0 1134 k) → (1 ≤ (ps_i s' 1131 5).toInt ∨ (ps_i s' 1131 42).toInt = (ps_i s0 1131 42).toInt + 1) → ((ps_i s0 1131 42).toInt ≤ (ps_i s' 1131 42).toInt) → Q none s') (x1 : Int32) (x2 : Int32) (s : ps_S) (J : mJ x t s) (K : kp [1134, 1143, 1144, 1145, 1146, 1147, 1148, 1152, 1153, 1154, 1155, 1156] [5, 6, 7, 8, 9, 10, 11, 23, 29, 30, 31, 32, 42] s0 s) (hS2 : Sg (ps_a s 1135) (ps_a s 1136) (ps_a s 1138) (ps_a s 1139) (ps_i s 1131 22).toInt σ) (hRs : SRs σ (ps_a s 1134) (ps_a s 1152) (ps_a s 1153) ax (n0)) (hFR : ∀ k : Nat, (k : Int) < 22468 ∨ 25748 ≤ (k : Int) → ps_a s 1134 k = ps_a s0 1134 k) (hax : (ps_a s 1137 (Int32.toNatClampNeg (ps_i s 1131 22))).toInt = ax) (i4 : (ps_i s 1131 8).toInt ≤ (ps_i s 1131 4).toInt) (i5 : (ps_i s 1131 5).toInt = 0) (i6 : (ps_i s 1131 42).toInt = x1.toInt) (i7 : x1.toInt = n0) (i8 : (ps_i s 1131 42).toInt = (ps_i s0 1131 42).toInt) (i9 : -1 ≤ x2.toInt) (i10 : x2.toInt ≤ 18) (i11 : x2.toInt < 0 ∨ x1.toInt = 40) : ps_At (d + 6) 238 20 [(0, .ref 1131), (1, .int x1), (2, .int x2)] [] s Q := by
  have r1 := mf_8 J
  have r2 := mf_4 J
  have r3 := mf_5 J
  have r4 := mf_42 J
  refine pg_238_20 (d := d + 5) ?_
  refine ms_196 J  (fun s5 J5 K5 p5_0 => ?_)
  have K6 := kpt K K5 rfl rfl
  have KC := K5
  have hS2 : Sg (ps_a s5 1135) (ps_a s5 1136) (ps_a s5 1138) (ps_a s5 1139) (ps_i s5 1131 22).toInt σ := by rw [show ps_a s5 1135 = ps_a s 1135 from (K5.2 1135 rfl).1, show ps_a s5 1136 = ps_a s 1136 from (K5.2 1136 rfl).1, show ps_a s5 1138 = ps_a s 1138 from (K5.2 1138 rfl).1, show ps_a s5 1139 = ps_a s 1139 from (K5.2 1139 rfl).1, show ps_i s5 1131 22 = ps_i s 1131 22 from kp_i K5 22 rfl]; exact hS2
  have hRs : SRs σ (ps_a s5 1134) (ps_a s5 1152) (ps_a s5 1153) ax (n0) := by rw [show ps_a s5 1134 = ps_a s 1134 from (K5.2 1134 rfl).1, show ps_a s5 1152 = ps_a s 1152 from (K5.2 1152 rfl).1, show ps_a s5 1153 = ps_a s 1153 from (K5.2 1153 rfl).1]; exact hRs
  have hFR : ∀ k : Nat, (k : Int) < 22468 ∨ 25748 ≤ (k : Int) → ps_a s5 1134 k = ps_a s0 1134 k := by rw [show ps_a s5 1134 = ps_a s 1134 from (K5.2 1134 rfl).1]; exact hFR
  have hax : (ps_a s5 1137 (Int32.toNatClampNeg (ps_i s5 1131 22))).toInt = ax := by rw [show ps_a s5 1137 = ps_a s 1137 from (K5.2 1137 rfl).1, show ps_i s5 1131 22 = ps_i s 1131 22 from kp_i K5 22 rfl]; exact hax
  have p5_0' : 1 ≤ (ps_i s5 1131 5).toInt := p5_0
  have r7 := mf_5 J5
  have r8 := mf_8 J5
  have u9 : (ps_i s5 1131 8).toInt = (ps_i s 1131 8).toInt := xeq (kp_i K5 8 rfl)
  have r10 := mf_4 J5
  have u11 : (ps_i s5 1131 4).toInt = (ps_i s 1131 4).toInt := xeq (kp_i K5 4 rfl)
  have r12 := mf_42 J5
  have u13 : (ps_i s5 1131 42).toInt = (ps_i s 1131 42).toInt := xeq (kp_i K5 42 rfl)
  exact ms_238_24 (σ := σ) (ax := ax) (n0 := n0) k  x1 x2 _ J5 K6 hS2 hRs hFR hax (show (ps_i s5 1131 8).toInt ≤ (ps_i s5 1131 4).toInt from by omega) (show (ps_i s5 1131 42).toInt = x1.toInt from by omega) (show x1.toInt = n0 from by omega) (show (ps_i s5 1131 42).toInt = (ps_i s0 1131 42).toInt from by omega) (show -1 ≤ x2.toInt from by omega) (show x2.toInt ≤ 18 from by omega) (show 1 ≤ (ps_i s5 1131 5).toInt ∨ (0 ≤ x2.toInt ∧ x1.toInt < 40) from by omega)

