set_option maxRecDepth 100000
theorem ms_238_181 {x : Nat → Nat → Nat} {t : Int32} {d : Nat} {s0 : ps_S} {σ : mSig} {ax n0 : Int} {Q : Option Value → ps_S → Prop} (k : ∀ (s' : ps_S), mJ x t s' → kp [1134, 1143, 1144, 1145, 1146, 1147, 1148, 1152, 1153, 1154, 1155, 1156] [5, 6, 7, 8, 9, 10, 11, 23, 29, 30, 31, 32, 42] s0 s' → ((ps_i s' 1131 8).toInt ≤ (ps_i s' 1131 4).toInt) → (1 ≤ (ps_i s' 1131 5).toInt ∨ SRs σ (ps_a s' 1134) (ps_a s' 1152) (ps_a s' 1153) ax (ps_i s' 1131 42).toInt) → (∀ k : Nat, (k : Int) < 22468 ∨ 25748 ≤ (k : Int) → ps_a s' 1134 k = ps_a s0 1134 k) → (1 ≤ (ps_i s' 1131 5).toInt ∨ (ps_i s' 1131 42).toInt = (ps_i s0 1131 42).toInt + 1) → ((ps_i s0 1131 42).toInt ≤ (ps_i s' 1131 42).toInt) → Q none s') (x1 : Int32) (s : ps_S) (J : mJ x t s) (K : kp [1134, 1143, 1144, 1145, 1146, 1147, 1148, 1152, 1153, 1154, 1155, 1156] [5, 6, 7, 8, 9, 10, 11, 23, 29, 30, 31, 32, 42] s0 s) (hRp : SRs σ (ps_a s 1134) (ps_a s 1152) (ps_a s 1153) ax (n0 + 1)) (hFR : ∀ k : Nat, (k : Int) < 22468 ∨ 25748 ≤ (k : Int) → ps_a s 1134 k = ps_a s0 1134 k) (i2 : (ps_i s 1131 8).toInt ≤ (ps_i s 1131 4).toInt) (i3 : (ps_i s 1131 5).toInt = 0) (i4 : 0 ≤ x1.toInt) (i5 : x1.toInt < 40) (i6 : (ps_i s 1131 42).toInt = n0) (i7 : (ps_i s 1131 42).toInt = (ps_i s0 1131 42).toInt) (i8 : (ps_i s 1131 42).toInt < 40) (i9 : 0 ≤ (ps_i s 1131 42).toInt) : ps_At (d + 6) 238 181 [(0, .ref 1131), (1, .int x1)] [] s Q := by
  have r1 := mf_8 J
  have r2 := mf_4 J
  have r3 := mf_5 J
  have r4 := mf_42 J
  refine pg_238_181 (d := d + 5) ?_
  refine ms_208 J  (fun v5 b5 => ?_)
  refine And.intro (fun h6 => ?_) (fun h6 => ?_)
  · have f7 : v5.toInt ≠ (0 : Int) := xne h6
    refine ms_217 J  (fun v8 s8 J8 K8 p8_0 p8_1 p8_2 => ?_)
    have K9 := kpt K K8 rfl rfl
    have KC := K8
    have hRp : SRs σ (ps_a s8 1134) (ps_a s8 1152) (ps_a s8 1153) ax (n0 + 1) := by rw [show ps_a s8 1134 = ps_a s 1134 from (K8.2 1134 rfl).1, show ps_a s8 1152 = ps_a s 1152 from (K8.2 1152 rfl).1, show ps_a s8 1153 = ps_a s 1153 from (K8.2 1153 rfl).1]; exact hRp
    have hFR : ∀ k : Nat, (k : Int) < 22468 ∨ 25748 ≤ (k : Int) → ps_a s8 1134 k = ps_a s0 1134 k := by rw [show ps_a s8 1134 = ps_a s 1134 from (K8.2 1134 rfl).1]; exact hFR
    have p8_0' : 0 ≤ v8.toInt := p8_0
    have p8_1' : v8.toInt ≤ 11 := p8_1
    have p8_2' : 1 ≤ (ps_i s 1131 5).toInt → 1 ≤ (ps_i s8 1131 5).toInt := p8_2
    have r10 := mf_5 J8
    refine ps_nd_i (show pm_in x1 40 = true from xgi (show 0 ≤ x1.toInt from by omega) (show x1.toInt < 40 from by omega)) ?_
    have J11 := mwa_1156 (i := (Int32.toNatClampNeg x1)) (v := v8) J8 (show 0 ≤ v8.toInt from by omega) (show v8.toInt ≤ 11 from by omega)
    have K12 := kpa' K9 (r := 1156) (i := (Int32.toNatClampNeg x1)) (v := v8) rfl
    have r13 := mf_8 J8
    have u14 : (ps_i s8 1131 8).toInt = (ps_i s 1131 8).toInt := xeq (kp_i K8 8 rfl)
    have r15 := mf_4 J8
    have u16 : (ps_i s8 1131 4).toInt = (ps_i s 1131 4).toInt := xeq (kp_i K8 4 rfl)
    have r17 := mf_42 J8
    have u18 : (ps_i s8 1131 42).toInt = (ps_i s 1131 42).toInt := xeq (kp_i K8 42 rfl)
    exact ms_238_205 (σ := σ) (ax := ax) (n0 := n0) k   _ J11 K12 hFR (show (ps_i s8 1131 8).toInt ≤ (ps_i s8 1131 4).toInt from by omega) (Or.inr hRp) (show (ps_i s8 1131 42).toInt = n0 from by omega) (show (ps_i s8 1131 42).toInt = (ps_i s0 1131 42).toInt from by omega) (show (ps_i s8 1131 42).toInt < 40 from by omega) (show 0 ≤ (ps_i s8 1131 42).toInt from by omega)
  · have f19 : v5.toInt = (0 : Int) := xeq h6
    refine ms_196 J  (fun s20 J20 K20 p20_0 => ?_)
    have K21 := kpt K K20 rfl rfl
    have KC := K20
    have hRp : SRs σ (ps_a s20 1134) (ps_a s20 1152) (ps_a s20 1153) ax (n0 + 1) := by rw [show ps_a s20 1134 = ps_a s 1134 from (K20.2 1134 rfl).1, show ps_a s20 1152 = ps_a s 1152 from (K20.2 1152 rfl).1, show ps_a s20 1153 = ps_a s 1153 from (K20.2 1153 rfl).1]; exact hRp
    have hFR : ∀ k : Nat, (k : Int) < 22468 ∨ 25748 ≤ (k : Int) → ps_a s20 1134 k = ps_a s0 1134 k := by rw [show ps_a s20 1134 = ps_a s 1134 from (K20.2 1134 rfl).1]; exact hFR
    have p20_0' : 1 ≤ (ps_i s20 1131 5).toInt := p20_0
    have r22 := mf_5 J20
    have r23 := mf_8 J20
    have u24 : (ps_i s20 1131 8).toInt = (ps_i s 1131 8).toInt := xeq (kp_i K20 8 rfl)
    have r25 := mf_4 J20
    have u26 : (ps_i s20 1131 4).toInt = (ps_i s 1131 4).toInt := xeq (kp_i K20 4 rfl)
    have r27 := mf_42 J20
    have u28 : (ps_i s20 1131 42).toInt = (ps_i s 1131 42).toInt := xeq (kp_i K20 42 rfl)
    exact ms_238_205 (σ := σ) (ax := ax) (n0 := n0) k   _ J20 K21 hFR (show (ps_i s20 1131 8).toInt ≤ (ps_i s20 1131 4).toInt from by omega) (Or.inl (show 1 ≤ (ps_i s20 1131 5).toInt from by omega)) (show (ps_i s20 1131 42).toInt = n0 from by omega) (show (ps_i s20 1131 42).toInt = (ps_i s0 1131 42).toInt from by omega) (show (ps_i s20 1131 42).toInt < 40 from by omega) (show 0 ≤ (ps_i s20 1131 42).toInt from by omega)

