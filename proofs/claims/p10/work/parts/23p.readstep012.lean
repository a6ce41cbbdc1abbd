set_option maxRecDepth 100000
theorem ms_238_24 {x : Nat → Nat → Nat} {t : Int32} {d : Nat} {s0 : ps_S} {σ : mSig} {ax n0 : Int} {Q : Option Value → ps_S → Prop} (k : ∀ (s' : ps_S), mJ x t s' → kp [1134, 1143, 1144, 1145, 1146, 1147, 1148, 1152, 1153, 1154, 1155, 1156] [5, 6, 7, 8, 9, 10, 11, 23, 29, 30, 31, 32, 42] s0 s' → ((ps_i s' 1131 8).toInt ≤ (ps_i s' 1131 4).toInt) → (1 ≤ (ps_i s' 1131 5).toInt ∨ SRs σ (ps_a s' 1134) (ps_a s' 1152) (ps_a s' 1153) ax (ps_i s' 1131 42).toInt) → (∀ k : Nat, (k : Int) < 22468 ∨ 25748 ≤ (k : Int) → ps_a s' 1134 k = ps_a s0 1134 k) → (1 ≤ (ps_i s' 1131 5).toInt ∨ (ps_i s' 1131 42).toInt = (ps_i s0 1131 42).toInt + 1) → ((ps_i s0 1131 42).toInt ≤ (ps_i s' 1131 42).toInt) → Q none s') (x1 : Int32) (x2 : Int32) (s : ps_S) (J : mJ x t s) (K : kp [1134, 1143, 1144, 1145, 1146, 1147, 1148, 1152, 1153, 1154, 1155, 1156] [5, 6, 7, 8, 9, 10, 11, 23, 29, 30, 31, 32, 42] s0 s) (hS2 : Sg (ps_a s 1135) (ps_a s 1136) (ps_a s 1138) (ps_a s 1139) (ps_i s 1131 22).toInt σ) (hRs : SRs σ (ps_a s 1134) (ps_a s 1152) (ps_a s 1153) ax (n0)) (hFR : ∀ k : Nat, (k : Int) < 22468 ∨ 25748 ≤ (k : Int) → ps_a s 1134 k = ps_a s0 1134 k) (hax : (ps_a s 1137 (Int32.toNatClampNeg (ps_i s 1131 22))).toInt = ax) (i4 : (ps_i s 1131 8).toInt ≤ (ps_i s 1131 4).toInt) (i5 : (ps_i s 1131 42).toInt = x1.toInt) (i6 : x1.toInt = n0) (i7 : (ps_i s 1131 42).toInt = (ps_i s0 1131 42).toInt) (i8 : -1 ≤ x2.toInt) (i9 : x2.toInt ≤ 18) (i10 : 1 ≤ (ps_i s 1131 5).toInt ∨ (0 ≤ x2.toInt ∧ x1.toInt < 40)) : ps_At (d + 6) 238 24 [(0, .ref 1131), (1, .int x1), (2, .int x2)] [] s Q := by
  have r1 := mf_8 J
  have r2 := mf_4 J
  have r3 := mf_42 J
  have r4 := mf_5 J
  refine pg_238_24 (d := d + 5) ?_
  have ex : Int32.toNatClampNeg x1 = x1.toInt.toNat := rfl
  refine ms_192 J  (fun v5 p5_0 b5 => ?_)
  have p5_0' : (v5.toInt = 0 ∧ 1 ≤ (ps_i s 1131 5).toInt) ∨ (v5.toInt = 1 ∧ (ps_i s 1131 5).toInt = 0) := p5_0
  refine And.intro (fun h6 => ?_) (fun h6 => ?_)
  · have f7 : v5.toInt ≠ (0 : Int) := xne h6
    have qz7 : (ps_i s 1131 5).toInt = 0 := by omega
    clear p5_0' p5_0
    refine ms_194 J (show (ps_i s 1131 8).toInt ≤ (ps_i s 1131 4).toInt from by omega) (fun s8 J8 K8 p8_0 => ?_)
    have K9 := kpt K K8 rfl rfl
    have KC := K8
    have hS2 : Sg (ps_a s8 1135) (ps_a s8 1136) (ps_a s8 1138) (ps_a s8 1139) (ps_i s8 1131 22).toInt σ := by rw [show ps_a s8 1135 = ps_a s 1135 from (K8.2 1135 rfl).1, show ps_a s8 1136 = ps_a s 1136 from (K8.2 1136 rfl).1, show ps_a s8 1138 = ps_a s 1138 from (K8.2 1138 rfl).1, show ps_a s8 1139 = ps_a s 1139 from (K8.2 1139 rfl).1, show ps_i s8 1131 22 = ps_i s 1131 22 from kp_i K8 22 rfl]; exact hS2
    have hRs : SRs σ (ps_a s8 1134) (ps_a s8 1152) (ps_a s8 1153) ax (n0) := by rw [show ps_a s8 1134 = ps_a s 1134 from (K8.2 1134 rfl).1, show ps_a s8 1152 = ps_a s 1152 from (K8.2 1152 rfl).1, show ps_a s8 1153 = ps_a s 1153 from (K8.2 1153 rfl).1]; exact hRs
    have hFR : ∀ k : Nat, (k : Int) < 22468 ∨ 25748 ≤ (k : Int) → ps_a s8 1134 k = ps_a s0 1134 k := by rw [show ps_a s8 1134 = ps_a s 1134 from (K8.2 1134 rfl).1]; exact hFR
    have hax : (ps_a s8 1137 (Int32.toNatClampNeg (ps_i s8 1131 22))).toInt = ax := by rw [show ps_a s8 1137 = ps_a s 1137 from (K8.2 1137 rfl).1, show ps_i s8 1131 22 = ps_i s 1131 22 from kp_i K8 22 rfl]; exact hax
    have p8_0' : (ps_i s8 1131 8).toInt ≤ (ps_i s8 1131 4).toInt := p8_0
    have r10 := mf_8 J8
    have r11 := mf_4 J8
    have u12 : (ps_i s8 1131 4).toInt = (ps_i s 1131 4).toInt := xeq (kp_i K8 4 rfl)
    refine ps_nd_i (show pm_in x1 40 = true from xgi (show 0 ≤ x1.toInt from by omega) (show x1.toInt < 40 from by omega)) ?_
    have J13 := mwa_1152 (i := (Int32.toNatClampNeg x1)) (v := x2) J8 (show 0 ≤ x2.toInt from by omega) (show x2.toInt ≤ 18 from by omega)
    have K14 := kpa' K9 (r := 1152) (i := (Int32.toNatClampNeg x1)) (v := x2) rfl
    have hRs : SRs σ (ps_a (ps_ua s8 1152 (Int32.toNatClampNeg x1) x2) 1134) (ps_a (ps_ua s8 1152 (Int32.toNatClampNeg x1) x2) 1152) (ps_a (ps_ua s8 1152 (Int32.toNatClampNeg x1) x2) 1153) ax (n0) := SRs_set (i := Int32.toNatClampNeg x1) hRs (fun j hj => ua_ne hj) (fun _ _ => rfl) (by omega)
    refine And.intro (fun h15 => ?_) (fun h15 => ?_)
    · have f16 : x2.toInt ≠ (1 : Int) := xne h15
      have w17 : (ps_a (ps_ua s8 1152 (Int32.toNatClampNeg x1) x2) 1152 (Int32.toNatClampNeg x1)).toInt = x2.toInt := xeq ua_eq
      have r18 : 0 ≤ (ps_a (ps_ua s8 1152 (Int32.toNatClampNeg x1) x2) 1152 (Int32.toNatClampNeg x1)).toInt ∧ (ps_a (ps_ua s8 1152 (Int32.toNatClampNeg x1) x2) 1152 (Int32.toNatClampNeg x1)).toInt ≤ 18 := ma_1152 (i := x1) J13 (show 0 ≤ x1.toInt from by omega) (show x1.toInt < 40 from by omega)
      have r19 := mf_42 J8
      have u20 : (ps_i s8 1131 42).toInt = (ps_i s 1131 42).toInt := xeq (kp_i K8 42 rfl)
      have r21 := mf_5 J8
      have u22 : (ps_i s8 1131 5).toInt = (ps_i s 1131 5).toInt := xeq (kp_i K8 5 rfl)
      have r23 : -1 ≤ (ps_a s8 1153 (Int32.toNatClampNeg x1)).toInt ∧ (ps_a s8 1153 (Int32.toNatClampNeg x1)).toInt ≤ 9999 := ma_1153 (i := x1) J8 (show 0 ≤ x1.toInt from by omega) (show x1.toInt < 40 from by omega)
      have u24 : (ps_a s8 1153 (Int32.toNatClampNeg x1)).toInt = (ps_a s 1153 (Int32.toNatClampNeg x1)).toInt := xeq (kp_a K8 1153 rfl _)
      have r25 : -1 ≤ (ps_a s 1153 (Int32.toNatClampNeg x1)).toInt ∧ (ps_a s 1153 (Int32.toNatClampNeg x1)).toInt ≤ 9999 := ma_1153 (i := x1) J (show 0 ≤ x1.toInt from by omega) (show x1.toInt < 40 from by omega)
      exact ms_238_53 (σ := σ) (ax := ax) (n0 := n0) k  x1 x2 _ J13 K14 hS2 hRs hFR hax (show (ps_i s8 1131 8).toInt ≤ (ps_i s8 1131 4).toInt from by omega) (show 0 ≤ x1.toInt from by omega) (show x1.toInt < 40 from by omega) (show 0 ≤ x2.toInt from by omega) (show x2.toInt ≤ 18 from by omega) (show (ps_a (ps_ua s8 1152 (Int32.toNatClampNeg x1) x2) 1152 (Int32.toNatClampNeg x1)).toInt = x2.toInt from by omega) (show (ps_i s8 1131 42).toInt = x1.toInt from by omega) (show x1.toInt = n0 from by omega) (show (ps_i s8 1131 42).toInt = (ps_i s0 1131 42).toInt from by omega) (show 1 ≤ (ps_i s8 1131 5).toInt ∨ x2.toInt ≠ 1 ∨ (0 ≤ (ps_a s8 1153 (Int32.toNatClampNeg x1)).toInt ∧ (ps_a s8 1153 (Int32.toNatClampNeg x1)).toInt < ax) from by omega)
    · have f26 : x2.toInt = (1 : Int) := xeq h15
      have r27 := mf_5 J8
      have u28 : (ps_i s8 1131 5).toInt = (ps_i s 1131 5).toInt := xeq (kp_i K8 5 rfl)
      refine ms_239 J13 (show (ps_i s8 1131 8).toInt ≤ (ps_i s8 1131 4).toInt from by omega) (show 0 ≤ x1.toInt from by omega) (show x1.toInt < 40 from by omega) (show (ps_i s8 1131 5).toInt = 0 from by omega) (fun s29 J29 K29 p29_0 p29_1 p29_2 => ?_)
      have K30 := kpt K14 K29 rfl rfl
      have KC := K29
      have hS2 : Sg (ps_a s29 1135) (ps_a s29 1136) (ps_a s29 1138) (ps_a s29 1139) (ps_i s29 1131 22).toInt σ := by rw [show ps_a s29 1135 = ps_a (ps_ua s8 1152 (Int32.toNatClampNeg x1) x2) 1135 from (K29.2 1135 rfl).1, show ps_a s29 1136 = ps_a (ps_ua s8 1152 (Int32.toNatClampNeg x1) x2) 1136 from (K29.2 1136 rfl).1, show ps_a s29 1138 = ps_a (ps_ua s8 1152 (Int32.toNatClampNeg x1) x2) 1138 from (K29.2 1138 rfl).1, show ps_a s29 1139 = ps_a (ps_ua s8 1152 (Int32.toNatClampNeg x1) x2) 1139 from (K29.2 1139 rfl).1, show ps_i s29 1131 22 = ps_i (ps_ua s8 1152 (Int32.toNatClampNeg x1) x2) 1131 22 from kp_i K29 22 rfl]; exact hS2
      have hFR : ∀ k : Nat, (k : Int) < 22468 ∨ 25748 ≤ (k : Int) → ps_a s29 1134 k = ps_a s0 1134 k := by rw [show ps_a s29 1134 = ps_a (ps_ua s8 1152 (Int32.toNatClampNeg x1) x2) 1134 from (K29.2 1134 rfl).1]; exact hFR
      have hax : (ps_a s29 1137 (Int32.toNatClampNeg (ps_i s29 1131 22))).toInt = ax := by rw [show ps_a s29 1137 = ps_a (ps_ua s8 1152 (Int32.toNatClampNeg x1) x2) 1137 from (K29.2 1137 rfl).1, show ps_i s29 1131 22 = ps_i (ps_ua s8 1152 (Int32.toNatClampNeg x1) x2) 1131 22 from kp_i K29 22 rfl]; exact hax
      have p29_0' : (ps_i s29 1131 8).toInt ≤ (ps_i s29 1131 4).toInt := p29_0
      have r31 := mf_8 J29
      have r32 := mf_4 J29
      have u33 : (ps_i s29 1131 4).toInt = (ps_i s8 1131 4).toInt := xeq (kp_i K29 4 rfl)
      have p29_1' : 1 ≤ (ps_i s29 1131 5).toInt ∨ (0 ≤ (ps_a s29 1153 (Int32.toNatClampNeg x1)).toInt ∧ (ps_a s29 1153 (Int32.toNatClampNeg x1)).toInt < (ps_a s29 1137 (Int32.toNatClampNeg (ps_i s29 1131 22))).toInt) := p29_1
      have r34 := mf_5 J29
      have r35 : -1 ≤ (ps_a s29 1153 (Int32.toNatClampNeg x1)).toInt ∧ (ps_a s29 1153 (Int32.toNatClampNeg x1)).toInt ≤ 9999 := ma_1153 (i := x1) J29 (show 0 ≤ x1.toInt from by omega) (show x1.toInt < 40 from by omega)
      have r36 := mf_22 J29
      have u37 : (ps_i s29 1131 22).toInt = (ps_i s8 1131 22).toInt := xeq (kp_i K29 22 rfl)
      have r38 := mf_22 J8
      have u39 : (ps_i s8 1131 22).toInt = (ps_i s 1131 22).toInt := xeq (kp_i K8 22 rfl)
      have r40 := mf_22 J
      have r41 : 0 ≤ (ps_a s29 1137 (Int32.toNatClampNeg (ps_i s29 1131 22))).toInt ∧ (ps_a s29 1137 (Int32.toNatClampNeg (ps_i s29 1131 22))).toInt ≤ 8 := ma_1137 (i := (ps_i s29 1131 22)) J29 (show 0 ≤ (ps_i s29 1131 22).toInt from by omega) (show (ps_i s29 1131 22).toInt < 2 from by omega)
      have u42 : (ps_a s29 1137 (Int32.toNatClampNeg (ps_i s29 1131 22))).toInt = (ps_a s8 1137 (Int32.toNatClampNeg (ps_i s29 1131 22))).toInt := xeq (kp_a K29 1137 rfl _)
      have r43 : 0 ≤ (ps_a s8 1137 (Int32.toNatClampNeg (ps_i s29 1131 22))).toInt ∧ (ps_a s8 1137 (Int32.toNatClampNeg (ps_i s29 1131 22))).toInt ≤ 8 := ma_1137 (i := (ps_i s29 1131 22)) J8 (show 0 ≤ (ps_i s29 1131 22).toInt from by omega) (show (ps_i s29 1131 22).toInt < 2 from by omega)
      have u44 : (ps_a s8 1137 (Int32.toNatClampNeg (ps_i s29 1131 22))).toInt = (ps_a s 1137 (Int32.toNatClampNeg (ps_i s29 1131 22))).toInt := xeq (kp_a K8 1137 rfl _)
      have r45 : 0 ≤ (ps_a s 1137 (Int32.toNatClampNeg (ps_i s29 1131 22))).toInt ∧ (ps_a s 1137 (Int32.toNatClampNeg (ps_i s29 1131 22))).toInt ≤ 8 := ma_1137 (i := (ps_i s29 1131 22)) J (show 0 ≤ (ps_i s29 1131 22).toInt from by omega) (show (ps_i s29 1131 22).toInt < 2 from by omega)
      have hk3 : _ := p29_2
      have r46 : 0 ≤ (ps_a s29 1152 (Int32.toNatClampNeg x1)).toInt ∧ (ps_a s29 1152 (Int32.toNatClampNeg x1)).toInt ≤ 18 := ma_1152 (i := x1) J29 (show 0 ≤ x1.toInt from by omega) (show x1.toInt < 40 from by omega)
      have u47 : (ps_a s29 1152 (Int32.toNatClampNeg x1)).toInt = (ps_a (ps_ua s8 1152 (Int32.toNatClampNeg x1) x2) 1152 (Int32.toNatClampNeg x1)).toInt := xeq (kp_a K29 1152 rfl _)
      have w48 : (ps_a (ps_ua s8 1152 (Int32.toNatClampNeg x1) x2) 1152 (Int32.toNatClampNeg x1)).toInt = x2.toInt := xeq ua_eq
      have r49 := mf_42 J29
      have u50 : (ps_i s29 1131 42).toInt = (ps_i s8 1131 42).toInt := xeq (kp_i K29 42 rfl)
      have r51 := mf_42 J8
      have u52 : (ps_i s8 1131 42).toInt = (ps_i s 1131 42).toInt := xeq (kp_i K8 42 rfl)
      exact ms_238_53 (σ := σ) (ax := ax) (n0 := n0) k  x1 x2 _ J29 K30 hS2 ((by rw [show ps_a s29 1134 = ps_a (ps_ua s8 1152 (Int32.toNatClampNeg x1) x2) 1134 from (KC.2 1134 rfl).1, show ps_a s29 1152 = ps_a (ps_ua s8 1152 (Int32.toNatClampNeg x1) x2) 1152 from (KC.2 1152 rfl).1]; exact SRs_set (i := Int32.toNatClampNeg x1) hRs (fun _ _ => rfl) (fun j hj => hk3 j hj) (by omega))) hFR hax (show (ps_i s29 1131 8).toInt ≤ (ps_i s29 1131 4).toInt from by omega) (show 0 ≤ x1.toInt from by omega) (show x1.toInt < 40 from by omega) (show 0 ≤ x2.toInt from by omega) (show x2.toInt ≤ 18 from by omega) (show (ps_a s29 1152 (Int32.toNatClampNeg x1)).toInt = x2.toInt from by omega) (show (ps_i s29 1131 42).toInt = x1.toInt from by omega) (show x1.toInt = n0 from by omega) (show (ps_i s29 1131 42).toInt = (ps_i s0 1131 42).toInt from by omega) (show 1 ≤ (ps_i s29 1131 5).toInt ∨ x2.toInt ≠ 1 ∨ (0 ≤ (ps_a s29 1153 (Int32.toNatClampNeg x1)).toInt ∧ (ps_a s29 1153 (Int32.toNatClampNeg x1)).toInt < ax) from by omega)
  · have f53 : v5.toInt = (0 : Int) := xeq h6
    have qz53 : 1 ≤ (ps_i s 1131 5).toInt := by omega
    clear p5_0' p5_0
    exact k _ J K (show (ps_i s 1131 8).toInt ≤ (ps_i s 1131 4).toInt from by omega) (Or.inl (show 1 ≤ (ps_i s 1131 5).toInt from by omega)) (hFR) (show 1 ≤ (ps_i s 1131 5).toInt ∨ (ps_i s 1131 42).toInt = (ps_i s0 1131 42).toInt + 1 from by omega) (show (ps_i s0 1131 42).toInt ≤ (ps_i s 1131 42).toInt from by omega)

