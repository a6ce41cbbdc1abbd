set_option maxRecDepth 100000
theorem ms_238_88 {x : Nat → Nat → Nat} {t : Int32} {d : Nat} {s0 : ps_S} {σ : mSig} {ax n0 : Int} {Q : Option Value → ps_S → Prop} (k : ∀ (s' : ps_S), mJ x t s' → kp [1134, 1143, 1144, 1145, 1146, 1147, 1148, 1152, 1153, 1154, 1155, 1156] [5, 6, 7, 8, 9, 10, 11, 23, 29, 30, 31, 32, 42] s0 s' → ((ps_i s' 1131 8).toInt ≤ (ps_i s' 1131 4).toInt) → (1 ≤ (ps_i s' 1131 5).toInt ∨ SRs σ (ps_a s' 1134) (ps_a s' 1152) (ps_a s' 1153) ax (ps_i s' 1131 42).toInt) → (∀ k : Nat, (k : Int) < 22468 ∨ 25748 ≤ (k : Int) → ps_a s' 1134 k = ps_a s0 1134 k) → (1 ≤ (ps_i s' 1131 5).toInt ∨ (ps_i s' 1131 42).toInt = (ps_i s0 1131 42).toInt + 1) → ((ps_i s0 1131 42).toInt ≤ (ps_i s' 1131 42).toInt) → Q none s') (x1 : Int32) (x2 : Int32) (s : ps_S) (J : mJ x t s) (K : kp [1134, 1143, 1144, 1145, 1146, 1147, 1148, 1152, 1153, 1154, 1155, 1156] [5, 6, 7, 8, 9, 10, 11, 23, 29, 30, 31, 32, 42] s0 s) (hS2 : Sg (ps_a s 1135) (ps_a s 1136) (ps_a s 1138) (ps_a s 1139) (ps_i s 1131 22).toInt σ) (hRs : SRs σ (ps_a s 1134) (ps_a s 1152) (ps_a s 1153) ax (n0)) (hFR : ∀ k : Nat, (k : Int) < 22468 ∨ 25748 ≤ (k : Int) → ps_a s 1134 k = ps_a s0 1134 k) (hax : (ps_a s 1137 (Int32.toNatClampNeg (ps_i s 1131 22))).toInt = ax) (i4 : (ps_i s 1131 8).toInt ≤ (ps_i s 1131 4).toInt) (i5 : 0 ≤ x1.toInt) (i6 : x1.toInt < 40) (i7 : 0 ≤ x2.toInt) (i8 : x2.toInt ≤ 18) (i9 : (ps_a s 1152 (Int32.toNatClampNeg x1)).toInt = x2.toInt) (i10 : (ps_i s 1131 42).toInt = x1.toInt) (i11 : x1.toInt = n0) (i12 : (ps_i s 1131 42).toInt = (ps_i s0 1131 42).toInt) (i13 : 1 ≤ (ps_i s 1131 5).toInt ∨ x2.toInt ≠ 1 ∨ (0 ≤ (ps_a s 1153 (Int32.toNatClampNeg x1)).toInt ∧ (ps_a s 1153 (Int32.toNatClampNeg x1)).toInt < ax)) (i14 : 1 ≤ (ps_i s 1131 5).toInt ∨ x2.toInt = 0 ∨ x2.toInt = 15 ∨ 0 ≤ (ps_a s 1153 (Int32.toNatClampNeg x1)).toInt) : ps_At (d + 6) 238 88 [(0, .ref 1131), (1, .int x1), (2, .int x2)] [] s Q := by
  have r1 := mf_8 J
  have r2 := mf_4 J
  have r3 : 0 ≤ (ps_a s 1152 (Int32.toNatClampNeg x1)).toInt ∧ (ps_a s 1152 (Int32.toNatClampNeg x1)).toInt ≤ 18 := ma_1152 (i := x1) J (show 0 ≤ x1.toInt from by omega) (show x1.toInt < 40 from by omega)
  have r4 := mf_42 J
  have r5 := mf_5 J
  have r6 : -1 ≤ (ps_a s 1153 (Int32.toNatClampNeg x1)).toInt ∧ (ps_a s 1153 (Int32.toNatClampNeg x1)).toInt ≤ 9999 := ma_1153 (i := x1) J (show 0 ≤ x1.toInt from by omega) (show x1.toInt < 40 from by omega)
  refine pg_238_88 (d := d + 5) ?_
  have ex : Int32.toNatClampNeg x1 = x1.toInt.toNat := rfl
  refine ms_234 J  (fun v7 p7_0 => ?_)
  have p7_0' : ((x2.toInt = 0 ∨ x2.toInt = 1 ∨ x2.toInt = 15) ∧ v7.toInt = 0) ∨ ((x2.toInt = 3 ∨ x2.toInt = 9 ∨ x2.toInt = 14 ∨ x2.toInt = 16) ∧ v7.toInt = 2) ∨ (x2.toInt = 8 ∧ v7.toInt = 3) ∨ (v7.toInt = 1 ∧ x2.toInt ≠ 0 ∧ x2.toInt ≠ 1 ∧ x2.toInt ≠ 15 ∧ x2.toInt ≠ 3 ∧ x2.toInt ≠ 9 ∧ x2.toInt ≠ 14 ∧ x2.toInt ≠ 16 ∧ x2.toInt ≠ 8) := p7_0
  refine And.intro (fun h8 => ?_) (fun h8 => ?_)
  · have f9 : v7.toInt ≤ (2 : Int) := xle h8
    exact ms_238_106 (σ := σ) (ax := ax) (n0 := n0) k  x1 x2 _ J K hS2 hRs hFR hax (show (ps_i s 1131 8).toInt ≤ (ps_i s 1131 4).toInt from by omega) (show 0 ≤ x1.toInt from by omega) (show x1.toInt < 40 from by omega) (show 0 ≤ x2.toInt from by omega) (show x2.toInt ≤ 18 from by omega) (show (ps_a s 1152 (Int32.toNatClampNeg x1)).toInt = x2.toInt from by omega) (show (ps_i s 1131 42).toInt = x1.toInt from by omega) (show x1.toInt = n0 from by omega) (show (ps_i s 1131 42).toInt = (ps_i s0 1131 42).toInt from by omega) (show 1 ≤ (ps_i s 1131 5).toInt ∨ x2.toInt ≠ 1 ∨ (0 ≤ (ps_a s 1153 (Int32.toNatClampNeg x1)).toInt ∧ (ps_a s 1153 (Int32.toNatClampNeg x1)).toInt < ax) from by omega) (show 1 ≤ (ps_i s 1131 5).toInt ∨ x2.toInt = 0 ∨ x2.toInt = 15 ∨ 0 ≤ (ps_a s 1153 (Int32.toNatClampNeg x1)).toInt from by omega)
  · have f10 : (2 : Int) < v7.toInt := xlt h8
    refine ms_237 J (show (ps_i s 1131 8).toInt ≤ (ps_i s 1131 4).toInt from by omega) (fun v11 s11 J11 K11 p11_0 p11_1 p11_2 p11_3 => ?_)
    have K12 := kpt K K11 rfl rfl
    have KC := K11
    have hS2 : Sg (ps_a s11 1135) (ps_a s11 1136) (ps_a s11 1138) (ps_a s11 1139) (ps_i s11 1131 22).toInt σ := by rw [show ps_a s11 1135 = ps_a s 1135 from (K11.2 1135 rfl).1, show ps_a s11 1136 = ps_a s 1136 from (K11.2 1136 rfl).1, show ps_a s11 1138 = ps_a s 1138 from (K11.2 1138 rfl).1, show ps_a s11 1139 = ps_a s 1139 from (K11.2 1139 rfl).1, show ps_i s11 1131 22 = ps_i s 1131 22 from kp_i K11 22 rfl]; exact hS2
    have hRs : SRs σ (ps_a s11 1134) (ps_a s11 1152) (ps_a s11 1153) ax (n0) := by rw [show ps_a s11 1134 = ps_a s 1134 from (K11.2 1134 rfl).1, show ps_a s11 1152 = ps_a s 1152 from (K11.2 1152 rfl).1, show ps_a s11 1153 = ps_a s 1153 from (K11.2 1153 rfl).1]; exact hRs
    have hFR : ∀ k : Nat, (k : Int) < 22468 ∨ 25748 ≤ (k : Int) → ps_a s11 1134 k = ps_a s0 1134 k := by rw [show ps_a s11 1134 = ps_a s 1134 from (K11.2 1134 rfl).1]; exact hFR
    have hax : (ps_a s11 1137 (Int32.toNatClampNeg (ps_i s11 1131 22))).toInt = ax := by rw [show ps_a s11 1137 = ps_a s 1137 from (K11.2 1137 rfl).1, show ps_i s11 1131 22 = ps_i s 1131 22 from kp_i K11 22 rfl]; exact hax
    have p11_0' : (ps_i s11 1131 8).toInt ≤ (ps_i s11 1131 4).toInt := p11_0
    have r13 := mf_8 J11
    have r14 := mf_4 J11
    have u15 : (ps_i s11 1131 4).toInt = (ps_i s 1131 4).toInt := xeq (kp_i K11 4 rfl)
    have p11_1' : 0 ≤ v11.toInt := p11_1
    have p11_2' : v11.toInt ≤ 9999 := p11_2
    have p11_3' : 1 ≤ (ps_i s 1131 5).toInt → 1 ≤ (ps_i s11 1131 5).toInt := p11_3
    have r16 := mf_5 J11
    refine ps_nd_i (show pm_in x1 40 = true from xgi (show 0 ≤ x1.toInt from by omega) (show x1.toInt < 40 from by omega)) ?_
    have J17 := mwa_1155 (i := (Int32.toNatClampNeg x1)) (v := v11) J11 (show 0 ≤ v11.toInt from by omega) (show v11.toInt ≤ 9999 from by omega)
    have K18 := kpa' K12 (r := 1155) (i := (Int32.toNatClampNeg x1)) (v := v11) rfl
    have r19 : 0 ≤ (ps_a s11 1152 (Int32.toNatClampNeg x1)).toInt ∧ (ps_a s11 1152 (Int32.toNatClampNeg x1)).toInt ≤ 18 := ma_1152 (i := x1) J11 (show 0 ≤ x1.toInt from by omega) (show x1.toInt < 40 from by omega)
    have u20 : (ps_a s11 1152 (Int32.toNatClampNeg x1)).toInt = (ps_a s 1152 (Int32.toNatClampNeg x1)).toInt := xeq (kp_a K11 1152 rfl _)
    have r21 := mf_42 J11
    have u22 : (ps_i s11 1131 42).toInt = (ps_i s 1131 42).toInt := xeq (kp_i K11 42 rfl)
    have r23 : -1 ≤ (ps_a s11 1153 (Int32.toNatClampNeg x1)).toInt ∧ (ps_a s11 1153 (Int32.toNatClampNeg x1)).toInt ≤ 9999 := ma_1153 (i := x1) J11 (show 0 ≤ x1.toInt from by omega) (show x1.toInt < 40 from by omega)
    have u24 : (ps_a s11 1153 (Int32.toNatClampNeg x1)).toInt = (ps_a s 1153 (Int32.toNatClampNeg x1)).toInt := xeq (kp_a K11 1153 rfl _)
    exact ms_238_106 (σ := σ) (ax := ax) (n0 := n0) k  x1 x2 _ J17 K18 hS2 hRs hFR hax (show (ps_i s11 1131 8).toInt ≤ (ps_i s11 1131 4).toInt from by omega) (show 0 ≤ x1.toInt from by omega) (show x1.toInt < 40 from by omega) (show 0 ≤ x2.toInt from by omega) (show x2.toInt ≤ 18 from by omega) (show (ps_a s11 1152 (Int32.toNatClampNeg x1)).toInt = x2.toInt from by omega) (show (ps_i s11 1131 42).toInt = x1.toInt from by omega) (show x1.toInt = n0 from by omega) (show (ps_i s11 1131 42).toInt = (ps_i s0 1131 42).toInt from by omega) (show 1 ≤ (ps_i s11 1131 5).toInt ∨ x2.toInt ≠ 1 ∨ (0 ≤ (ps_a s11 1153 (Int32.toNatClampNeg x1)).toInt ∧ (ps_a s11 1153 (Int32.toNatClampNeg x1)).toInt < ax) from by omega) (show 1 ≤ (ps_i s11 1131 5).toInt ∨ x2.toInt = 0 ∨ x2.toInt = 15 ∨ 0 ≤ (ps_a s11 1153 (Int32.toNatClampNeg x1)).toInt from by omega)

