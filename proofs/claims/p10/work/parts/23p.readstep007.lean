set_option maxRecDepth 100000
theorem ms_238_134 {x : Nat → Nat → Nat} {t : Int32} {d : Nat} {s0 : ps_S} {σ : mSig} {ax n0 : Int} {Q : Option Value → ps_S → Prop} (k : ∀ (s' : ps_S), mJ x t s' → kp [1134, 1143, 1144, 1145, 1146, 1147, 1148, 1152, 1153, 1154, 1155, 1156] [5, 6, 7, 8, 9, 10, 11, 23, 29, 30, 31, 32, 42] s0 s' → ((ps_i s' 1131 8).toInt ≤ (ps_i s' 1131 4).toInt) → (1 ≤ (ps_i s' 1131 5).toInt ∨ SRs σ (ps_a s' 1134) (ps_a s' 1152) (ps_a s' 1153) ax (ps_i s' 1131 42).toInt) → (∀ k : Nat, (k : Int) < 22468 ∨ 25748 ≤ (k : Int) → ps_a s' 1134 k = ps_a s0 1134 k) → (1 ≤ (ps_i s' 1131 5).toInt ∨ (ps_i s' 1131 42).toInt = (ps_i s0 1131 42).toInt + 1) → ((ps_i s0 1131 42).toInt ≤ (ps_i s' 1131 42).toInt) → Q none s') (x1 : Int32) (x2 : Int32) (s : ps_S) (J : mJ x t s) (K : kp [1134, 1143, 1144, 1145, 1146, 1147, 1148, 1152, 1153, 1154, 1155, 1156] [5, 6, 7, 8, 9, 10, 11, 23, 29, 30, 31, 32, 42] s0 s) (hS2 : Sg (ps_a s 1135) (ps_a s 1136) (ps_a s 1138) (ps_a s 1139) (ps_i s 1131 22).toInt σ) (hRs : SRs σ (ps_a s 1134) (ps_a s 1152) (ps_a s 1153) ax (n0)) (hFR : ∀ k : Nat, (k : Int) < 22468 ∨ 25748 ≤ (k : Int) → ps_a s 1134 k = ps_a s0 1134 k) (hax : (ps_a s 1137 (Int32.toNatClampNeg (ps_i s 1131 22))).toInt = ax) (i4 : (ps_i s 1131 8).toInt ≤ (ps_i s 1131 4).toInt) (i5 : 0 ≤ x1.toInt) (i6 : x1.toInt < 40) (i7 : 0 ≤ x2.toInt) (i8 : x2.toInt ≤ 18) (i9 : (ps_a s 1152 (Int32.toNatClampNeg x1)).toInt = x2.toInt) (i10 : (ps_i s 1131 42).toInt = x1.toInt) (i11 : x1.toInt = n0) (i12 : (ps_i s 1131 42).toInt = (ps_i s0 1131 42).toInt) (i13 : 1 ≤ (ps_i s 1131 5).toInt ∨ x2.toInt ≠ 1 ∨ (0 ≤ (ps_a s 1153 (Int32.toNatClampNeg x1)).toInt ∧ (ps_a s 1153 (Int32.toNatClampNeg x1)).toInt < ax)) (i14 : 1 ≤ (ps_i s 1131 5).toInt ∨ x2.toInt = 0 ∨ x2.toInt = 15 ∨ 0 ≤ (ps_a s 1153 (Int32.toNatClampNeg x1)).toInt) (i15 : 1 ≤ (ps_i s 1131 5).toInt ∨ ¬ (x2.toInt = 12 ∨ x2.toInt = 13 ∨ x2.toInt = 15) ∨ Tm σ (ps_a s 1134) (24108 + 41 * x1.toInt)) : ps_At (d + 6) 238 134 [(0, .ref 1131), (1, .int x1), (2, .int x2)] [] s Q := by
  have r1 := mf_8 J
  have r2 := mf_4 J
  have r3 : 0 ≤ (ps_a s 1152 (Int32.toNatClampNeg x1)).toInt ∧ (ps_a s 1152 (Int32.toNatClampNeg x1)).toInt ≤ 18 := ma_1152 (i := x1) J (show 0 ≤ x1.toInt from by omega) (show x1.toInt < 40 from by omega)
  have r4 := mf_42 J
  have r5 := mf_5 J
  have r6 : -1 ≤ (ps_a s 1153 (Int32.toNatClampNeg x1)).toInt ∧ (ps_a s 1153 (Int32.toNatClampNeg x1)).toInt ≤ 9999 := ma_1153 (i := x1) J (show 0 ≤ x1.toInt from by omega) (show x1.toInt < 40 from by omega)
  refine pg_238_134 (d := d + 5) ?_
  have ex : Int32.toNatClampNeg x1 = x1.toInt.toNat := rfl
  have hR0 : SRs σ (ps_a s 1134) (ps_a s 1152) (ps_a s 1153) ax n0 := hRs
  refine ms_192 J  (fun v7 p7_0 b7 => ?_)
  have p7_0' : (v7.toInt = 0 ∧ 1 ≤ (ps_i s 1131 5).toInt) ∨ (v7.toInt = 1 ∧ (ps_i s 1131 5).toInt = 0) := p7_0
  refine And.intro (fun h8 => ?_) (fun h8 => ?_)
  · have f9 : v7.toInt = (0 : Int) := xeq h8
    have qz9 : 1 ≤ (ps_i s 1131 5).toInt := by omega
    clear p7_0' p7_0
    exact ms_238_162 (σ := σ) (ax := ax) (n0 := n0) k  x1 x2 _ J K hS2 hRs hFR hax (show (ps_i s 1131 8).toInt ≤ (ps_i s 1131 4).toInt from by omega) (show 0 ≤ x1.toInt from by omega) (show x1.toInt < 40 from by omega) (show 0 ≤ x2.toInt from by omega) (show x2.toInt ≤ 18 from by omega) (show (ps_a s 1152 (Int32.toNatClampNeg x1)).toInt = x2.toInt from by omega) (show (ps_i s 1131 42).toInt = x1.toInt from by omega) (show x1.toInt = n0 from by omega) (show (ps_i s 1131 42).toInt = (ps_i s0 1131 42).toInt from by omega) (show 1 ≤ (ps_i s 1131 5).toInt ∨ x2.toInt ≠ 1 ∨ (0 ≤ (ps_a s 1153 (Int32.toNatClampNeg x1)).toInt ∧ (ps_a s 1153 (Int32.toNatClampNeg x1)).toInt < ax) from by omega) (show 1 ≤ (ps_i s 1131 5).toInt ∨ x2.toInt = 0 ∨ x2.toInt = 15 ∨ 0 ≤ (ps_a s 1153 (Int32.toNatClampNeg x1)).toInt from by omega) (by assumption) (Or.inl (show 1 ≤ (ps_i s 1131 5).toInt from by omega))
  · have f10 : v7.toInt ≠ (0 : Int) := xne h8
    have qz10 : (ps_i s 1131 5).toInt = 0 := by omega
    clear p7_0' p7_0
    refine ms_236 J  (fun v11 p11_0 b11 => ?_)
    have p11_0' : (v11.toInt = 1 ∧ (x2.toInt = 0 ∨ x2.toInt = 6 ∨ x2.toInt = 7 ∨ x2.toInt = 10 ∨ x2.toInt = 13 ∨ 16 ≤ x2.toInt)) ∨ (v11.toInt = 0 ∧ x2.toInt ≠ 0 ∧ x2.toInt ≠ 6 ∧ x2.toInt ≠ 7 ∧ x2.toInt ≠ 10 ∧ x2.toInt ≠ 13 ∧ x2.toInt < 16) := p11_0
    refine And.intro (fun h12 => ?_) (fun h12 => ?_)
    · have f13 : v11.toInt = (0 : Int) := xeq h12
      exact ms_238_162 (σ := σ) (ax := ax) (n0 := n0) k  x1 x2 _ J K hS2 hRs hFR hax (show (ps_i s 1131 8).toInt ≤ (ps_i s 1131 4).toInt from by omega) (show 0 ≤ x1.toInt from by omega) (show x1.toInt < 40 from by omega) (show 0 ≤ x2.toInt from by omega) (show x2.toInt ≤ 18 from by omega) (show (ps_a s 1152 (Int32.toNatClampNeg x1)).toInt = x2.toInt from by omega) (show (ps_i s 1131 42).toInt = x1.toInt from by omega) (show x1.toInt = n0 from by omega) (show (ps_i s 1131 42).toInt = (ps_i s0 1131 42).toInt from by omega) (show 1 ≤ (ps_i s 1131 5).toInt ∨ x2.toInt ≠ 1 ∨ (0 ≤ (ps_a s 1153 (Int32.toNatClampNeg x1)).toInt ∧ (ps_a s 1153 (Int32.toNatClampNeg x1)).toInt < ax) from by omega) (show 1 ≤ (ps_i s 1131 5).toInt ∨ x2.toInt = 0 ∨ x2.toInt = 15 ∨ 0 ≤ (ps_a s 1153 (Int32.toNatClampNeg x1)).toInt from by omega) (by assumption) (Or.inr (Or.inl (by omega)))
    · have f14 : v11.toInt ≠ (0 : Int) := xne h12
      have a15 : ((41 : Int32) * x1).toInt = (41 : Int) * x1.toInt := xIm (show -2147483648 ≤ (41 : Int) * x1.toInt from by omega) (show (41 : Int) * x1.toInt < 2147483648 from by omega)
      have a16 : ((22468 : Int32) + ((41 : Int32) * x1)).toInt = (22468 : Int) + ((41 : Int32) * x1).toInt := xIa (show -2147483648 ≤ (22468 : Int) + ((41 : Int32) * x1).toInt from by omega) (show (22468 : Int) + ((41 : Int32) * x1).toInt < 2147483648 from by omega)
      refine ms_209 (b := true) J hS2 (show ((22468 : Int32) + ((41 : Int32) * x1)).toInt % 41 = 0 from by omega) (show 0 ≤ ((22468 : Int32) + ((41 : Int32) * x1)).toInt from by omega) (show ((22468 : Int32) + ((41 : Int32) * x1)).toInt < 27306 from by omega) (show (ps_i s 1131 8).toInt ≤ (ps_i s 1131 4).toInt from by omega) ((Or.inl ⟨by decide, rfl⟩)) ((by decide)) (fun s17 J17 K17 p17_0 p17_1 p17_2 p17_3 => ?_)
      have K18 := kpt K K17 rfl rfl
      have KC := K17
      have hS2 : Sg (ps_a s17 1135) (ps_a s17 1136) (ps_a s17 1138) (ps_a s17 1139) (ps_i s17 1131 22).toInt σ := by rw [show ps_a s17 1135 = ps_a s 1135 from (K17.2 1135 rfl).1, show ps_a s17 1136 = ps_a s 1136 from (K17.2 1136 rfl).1, show ps_a s17 1138 = ps_a s 1138 from (K17.2 1138 rfl).1, show ps_a s17 1139 = ps_a s 1139 from (K17.2 1139 rfl).1, show ps_i s17 1131 22 = ps_i s 1131 22 from kp_i K17 22 rfl]; exact hS2
      have hax : (ps_a s17 1137 (Int32.toNatClampNeg (ps_i s17 1131 22))).toInt = ax := by rw [show ps_a s17 1137 = ps_a s 1137 from (K17.2 1137 rfl).1, show ps_i s17 1131 22 = ps_i s 1131 22 from kp_i K17 22 rfl]; exact hax
      have hR0 : SRs σ (ps_a s 1134) (ps_a s17 1152) (ps_a s17 1153) ax n0 := by rw [show ps_a s17 1152 = ps_a s 1152 from (K17.2 1152 rfl).1, show ps_a s17 1153 = ps_a s 1153 from (K17.2 1153 rfl).1]; exact hR0
      have p17_0' : (ps_i s17 1131 8).toInt ≤ (ps_i s17 1131 4).toInt := p17_0
      have r19 := mf_8 J17
      have r20 := mf_4 J17
      have u21 : (ps_i s17 1131 4).toInt = (ps_i s 1131 4).toInt := xeq (kp_i K17 4 rfl)
      have p17_1' : 1 ≤ (ps_i s 1131 5).toInt → 1 ≤ (ps_i s17 1131 5).toInt := p17_1
      have r22 := mf_5 J17
      have ho : _ := p17_2
      have hrow : _ := p17_3
      have r23 : 0 ≤ (ps_a s17 1152 (Int32.toNatClampNeg x1)).toInt ∧ (ps_a s17 1152 (Int32.toNatClampNeg x1)).toInt ≤ 18 := ma_1152 (i := x1) J17 (show 0 ≤ x1.toInt from by omega) (show x1.toInt < 40 from by omega)
      have u24 : (ps_a s17 1152 (Int32.toNatClampNeg x1)).toInt = (ps_a s 1152 (Int32.toNatClampNeg x1)).toInt := xeq (kp_a K17 1152 rfl _)
      have r25 := mf_42 J17
      have u26 : (ps_i s17 1131 42).toInt = (ps_i s 1131 42).toInt := xeq (kp_i K17 42 rfl)
      have r27 : -1 ≤ (ps_a s17 1153 (Int32.toNatClampNeg x1)).toInt ∧ (ps_a s17 1153 (Int32.toNatClampNeg x1)).toInt ≤ 9999 := ma_1153 (i := x1) J17 (show 0 ≤ x1.toInt from by omega) (show x1.toInt < 40 from by omega)
      have u28 : (ps_a s17 1153 (Int32.toNatClampNeg x1)).toInt = (ps_a s 1153 (Int32.toNatClampNeg x1)).toInt := xeq (kp_a K17 1153 rfl _)
      exact ms_238_162 (σ := σ) (ax := ax) (n0 := n0) k  x1 x2 _ J17 K18 hS2 (SRs_row (i := x1.toInt) hR0 (fun k hk => ho k (by omega)) (Or.inl rfl) (by omega) (by omega)) (fun k hk => (ho k (by omega)).trans (hFR k hk)) hax (show (ps_i s17 1131 8).toInt ≤ (ps_i s17 1131 4).toInt from by omega) (show 0 ≤ x1.toInt from by omega) (show x1.toInt < 40 from by omega) (show 0 ≤ x2.toInt from by omega) (show x2.toInt ≤ 18 from by omega) (show (ps_a s17 1152 (Int32.toNatClampNeg x1)).toInt = x2.toInt from by omega) (show (ps_i s17 1131 42).toInt = x1.toInt from by omega) (show x1.toInt = n0 from by omega) (show (ps_i s17 1131 42).toInt = (ps_i s0 1131 42).toInt from by omega) (show 1 ≤ (ps_i s17 1131 5).toInt ∨ x2.toInt ≠ 1 ∨ (0 ≤ (ps_a s17 1153 (Int32.toNatClampNeg x1)).toInt ∧ (ps_a s17 1153 (Int32.toNatClampNeg x1)).toInt < ax) from by omega) (show 1 ≤ (ps_i s17 1131 5).toInt ∨ x2.toInt = 0 ∨ x2.toInt = 15 ∨ 0 ≤ (ps_a s17 1153 (Int32.toNatClampNeg x1)).toInt from by omega) (i15.elim (fun z => Or.inl (show 1 ≤ (ps_i s17 1131 5).toInt from by omega)) (fun z => Or.inr (z.imp id (fun q => Tm_keep q (fun k h1 h2 => ho k (by omega)))))) (hrow.imp id (fun z => Or.inr (by obtain ⟨l2, g1, g2, g3⟩ := z; exact ⟨l2, (by rw [show ((22468 : Int32) + ((41 : Int32) * x1)).toInt = 22468 + 41 * x1.toInt from by omega] at g1; exact g1), g2⟩)))

