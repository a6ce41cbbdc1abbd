set_option maxRecDepth 100000
theorem ms_238_162 {x : Nat → Nat → Nat} {t : Int32} {d : Nat} {s0 : ps_S} {σ : mSig} {ax n0 : Int} {Q : Option Value → ps_S → Prop} (k : ∀ (s' : ps_S), mJ x t s' → kp [1134, 1143, 1144, 1145, 1146, 1147, 1148, 1152, 1153, 1154, 1155, 1156] [5, 6, 7, 8, 9, 10, 11, 23, 29, 30, 31, 32, 42] s0 s' → ((ps_i s' 1131 8).toInt ≤ (ps_i s' 1131 4).toInt) → (1 ≤ (ps_i s' 1131 5).toInt ∨ SRs σ (ps_a s' 1134) (ps_a s' 1152) (ps_a s' 1153) ax (ps_i s' 1131 42).toInt) → (∀ k : Nat, (k : Int) < 22468 ∨ 25748 ≤ (k : Int) → ps_a s' 1134 k = ps_a s0 1134 k) → (1 ≤ (ps_i s' 1131 5).toInt ∨ (ps_i s' 1131 42).toInt = (ps_i s0 1131 42).toInt + 1) → ((ps_i s0 1131 42).toInt ≤ (ps_i s' 1131 42).toInt) → Q none s') (x1 : Int32) (x2 : Int32) (s : ps_S) (J : mJ x t s) (K : kp [1134, 1143, 1144, 1145, 1146, 1147, 1148, 1152, 1153, 1154, 1155, 1156] [5, 6, 7, 8, 9, 10, 11, 23, 29, 30, 31, 32, 42] s0 s) (hS2 : Sg (ps_a s 1135) (ps_a s 1136) (ps_a s 1138) (ps_a s 1139) (ps_i s 1131 22).toInt σ) (hRs : SRs σ (ps_a s 1134) (ps_a s 1152) (ps_a s 1153) ax (n0)) (hFR : ∀ k : Nat, (k : Int) < 22468 ∨ 25748 ≤ (k : Int) → ps_a s 1134 k = ps_a s0 1134 k) (hax : (ps_a s 1137 (Int32.toNatClampNeg (ps_i s 1131 22))).toInt = ax) (i4 : (ps_i s 1131 8).toInt ≤ (ps_i s 1131 4).toInt) (i5 : 0 ≤ x1.toInt) (i6 : x1.toInt < 40) (i7 : 0 ≤ x2.toInt) (i8 : x2.toInt ≤ 18) (i9 : (ps_a s 1152 (Int32.toNatClampNeg x1)).toInt = x2.toInt) (i10 : (ps_i s 1131 42).toInt = x1.toInt) (i11 : x1.toInt = n0) (i12 : (ps_i s 1131 42).toInt = (ps_i s0 1131 42).toInt) (i13 : 1 ≤ (ps_i s 1131 5).toInt ∨ x2.toInt ≠ 1 ∨ (0 ≤ (ps_a s 1153 (Int32.toNatClampNeg x1)).toInt ∧ (ps_a s 1153 (Int32.toNatClampNeg x1)).toInt < ax)) (i14 : 1 ≤ (ps_i s 1131 5).toInt ∨ x2.toInt = 0 ∨ x2.toInt = 15 ∨ 0 ≤ (ps_a s 1153 (Int32.toNatClampNeg x1)).toInt) (i15 : 1 ≤ (ps_i s 1131 5).toInt ∨ ¬ (x2.toInt = 12 ∨ x2.toInt = 13 ∨ x2.toInt = 15) ∨ Tm σ (ps_a s 1134) (24108 + 41 * x1.toInt)) (i16 : 1 ≤ (ps_i s 1131 5).toInt ∨ ¬ (x2.toInt = 0 ∨ x2.toInt = 6 ∨ x2.toInt = 7 ∨ x2.toInt = 10 ∨ x2.toInt = 13 ∨ 16 ≤ x2.toInt) ∨ Fm σ (ps_a s 1134) (22468 + 41 * x1.toInt)) : ps_At (d + 6) 238 162 [(0, .ref 1131), (1, .int x1), (2, .int x2)] [] s Q := by
  have r1 := mf_8 J
  have r2 := mf_4 J
  have r3 : 0 ≤ (ps_a s 1152 (Int32.toNatClampNeg x1)).toInt ∧ (ps_a s 1152 (Int32.toNatClampNeg x1)).toInt ≤ 18 := ma_1152 (i := x1) J (show 0 ≤ x1.toInt from by omega) (show x1.toInt < 40 from by omega)
  have r4 := mf_42 J
  have r5 := mf_5 J
  have r6 : -1 ≤ (ps_a s 1153 (Int32.toNatClampNeg x1)).toInt ∧ (ps_a s 1153 (Int32.toNatClampNeg x1)).toInt ≤ 9999 := ma_1153 (i := x1) J (show 0 ≤ x1.toInt from by omega) (show x1.toInt < 40 from by omega)
  refine pg_238_162 (d := d + 5) ?_
  refine ms_192 J  (fun v7 p7_0 b7 => ?_)
  have p7_0' : (v7.toInt = 0 ∧ 1 ≤ (ps_i s 1131 5).toInt) ∨ (v7.toInt = 1 ∧ (ps_i s 1131 5).toInt = 0) := p7_0
  refine And.intro (fun h8 => ?_) (fun h8 => ?_)
  · have f9 : v7.toInt = (0 : Int) := xeq h8
    have qz9 : 1 ≤ (ps_i s 1131 5).toInt := by omega
    clear p7_0' p7_0
    exact ms_238_216 (σ := σ) (ax := ax) (n0 := n0) k   _ J K hFR (show (ps_i s 1131 8).toInt ≤ (ps_i s 1131 4).toInt from by omega) (Or.inl (show 1 ≤ (ps_i s 1131 5).toInt from by omega)) (show (ps_i s 1131 42).toInt = n0 from by omega) (show (ps_i s 1131 42).toInt = (ps_i s0 1131 42).toInt from by omega) (show (ps_i s 1131 42).toInt < 40 from by omega) (show 0 ≤ (ps_i s 1131 42).toInt from by omega)
  · have f10 : v7.toInt ≠ (0 : Int) := xne h8
    have qz10 : (ps_i s 1131 5).toInt = 0 := by omega
    clear p7_0' p7_0
    have ex : Int32.toNatClampNeg x1 = x1.toInt.toNat := rfl
    have en : n0.toNat = Int32.toNatClampNeg x1 := by omega
    have hRp : SRs σ (ps_a s 1134) (ps_a s 1152) (ps_a s 1153) ax (n0 + 1) := SRs_up (kd := x2.toInt) (one := (ps_a s 1153 (Int32.toNatClampNeg x1)).toInt) hRs (by omega) (by rw [en]; omega) (by rw [en]) ⟨fun _ _ => by omega, fun z => (by rw [show n0 = x1.toInt from by omega]; exact (i16.resolve_left (by omega)).resolve_left (fun q => q z)), fun z => (by rw [show n0 = x1.toInt from by omega]; exact (i15.resolve_left (by omega)).resolve_left (fun q => q z)), fun z => by omega⟩
    refine And.intro (fun h11 => ?_) (fun h11 => ?_)
    · have f12 : x2.toInt = (11 : Int) := xeq h11
      exact ms_238_181 (σ := σ) (ax := ax) (n0 := n0) k  x1 _ J K hRp hFR (show (ps_i s 1131 8).toInt ≤ (ps_i s 1131 4).toInt from by omega) (show (ps_i s 1131 5).toInt = 0 from by omega) (show 0 ≤ x1.toInt from by omega) (show x1.toInt < 40 from by omega) (show (ps_i s 1131 42).toInt = n0 from by omega) (show (ps_i s 1131 42).toInt = (ps_i s0 1131 42).toInt from by omega) (show (ps_i s 1131 42).toInt < 40 from by omega) (show 0 ≤ (ps_i s 1131 42).toInt from by omega)
    · have f13 : x2.toInt ≠ (11 : Int) := xne h11
      refine And.intro (fun h14 => ?_) (fun h14 => ?_)
      · have f15 : x2.toInt ≠ (14 : Int) := xne h14
        exact ms_238_216 (σ := σ) (ax := ax) (n0 := n0) k   _ J K hFR (show (ps_i s 1131 8).toInt ≤ (ps_i s 1131 4).toInt from by omega) (Or.inr hRp) (show (ps_i s 1131 42).toInt = n0 from by omega) (show (ps_i s 1131 42).toInt = (ps_i s0 1131 42).toInt from by omega) (show (ps_i s 1131 42).toInt < 40 from by omega) (show 0 ≤ (ps_i s 1131 42).toInt from by omega)
      · have f16 : x2.toInt = (14 : Int) := xeq h14
        exact ms_238_181 (σ := σ) (ax := ax) (n0 := n0) k  x1 _ J K hRp hFR (show (ps_i s 1131 8).toInt ≤ (ps_i s 1131 4).toInt from by omega) (show (ps_i s 1131 5).toInt = 0 from by omega) (show 0 ≤ x1.toInt from by omega) (show x1.toInt < 40 from by omega) (show (ps_i s 1131 42).toInt = n0 from by omega) (show (ps_i s 1131 42).toInt = (ps_i s0 1131 42).toInt from by omega) (show (ps_i s 1131 42).toInt < 40 from by omega) (show 0 ≤ (ps_i s 1131 42).toInt from by omega)

