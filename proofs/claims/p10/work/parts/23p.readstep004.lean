set_option maxRecDepth 100000
theorem ms_238_205 {x : Nat → Nat → Nat} {t : Int32} {d : Nat} {s0 : ps_S} {σ : mSig} {ax n0 : Int} {Q : Option Value → ps_S → Prop} (k : ∀ (s' : ps_S), mJ x t s' → kp [1134, 1143, 1144, 1145, 1146, 1147, 1148, 1152, 1153, 1154, 1155, 1156] [5, 6, 7, 8, 9, 10, 11, 23, 29, 30, 31, 32, 42] s0 s' → ((ps_i s' 1131 8).toInt ≤ (ps_i s' 1131 4).toInt) → (1 ≤ (ps_i s' 1131 5).toInt ∨ SRs σ (ps_a s' 1134) (ps_a s' 1152) (ps_a s' 1153) ax (ps_i s' 1131 42).toInt) → (∀ k : Nat, (k : Int) < 22468 ∨ 25748 ≤ (k : Int) → ps_a s' 1134 k = ps_a s0 1134 k) → (1 ≤ (ps_i s' 1131 5).toInt ∨ (ps_i s' 1131 42).toInt = (ps_i s0 1131 42).toInt + 1) → ((ps_i s0 1131 42).toInt ≤ (ps_i s' 1131 42).toInt) → Q none s') (s : ps_S) (J : mJ x t s) (K : kp [1134, 1143, 1144, 1145, 1146, 1147, 1148, 1152, 1153, 1154, 1155, 1156] [5, 6, 7, 8, 9, 10, 11, 23, 29, 30, 31, 32, 42] s0 s) (hFR : ∀ k : Nat, (k : Int) < 22468 ∨ 25748 ≤ (k : Int) → ps_a s 1134 k = ps_a s0 1134 k) (i1 : (ps_i s 1131 8).toInt ≤ (ps_i s 1131 4).toInt) (i2 : 1 ≤ (ps_i s 1131 5).toInt ∨ SRs σ (ps_a s 1134) (ps_a s 1152) (ps_a s 1153) ax (n0 + 1)) (i3 : (ps_i s 1131 42).toInt = n0) (i4 : (ps_i s 1131 42).toInt = (ps_i s0 1131 42).toInt) (i5 : (ps_i s 1131 42).toInt < 40) (i6 : 0 ≤ (ps_i s 1131 42).toInt) : ps_At (d + 6) 238 205 [(0, .ref 1131)] [] s Q := by
  have r1 := mf_8 J
  have r2 := mf_4 J
  have r3 := mf_42 J
  refine pg_238_205 (d := d + 5) ?_
  have hI2 : 1 ≤ (ps_i s 1131 5).toInt ∨ SRs σ (ps_a s 1134) (ps_a s 1152) (ps_a s 1153) ax (n0 + 1) := i2
  refine ms_192 J  (fun v4 p4_0 b4 => ?_)
  have p4_0' : (v4.toInt = 0 ∧ 1 ≤ (ps_i s 1131 5).toInt) ∨ (v4.toInt = 1 ∧ (ps_i s 1131 5).toInt = 0) := p4_0
  have r5 := mf_5 J
  refine And.intro (fun h6 => ?_) (fun h6 => ?_)
  · have f7 : v4.toInt = (0 : Int) := xeq h6
    have qz7 : 1 ≤ (ps_i s 1131 5).toInt := by omega
    clear p4_0' p4_0
    exact ms_238_216 (σ := σ) (ax := ax) (n0 := n0) k   _ J K hFR (show (ps_i s 1131 8).toInt ≤ (ps_i s 1131 4).toInt from by omega) (i2) (show (ps_i s 1131 42).toInt = n0 from by omega) (show (ps_i s 1131 42).toInt = (ps_i s0 1131 42).toInt from by omega) (show (ps_i s 1131 42).toInt < 40 from by omega) (show 0 ≤ (ps_i s 1131 42).toInt from by omega)
  · have f8 : v4.toInt ≠ (0 : Int) := xne h6
    have qz8 : (ps_i s 1131 5).toInt = 0 := by omega
    clear p4_0' p4_0
    refine ms_194 J (show (ps_i s 1131 8).toInt ≤ (ps_i s 1131 4).toInt from by omega) (fun s9 J9 K9 p9_0 => ?_)
    have K10 := kpt K K9 rfl rfl
    have KC := K9
    have hFR : ∀ k : Nat, (k : Int) < 22468 ∨ 25748 ≤ (k : Int) → ps_a s9 1134 k = ps_a s0 1134 k := by rw [show ps_a s9 1134 = ps_a s 1134 from (K9.2 1134 rfl).1]; exact hFR
    have hI2 : 1 ≤ (ps_i s 1131 5).toInt ∨ SRs σ (ps_a s9 1134) (ps_a s9 1152) (ps_a s9 1153) ax (n0 + 1) := by rw [show ps_a s9 1134 = ps_a s 1134 from (K9.2 1134 rfl).1, show ps_a s9 1152 = ps_a s 1152 from (K9.2 1152 rfl).1, show ps_a s9 1153 = ps_a s 1153 from (K9.2 1153 rfl).1]; exact hI2
    have p9_0' : (ps_i s9 1131 8).toInt ≤ (ps_i s9 1131 4).toInt := p9_0
    have r11 := mf_8 J9
    have r12 := mf_4 J9
    have u13 : (ps_i s9 1131 4).toInt = (ps_i s 1131 4).toInt := xeq (kp_i K9 4 rfl)
    have r14 := mf_42 J9
    have u15 : (ps_i s9 1131 42).toInt = (ps_i s 1131 42).toInt := xeq (kp_i K9 42 rfl)
    exact ms_238_216 (σ := σ) (ax := ax) (n0 := n0) k   _ J9 K10 hFR (show (ps_i s9 1131 8).toInt ≤ (ps_i s9 1131 4).toInt from by omega) (hI2.imp (fun z => (show 1 ≤ (ps_i s9 1131 5).toInt from by omega)) id) (show (ps_i s9 1131 42).toInt = n0 from by omega) (show (ps_i s9 1131 42).toInt = (ps_i s0 1131 42).toInt from by omega) (show (ps_i s9 1131 42).toInt < 40 from by omega) (show 0 ≤ (ps_i s9 1131 42).toInt from by omega)

