set_option maxRecDepth 100000
theorem ms_238_216 {x : Nat → Nat → Nat} {t : Int32} {d : Nat} {s0 : ps_S} {σ : mSig} {ax n0 : Int} {Q : Option Value → ps_S → Prop} (k : ∀ (s' : ps_S), mJ x t s' → kp [1134, 1143, 1144, 1145, 1146, 1147, 1148, 1152, 1153, 1154, 1155, 1156] [5, 6, 7, 8, 9, 10, 11, 23, 29, 30, 31, 32, 42] s0 s' → ((ps_i s' 1131 8).toInt ≤ (ps_i s' 1131 4).toInt) → (1 ≤ (ps_i s' 1131 5).toInt ∨ SRs σ (ps_a s' 1134) (ps_a s' 1152) (ps_a s' 1153) ax (ps_i s' 1131 42).toInt) → (∀ k : Nat, (k : Int) < 22468 ∨ 25748 ≤ (k : Int) → ps_a s' 1134 k = ps_a s0 1134 k) → (1 ≤ (ps_i s' 1131 5).toInt ∨ (ps_i s' 1131 42).toInt = (ps_i s0 1131 42).toInt + 1) → ((ps_i s0 1131 42).toInt ≤ (ps_i s' 1131 42).toInt) → Q none s') (s : ps_S) (J : mJ x t s) (K : kp [1134, 1143, 1144, 1145, 1146, 1147, 1148, 1152, 1153, 1154, 1155, 1156] [5, 6, 7, 8, 9, 10, 11, 23, 29, 30, 31, 32, 42] s0 s) (hFR : ∀ k : Nat, (k : Int) < 22468 ∨ 25748 ≤ (k : Int) → ps_a s 1134 k = ps_a s0 1134 k) (i1 : (ps_i s 1131 8).toInt ≤ (ps_i s 1131 4).toInt) (i2 : 1 ≤ (ps_i s 1131 5).toInt ∨ SRs σ (ps_a s 1134) (ps_a s 1152) (ps_a s 1153) ax (n0 + 1)) (i3 : (ps_i s 1131 42).toInt = n0) (i4 : (ps_i s 1131 42).toInt = (ps_i s0 1131 42).toInt) (i5 : (ps_i s 1131 42).toInt < 40) (i6 : 0 ≤ (ps_i s 1131 42).toInt) : ps_At (d + 6) 238 216 [(0, .ref 1131)] [] s Q := by
  have r1 := mf_8 J
  have r2 := mf_4 J
  have r3 := mf_42 J
  refine pg_238_216 (d := d + 5) ?_
  have hI : 1 ≤ (ps_i s 1131 5).toInt ∨ SRs σ (ps_a s 1134) (ps_a s 1152) (ps_a s 1153) ax (n0 + 1) := i2
  have r4 := mf_9 J
  refine And.intro (fun h5 => ?_) (fun h5 => ?_)
  · have f6 : (ps_i s 1131 9).toInt ≠ (5 : Int) := xne h5
    refine ms_197 J (show (ps_i s 1131 8).toInt ≤ (ps_i s 1131 4).toInt from by omega) (fun s7 J7 K7 p7_0 p7_1 p7_2 => ?_)
    have K8 := kpt K K7 rfl rfl
    have KC := K7
    have hFR : ∀ k : Nat, (k : Int) < 22468 ∨ 25748 ≤ (k : Int) → ps_a s7 1134 k = ps_a s0 1134 k := by rw [show ps_a s7 1134 = ps_a s 1134 from (K7.2 1134 rfl).1]; exact hFR
    have hI : 1 ≤ (ps_i s 1131 5).toInt ∨ SRs σ (ps_a s7 1134) (ps_a s7 1152) (ps_a s7 1153) ax (n0 + 1) := by rw [show ps_a s7 1134 = ps_a s 1134 from (K7.2 1134 rfl).1, show ps_a s7 1152 = ps_a s 1152 from (K7.2 1152 rfl).1, show ps_a s7 1153 = ps_a s 1153 from (K7.2 1153 rfl).1]; exact hI
    have p7_0' : (ps_i s7 1131 8).toInt ≤ (ps_i s7 1131 4).toInt := p7_0
    have r9 := mf_8 J7
    have r10 := mf_4 J7
    have u11 : (ps_i s7 1131 4).toInt = (ps_i s 1131 4).toInt := xeq (kp_i K7 4 rfl)
    have p7_1' : 1 ≤ (ps_i s 1131 5).toInt → 1 ≤ (ps_i s7 1131 5).toInt := p7_1
    have r12 := mf_5 J7
    have r13 := mf_5 J
    have p7_2' : (0 : Int) = 0 → 1 ≤ (ps_i s7 1131 5).toInt := p7_2
    have r14 := mf_42 J7
    have u15 : (ps_i s7 1131 42).toInt = (ps_i s 1131 42).toInt := xeq (kp_i K7 42 rfl)
    have a16 : ((ps_i s7 1131 42) + 1).toInt = (ps_i s7 1131 42).toInt + (1 : Int) := xIa (show -2147483648 ≤ (ps_i s7 1131 42).toInt + (1 : Int) from by omega) (show (ps_i s7 1131 42).toInt + (1 : Int) < 2147483648 from by omega)
    have J17 := mwi_42 (v := ((ps_i s7 1131 42) + 1)) J7 (show 0 ≤ ((ps_i s7 1131 42) + 1).toInt from by omega) (show ((ps_i s7 1131 42) + 1).toInt ≤ 40 from by omega)
    have K18 := kpi K8 (q := 42) (v := ((ps_i s7 1131 42) + 1)) rfl
    exact k _ J17 K18 (show (ps_i s7 1131 8).toInt ≤ (ps_i s7 1131 4).toInt from by omega) (hI.elim (fun z => Or.inl (show 1 ≤ (ps_i s7 1131 5).toInt from by omega)) (fun z => Or.inr (SRs_n z (show ((ps_i s7 1131 42) + 1).toInt = n0 + 1 from by omega) rfl))) (hFR) (show 1 ≤ (ps_i s7 1131 5).toInt ∨ ((ps_i s7 1131 42) + 1).toInt = (ps_i s0 1131 42).toInt + 1 from by omega) (show (ps_i s0 1131 42).toInt ≤ ((ps_i s7 1131 42) + 1).toInt from by omega)
  · have f19 : (ps_i s 1131 9).toInt = (5 : Int) := xeq h5
    refine ms_197 J (show (ps_i s 1131 8).toInt ≤ (ps_i s 1131 4).toInt from by omega) (fun s20 J20 K20 p20_0 p20_1 p20_2 => ?_)
    have K21 := kpt K K20 rfl rfl
    have KC := K20
    have hFR : ∀ k : Nat, (k : Int) < 22468 ∨ 25748 ≤ (k : Int) → ps_a s20 1134 k = ps_a s0 1134 k := by rw [show ps_a s20 1134 = ps_a s 1134 from (K20.2 1134 rfl).1]; exact hFR
    have hI : 1 ≤ (ps_i s 1131 5).toInt ∨ SRs σ (ps_a s20 1134) (ps_a s20 1152) (ps_a s20 1153) ax (n0 + 1) := by rw [show ps_a s20 1134 = ps_a s 1134 from (K20.2 1134 rfl).1, show ps_a s20 1152 = ps_a s 1152 from (K20.2 1152 rfl).1, show ps_a s20 1153 = ps_a s 1153 from (K20.2 1153 rfl).1]; exact hI
    have p20_0' : (ps_i s20 1131 8).toInt ≤ (ps_i s20 1131 4).toInt := p20_0
    have r22 := mf_8 J20
    have r23 := mf_4 J20
    have u24 : (ps_i s20 1131 4).toInt = (ps_i s 1131 4).toInt := xeq (kp_i K20 4 rfl)
    have p20_1' : 1 ≤ (ps_i s 1131 5).toInt → 1 ≤ (ps_i s20 1131 5).toInt := p20_1
    have r25 := mf_5 J20
    have r26 := mf_5 J
    have p20_2' : (1 : Int) = 0 → 1 ≤ (ps_i s20 1131 5).toInt := p20_2
    have r27 := mf_42 J20
    have u28 : (ps_i s20 1131 42).toInt = (ps_i s 1131 42).toInt := xeq (kp_i K20 42 rfl)
    have a29 : ((ps_i s20 1131 42) + 1).toInt = (ps_i s20 1131 42).toInt + (1 : Int) := xIa (show -2147483648 ≤ (ps_i s20 1131 42).toInt + (1 : Int) from by omega) (show (ps_i s20 1131 42).toInt + (1 : Int) < 2147483648 from by omega)
    have J30 := mwi_42 (v := ((ps_i s20 1131 42) + 1)) J20 (show 0 ≤ ((ps_i s20 1131 42) + 1).toInt from by omega) (show ((ps_i s20 1131 42) + 1).toInt ≤ 40 from by omega)
    have K31 := kpi K21 (q := 42) (v := ((ps_i s20 1131 42) + 1)) rfl
    exact k _ J30 K31 (show (ps_i s20 1131 8).toInt ≤ (ps_i s20 1131 4).toInt from by omega) (hI.elim (fun z => Or.inl (show 1 ≤ (ps_i s20 1131 5).toInt from by omega)) (fun z => Or.inr (SRs_n z (show ((ps_i s20 1131 42) + 1).toInt = n0 + 1 from by omega) rfl))) (hFR) (show 1 ≤ (ps_i s20 1131 5).toInt ∨ ((ps_i s20 1131 42) + 1).toInt = (ps_i s0 1131 42).toInt + 1 from by omega) (show (ps_i s0 1131 42).toInt ≤ ((ps_i s20 1131 42) + 1).toInt from by omega)

