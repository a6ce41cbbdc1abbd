set_option maxRecDepth 100000
theorem mw_240_54 {x : Nat → Nat → Nat} {t : Int32} {d : Nat} {s0 : ps_S} {σ : mSig} {gv : Nat → Int32} {Q : Option Value → ps_S → Prop} (k : ∀ (v : Int32) (s' : ps_S), mJ x t s' → kp [1133, 1134, 1143, 1144, 1145, 1146, 1147, 1148, 1149, 1150, 1151, 1152, 1153, 1154, 1155, 1156, 1157, 1158, 1159, 1160] [3, 4, 5, 6, 7, 8, 9, 10, 11, 22, 23, 29, 30, 31, 32, 34, 42, 47, 48, 49, 50, 51] s0 s' → (MI σ (ps_a s' 1134) (ps_a s' 1135) (ps_a s' 1136) (ps_a s' 1137) (ps_a s' 1138) (ps_a s' 1139) (ps_a s' 1157) (ps_a s' 1176) (ps_i s' 1131 21).toInt (ps_i s' 1131 47).toInt (ps_i s' 1131 54).toInt) → ((ps_i s' 1131 3).toInt = 0) → (∀ k : Nat, (21320 ≤ k ∧ k < 22468) ∨ 25748 ≤ k → ps_a s' 1134 k = gv k) → Q (some (.int v)) s') : ∀ (n : Nat) (s : ps_S), (mJ x t s) → (kp [1133, 1134, 1143, 1144, 1145, 1146, 1147, 1148, 1149, 1150, 1151, 1152, 1153, 1154, 1155, 1156, 1157, 1158, 1159, 1160] [3, 4, 5, 6, 7, 8, 9, 10, 11, 22, 23, 29, 30, 31, 32, 34, 42, 47, 48, 49, 50, 51] s0 s) → (MI σ (ps_a s 1134) (ps_a s 1135) (ps_a s 1136) (ps_a s 1137) (ps_a s 1138) (ps_a s 1139) (ps_a s 1157) (ps_a s 1176) (ps_i s 1131 21).toInt (ps_i s 1131 47).toInt (ps_i s 1131 54).toInt) → (SRs σ (ps_a s 1134) (ps_a s 1152) (ps_a s 1153) (ps_a s 1137 (Int32.toNatClampNeg (ps_i s 1131 21))).toInt (ps_i s 1131 42).toInt) → (0 ≤ (ps_i s 1131 47).toInt) → ((ps_i s 1131 47).toInt ≤ (ps_i s 1131 42).toInt) → ((ps_i s 1131 3).toInt = 0) → (∀ k : Nat, (21320 ≤ k ∧ k < 22468) ∨ 25748 ≤ k → ps_a s 1134 k = gv k) → 2 * (50 - (ps_i s 1131 47).toInt) - (ps_i s 1131 48).toInt ≤ (n : Int) → ps_At (d + 7) 240 54 [(0, .ref 1131)] [] s Q := by
  refine xstr (fun n ih => ?_)
  intro s J K hMI hRD i2 i3 i4 hV hm
  have r1 := mf_47 J
  have r2 := mf_42 J
  have r3 := mf_3 J
  have r4 := mf_48 J
  refine pg_240_54 (d := d + 6) ?_
  refine And.intro (fun h5 => ?_) (fun h5 => ?_)
  · have f6 : (ps_i s 1131 42).toInt ≤ (ps_i s 1131 47).toInt := xle h5
    exact k (ps_i s 1131 47) _ J K hMI (show (ps_i s 1131 3).toInt = 0 from by omega) hV
  · have f7 : (ps_i s 1131 47).toInt < (ps_i s 1131 42).toInt := xlt h5
    refine And.intro (fun h8 => ?_) (fun h8 => ?_)
    · have f9 : (0 : Int) ≤ (ps_i s 1131 48).toInt := xle h8
      exact k (ps_i s 1131 47) _ J K hMI (show (ps_i s 1131 3).toInt = 0 from by omega) hV
    · have f10 : (ps_i s 1131 48).toInt < (0 : Int) := xlt h8
      have b21 := mf_21 J
      have h7 := ma_1137 (i := (ps_i s 1131 21)) J (by omega) (by omega)
      have h54 := mf_54 J
      have hS := MI_S hMI
      have hP := MI_P hMI
      have hB := SR_SB hMI hRD (by omega) (by omega) rfl h7.2 h54.2
      have hM0 : MI σ (ps_a s 1134) (ps_a s 1135) (ps_a s 1136) (ps_a s 1137) (ps_a s 1138) (ps_a s 1139) (ps_a s 1157) (ps_a s 1176) (ps_i s 1131 21).toInt (ps_i s 1131 47).toInt (ps_i s 1131 54).toInt := hMI
      have hR0 : SRs σ (ps_a s 1134) (ps_a s 1152) (ps_a s 1153) (ps_a s 1137 (Int32.toNatClampNeg (ps_i s 1131 21))).toInt (ps_i s 1131 42).toInt := hRD
      have hV0 : ∀ k : Nat, (21320 ≤ k ∧ k < 22468) ∨ 25748 ≤ k → ps_a s 1134 k = gv k := hV
      refine ms_252 J (hS) (hP) (hB) (show 0 ≤ (ps_i s 1131 47).toInt from by omega) (show (ps_i s 1131 47).toInt < 40 from by omega) (fun s11 J11 K11 p11_0 p11_1 p11_2 => ?_)
      have K12 := kpt K K11 rfl rfl
      have KC := K11
      have hM0 : MI σ (ps_a s 1134) (ps_a s11 1135) (ps_a s11 1136) (ps_a s11 1137) (ps_a s11 1138) (ps_a s11 1139) (ps_a s 1157) (ps_a s11 1176) (ps_i s11 1131 21).toInt (ps_i s11 1131 47).toInt (ps_i s11 1131 54).toInt := by rw [show ps_a s11 1135 = ps_a s 1135 from (K11.2 1135 rfl).1, show ps_a s11 1136 = ps_a s 1136 from (K11.2 1136 rfl).1, show ps_a s11 1137 = ps_a s 1137 from (K11.2 1137 rfl).1, show ps_a s11 1138 = ps_a s 1138 from (K11.2 1138 rfl).1, show ps_a s11 1139 = ps_a s 1139 from (K11.2 1139 rfl).1, show ps_a s11 1176 = ps_a s 1176 from (K11.2 1176 rfl).1, show ps_i s11 1131 21 = ps_i s 1131 21 from kp_i K11 21 rfl, show ps_i s11 1131 47 = ps_i s 1131 47 from kp_i K11 47 rfl, show ps_i s11 1131 54 = ps_i s 1131 54 from kp_i K11 54 rfl]; exact hM0
      have hR0 : SRs σ (ps_a s 1134) (ps_a s11 1152) (ps_a s11 1153) (ps_a s11 1137 (Int32.toNatClampNeg (ps_i s11 1131 21))).toInt (ps_i s11 1131 42).toInt := by rw [show ps_a s11 1152 = ps_a s 1152 from (K11.2 1152 rfl).1, show ps_a s11 1153 = ps_a s 1153 from (K11.2 1153 rfl).1, show ps_a s11 1137 = ps_a s 1137 from (K11.2 1137 rfl).1, show ps_i s11 1131 21 = ps_i s 1131 21 from kp_i K11 21 rfl, show ps_i s11 1131 42 = ps_i s 1131 42 from kp_i K11 42 rfl]; exact hR0
      have hP1 : _ := p11_0
      have hP2 : _ := p11_1
      have ho : _ := p11_2
      have r13 := mf_50 J11
      refine And.intro (fun h14 => ?_) (fun h14 => ?_)
      · have f15 : (ps_i s11 1131 50).toInt ≠ (0 : Int) := xne h14
        have r16 := mf_47 J11
        have u17 : (ps_i s11 1131 47).toInt = (ps_i s 1131 47).toInt := xeq (kp_i K11 47 rfl)
        have J18 := mwi_48 (v := (ps_i s11 1131 47)) J11 (show -1 ≤ (ps_i s11 1131 47).toInt from by omega) (show (ps_i s11 1131 47).toInt ≤ 40 from by omega)
        have K19 := kpi K12 (q := 48) (v := (ps_i s11 1131 47)) rfl
        have J20 := mwi_n 49 (v := (ps_i s11 1131 50)) J18 rfl
        have K21 := kpi K19 (q := 49) (v := (ps_i s11 1131 50)) rfl
        have r22 := mf_42 J11
        have u23 : (ps_i s11 1131 42).toInt = (ps_i s 1131 42).toInt := xeq (kp_i K11 42 rfl)
        have r24 := mf_3 J11
        have u25 : (ps_i s11 1131 3).toInt = (ps_i s 1131 3).toInt := xeq (kp_i K11 3 rfl)
        exact ih (n - 1) (show n - 1 < n from by omega)  _ J20 K21 (MI_take hM0 (fun k hk => ho k hk) (PSt_le hP1 (show (ps_i s11 1131 47).toInt ≤ (ps_i s 1131 47).toInt from by omega))) (SRs_ho hR0 (fun k hk => ho k hk)) (show 0 ≤ (ps_i s11 1131 47).toInt from by omega) (show (ps_i s11 1131 47).toInt ≤ (ps_i s11 1131 42).toInt from by omega) (show (ps_i s11 1131 3).toInt = 0 from by omega) (fun k hk => (ho k (by omega)).trans (hV0 k hk)) (show 2 * (50 - (ps_i s11 1131 47).toInt) - (ps_i s11 1131 47).toInt ≤ ((n - 1 : Nat) : Int) from by omega)
      · have f26 : (ps_i s11 1131 50).toInt = (0 : Int) := xeq h14
        have r27 := mf_47 J11
        have u28 : (ps_i s11 1131 47).toInt = (ps_i s 1131 47).toInt := xeq (kp_i K11 47 rfl)
        have a29 : ((ps_i s11 1131 47) + 1).toInt = (ps_i s11 1131 47).toInt + (1 : Int) := xIa (show -2147483648 ≤ (ps_i s11 1131 47).toInt + (1 : Int) from by omega) (show (ps_i s11 1131 47).toInt + (1 : Int) < 2147483648 from by omega)
        have J30 := mwi_47 (v := ((ps_i s11 1131 47) + 1)) J11 (show 0 ≤ ((ps_i s11 1131 47) + 1).toInt from by omega) (show ((ps_i s11 1131 47) + 1).toInt ≤ 40 from by omega)
        have K31 := kpi K12 (q := 47) (v := ((ps_i s11 1131 47) + 1)) rfl
        have r32 := mf_42 J11
        have u33 : (ps_i s11 1131 42).toInt = (ps_i s 1131 42).toInt := xeq (kp_i K11 42 rfl)
        have r34 := mf_3 J11
        have u35 : (ps_i s11 1131 3).toInt = (ps_i s 1131 3).toInt := xeq (kp_i K11 3 rfl)
        have r36 := mf_48 J11
        have u37 : (ps_i s11 1131 48).toInt = (ps_i s 1131 48).toInt := xeq (kp_i K11 48 rfl)
        exact ih (n - 1) (show n - 1 < n from by omega)  _ J30 K31 (MI_take hM0 (fun k hk => ho k hk) (PSt_le (hP2 (by omega)) (show ((ps_i s11 1131 47) + 1).toInt ≤ (ps_i s 1131 47).toInt + 1 from by omega))) (SRs_ho hR0 (fun k hk => ho k hk)) (show 0 ≤ ((ps_i s11 1131 47) + 1).toInt from by omega) (show ((ps_i s11 1131 47) + 1).toInt ≤ (ps_i s11 1131 42).toInt from by omega) (show (ps_i s11 1131 3).toInt = 0 from by omega) (fun k hk => (ho k (by omega)).trans (hV0 k hk)) (show 2 * (50 - ((ps_i s11 1131 47) + 1).toInt) - (ps_i s11 1131 48).toInt ≤ ((n - 1 : Nat) : Int) from by omega)

theorem mw_240_30 {x : Nat → Nat → Nat} {t : Int32} {d : Nat} {s0 : ps_S} {σ : mSig} {gv : Nat → Int32} {Q : Option Value → ps_S → Prop} (k : ∀ (v : Int32) (s' : ps_S), mJ x t s' → kp [1133, 1134, 1143, 1144, 1145, 1146, 1147, 1148, 1149, 1150, 1151, 1152, 1153, 1154, 1155, 1156, 1157, 1158, 1159, 1160] [3, 4, 5, 6, 7, 8, 9, 10, 11, 22, 23, 29, 30, 31, 32, 34, 42, 47, 48, 49, 50, 51] s0 s' → (MI σ (ps_a s' 1134) (ps_a s' 1135) (ps_a s' 1136) (ps_a s' 1137) (ps_a s' 1138) (ps_a s' 1139) (ps_a s' 1157) (ps_a s' 1176) (ps_i s' 1131 21).toInt (ps_i s' 1131 47).toInt (ps_i s' 1131 54).toInt) → ((ps_i s' 1131 3).toInt = 0) → (∀ k : Nat, (21320 ≤ k ∧ k < 22468) ∨ 25748 ≤ k → ps_a s' 1134 k = gv k) → Q (some (.int v)) s') (s : ps_S) (J : mJ x t s) (K : kp [1133, 1134, 1143, 1144, 1145, 1146, 1147, 1148, 1149, 1150, 1151, 1152, 1153, 1154, 1155, 1156, 1157, 1158, 1159, 1160] [3, 4, 5, 6, 7, 8, 9, 10, 11, 22, 23, 29, 30, 31, 32, 34, 42, 47, 48, 49, 50, 51] s0 s) (hMI : MI σ (ps_a s 1134) (ps_a s 1135) (ps_a s 1136) (ps_a s 1137) (ps_a s 1138) (ps_a s 1139) (ps_a s 1157) (ps_a s 1176) (ps_i s 1131 21).toInt (ps_i s 1131 47).toInt (ps_i s 1131 54).toInt) (i1 : 1 ≤ (ps_i s 1131 5).toInt ∨ SRs σ (ps_a s 1134) (ps_a s 1152) (ps_a s 1153) (ps_a s 1137 (Int32.toNatClampNeg (ps_i s 1131 21))).toInt (ps_i s 1131 42).toInt) (i2 : (ps_i s 1131 3).toInt = 0) (hV : ∀ k : Nat, (21320 ≤ k ∧ k < 22468) ∨ 25748 ≤ k → ps_a s 1134 k = gv k) : ps_At (d + 7) 240 30 [(0, .ref 1131)] [] s Q := by
  have r1 := mf_3 J
  refine pg_240_30 (d := d + 6) ?_
  refine ms_192 J  (fun v2 p2_0 b2 => ?_)
  have p2_0' : (v2.toInt = 0 ∧ 1 ≤ (ps_i s 1131 5).toInt) ∨ (v2.toInt = 1 ∧ (ps_i s 1131 5).toInt = 0) := p2_0
  have r3 := mf_5 J
  refine And.intro (fun h4 => ?_) (fun h4 => ?_)
  · have f5 : v2.toInt ≠ (0 : Int) := xne h4
    have hRD := i1.resolve_left (by omega)
    have J6 := mwi_47 (v := (0 : Int32)) J (show 0 ≤ (0 : Int) from by omega) (show (0 : Int) ≤ 40 from by omega)
    have K7 := kpi K (q := 47) (v := (0 : Int32)) rfl
    have hMI : MI σ (ps_a (ps_ui s 1131 47 0) 1134) (ps_a (ps_ui s 1131 47 0) 1135) (ps_a (ps_ui s 1131 47 0) 1136) (ps_a (ps_ui s 1131 47 0) 1137) (ps_a (ps_ui s 1131 47 0) 1138) (ps_a (ps_ui s 1131 47 0) 1139) (ps_a (ps_ui s 1131 47 0) 1157) (ps_a (ps_ui s 1131 47 0) 1176) (ps_i (ps_ui s 1131 47 0) 1131 21).toInt (ps_i (ps_ui s 1131 47 0) 1131 47).toInt (ps_i (ps_ui s 1131 47 0) 1131 54).toInt := MI_st hMI (mf_47 J).1 (Int.le_refl _)
    have J8 := mwi_48 (v := (-1 : Int32)) J6 (show -1 ≤ (-1 : Int) from by omega) (show (-1 : Int) ≤ 40 from by omega)
    have K9 := kpi K7 (q := 48) (v := (-1 : Int32)) rfl
    have J10 := mwi_n 49 (v := (-1 : Int32)) J8 rfl
    have K11 := kpi K9 (q := 49) (v := (-1 : Int32)) rfl
    have r12 := mf_42 J
    exact mw_240_54 (σ := σ) (gv := gv) k  (2 * (50 - (0 : Int)) - (-1 : Int)).toNat  _ J10 K11 hMI hRD (show 0 ≤ (0 : Int) from by omega) (show (0 : Int) ≤ (ps_i s 1131 42).toInt from by omega) (show (ps_i s 1131 3).toInt = 0 from by omega) hV (show 2 * (50 - (0 : Int)) - (-1 : Int) ≤ (((2 * (50 - (0 : Int)) - (-1 : Int)).toNat : Nat) : Int) from by omega)
  · have f13 : v2.toInt = (0 : Int) := xeq h4
    exact k (-1 : Int32) _ J K hMI (show (ps_i s 1131 3).toInt = 0 from by omega) hV

theorem mw_240_9 {x : Nat → Nat → Nat} {t : Int32} {d : Nat} {s0 : ps_S} {σ : mSig} {gv : Nat → Int32} {Q : Option Value → ps_S → Prop} (k : ∀ (v : Int32) (s' : ps_S), mJ x t s' → kp [1133, 1134, 1143, 1144, 1145, 1146, 1147, 1148, 1149, 1150, 1151, 1152, 1153, 1154, 1155, 1156, 1157, 1158, 1159, 1160] [3, 4, 5, 6, 7, 8, 9, 10, 11, 22, 23, 29, 30, 31, 32, 34, 42, 47, 48, 49, 50, 51] s0 s' → (MI σ (ps_a s' 1134) (ps_a s' 1135) (ps_a s' 1136) (ps_a s' 1137) (ps_a s' 1138) (ps_a s' 1139) (ps_a s' 1157) (ps_a s' 1176) (ps_i s' 1131 21).toInt (ps_i s' 1131 47).toInt (ps_i s' 1131 54).toInt) → ((ps_i s' 1131 3).toInt = 0) → (∀ k : Nat, (21320 ≤ k ∧ k < 22468) ∨ 25748 ≤ k → ps_a s' 1134 k = gv k) → Q (some (.int v)) s') : ∀ (n : Nat) (s : ps_S), (mJ x t s) → (kp [1133, 1134, 1143, 1144, 1145, 1146, 1147, 1148, 1149, 1150, 1151, 1152, 1153, 1154, 1155, 1156, 1157, 1158, 1159, 1160] [3, 4, 5, 6, 7, 8, 9, 10, 11, 22, 23, 29, 30, 31, 32, 34, 42, 47, 48, 49, 50, 51] s0 s) → (MI σ (ps_a s 1134) (ps_a s 1135) (ps_a s 1136) (ps_a s 1137) (ps_a s 1138) (ps_a s 1139) (ps_a s 1157) (ps_a s 1176) (ps_i s 1131 21).toInt (ps_i s 1131 47).toInt (ps_i s 1131 54).toInt) → ((ps_i s 1131 8).toInt ≤ (ps_i s 1131 4).toInt) → ((ps_i s 1131 22).toInt = (ps_i s 1131 21).toInt) → (1 ≤ (ps_i s 1131 5).toInt ∨ SRs σ (ps_a s 1134) (ps_a s 1152) (ps_a s 1153) (ps_a s 1137 (Int32.toNatClampNeg (ps_i s 1131 21))).toInt (ps_i s 1131 42).toInt) → ((ps_i s 1131 47).toInt ≤ 40) → ((ps_i s 1131 3).toInt = 0) → (∀ k : Nat, (21320 ≤ k ∧ k < 22468) ∨ 25748 ≤ k → ps_a s 1134 k = gv k) → 2 * (41 - (ps_i s 1131 42).toInt) - (ps_i s 1131 5).toInt ≤ (n : Int) → ps_At (d + 7) 240 9 [(0, .ref 1131)] [] s Q := by
  refine xstr (fun n ih => ?_)
  intro s J K hMI i1 i2 i3 i4 i5 hV hm
  have r1 := mf_8 J
  have r2 := mf_4 J
  have r3 := mf_22 J
  have r4 := mf_21 J
  have r5 := mf_47 J
  have r6 := mf_3 J
  have r7 := mf_42 J
  have r8 := mf_5 J
  refine pg_240_9 (d := d + 6) ?_
  refine ms_192 J  (fun v9 p9_0 b9 => ?_)
  have p9_0' : (v9.toInt = 0 ∧ 1 ≤ (ps_i s 1131 5).toInt) ∨ (v9.toInt = 1 ∧ (ps_i s 1131 5).toInt = 0) := p9_0
  refine And.intro (fun h10 => ?_) (fun h10 => ?_)
  · have f11 : v9.toInt = (0 : Int) := xeq h10
    exact mw_240_30 (σ := σ) (gv := gv) k   _ J K hMI (by assumption) (show (ps_i s 1131 3).toInt = 0 from by omega) hV
  · have f12 : v9.toInt ≠ (0 : Int) := xne h10
    have r13 := mf_9 J
    refine And.intro (fun h14 => ?_) (fun h14 => ?_)
    · have f15 : (ps_i s 1131 9).toInt = (0 : Int) := xeq h14
      exact mw_240_30 (σ := σ) (gv := gv) k   _ J K hMI (by assumption) (show (ps_i s 1131 3).toInt = 0 from by omega) hV
    · have f16 : (ps_i s 1131 9).toInt ≠ (0 : Int) := xne h14
      have e21 : Int32.toNatClampNeg (ps_i s 1131 22) = Int32.toNatClampNeg (ps_i s 1131 21) := by show (ps_i s 1131 22).toInt.toNat = (ps_i s 1131 21).toInt.toNat; rw [i2]
      have hS2 : Sg (ps_a s 1135) (ps_a s 1136) (ps_a s 1138) (ps_a s 1139) (ps_i s 1131 22).toInt σ := by rw [i2]; exact hMI.1
      have hRs := i3.resolve_left (by omega)
      have hM0 : MI σ (ps_a s 1134) (ps_a s 1135) (ps_a s 1136) (ps_a s 1137) (ps_a s 1138) (ps_a s 1139) (ps_a s 1157) (ps_a s 1176) (ps_i s 1131 21).toInt (ps_i s 1131 47).toInt (ps_i s 1131 54).toInt := hMI
      have hV0 : ∀ k : Nat, (21320 ≤ k ∧ k < 22468) ∨ 25748 ≤ k → ps_a s 1134 k = gv k := hV
      refine ms_238 J hS2 (hRs) ((by rw [e21])) (show (ps_i s 1131 8).toInt ≤ (ps_i s 1131 4).toInt from by omega) (show (ps_i s 1131 5).toInt = 0 from by omega) (rfl) (fun s17 J17 K17 p17_0 p17_1 p17_2 p17_3 p17_4 => ?_)
      have K18 := kpt K K17 rfl rfl
      have KC := K17
      have hS2 : Sg (ps_a s17 1135) (ps_a s17 1136) (ps_a s17 1138) (ps_a s17 1139) (ps_i s17 1131 22).toInt σ := by rw [show ps_a s17 1135 = ps_a s 1135 from (K17.2 1135 rfl).1, show ps_a s17 1136 = ps_a s 1136 from (K17.2 1136 rfl).1, show ps_a s17 1138 = ps_a s 1138 from (K17.2 1138 rfl).1, show ps_a s17 1139 = ps_a s 1139 from (K17.2 1139 rfl).1, show ps_i s17 1131 22 = ps_i s 1131 22 from kp_i K17 22 rfl]; exact hS2
      have hM0 : MI σ (ps_a s 1134) (ps_a s17 1135) (ps_a s17 1136) (ps_a s17 1137) (ps_a s17 1138) (ps_a s17 1139) (ps_a s17 1157) (ps_a s17 1176) (ps_i s17 1131 21).toInt (ps_i s17 1131 47).toInt (ps_i s17 1131 54).toInt := by rw [show ps_a s17 1135 = ps_a s 1135 from (K17.2 1135 rfl).1, show ps_a s17 1136 = ps_a s 1136 from (K17.2 1136 rfl).1, show ps_a s17 1137 = ps_a s 1137 from (K17.2 1137 rfl).1, show ps_a s17 1138 = ps_a s 1138 from (K17.2 1138 rfl).1, show ps_a s17 1139 = ps_a s 1139 from (K17.2 1139 rfl).1, show ps_a s17 1157 = ps_a s 1157 from (K17.2 1157 rfl).1, show ps_a s17 1176 = ps_a s 1176 from (K17.2 1176 rfl).1, show ps_i s17 1131 21 = ps_i s 1131 21 from kp_i K17 21 rfl, show ps_i s17 1131 47 = ps_i s 1131 47 from kp_i K17 47 rfl, show ps_i s17 1131 54 = ps_i s 1131 54 from kp_i K17 54 rfl]; exact hM0
      have p17_0' : (ps_i s17 1131 8).toInt ≤ (ps_i s17 1131 4).toInt := p17_0
      have r19 := mf_8 J17
      have r20 := mf_4 J17
      have u21 : (ps_i s17 1131 4).toInt = (ps_i s 1131 4).toInt := xeq (kp_i K17 4 rfl)
      have p17_3' : 1 ≤ (ps_i s17 1131 5).toInt ∨ (ps_i s17 1131 42).toInt = (ps_i s 1131 42).toInt + 1 := p17_3
      have r22 := mf_5 J17
      have r23 := mf_42 J17
      have p17_4' : (ps_i s 1131 42).toInt ≤ (ps_i s17 1131 42).toInt := p17_4
      have hR1 : _ := p17_1
      have ho : _ := p17_2
      have r24 := mf_22 J17
      have u25 : (ps_i s17 1131 22).toInt = (ps_i s 1131 22).toInt := xeq (kp_i K17 22 rfl)
      have r26 := mf_21 J17
      have u27 : (ps_i s17 1131 21).toInt = (ps_i s 1131 21).toInt := xeq (kp_i K17 21 rfl)
      have r28 := mf_47 J17
      have u29 : (ps_i s17 1131 47).toInt = (ps_i s 1131 47).toInt := xeq (kp_i K17 47 rfl)
      have r30 := mf_3 J17
      have u31 : (ps_i s17 1131 3).toInt = (ps_i s 1131 3).toInt := xeq (kp_i K17 3 rfl)
      exact ih (n - 1) (show n - 1 < n from by omega)  _ J17 K18 (MI_pool hM0 (show (ps_i s17 1131 47).toInt ≤ 40 from by omega) ho) (show (ps_i s17 1131 8).toInt ≤ (ps_i s17 1131 4).toInt from by omega) (show (ps_i s17 1131 22).toInt = (ps_i s17 1131 21).toInt from by omega) (hR1.imp id (fun z => SRs_n z rfl (by rw [show ps_a s17 1137 = ps_a s 1137 from (KC.2 1137 rfl).1, show ps_i s17 1131 21 = ps_i s 1131 21 from kp_i KC 21 rfl]))) (show (ps_i s17 1131 47).toInt ≤ 40 from by omega) (show (ps_i s17 1131 3).toInt = 0 from by omega) (fun k hk => (ho k (by omega)).trans (hV0 k hk)) (show 2 * (41 - (ps_i s17 1131 42).toInt) - (ps_i s17 1131 5).toInt ≤ ((n - 1 : Nat) : Int) from by omega)

theorem mw_240 {x : Nat → Nat → Nat} {t : Int32} {s : ps_S} {d : Nat} {f : Int32 → ps_S → Prop} (J : mJ x t s) {σ : mSig} {gv : Nat → Int32} (hMI : MI σ (ps_a s 1134) (ps_a s 1135) (ps_a s 1136) (ps_a s 1137) (ps_a s 1138) (ps_a s 1139) (ps_a s 1157) (ps_a s 1176) (ps_i s 1131 21).toInt (ps_i s 1131 47).toInt (ps_i s 1131 54).toInt) (hV : ∀ k : Nat, (21320 ≤ k ∧ k < 22468) ∨ 25748 ≤ k → ps_a s 1134 k = gv k) (k : ∀ (v : Int32) (s' : ps_S), mJ x t s' → kp [1133, 1134, 1143, 1144, 1145, 1146, 1147, 1148, 1149, 1150, 1151, 1152, 1153, 1154, 1155, 1156, 1157, 1158, 1159, 1160] [3, 4, 5, 6, 7, 8, 9, 10, 11, 22, 23, 29, 30, 31, 32, 34, 42, 47, 48, 49, 50, 51] s s' → (MI σ (ps_a s' 1134) (ps_a s' 1135) (ps_a s' 1136) (ps_a s' 1137) (ps_a s' 1138) (ps_a s' 1139) (ps_a s' 1157) (ps_a s' 1176) (ps_i s' 1131 21).toInt (ps_i s' 1131 47).toInt (ps_i s' 1131 54).toInt) → ((ps_i s' 1131 3).toInt = 0) → (∀ k : Nat, (21320 ≤ k ∧ k < 22468) ∨ 25748 ≤ k → ps_a s' 1134 k = gv k) → f v s') : ps_Cl (d + 7) 240 [.ref 1131] s (ps_rI f) := by
  have K : kp [1133, 1134, 1143, 1144, 1145, 1146, 1147, 1148, 1149, 1150, 1151, 1152, 1153, 1154, 1155, 1156, 1157, 1158, 1159, 1160] [3, 4, 5, 6, 7, 8, 9, 10, 11, 22, 23, 29, 30, 31, 32, 34, 42, 47, 48, 49, 50, 51] s s := kp_refl
  refine pg_240_0 (d := d + 6) ?_
  refine ms_198 J  (fun s1 J1 K1 p1_0 p1_1 p1_2 p1_3 p1_4 => ?_)
  have K2 := kpt K K1 rfl rfl
  have KC := K1
  have hMI : MI σ (ps_a s1 1134) (ps_a s1 1135) (ps_a s1 1136) (ps_a s1 1137) (ps_a s1 1138) (ps_a s1 1139) (ps_a s1 1157) (ps_a s1 1176) (ps_i s1 1131 21).toInt (ps_i s1 1131 47).toInt (ps_i s1 1131 54).toInt := by rw [show ps_a s1 1134 = ps_a s 1134 from (K1.2 1134 rfl).1, show ps_a s1 1135 = ps_a s 1135 from (K1.2 1135 rfl).1, show ps_a s1 1136 = ps_a s 1136 from (K1.2 1136 rfl).1, show ps_a s1 1137 = ps_a s 1137 from (K1.2 1137 rfl).1, show ps_a s1 1138 = ps_a s 1138 from (K1.2 1138 rfl).1, show ps_a s1 1139 = ps_a s 1139 from (K1.2 1139 rfl).1, show ps_a s1 1157 = ps_a s 1157 from (K1.2 1157 rfl).1, show ps_a s1 1176 = ps_a s 1176 from (K1.2 1176 rfl).1, show ps_i s1 1131 21 = ps_i s 1131 21 from kp_i K1 21 rfl, show ps_i s1 1131 47 = ps_i s 1131 47 from kp_i K1 47 rfl, show ps_i s1 1131 54 = ps_i s 1131 54 from kp_i K1 54 rfl]; exact hMI
  have hV : ∀ k : Nat, (21320 ≤ k ∧ k < 22468) ∨ 25748 ≤ k → ps_a s1 1134 k = gv k := by rw [show ps_a s1 1134 = ps_a s 1134 from (K1.2 1134 rfl).1]; exact hV
  have p1_0' : (ps_i s1 1131 8).toInt ≤ (ps_i s1 1131 4).toInt := p1_0
  have r3 := mf_8 J1
  have r4 := mf_4 J1
  have p1_1' : (ps_i s1 1131 5).toInt = 0 := p1_1
  have r5 := mf_5 J1
  have p1_2' : (ps_i s1 1131 3).toInt = 0 := p1_2
  have r6 := mf_3 J1
  have p1_3' : (ps_i s1 1131 23).toInt = 0 := p1_3
  have r7 := mf_23 J1
  have p1_4' : (ps_i s1 1131 22).toInt = (ps_i s1 1131 21).toInt := p1_4
  have r8 := mf_22 J1
  have r9 := mf_21 J1
  have u10 : (ps_i s1 1131 21).toInt = (ps_i s 1131 21).toInt := xeq (kp_i K1 21 rfl)
  have r11 := mf_21 J
  have J12 := mwi_42 (v := (0 : Int32)) J1 (show 0 ≤ (0 : Int) from by omega) (show (0 : Int) ≤ 40 from by omega)
  have K13 := kpi K2 (q := 42) (v := (0 : Int32)) rfl
  have r14 := mf_47 J1
  have u15 : (ps_i s1 1131 47).toInt = (ps_i s 1131 47).toInt := xeq (kp_i K1 47 rfl)
  have r16 := mf_47 J
  exact mw_240_9 (σ := σ) (gv := gv) k  (2 * (41 - (0 : Int)) - (ps_i s1 1131 5).toInt).toNat  _ J12 K13 hMI (show (ps_i s1 1131 8).toInt ≤ (ps_i s1 1131 4).toInt from by omega) (show (ps_i s1 1131 22).toInt = (ps_i s1 1131 21).toInt from by omega) (Or.inr (SRs_0 rfl)) (show (ps_i s1 1131 47).toInt ≤ 40 from by omega) (show (ps_i s1 1131 3).toInt = 0 from by omega) hV (show 2 * (41 - (0 : Int)) - (ps_i s1 1131 5).toInt ≤ (((2 * (41 - (0 : Int)) - (ps_i s1 1131 5).toInt).toNat : Nat) : Int) from by omega)

theorem mw_268_51 {x : Nat → Nat → Nat} {t : Int32} {d : Nat} {s0 : ps_S} {σ : mSig} {gv : Nat → Int32} {Q : Option Value → ps_S → Prop} (k : ∀ (v : Int32) (s' : ps_S), mJ x t s' → kp [1134, 1161, 1162] [54] s0 s' → (MI σ (ps_a s' 1134) (ps_a s' 1135) (ps_a s' 1136) (ps_a s' 1137) (ps_a s' 1138) (ps_a s' 1139) (ps_a s' 1157) (ps_a s' 1176) (ps_i s' 1131 21).toInt (ps_i s' 1131 47).toInt (ps_i s' 1131 54).toInt) → (∀ k : Nat, k < 21320 ∨ 21812 ≤ k → ps_a s' 1134 k = gv k) → Q (some (.int v)) s') : ∀ (n : Nat) (x1 : Int32) (x2 : Int32) (s : ps_S), (mJ x t s) → (kp [1134, 1161, 1162] [54] s0 s) → (MI σ (ps_a s 1134) (ps_a s 1135) (ps_a s 1136) (ps_a s 1137) (ps_a s 1138) (ps_a s 1139) (ps_a s 1157) (ps_a s 1176) (ps_i s 1131 21).toInt (ps_i s 1131 47).toInt (ps_i s 1131 54).toInt) → (0 < (ps_i s 1131 47).toInt) → (x1.toInt = 41 * ((ps_i s 1131 47).toInt - 1)) → (0 ≤ x2.toInt) → (x2.toInt ≤ 40) → ((ps_i s 1131 54).toInt < 12) → (∀ k : Nat, k < 21320 ∨ 21812 ≤ k → ps_a s 1134 k = gv k) → 50 - x2.toInt ≤ (n : Int) → ps_At (d + 1) 268 51 [(0, .ref 1131), (1, .int x1), (2, .int x2)] [] s Q := by
  refine xstr (fun n ih => ?_)
  intro x1 x2 s J K hMI i1 i2 i3 i4 i5 hV hm
  have r1 := mf_47 J
  have r2 := mf_54 J
  refine pg_268_51 (d := d) ?_
  refine pg_219_0 ?_
  refine ps_nd_i (show pm_in x1 27400 = true from xgi (show 0 ≤ x1.toInt from by omega) (show x1.toInt < 27400 from by omega)) ?_
  have r3 : x1.toInt % 41 = 0 → x1.toInt < 27306 → 0 ≤ (ps_a s 1134 (Int32.toNatClampNeg x1)).toInt ∧ (ps_a s 1134 (Int32.toNatClampNeg x1)).toInt ≤ 40 := fun z1 z2 => mp_row (i := x1) J z1 (show 0 ≤ x1.toInt from by omega) z2
  refine And.intro (fun h4 => ?_) (fun h4 => ?_)
  · have f5 : (ps_a s 1134 (Int32.toNatClampNeg x1)).toInt ≤ x2.toInt := xle h4
    have a6 : ((41 : Int32) * (ps_i s 1131 54)).toInt = (41 : Int) * (ps_i s 1131 54).toInt := xIm (show -2147483648 ≤ (41 : Int) * (ps_i s 1131 54).toInt from by omega) (show (41 : Int) * (ps_i s 1131 54).toInt < 2147483648 from by omega)
    have a7 : ((21320 : Int32) + ((41 : Int32) * (ps_i s 1131 54))).toInt = (21320 : Int) + ((41 : Int32) * (ps_i s 1131 54)).toInt := xIa (show -2147483648 ≤ (21320 : Int) + ((41 : Int32) * (ps_i s 1131 54)).toInt from by omega) (show (21320 : Int) + ((41 : Int32) * (ps_i s 1131 54)).toInt < 2147483648 from by omega)
    obtain ⟨l, hl1, hl2⟩ := MI_step (i := (ps_i s 1131 47).toInt - 1) (a := x1.toInt) hMI (by omega) (by omega) (by omega)
    obtain ⟨g0, hg0⟩ : ∃ g0 : Nat → Int32, g0 = ps_a s 1134 := ⟨_, rfl⟩
    have hM0 : MI σ g0 (ps_a s 1135) (ps_a s 1136) (ps_a s 1137) (ps_a s 1138) (ps_a s 1139) (ps_a s 1157) (ps_a s 1176) (ps_i s 1131 21).toInt (ps_i s 1131 47).toInt (ps_i s 1131 54).toInt := by rw [hg0]; exact hMI
    have hV0 : ∀ k : Nat, k < 21320 ∨ 21812 ≤ k → g0 k = gv k := by rw [hg0]; exact hV
    refine ms_224 J (hl1) (show ((21320 : Int32) + ((41 : Int32) * (ps_i s 1131 54))).toInt % 41 = 0 from by omega) (show 0 ≤ ((21320 : Int32) + ((41 : Int32) * (ps_i s 1131 54))).toInt from by omega) (show ((21320 : Int32) + ((41 : Int32) * (ps_i s 1131 54))).toInt < 27306 from by omega) (show x1.toInt ≠ ((21320 : Int32) + ((41 : Int32) * (ps_i s 1131 54))).toInt from by omega) (fun s8 J8 K8 p8_0 p8_1 => ?_)
    have K9 := kpt K K8 rfl rfl
    have hM0 : MI σ g0 (ps_a s8 1135) (ps_a s8 1136) (ps_a s8 1137) (ps_a s8 1138) (ps_a s8 1139) (ps_a s8 1157) (ps_a s8 1176) (ps_i s8 1131 21).toInt (ps_i s8 1131 47).toInt (ps_i s8 1131 54).toInt := by rw [show ps_a s8 1135 = ps_a s 1135 from (K8.2 1135 rfl).1, show ps_a s8 1136 = ps_a s 1136 from (K8.2 1136 rfl).1, show ps_a s8 1137 = ps_a s 1137 from (K8.2 1137 rfl).1, show ps_a s8 1138 = ps_a s 1138 from (K8.2 1138 rfl).1, show ps_a s8 1139 = ps_a s 1139 from (K8.2 1139 rfl).1, show ps_a s8 1157 = ps_a s 1157 from (K8.2 1157 rfl).1, show ps_a s8 1176 = ps_a s 1176 from (K8.2 1176 rfl).1, show ps_i s8 1131 21 = ps_i s 1131 21 from kp_i K8 21 rfl, show ps_i s8 1131 47 = ps_i s 1131 47 from kp_i K8 47 rfl, show ps_i s8 1131 54 = ps_i s 1131 54 from kp_i K8 54 rfl]; exact hM0
    have hc : _ := p8_0
    have ho : _ := p8_1
    have r10 := mf_54 J8
    have u11 : (ps_i s8 1131 54).toInt = (ps_i s 1131 54).toInt := xeq (kp_i K8 54 rfl)
    have r12 := mf_47 J8
    have u13 : (ps_i s8 1131 47).toInt = (ps_i s 1131 47).toInt := xeq (kp_i K8 47 rfl)
    have a14 : ((ps_i s8 1131 47) - 1).toInt = (ps_i s8 1131 47).toInt - (1 : Int) := xIs (show -2147483648 ≤ (ps_i s8 1131 47).toInt - (1 : Int) from by omega) (show (ps_i s8 1131 47).toInt - (1 : Int) < 2147483648 from by omega)
    refine ps_nd_i (show pm_in ((ps_i s8 1131 47) - 1) 40 = true from xgi (show 0 ≤ ((ps_i s8 1131 47) - 1).toInt from by omega) (show ((ps_i s8 1131 47) - 1).toInt < 40 from by omega)) ?_
    have u15 : (ps_a s8 1158 (Int32.toNatClampNeg ((ps_i s8 1131 47) - 1))).toInt = (ps_a s 1158 (Int32.toNatClampNeg ((ps_i s8 1131 47) - 1))).toInt := xeq (kp_a K8 1158 rfl _)
    refine ps_nd_i (show pm_in (ps_i s8 1131 54) 12 = true from xgi (show 0 ≤ (ps_i s8 1131 54).toInt from by omega) (show (ps_i s8 1131 54).toInt < 12 from by omega)) ?_
    have J16 := mwa_n 1161 (i := (Int32.toNatClampNeg (ps_i s8 1131 54))) (v := (ps_a s8 1158 (Int32.toNatClampNeg ((ps_i s8 1131 47) - 1)))) J8 rfl (by decide)
    have K17 := kpa' K9 (r := 1161) (i := (Int32.toNatClampNeg (ps_i s8 1131 54))) (v := (ps_a s8 1158 (Int32.toNatClampNeg ((ps_i s8 1131 47) - 1)))) rfl
    refine ps_nd_i (show pm_in ((ps_i s8 1131 47) - 1) 40 = true from xgi (show 0 ≤ ((ps_i s8 1131 47) - 1).toInt from by omega) (show ((ps_i s8 1131 47) - 1).toInt < 40 from by omega)) ?_
    have u18 : (ps_a s8 1159 (Int32.toNatClampNeg ((ps_i s8 1131 47) - 1))).toInt = (ps_a s 1159 (Int32.toNatClampNeg ((ps_i s8 1131 47) - 1))).toInt := xeq (kp_a K8 1159 rfl _)
    refine ps_nd_i (show pm_in (ps_i s8 1131 54) 12 = true from xgi (show 0 ≤ (ps_i s8 1131 54).toInt from by omega) (show (ps_i s8 1131 54).toInt < 12 from by omega)) ?_
    have J19 := mwa_n 1162 (i := (Int32.toNatClampNeg (ps_i s8 1131 54))) (v := (ps_a s8 1159 (Int32.toNatClampNeg ((ps_i s8 1131 47) - 1)))) J16 rfl (by decide)
    have K20 := kpa' K17 (r := 1162) (i := (Int32.toNatClampNeg (ps_i s8 1131 54))) (v := (ps_a s8 1159 (Int32.toNatClampNeg ((ps_i s8 1131 47) - 1)))) rfl
    have a21 : ((ps_i s8 1131 54) + 1).toInt = (ps_i s8 1131 54).toInt + (1 : Int) := xIa (show -2147483648 ≤ (ps_i s8 1131 54).toInt + (1 : Int) from by omega) (show (ps_i s8 1131 54).toInt + (1 : Int) < 2147483648 from by omega)
    have J22 := mwi_54 (v := ((ps_i s8 1131 54) + 1)) J19 (show 0 ≤ ((ps_i s8 1131 54) + 1).toInt from by omega) (show ((ps_i s8 1131 54) + 1).toInt ≤ 12 from by omega)
    have K23 := kpi K20 (q := 54) (v := ((ps_i s8 1131 54) + 1)) rfl
    have a24 : (((ps_i s8 1131 54) + 1) - 1).toInt = ((ps_i s8 1131 54) + 1).toInt - (1 : Int) := xIs (show -2147483648 ≤ ((ps_i s8 1131 54) + 1).toInt - (1 : Int) from by omega) (show ((ps_i s8 1131 54) + 1).toInt - (1 : Int) < 2147483648 from by omega)
    exact k (((ps_i s8 1131 54) + 1) - 1) _ J22 K23 (MI_keep1 (a := ((21320 : Int32) + ((41 : Int32) * (ps_i s 1131 54))).toInt) hM0 (show (ps_i s8 1131 47).toInt ≤ 40 from by omega) (show 0 ≤ (ps_i s8 1131 54).toInt from by omega) (show (ps_i s8 1131 54).toInt < 12 from by omega) (show ((21320 : Int32) + ((41 : Int32) * (ps_i s 1131 54))).toInt = 21320 + 41 * (ps_i s8 1131 54).toInt from by omega) (show ((ps_i s8 1131 54) + 1).toInt = (ps_i s8 1131 54).toInt + 1 from by omega) (fun k hk => (ho k hk).trans (congrFun hg0 k).symm) ⟨l, hc, hl2⟩) (fun k hk => (ho k (by omega)).trans ((congrFun hg0 k).symm.trans (hV0 k hk)))
  · have f25 : x2.toInt < (ps_a s 1134 (Int32.toNatClampNeg x1)).toInt := xlt h4
    refine pg_220_0 ?_
    have a26 : (x1 + 1).toInt = x1.toInt + (1 : Int) := xIa (show -2147483648 ≤ x1.toInt + (1 : Int) from by omega) (show x1.toInt + (1 : Int) < 2147483648 from by omega)
    have a27 : ((x1 + 1) + x2).toInt = (x1 + 1).toInt + x2.toInt := xIa (show -2147483648 ≤ (x1 + 1).toInt + x2.toInt from by omega) (show (x1 + 1).toInt + x2.toInt < 2147483648 from by omega)
    refine ps_nd_i (show pm_in ((x1 + 1) + x2) 27400 = true from xgi (show 0 ≤ ((x1 + 1) + x2).toInt from by omega) (show ((x1 + 1) + x2).toInt < 27400 from by omega)) ?_
    have r28 : ((x1 + 1) + x2).toInt % 41 = 0 → ((x1 + 1) + x2).toInt < 27306 → 0 ≤ (ps_a s 1134 (Int32.toNatClampNeg ((x1 + 1) + x2))).toInt ∧ (ps_a s 1134 (Int32.toNatClampNeg ((x1 + 1) + x2))).toInt ≤ 40 := fun z1 z2 => mp_row (i := ((x1 + 1) + x2)) J z1 (show 0 ≤ ((x1 + 1) + x2).toInt from by omega) z2
    refine And.intro (fun h29 => ?_) (fun h29 => ?_)
    · have f30 : (ps_a s 1134 (Int32.toNatClampNeg ((x1 + 1) + x2))).toInt < (60 : Int) := xlt h29
      have a31 : (x2 + 1).toInt = x2.toInt + (1 : Int) := xIa (show -2147483648 ≤ x2.toInt + (1 : Int) from by omega) (show x2.toInt + (1 : Int) < 2147483648 from by omega)
      exact ih (n - 1) (show n - 1 < n from by omega) x1 (x2 + 1) _ J K hMI (show 0 < (ps_i s 1131 47).toInt from by omega) (show x1.toInt = 41 * ((ps_i s 1131 47).toInt - 1) from by omega) (show 0 ≤ (x2 + 1).toInt from by omega) (show (x2 + 1).toInt ≤ 40 from by omega) (show (ps_i s 1131 54).toInt < 12 from by omega) hV (show 50 - (x2 + 1).toInt ≤ ((n - 1 : Nat) : Int) from by omega)
    · have f32 : (60 : Int) ≤ (ps_a s 1134 (Int32.toNatClampNeg ((x1 + 1) + x2))).toInt := xle h29
      exact k (-1 : Int32) _ J K hMI hV

theorem mw_268 {x : Nat → Nat → Nat} {t : Int32} {s : ps_S} {d : Nat} {f : Int32 → ps_S → Prop} (J : mJ x t s) {σ : mSig} {gv : Nat → Int32} (hMI : MI σ (ps_a s 1134) (ps_a s 1135) (ps_a s 1136) (ps_a s 1137) (ps_a s 1138) (ps_a s 1139) (ps_a s 1157) (ps_a s 1176) (ps_i s 1131 21).toInt (ps_i s 1131 47).toInt (ps_i s 1131 54).toInt) (hV : ∀ k : Nat, k < 21320 ∨ 21812 ≤ k → ps_a s 1134 k = gv k) (k : ∀ (v : Int32) (s' : ps_S), mJ x t s' → kp [1134, 1161, 1162] [54] s s' → (MI σ (ps_a s' 1134) (ps_a s' 1135) (ps_a s' 1136) (ps_a s' 1137) (ps_a s' 1138) (ps_a s' 1139) (ps_a s' 1157) (ps_a s' 1176) (ps_i s' 1131 21).toInt (ps_i s' 1131 47).toInt (ps_i s' 1131 54).toInt) → (∀ k : Nat, k < 21320 ∨ 21812 ≤ k → ps_a s' 1134 k = gv k) → f v s') : ps_Cl (d + 1) 268 [.ref 1131] s (ps_rI f) := by
  have K : kp [1134, 1161, 1162] [54] s s := kp_refl
  refine pg_268_0 (d := d) ?_
  have r1 := mf_48 J
  refine And.intro (fun h2 => ?_) (fun h2 => ?_)
  · have f3 : (0 : Int) ≤ (ps_i s 1131 48).toInt := xle h2
    exact k (-1 : Int32) _ J K hMI hV
  · have f4 : (ps_i s 1131 48).toInt < (0 : Int) := xlt h2
    have r5 := mf_47 J
    refine And.intro (fun h6 => ?_) (fun h6 => ?_)
    · have f7 : (ps_i s 1131 47).toInt = (0 : Int) := xeq h6
      exact k (-1 : Int32) _ J K hMI hV
    · have f8 : (ps_i s 1131 47).toInt ≠ (0 : Int) := xne h6
      have a9 : ((ps_i s 1131 47) - 1).toInt = (ps_i s 1131 47).toInt - (1 : Int) := xIs (show -2147483648 ≤ (ps_i s 1131 47).toInt - (1 : Int) from by omega) (show (ps_i s 1131 47).toInt - (1 : Int) < 2147483648 from by omega)
      refine ps_nd_i (show pm_in ((ps_i s 1131 47) - 1) 41 = true from xgi (show 0 ≤ ((ps_i s 1131 47) - 1).toInt from by omega) (show ((ps_i s 1131 47) - 1).toInt < 41 from by omega)) ?_
      have r10 : 0 ≤ (ps_a s 1157 (Int32.toNatClampNeg ((ps_i s 1131 47) - 1))).toInt ∧ (ps_a s 1157 (Int32.toNatClampNeg ((ps_i s 1131 47) - 1))).toInt ≤ 12 := ma_1157 (i := ((ps_i s 1131 47) - 1)) J (show 0 ≤ ((ps_i s 1131 47) - 1).toInt from by omega) (show ((ps_i s 1131 47) - 1).toInt < 41 from by omega)
      refine And.intro (fun h11 => ?_) (fun h11 => ?_)
      · have f12 : (0 : Int) < (ps_a s 1157 (Int32.toNatClampNeg ((ps_i s 1131 47) - 1))).toInt := xlt h11
        exact k (-1 : Int32) _ J K hMI hV
      · have f13 : (ps_a s 1157 (Int32.toNatClampNeg ((ps_i s 1131 47) - 1))).toInt ≤ (0 : Int) := xle h11
        have r14 := mf_54 J
        refine And.intro (fun h15 => ?_) (fun h15 => ?_)
        · have f16 : (ps_i s 1131 54).toInt ≠ (12 : Int) := xne h15
          refine pg_242_0 ?_
          have a17 : ((41 : Int32) * ((ps_i s 1131 47) - 1)).toInt = (41 : Int) * ((ps_i s 1131 47) - 1).toInt := xIm (show -2147483648 ≤ (41 : Int) * ((ps_i s 1131 47) - 1).toInt from by omega) (show (41 : Int) * ((ps_i s 1131 47) - 1).toInt < 2147483648 from by omega)
          have a18 : ((0 : Int32) + ((41 : Int32) * ((ps_i s 1131 47) - 1))).toInt = (0 : Int) + ((41 : Int32) * ((ps_i s 1131 47) - 1)).toInt := xIa (show -2147483648 ≤ (0 : Int) + ((41 : Int32) * ((ps_i s 1131 47) - 1)).toInt from by omega) (show (0 : Int) + ((41 : Int32) * ((ps_i s 1131 47) - 1)).toInt < 2147483648 from by omega)
          exact mw_268_51 (σ := σ) (gv := gv) k  (50 - (0 : Int)).toNat ((0 : Int32) + ((41 : Int32) * ((ps_i s 1131 47) - 1))) (0) _ J K hMI (show 0 < (ps_i s 1131 47).toInt from by omega) (show ((0 : Int32) + ((41 : Int32) * ((ps_i s 1131 47) - 1))).toInt = 41 * ((ps_i s 1131 47).toInt - 1) from by omega) (show 0 ≤ (0 : Int) from by omega) (show (0 : Int) ≤ 40 from by omega) (show (ps_i s 1131 54).toInt < 12 from by omega) hV (show 50 - (0 : Int) ≤ (((50 - (0 : Int)).toNat : Nat) : Int) from by omega)
        · have f19 : (ps_i s 1131 54).toInt = (12 : Int) := xeq h15
          exact k (-1 : Int32) _ J K hMI hV

theorem mw_305_23 {x : Nat → Nat → Nat} {t : Int32} {d : Nat} {s0 : ps_S} {σ : mSig} {gv : Nat → Int32} {x1 : Int32} {Q : Option Value → ps_S → Prop} (k : ∀ (v : Int32) (s' : ps_S), mJ x t s' → kp [1134, 1176, 1177, 1178] [] s0 s' → (MI σ (ps_a s' 1134) (ps_a s' 1135) (ps_a s' 1136) (ps_a s' 1137) (ps_a s' 1138) (ps_a s' 1139) (ps_a s' 1157) (ps_a s' 1176) (ps_i s' 1131 21).toInt (ps_i s' 1131 47).toInt (ps_i s' 1131 54).toInt) → (∀ k : Nat, k < 25830 → ps_a s' 1134 k = gv k) → Q (some (.int v)) s') : ∀ (n : Nat) (x2 : Int32) (g0 : Nat → Int32) (gx : Nat → Int32) (s : ps_S), (mJ x t s) → (kp [1134, 1176, 1177, 1178] [] s0 s) → (MI σ g0 (ps_a s 1135) (ps_a s 1136) (ps_a s 1137) (ps_a s 1138) (ps_a s 1139) (ps_a s 1157) gx (ps_i s 1131 21).toInt (ps_i s 1131 47).toInt (ps_i s 1131 54).toInt) → (∀ k : Nat, (k : Int) < 25830 + 492 * x1.toInt ∨ 25830 + 492 * x1.toInt + 492 ≤ (k : Int) → ps_a s 1134 k = g0 k) → (∀ j : Nat, (j : Int) ≠ x1.toInt → ps_a s 1176 j = gx j) → ((ps_a s 1176 x1.toInt.toNat).toInt = (ps_i s 1131 54).toInt) → (∀ k : Nat, (k : Int) < x2.toInt → k < 12 → Fm σ (ps_a s 1134) (25830 + 41 * (12 * x1.toInt + k))) → (0 ≤ x1.toInt) → (x1.toInt ≤ 2) → (0 ≤ x2.toInt) → (x2.toInt ≤ (ps_i s 1131 54).toInt) → ((ps_i s 1131 47).toInt ≤ 40) → (∀ k : Nat, k < 25830 → ps_a s 1134 k = gv k) → 20 - x2.toInt ≤ (n : Int) → ps_At (d + 1) 305 23 [(0, .ref 1131), (1, .int x1), (2, .int x2)] [] s Q := by
  refine xstr (fun n ih => ?_)
  intro x2 g0 gx s J K hM0 hof hgx hgb i4 i5 i6 i7 i8 i9 hV hm
  have r1 := mf_54 J
  have r2 := mf_47 J
  refine pg_305_23 (d := d) ?_
  refine And.intro (fun h3 => ?_) (fun h3 => ?_)
  · have f4 : (ps_i s 1131 54).toInt ≤ x2.toInt := xle h3
    exact k (ps_i s 1131 54) _ J K (MI_box hM0 (show (ps_i s 1131 47).toInt ≤ 40 from by omega) (show 0 ≤ x1.toInt from by omega) hof hgx hgb (fun k hk q => i4 k (by omega) q)) hV
  · have f5 : x2.toInt < (ps_i s 1131 54).toInt := xlt h3
    have a6 : ((41 : Int32) * x2).toInt = (41 : Int) * x2.toInt := xIm (show -2147483648 ≤ (41 : Int) * x2.toInt from by omega) (show (41 : Int) * x2.toInt < 2147483648 from by omega)
    have a7 : ((21320 : Int32) + ((41 : Int32) * x2)).toInt = (21320 : Int) + ((41 : Int32) * x2).toInt := xIa (show -2147483648 ≤ (21320 : Int) + ((41 : Int32) * x2).toInt from by omega) (show (21320 : Int) + ((41 : Int32) * x2).toInt < 2147483648 from by omega)
    have a8 : ((12 : Int32) * x1).toInt = (12 : Int) * x1.toInt := xIm (show -2147483648 ≤ (12 : Int) * x1.toInt from by omega) (show (12 : Int) * x1.toInt < 2147483648 from by omega)
    have a9 : (((12 : Int32) * x1) + x2).toInt = ((12 : Int32) * x1).toInt + x2.toInt := xIa (show -2147483648 ≤ ((12 : Int32) * x1).toInt + x2.toInt from by omega) (show ((12 : Int32) * x1).toInt + x2.toInt < 2147483648 from by omega)
    have a10 : ((41 : Int32) * (((12 : Int32) * x1) + x2)).toInt = (41 : Int) * (((12 : Int32) * x1) + x2).toInt := xIm (show -2147483648 ≤ (41 : Int) * (((12 : Int32) * x1) + x2).toInt from by omega) (show (41 : Int) * (((12 : Int32) * x1) + x2).toInt < 2147483648 from by omega)
    have a11 : ((25830 : Int32) + ((41 : Int32) * (((12 : Int32) * x1) + x2))).toInt = (25830 : Int) + ((41 : Int32) * (((12 : Int32) * x1) + x2)).toInt := xIa (show -2147483648 ≤ (25830 : Int) + ((41 : Int32) * (((12 : Int32) * x1) + x2)).toInt from by omega) (show (25830 : Int) + ((41 : Int32) * (((12 : Int32) * x1) + x2)).toInt < 2147483648 from by omega)
    obtain ⟨l, hl1, hl2⟩ : Fm σ (ps_a s 1134) ((21320 : Int32) + ((41 : Int32) * x2)).toInt := Fm_keep (MI_th (k := x2) hM0 (by omega) (by omega) (by omega) (by omega)) (fun j h1 h2 => hof j (by omega))
    refine ms_224 J (hl1) (show ((25830 : Int32) + ((41 : Int32) * (((12 : Int32) * x1) + x2))).toInt % 41 = 0 from by omega) (show 0 ≤ ((25830 : Int32) + ((41 : Int32) * (((12 : Int32) * x1) + x2))).toInt from by omega) (show ((25830 : Int32) + ((41 : Int32) * (((12 : Int32) * x1) + x2))).toInt < 27306 from by omega) (show ((21320 : Int32) + ((41 : Int32) * x2)).toInt ≠ ((25830 : Int32) + ((41 : Int32) * (((12 : Int32) * x1) + x2))).toInt from by omega) (fun s12 J12 K12 p12_0 p12_1 => ?_)
    have K13 := kpt K K12 rfl rfl
    have hM0 : MI σ g0 (ps_a s12 1135) (ps_a s12 1136) (ps_a s12 1137) (ps_a s12 1138) (ps_a s12 1139) (ps_a s12 1157) gx (ps_i s12 1131 21).toInt (ps_i s12 1131 47).toInt (ps_i s12 1131 54).toInt := by rw [show ps_a s12 1135 = ps_a s 1135 from (K12.2 1135 rfl).1, show ps_a s12 1136 = ps_a s 1136 from (K12.2 1136 rfl).1, show ps_a s12 1137 = ps_a s 1137 from (K12.2 1137 rfl).1, show ps_a s12 1138 = ps_a s 1138 from (K12.2 1138 rfl).1, show ps_a s12 1139 = ps_a s 1139 from (K12.2 1139 rfl).1, show ps_a s12 1157 = ps_a s 1157 from (K12.2 1157 rfl).1, show ps_i s12 1131 21 = ps_i s 1131 21 from kp_i K12 21 rfl, show ps_i s12 1131 47 = ps_i s 1131 47 from kp_i K12 47 rfl, show ps_i s12 1131 54 = ps_i s 1131 54 from kp_i K12 54 rfl]; exact hM0
    have hgx : ∀ j : Nat, (j : Int) ≠ x1.toInt → ps_a s12 1176 j = gx j := by rw [show ps_a s12 1176 = ps_a s 1176 from (K12.2 1176 rfl).1]; exact hgx
    have hgb : (ps_a s12 1176 x1.toInt.toNat).toInt = (ps_i s12 1131 54).toInt := by rw [show ps_a s12 1176 = ps_a s 1176 from (K12.2 1176 rfl).1, show ps_i s12 1131 54 = ps_i s 1131 54 from kp_i K12 54 rfl]; exact hgb
    have hc : _ := p12_0
    have ho : _ := p12_1
    refine ps_nd_i (show pm_in x2 12 = true from xgi (show 0 ≤ x2.toInt from by omega) (show x2.toInt < 12 from by omega)) ?_
    have u14 : (ps_a s12 1161 (Int32.toNatClampNeg x2)).toInt = (ps_a s 1161 (Int32.toNatClampNeg x2)).toInt := xeq (kp_a K12 1161 rfl _)
    refine ps_nd_i (show pm_in (((12 : Int32) * x1) + x2) 36 = true from xgi (show 0 ≤ (((12 : Int32) * x1) + x2).toInt from by omega) (show (((12 : Int32) * x1) + x2).toInt < 36 from by omega)) ?_
    have J15 := mwa_n 1177 (i := (Int32.toNatClampNeg (((12 : Int32) * x1) + x2))) (v := (ps_a s12 1161 (Int32.toNatClampNeg x2))) J12 rfl (by decide)
    have K16 := kpa' K13 (r := 1177) (i := (Int32.toNatClampNeg (((12 : Int32) * x1) + x2))) (v := (ps_a s12 1161 (Int32.toNatClampNeg x2))) rfl
    refine ps_nd_i (show pm_in x2 12 = true from xgi (show 0 ≤ x2.toInt from by omega) (show x2.toInt < 12 from by omega)) ?_
    have u17 : (ps_a s12 1162 (Int32.toNatClampNeg x2)).toInt = (ps_a s 1162 (Int32.toNatClampNeg x2)).toInt := xeq (kp_a K12 1162 rfl _)
    refine ps_nd_i (show pm_in (((12 : Int32) * x1) + x2) 36 = true from xgi (show 0 ≤ (((12 : Int32) * x1) + x2).toInt from by omega) (show (((12 : Int32) * x1) + x2).toInt < 36 from by omega)) ?_
    have J18 := mwa_n 1178 (i := (Int32.toNatClampNeg (((12 : Int32) * x1) + x2))) (v := (ps_a s12 1162 (Int32.toNatClampNeg x2))) J15 rfl (by decide)
    have K19 := kpa' K16 (r := 1178) (i := (Int32.toNatClampNeg (((12 : Int32) * x1) + x2))) (v := (ps_a s12 1162 (Int32.toNatClampNeg x2))) rfl
    have a20 : (x2 + 1).toInt = x2.toInt + (1 : Int) := xIa (show -2147483648 ≤ x2.toInt + (1 : Int) from by omega) (show x2.toInt + (1 : Int) < 2147483648 from by omega)
    have r21 := mf_54 J12
    have u22 : (ps_i s12 1131 54).toInt = (ps_i s 1131 54).toInt := xeq (kp_i K12 54 rfl)
    have r23 := mf_47 J12
    have u24 : (ps_i s12 1131 47).toInt = (ps_i s 1131 47).toInt := xeq (kp_i K12 47 rfl)
    exact ih (n - 1) (show n - 1 < n from by omega) (x2 + 1) g0 gx _ J18 K19 hM0 (fun k hk => (ho k (by omega)).trans (hof k hk)) hgx hgb ((by rw [show ((x2 + 1)).toInt = x2.toInt + 1 from by omega]; exact Fm_put (f := fun k => 25830 + 41 * (12 * x1.toInt + (k : Int))) i4 (by omega) (show Fm σ (ps_a s12 1134) (25830 + 41 * (12 * x1.toInt + ((x2.toInt.toNat : Nat) : Int))) from (by rw [show 25830 + 41 * (12 * x1.toInt + ((x2.toInt.toNat : Nat) : Int)) = ((25830 : Int32) + ((41 : Int32) * (((12 : Int32) * x1) + x2))).toInt from by omega]; exact ⟨l, hc, hl2⟩)) (fun k h1 h2 j h3 h4 => ho j (by have h3 : 25830 + 41 * (12 * x1.toInt + (k : Int)) ≤ (j : Int) := h3; have h4 : (j : Int) < 25830 + 41 * (12 * x1.toInt + (k : Int)) + 41 := h4; omega)))) (show 0 ≤ x1.toInt from by omega) (show x1.toInt ≤ 2 from by omega) (show 0 ≤ (x2 + 1).toInt from by omega) (show (x2 + 1).toInt ≤ (ps_i s12 1131 54).toInt from by omega) (show (ps_i s12 1131 47).toInt ≤ 40 from by omega) (fun k hk => (ho k (by omega)).trans (hV k hk)) (show 20 - (x2 + 1).toInt ≤ ((n - 1 : Nat) : Int) from by omega)

theorem mw_305 {x : Nat → Nat → Nat} {t : Int32} {s : ps_S} {d : Nat} {x1 : Int32} {f : Int32 → ps_S → Prop} (J : mJ x t s) {σ : mSig} {gv : Nat → Int32} (hMI : MI σ (ps_a s 1134) (ps_a s 1135) (ps_a s 1136) (ps_a s 1137) (ps_a s 1138) (ps_a s 1139) (ps_a s 1157) (ps_a s 1176) (ps_i s 1131 21).toInt (ps_i s 1131 47).toInt (ps_i s 1131 54).toInt) (hV : ∀ k : Nat, k < 25830 → ps_a s 1134 k = gv k) (k : ∀ (v : Int32) (s' : ps_S), mJ x t s' → kp [1134, 1176, 1177, 1178] [] s s' → (MI σ (ps_a s' 1134) (ps_a s' 1135) (ps_a s' 1136) (ps_a s' 1137) (ps_a s' 1138) (ps_a s' 1139) (ps_a s' 1157) (ps_a s' 1176) (ps_i s' 1131 21).toInt (ps_i s' 1131 47).toInt (ps_i s' 1131 54).toInt) → (∀ k : Nat, k < 25830 → ps_a s' 1134 k = gv k) → f v s') : ps_Cl (d + 1) 305 [.ref 1131, .int x1] s (ps_rI f) := by
  have K : kp [1134, 1176, 1177, 1178] [] s s := kp_refl
  refine pg_305_0 (d := d) ?_
  refine ms_200 J  (fun v1 p1_0 b1 => ?_)
  have p1_0' : v1.toInt = 0 ∨ ((0 : Int) ≤ x1.toInt ∧ x1.toInt ≤ (2 : Int)) := p1_0
  refine And.intro (fun h2 => ?_) (fun h2 => ?_)
  · have f3 : v1.toInt ≠ (0 : Int) := xne h2
    have r4 := mf_54 J
    obtain ⟨g0, hg0⟩ : ∃ g0 : Nat → Int32, g0 = ps_a s 1134 := ⟨_, rfl⟩
    obtain ⟨gx, hgx0⟩ : ∃ gx : Nat → Int32, gx = ps_a s 1176 := ⟨_, rfl⟩
    have hM0 : MI σ g0 (ps_a s 1135) (ps_a s 1136) (ps_a s 1137) (ps_a s 1138) (ps_a s 1139) (ps_a s 1157) gx (ps_i s 1131 21).toInt (ps_i s 1131 47).toInt (ps_i s 1131 54).toInt := by rw [hg0, hgx0]; exact hMI
    have hV0 : ∀ k : Nat, k < 25830 → g0 k = gv k := by rw [hg0]; exact hV
    refine ps_nd_i (show pm_in x1 3 = true from xgi (show 0 ≤ x1.toInt from by omega) (show x1.toInt < 3 from by omega)) ?_
    have J5 := mwa_1176 (i := (Int32.toNatClampNeg x1)) (v := (ps_i s 1131 54)) J (show -1 ≤ (ps_i s 1131 54).toInt from by omega) (show (ps_i s 1131 54).toInt ≤ 12 from by omega)
    have K6 := kpa' K (r := 1176) (i := (Int32.toNatClampNeg x1)) (v := (ps_i s 1131 54)) rfl
    have ex : Int32.toNatClampNeg x1 = x1.toInt.toNat := rfl
    have hof : ∀ k : Nat, (k : Int) < 25830 + 492 * x1.toInt ∨ 25830 + 492 * x1.toInt + 492 ≤ (k : Int) → ps_a (ps_ua s 1176 (Int32.toNatClampNeg x1) (ps_i s 1131 54)) 1134 k = g0 k := fun k _ => (congrFun hg0 k).symm
    have hgx : ∀ j : Nat, (j : Int) ≠ x1.toInt → ps_a (ps_ua s 1176 (Int32.toNatClampNeg x1) (ps_i s 1131 54)) 1176 j = gx j := fun j hj => (ua_ne (by omega)).trans (congrFun hgx0 j).symm
    have hgb : (ps_a (ps_ua s 1176 (Int32.toNatClampNeg x1) (ps_i s 1131 54)) 1176 x1.toInt.toNat).toInt = (ps_i (ps_ua s 1176 (Int32.toNatClampNeg x1) (ps_i s 1131 54)) 1131 54).toInt := congrArg Int32.toInt ua_eq
    have r7 := mf_47 J
    exact mw_305_23 (x1 := x1) (σ := σ) (gv := gv) k  (20 - (0 : Int)).toNat (0) g0 gx _ J5 K6 hM0 hof hgx hgb (fun k hk => absurd hk (by rw [Int32.toInt_zero]; omega)) (show 0 ≤ x1.toInt from by omega) (show x1.toInt ≤ 2 from by omega) (show 0 ≤ (0 : Int) from by omega) (show (0 : Int) ≤ (ps_i s 1131 54).toInt from by omega) (show (ps_i s 1131 47).toInt ≤ 40 from by omega) hV (show 20 - (0 : Int) ≤ (((20 - (0 : Int)).toNat : Nat) : Int) from by omega)
  · have f8 : v1.toInt = (0 : Int) := xeq h2
    exact k (-1 : Int32) _ J K (hMI) hV

theorem mw_306_32 {x : Nat → Nat → Nat} {t : Int32} {d : Nat} {s0 : ps_S} {σ : mSig} {gv : Nat → Int32} {x1 : Int32} {Q : Option Value → ps_S → Prop} (k : ∀ (v : Int32) (s' : ps_S), mJ x t s' → kp [1134, 1161, 1162] [47, 48, 49, 54] s0 s' → (MI σ (ps_a s' 1134) (ps_a s' 1135) (ps_a s' 1136) (ps_a s' 1137) (ps_a s' 1138) (ps_a s' 1139) (ps_a s' 1157) (ps_a s' 1176) (ps_i s' 1131 21).toInt (ps_i s' 1131 47).toInt (ps_i s' 1131 54).toInt) → (∀ k : Nat, k < 21320 ∨ 21812 ≤ k → ps_a s' 1134 k = gv k) → Q (some (.int v)) s') : ∀ (n : Nat) (x2 : Int32) (g0 : Nat → Int32) (th0 : Int) (s : ps_S), (mJ x t s) → (kp [1134, 1161, 1162] [47, 48, 49, 54] s0 s) → (MI σ g0 (ps_a s 1135) (ps_a s 1136) (ps_a s 1137) (ps_a s 1138) (ps_a s 1139) (ps_a s 1157) (ps_a s 1176) (ps_i s 1131 21).toInt (ps_i s 1131 47).toInt th0) → (∀ k : Nat, (k : Int) < 21320 ∨ 21812 ≤ (k : Int) → ps_a s 1134 k = g0 k) → ((ps_a s 1176 x1.toInt.toNat).toInt = (ps_i s 1131 54).toInt) → (∀ k : Nat, (k : Int) < x2.toInt → k < 12 → Fm σ (ps_a s 1134) (21320 + 41 * k)) → (0 ≤ x1.toInt) → (x1.toInt ≤ 2) → (0 ≤ x2.toInt) → (x2.toInt ≤ (ps_i s 1131 54).toInt) → (∀ k : Nat, k < 21320 ∨ 21812 ≤ k → ps_a s 1134 k = gv k) → 20 - x2.toInt ≤ (n : Int) → ps_At (d + 1) 306 32 [(0, .ref 1131), (1, .int x1), (2, .int x2)] [] s Q := by
  refine xstr (fun n ih => ?_)
  intro x2 g0 th0 s J K hM0 hof hgb i3 i4 i5 i6 i7 hV hm
  have r1 := mf_54 J
  refine pg_306_32 (d := d) ?_
  refine And.intro (fun h2 => ?_) (fun h2 => ?_)
  · have f3 : (ps_i s 1131 54).toInt ≤ x2.toInt := xle h2
    refine pg_272_0 ?_
    have J4 := mwi_47 (v := (0 : Int32)) J (show 0 ≤ (0 : Int) from by omega) (show (0 : Int) ≤ 40 from by omega)
    have K5 := kpi K (q := 47) (v := (0 : Int32)) rfl
    have J6 := mwi_48 (v := (-1 : Int32)) J4 (show -1 ≤ (-1 : Int) from by omega) (show (-1 : Int) ≤ 40 from by omega)
    have K7 := kpi K5 (q := 48) (v := (-1 : Int32)) rfl
    have J8 := mwi_n 49 (v := (-1 : Int32)) J6 rfl
    have K9 := kpi K7 (q := 49) (v := (-1 : Int32)) rfl
    exact k (ps_i s 1131 54) _ J8 K9 (MI_back hM0 (mf_47 J).1 hof (show (0 : Int) ≤ 40 from by decide) (fun k hk q => i3 k (by have hk : (k : Int) < (ps_i s 1131 54).toInt := hk; omega) q)) hV
  · have f10 : x2.toInt < (ps_i s 1131 54).toInt := xlt h2
    have a11 : ((12 : Int32) * x1).toInt = (12 : Int) * x1.toInt := xIm (show -2147483648 ≤ (12 : Int) * x1.toInt from by omega) (show (12 : Int) * x1.toInt < 2147483648 from by omega)
    have a12 : (((12 : Int32) * x1) + x2).toInt = ((12 : Int32) * x1).toInt + x2.toInt := xIa (show -2147483648 ≤ ((12 : Int32) * x1).toInt + x2.toInt from by omega) (show ((12 : Int32) * x1).toInt + x2.toInt < 2147483648 from by omega)
    have a13 : ((41 : Int32) * (((12 : Int32) * x1) + x2)).toInt = (41 : Int) * (((12 : Int32) * x1) + x2).toInt := xIm (show -2147483648 ≤ (41 : Int) * (((12 : Int32) * x1) + x2).toInt from by omega) (show (41 : Int) * (((12 : Int32) * x1) + x2).toInt < 2147483648 from by omega)
    have a14 : ((25830 : Int32) + ((41 : Int32) * (((12 : Int32) * x1) + x2))).toInt = (25830 : Int) + ((41 : Int32) * (((12 : Int32) * x1) + x2)).toInt := xIa (show -2147483648 ≤ (25830 : Int) + ((41 : Int32) * (((12 : Int32) * x1) + x2)).toInt from by omega) (show (25830 : Int) + ((41 : Int32) * (((12 : Int32) * x1) + x2)).toInt < 2147483648 from by omega)
    have a15 : ((41 : Int32) * x2).toInt = (41 : Int) * x2.toInt := xIm (show -2147483648 ≤ (41 : Int) * x2.toInt from by omega) (show (41 : Int) * x2.toInt < 2147483648 from by omega)
    have a16 : ((21320 : Int32) + ((41 : Int32) * x2)).toInt = (21320 : Int) + ((41 : Int32) * x2).toInt := xIa (show -2147483648 ≤ (21320 : Int) + ((41 : Int32) * x2).toInt from by omega) (show (21320 : Int) + ((41 : Int32) * x2).toInt < 2147483648 from by omega)
    have hgb2 : (ps_a s 1176 x1.toInt.toNat).toInt = (ps_i s 1131 54).toInt := hgb
    obtain ⟨l, hl1, hl2⟩ : Fm σ (ps_a s 1134) ((25830 : Int32) + ((41 : Int32) * (((12 : Int32) * x1) + x2))).toInt := Fm_keep (MI_bx (i := x1) (k := x2) hM0 (by omega) (by omega) (by omega) (by omega) (by omega) (by omega)) (fun j h1 h2 => hof j (by omega))
    refine ms_224 J (hl1) (show ((21320 : Int32) + ((41 : Int32) * x2)).toInt % 41 = 0 from by omega) (show 0 ≤ ((21320 : Int32) + ((41 : Int32) * x2)).toInt from by omega) (show ((21320 : Int32) + ((41 : Int32) * x2)).toInt < 27306 from by omega) (show ((25830 : Int32) + ((41 : Int32) * (((12 : Int32) * x1) + x2))).toInt ≠ ((21320 : Int32) + ((41 : Int32) * x2)).toInt from by omega) (fun s17 J17 K17 p17_0 p17_1 => ?_)
    have K18 := kpt K K17 rfl rfl
    have hM0 : MI σ g0 (ps_a s17 1135) (ps_a s17 1136) (ps_a s17 1137) (ps_a s17 1138) (ps_a s17 1139) (ps_a s17 1157) (ps_a s17 1176) (ps_i s17 1131 21).toInt (ps_i s17 1131 47).toInt th0 := by rw [show ps_a s17 1135 = ps_a s 1135 from (K17.2 1135 rfl).1, show ps_a s17 1136 = ps_a s 1136 from (K17.2 1136 rfl).1, show ps_a s17 1137 = ps_a s 1137 from (K17.2 1137 rfl).1, show ps_a s17 1138 = ps_a s 1138 from (K17.2 1138 rfl).1, show ps_a s17 1139 = ps_a s 1139 from (K17.2 1139 rfl).1, show ps_a s17 1157 = ps_a s 1157 from (K17.2 1157 rfl).1, show ps_a s17 1176 = ps_a s 1176 from (K17.2 1176 rfl).1, show ps_i s17 1131 21 = ps_i s 1131 21 from kp_i K17 21 rfl, show ps_i s17 1131 47 = ps_i s 1131 47 from kp_i K17 47 rfl]; exact hM0
    have hgb : (ps_a s17 1176 x1.toInt.toNat).toInt = (ps_i s17 1131 54).toInt := by rw [show ps_a s17 1176 = ps_a s 1176 from (K17.2 1176 rfl).1, show ps_i s17 1131 54 = ps_i s 1131 54 from kp_i K17 54 rfl]; exact hgb
    have hc : _ := p17_0
    have ho : _ := p17_1
    refine ps_nd_i (show pm_in (((12 : Int32) * x1) + x2) 36 = true from xgi (show 0 ≤ (((12 : Int32) * x1) + x2).toInt from by omega) (show (((12 : Int32) * x1) + x2).toInt < 36 from by omega)) ?_
    have u19 : (ps_a s17 1177 (Int32.toNatClampNeg (((12 : Int32) * x1) + x2))).toInt = (ps_a s 1177 (Int32.toNatClampNeg (((12 : Int32) * x1) + x2))).toInt := xeq (kp_a K17 1177 rfl _)
    refine ps_nd_i (show pm_in x2 12 = true from xgi (show 0 ≤ x2.toInt from by omega) (show x2.toInt < 12 from by omega)) ?_
    have J20 := mwa_n 1161 (i := (Int32.toNatClampNeg x2)) (v := (ps_a s17 1177 (Int32.toNatClampNeg (((12 : Int32) * x1) + x2)))) J17 rfl (by decide)
    have K21 := kpa' K18 (r := 1161) (i := (Int32.toNatClampNeg x2)) (v := (ps_a s17 1177 (Int32.toNatClampNeg (((12 : Int32) * x1) + x2)))) rfl
    refine ps_nd_i (show pm_in (((12 : Int32) * x1) + x2) 36 = true from xgi (show 0 ≤ (((12 : Int32) * x1) + x2).toInt from by omega) (show (((12 : Int32) * x1) + x2).toInt < 36 from by omega)) ?_
    have u22 : (ps_a s17 1178 (Int32.toNatClampNeg (((12 : Int32) * x1) + x2))).toInt = (ps_a s 1178 (Int32.toNatClampNeg (((12 : Int32) * x1) + x2))).toInt := xeq (kp_a K17 1178 rfl _)
    refine ps_nd_i (show pm_in x2 12 = true from xgi (show 0 ≤ x2.toInt from by omega) (show x2.toInt < 12 from by omega)) ?_
    have J23 := mwa_n 1162 (i := (Int32.toNatClampNeg x2)) (v := (ps_a s17 1178 (Int32.toNatClampNeg (((12 : Int32) * x1) + x2)))) J20 rfl (by decide)
    have K24 := kpa' K21 (r := 1162) (i := (Int32.toNatClampNeg x2)) (v := (ps_a s17 1178 (Int32.toNatClampNeg (((12 : Int32) * x1) + x2)))) rfl
    have a25 : (x2 + 1).toInt = x2.toInt + (1 : Int) := xIa (show -2147483648 ≤ x2.toInt + (1 : Int) from by omega) (show x2.toInt + (1 : Int) < 2147483648 from by omega)
    have r26 := mf_54 J17
    have u27 : (ps_i s17 1131 54).toInt = (ps_i s 1131 54).toInt := xeq (kp_i K17 54 rfl)
    exact ih (n - 1) (show n - 1 < n from by omega) (x2 + 1) g0 th0 _ J23 K24 hM0 (fun k hk => (ho k (by omega)).trans (hof k hk)) hgb ((by rw [show ((x2 + 1)).toInt = x2.toInt + 1 from by omega]; exact Fm_put (f := fun k => 21320 + 41 * (k : Int)) i3 (by omega) (show Fm σ (ps_a s17 1134) (21320 + 41 * ((x2.toInt.toNat : Nat) : Int)) from (by rw [show 21320 + 41 * ((x2.toInt.toNat : Nat) : Int) = ((21320 : Int32) + ((41 : Int32) * x2)).toInt from by omega]; exact ⟨l, hc, hl2⟩)) (fun k h1 h2 j h3 h4 => ho j (by have h3 : 21320 + 41 * (k : Int) ≤ (j : Int) := h3; have h4 : (j : Int) < 21320 + 41 * (k : Int) + 41 := h4; omega)))) (show 0 ≤ x1.toInt from by omega) (show x1.toInt ≤ 2 from by omega) (show 0 ≤ (x2 + 1).toInt from by omega) (show (x2 + 1).toInt ≤ (ps_i s17 1131 54).toInt from by omega) (fun k hk => (ho k (by omega)).trans (hV k hk)) (show 20 - (x2 + 1).toInt ≤ ((n - 1 : Nat) : Int) from by omega)

theorem mw_306 {x : Nat → Nat → Nat} {t : Int32} {s : ps_S} {d : Nat} {x1 : Int32} {f : Int32 → ps_S → Prop} (J : mJ x t s) {σ : mSig} {gv : Nat → Int32} (hMI : MI σ (ps_a s 1134) (ps_a s 1135) (ps_a s 1136) (ps_a s 1137) (ps_a s 1138) (ps_a s 1139) (ps_a s 1157) (ps_a s 1176) (ps_i s 1131 21).toInt (ps_i s 1131 47).toInt (ps_i s 1131 54).toInt) (hV : ∀ k : Nat, k < 21320 ∨ 21812 ≤ k → ps_a s 1134 k = gv k) (k : ∀ (v : Int32) (s' : ps_S), mJ x t s' → kp [1134, 1161, 1162] [47, 48, 49, 54] s s' → (MI σ (ps_a s' 1134) (ps_a s' 1135) (ps_a s' 1136) (ps_a s' 1137) (ps_a s' 1138) (ps_a s' 1139) (ps_a s' 1157) (ps_a s' 1176) (ps_i s' 1131 21).toInt (ps_i s' 1131 47).toInt (ps_i s' 1131 54).toInt) → (∀ k : Nat, k < 21320 ∨ 21812 ≤ k → ps_a s' 1134 k = gv k) → f v s') : ps_Cl (d + 1) 306 [.ref 1131, .int x1] s (ps_rI f) := by
  have K : kp [1134, 1161, 1162] [47, 48, 49, 54] s s := kp_refl
  refine pg_306_0 (d := d) ?_
  refine ms_200 J  (fun v1 p1_0 b1 => ?_)
  have p1_0' : v1.toInt = 0 ∨ ((0 : Int) ≤ x1.toInt ∧ x1.toInt ≤ (2 : Int)) := p1_0
  refine And.intro (fun h2 => ?_) (fun h2 => ?_)
  · have f3 : v1.toInt = (0 : Int) := xeq h2
    exact k (-1 : Int32) _ J K (hMI) hV
  · have f4 : v1.toInt ≠ (0 : Int) := xne h2
    refine ps_nd_i (show pm_in x1 3 = true from xgi (show 0 ≤ x1.toInt from by omega) (show x1.toInt < 3 from by omega)) ?_
    have r5 : -1 ≤ (ps_a s 1176 (Int32.toNatClampNeg x1)).toInt ∧ (ps_a s 1176 (Int32.toNatClampNeg x1)).toInt ≤ 12 := ma_1176 (i := x1) J (show 0 ≤ x1.toInt from by omega) (show x1.toInt < 3 from by omega)
    refine And.intro (fun h6 => ?_) (fun h6 => ?_)
    · have f7 : (0 : Int) ≤ (ps_a s 1176 (Int32.toNatClampNeg x1)).toInt := xle h6
      refine ps_nd_i (show pm_in x1 3 = true from xgi (show 0 ≤ x1.toInt from by omega) (show x1.toInt < 3 from by omega)) ?_
      obtain ⟨g0, hg0⟩ : ∃ g0 : Nat → Int32, g0 = ps_a s 1134 := ⟨_, rfl⟩
      obtain ⟨th0, hth0⟩ : ∃ th0 : Int, th0 = (ps_i s 1131 54).toInt := ⟨_, rfl⟩
      have hM0 : MI σ g0 (ps_a s 1135) (ps_a s 1136) (ps_a s 1137) (ps_a s 1138) (ps_a s 1139) (ps_a s 1157) (ps_a s 1176) (ps_i s 1131 21).toInt (ps_i s 1131 47).toInt th0 := by rw [hg0, hth0]; exact hMI
      have hof : ∀ k : Nat, (k : Int) < 21320 ∨ 21812 ≤ (k : Int) → ps_a s 1134 k = g0 k := fun k _ => (congrFun hg0 k).symm
      have J8 := mwi_54 (v := (ps_a s 1176 (Int32.toNatClampNeg x1))) J (show 0 ≤ (ps_a s 1176 (Int32.toNatClampNeg x1)).toInt from by omega) (show (ps_a s 1176 (Int32.toNatClampNeg x1)).toInt ≤ 12 from by omega)
      have K9 := kpi K (q := 54) (v := (ps_a s 1176 (Int32.toNatClampNeg x1))) rfl
      have hgb : (ps_a (ps_ui s 1131 54 (ps_a s 1176 (Int32.toNatClampNeg x1))) 1176 x1.toInt.toNat).toInt = (ps_i (ps_ui s 1131 54 (ps_a s 1176 (Int32.toNatClampNeg x1))) 1131 54).toInt := rfl
      exact mw_306_32 (x1 := x1) (σ := σ) (gv := gv) k  (20 - (0 : Int)).toNat (0) g0 th0 _ J8 K9 hM0 hof hgb (fun k hk => absurd hk (by rw [Int32.toInt_zero]; omega)) (show 0 ≤ x1.toInt from by omega) (show x1.toInt ≤ 2 from by omega) (show 0 ≤ (0 : Int) from by omega) (show (0 : Int) ≤ (ps_a s 1176 (Int32.toNatClampNeg x1)).toInt from by omega) hV (show 20 - (0 : Int) ≤ (((20 - (0 : Int)).toNat : Nat) : Int) from by omega)
    · have f10 : (ps_a s 1176 (Int32.toNatClampNeg x1)).toInt < (0 : Int) := xlt h6
      exact k (-1 : Int32) _ J K (hMI) hV
