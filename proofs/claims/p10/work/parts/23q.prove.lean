set_option maxRecDepth 100000
-- ProofBenchModel.prove()I
theorem pg_240_0 {d : Nat} {s : ps_S} {Q : Option Value → ps_S → Prop} (h :
  ps_Cl d 198 [.ref 1131] s (ps_rV (fun s1 =>
    ps_At (d + 1) 240 9 [(0, .ref 1131)] [] (ps_ui s1 1131 42 0) Q))) : ps_At (d + 1) 240 0 [(0, .ref 1131)] [] s Q :=
  ps_wp_at (stops := [(9, [0]), (30, [0]), (54, [0])]) (n := 7) h rfl

theorem pg_240_9 {d : Nat} {s : ps_S} {Q : Option Value → ps_S → Prop} (h :
  ps_Cl d 192 [.ref 1131] s (ps_rI (fun v1 s1 =>
    (v1 = 0 →
      ps_At (d + 1) 240 30 [(0, .ref 1131)] [] s1 Q) ∧
    (v1 ≠ 0 →
      ((ps_i s1 1131 9) = 0 →
        ps_At (d + 1) 240 30 [(0, .ref 1131)] [] s1 Q) ∧
      ((ps_i s1 1131 9) ≠ 0 →
        ps_Cl d 238 [.ref 1131] s1 (ps_rV (fun s2 =>
          ps_At (d + 1) 240 9 [(0, .ref 1131)] [] s2 Q))))))) : ps_At (d + 1) 240 9 [(0, .ref 1131)] [] s Q :=
  ps_wp_at (stops := [(9, [0]), (30, [0]), (54, [0])]) (n := 11) h rfl

theorem pg_240_30 {d : Nat} {s : ps_S} {Q : Option Value → ps_S → Prop} (h :
  ps_Cl d 192 [.ref 1131] s (ps_rI (fun v1 s1 =>
    (v1 ≠ 0 →
      ps_At (d + 1) 240 54 [(0, .ref 1131)] [] (ps_ui (ps_ui (ps_ui s1 1131 47 0) 1131 48 (-1)) 1131 49 (-1)) Q) ∧
    (v1 = 0 →
      Q (some (.int (-1))) s1)))) : ps_At (d + 1) 240 30 [(0, .ref 1131)] [] s Q :=
  ps_wp_at (stops := [(9, [0]), (30, [0]), (54, [0])]) (n := 16) h rfl

theorem pg_240_54 {d : Nat} {s : ps_S} {Q : Option Value → ps_S → Prop} (h :
  ((ps_i s 1131 42) ≤ (ps_i s 1131 47) →
    Q (some (.int (ps_i s 1131 47))) s) ∧
  ((ps_i s 1131 47) < (ps_i s 1131 42) →
    (0 ≤ (ps_i s 1131 48) →
      Q (some (.int (ps_i s 1131 47))) s) ∧
    ((ps_i s 1131 48) < 0 →
      ps_Cl d 252 [.ref 1131, .int (ps_i s 1131 47)] s (ps_rV (fun s1 =>
        ((ps_i s1 1131 50) ≠ 0 →
          ps_At (d + 1) 240 54 [(0, .ref 1131)] [] (ps_ui (ps_ui s1 1131 48 (ps_i s1 1131 47)) 1131 49 (ps_i (ps_ui s1 1131 48 (ps_i s1 1131 47)) 1131 50)) Q) ∧
        ((ps_i s1 1131 50) = 0 →
          ps_At (d + 1) 240 54 [(0, .ref 1131)] [] (ps_ui s1 1131 47 ((ps_i s1 1131 47) + 1)) Q)))))) : ps_At (d + 1) 240 54 [(0, .ref 1131)] [] s Q :=
  ps_wp_at (stops := [(9, [0]), (30, [0]), (54, [0])]) (n := 39) h rfl

theorem ms_240_54 {x : Nat → Nat → Nat} {t : Int32} {d : Nat} {s0 : ps_S} {σ : mSig} {Q : Option Value → ps_S → Prop} (k : ∀ (v : Int32) (s' : ps_S), mJ x t s' → kp [1133, 1134, 1143, 1144, 1145, 1146, 1147, 1148, 1149, 1150, 1151, 1152, 1153, 1154, 1155, 1156, 1157, 1158, 1159, 1160] [3, 4, 5, 6, 7, 8, 9, 10, 11, 22, 23, 29, 30, 31, 32, 34, 42, 47, 48, 49, 50, 51] s0 s' → (MI σ (ps_a s' 1134) (ps_a s' 1135) (ps_a s' 1136) (ps_a s' 1137) (ps_a s' 1138) (ps_a s' 1139) (ps_a s' 1157) (ps_a s' 1176) (ps_i s' 1131 21).toInt (ps_i s' 1131 47).toInt (ps_i s' 1131 54).toInt) → ((ps_i s' 1131 3).toInt = 0) → Q (some (.int v)) s') : ∀ (n : Nat) (s : ps_S), (mJ x t s) → (kp [1133, 1134, 1143, 1144, 1145, 1146, 1147, 1148, 1149, 1150, 1151, 1152, 1153, 1154, 1155, 1156, 1157, 1158, 1159, 1160] [3, 4, 5, 6, 7, 8, 9, 10, 11, 22, 23, 29, 30, 31, 32, 34, 42, 47, 48, 49, 50, 51] s0 s) → (MI σ (ps_a s 1134) (ps_a s 1135) (ps_a s 1136) (ps_a s 1137) (ps_a s 1138) (ps_a s 1139) (ps_a s 1157) (ps_a s 1176) (ps_i s 1131 21).toInt (ps_i s 1131 47).toInt (ps_i s 1131 54).toInt) → (SRs σ (ps_a s 1134) (ps_a s 1152) (ps_a s 1153) (ps_a s 1137 (Int32.toNatClampNeg (ps_i s 1131 21))).toInt (ps_i s 1131 42).toInt) → (0 ≤ (ps_i s 1131 47).toInt) → ((ps_i s 1131 47).toInt ≤ (ps_i s 1131 42).toInt) → ((ps_i s 1131 3).toInt = 0) → 2 * (50 - (ps_i s 1131 47).toInt) - (ps_i s 1131 48).toInt ≤ (n : Int) → ps_At (d + 7) 240 54 [(0, .ref 1131)] [] s Q := by
  refine xstr (fun n ih => ?_)
  intro s J K hMI hRD i2 i3 i4 hm
  have r1 := mf_47 J
  have r2 := mf_42 J
  have r3 := mf_3 J
  have r4 := mf_48 J
  refine pg_240_54 (d := d + 6) ?_
  refine And.intro (fun h5 => ?_) (fun h5 => ?_)
  · have f6 : (ps_i s 1131 42).toInt ≤ (ps_i s 1131 47).toInt := xle h5
    exact k (ps_i s 1131 47) _ J K hMI (show (ps_i s 1131 3).toInt = 0 from by omega)
  · have f7 : (ps_i s 1131 47).toInt < (ps_i s 1131 42).toInt := xlt h5
    refine And.intro (fun h8 => ?_) (fun h8 => ?_)
    · have f9 : (0 : Int) ≤ (ps_i s 1131 48).toInt := xle h8
      exact k (ps_i s 1131 47) _ J K hMI (show (ps_i s 1131 3).toInt = 0 from by omega)
    · have f10 : (ps_i s 1131 48).toInt < (0 : Int) := xlt h8
      have b21 := mf_21 J
      have h7 := ma_1137 (i := (ps_i s 1131 21)) J (by omega) (by omega)
      have h54 := mf_54 J
      have hS := MI_S hMI
      have hP := MI_P hMI
      have hB := SR_SB hMI hRD (by omega) (by omega) rfl h7.2 h54.2
      have hM0 : MI σ (ps_a s 1134) (ps_a s 1135) (ps_a s 1136) (ps_a s 1137) (ps_a s 1138) (ps_a s 1139) (ps_a s 1157) (ps_a s 1176) (ps_i s 1131 21).toInt (ps_i s 1131 47).toInt (ps_i s 1131 54).toInt := hMI
      have hR0 : SRs σ (ps_a s 1134) (ps_a s 1152) (ps_a s 1153) (ps_a s 1137 (Int32.toNatClampNeg (ps_i s 1131 21))).toInt (ps_i s 1131 42).toInt := hRD
      refine ms_252 J (hS) (hP) (hB) (show 0 ≤ (ps_i s 1131 47).toInt from by omega) (show (ps_i s 1131 47).toInt < 40 from by omega) (fun s11 J11 K11 p11_0 p11_1 p11_2 => ?_)
      have K12 := kpt K K11 rfl rfl
      have KC := K11
      have hM0 : MI σ (ps_a s 1134) (ps_a s11 1135) (ps_a s11 1136) (ps_a s11 1137) (ps_a s11 1138) (ps_a s11 1139) (ps_a s 1157) (ps_a s11 1176) (ps_i s11 1131 21).toInt (ps_i s11 1131 47).toInt (ps_i s11 1131 54).toInt := by rw [show ps_a s11 1135 = ps_a s 1135 from (K11.2 1135 rfl).1, show ps_a s11 1136 = ps_a s 1136 from (K11.2 1136 rfl).1, show ps_a s11 1137 = ps_a s 1137 from (K11.2 1137 rfl).1, show ps_a s11 1138 = ps_a s 1138 from (K11.2 1138 rfl).1, show ps_a s11 1139 = ps_a s 1139 from (K11.2 1139 rfl).1, show ps_a s11 1176 = ps_a s 1176 from (K11.2 1176 rfl).1, show ps_i s11 1131 21 = ps_i s 1131 21 from kp_i K11 21 rfl, show ps_i s11 1131 47 = ps_i s 1131 47 from kp_i K11 47 rfl, show ps_i s11 1131 54 = ps_i s 1131 54 from kp_i K11 54 rfl]; exact hM0
      have hR0 : SRs σ (ps_a s 1134) (ps_a s11 1152) (ps_a s11 1153) (ps_a s11 1137 (Int32.toNatClampNeg (ps_i s11 1131 21))).toInt (ps_i s11 1131 42).toInt := by rw [show ps_a s11 1152 = ps_a s 1152 from (K11.2 1152 rfl).1, show ps_a s11 1153 = ps_a s 1153 from (K11.2 1153 rfl).1, show ps_a s11 1137 = ps_a s 1137 from (K11.2 1137 rfl).1, show ps_i s11 1131 21 = ps_i s 1131 21 from kp_i K11 21 rfl, show ps_i s11 1131 42 = ps_i s 1131 42 from kp_i K11 42 rfl]; exact hR0
      have hP1 : _ := p11_0
      have hP2 : _ := p11_1
      have ho : _ := p11_2
      have r13 := mf_50 J11
      refine And.intro (fun h14 => ?_) (fun h14 => ?_)
      · have f15 : (ps_i s11 1131 50).toInt ≠ (0 : Int) := xne h14
        have r16 := mf_47 J11
        have u17 : (ps_i s11 1131 47).toInt = (ps_i s 1131 47).toInt := xeq (kp_i K11 47 rfl)
        have J18 := mwi_48 (v := (ps_i s11 1131 47)) J11 (show -1 ≤ (ps_i s11 1131 47).toInt from by omega) (show (ps_i s11 1131 47).toInt ≤ 40 from by omega)
        have K19 := kpi K12 (q := 48) (v := (ps_i s11 1131 47)) rfl
        have J20 := mwi_n 49 (v := (ps_i s11 1131 50)) J18 rfl
        have K21 := kpi K19 (q := 49) (v := (ps_i s11 1131 50)) rfl
        have r22 := mf_42 J11
        have u23 : (ps_i s11 1131 42).toInt = (ps_i s 1131 42).toInt := xeq (kp_i K11 42 rfl)
        have r24 := mf_3 J11
        have u25 : (ps_i s11 1131 3).toInt = (ps_i s 1131 3).toInt := xeq (kp_i K11 3 rfl)
        exact ih (n - 1) (show n - 1 < n from by omega)  _ J20 K21 (MI_take hM0 (fun k hk => ho k hk) (PSt_le hP1 (show (ps_i s11 1131 47).toInt ≤ (ps_i s 1131 47).toInt from by omega))) (SRs_ho hR0 (fun k hk => ho k hk)) (show 0 ≤ (ps_i s11 1131 47).toInt from by omega) (show (ps_i s11 1131 47).toInt ≤ (ps_i s11 1131 42).toInt from by omega) (show (ps_i s11 1131 3).toInt = 0 from by omega) (show 2 * (50 - (ps_i s11 1131 47).toInt) - (ps_i s11 1131 47).toInt ≤ ((n - 1 : Nat) : Int) from by omega)
      · have f26 : (ps_i s11 1131 50).toInt = (0 : Int) := xeq h14
        have r27 := mf_47 J11
        have u28 : (ps_i s11 1131 47).toInt = (ps_i s 1131 47).toInt := xeq (kp_i K11 47 rfl)
        have a29 : ((ps_i s11 1131 47) + 1).toInt = (ps_i s11 1131 47).toInt + (1 : Int) := xIa (show -2147483648 ≤ (ps_i s11 1131 47).toInt + (1 : Int) from by omega) (show (ps_i s11 1131 47).toInt + (1 : Int) < 2147483648 from by omega)
        have J30 := mwi_47 (v := ((ps_i s11 1131 47) + 1)) J11 (show 0 ≤ ((ps_i s11 1131 47) + 1).toInt from by omega) (show ((ps_i s11 1131 47) + 1).toInt ≤ 40 from by omega)
        have K31 := kpi K12 (q := 47) (v := ((ps_i s11 1131 47) + 1)) rfl
        have r32 := mf_42 J11
        have u33 : (ps_i s11 1131 42).toInt = (ps_i s 1131 42).toInt := xeq (kp_i K11 42 rfl)
        have r34 := mf_3 J11
        have u35 : (ps_i s11 1131 3).toInt = (ps_i s 1131 3).toInt := xeq (kp_i K11 3 rfl)
        have r36 := mf_48 J11
        have u37 : (ps_i s11 1131 48).toInt = (ps_i s 1131 48).toInt := xeq (kp_i K11 48 rfl)
        exact ih (n - 1) (show n - 1 < n from by omega)  _ J30 K31 (MI_take hM0 (fun k hk => ho k hk) (PSt_le (hP2 (by omega)) (show ((ps_i s11 1131 47) + 1).toInt ≤ (ps_i s 1131 47).toInt + 1 from by omega))) (SRs_ho hR0 (fun k hk => ho k hk)) (show 0 ≤ ((ps_i s11 1131 47) + 1).toInt from by omega) (show ((ps_i s11 1131 47) + 1).toInt ≤ (ps_i s11 1131 42).toInt from by omega) (show (ps_i s11 1131 3).toInt = 0 from by omega) (show 2 * (50 - ((ps_i s11 1131 47) + 1).toInt) - (ps_i s11 1131 48).toInt ≤ ((n - 1 : Nat) : Int) from by omega)

theorem ms_240_30 {x : Nat → Nat → Nat} {t : Int32} {d : Nat} {s0 : ps_S} {σ : mSig} {Q : Option Value → ps_S → Prop} (k : ∀ (v : Int32) (s' : ps_S), mJ x t s' → kp [1133, 1134, 1143, 1144, 1145, 1146, 1147, 1148, 1149, 1150, 1151, 1152, 1153, 1154, 1155, 1156, 1157, 1158, 1159, 1160] [3, 4, 5, 6, 7, 8, 9, 10, 11, 22, 23, 29, 30, 31, 32, 34, 42, 47, 48, 49, 50, 51] s0 s' → (MI σ (ps_a s' 1134) (ps_a s' 1135) (ps_a s' 1136) (ps_a s' 1137) (ps_a s' 1138) (ps_a s' 1139) (ps_a s' 1157) (ps_a s' 1176) (ps_i s' 1131 21).toInt (ps_i s' 1131 47).toInt (ps_i s' 1131 54).toInt) → ((ps_i s' 1131 3).toInt = 0) → Q (some (.int v)) s') (s : ps_S) (J : mJ x t s) (K : kp [1133, 1134, 1143, 1144, 1145, 1146, 1147, 1148, 1149, 1150, 1151, 1152, 1153, 1154, 1155, 1156, 1157, 1158, 1159, 1160] [3, 4, 5, 6, 7, 8, 9, 10, 11, 22, 23, 29, 30, 31, 32, 34, 42, 47, 48, 49, 50, 51] s0 s) (hMI : MI σ (ps_a s 1134) (ps_a s 1135) (ps_a s 1136) (ps_a s 1137) (ps_a s 1138) (ps_a s 1139) (ps_a s 1157) (ps_a s 1176) (ps_i s 1131 21).toInt (ps_i s 1131 47).toInt (ps_i s 1131 54).toInt) (i1 : 1 ≤ (ps_i s 1131 5).toInt ∨ SRs σ (ps_a s 1134) (ps_a s 1152) (ps_a s 1153) (ps_a s 1137 (Int32.toNatClampNeg (ps_i s 1131 21))).toInt (ps_i s 1131 42).toInt) (i2 : (ps_i s 1131 3).toInt = 0) : ps_At (d + 7) 240 30 [(0, .ref 1131)] [] s Q := by
  have r1 := mf_3 J
  refine pg_240_30 (d := d + 6) ?_
  refine ms_192 J  (fun v2 p2_0 b2 => ?_)
  have p2_0' : (v2.toInt = 0 ∧ 1 ≤ (ps_i s 1131 5).toInt) ∨ (v2.toInt = 1 ∧ (ps_i s 1131 5).toInt = 0) := p2_0
  have r3 := mf_5 J
  refine And.intro (fun h4 => ?_) (fun h4 => ?_)
  · have f5 : v2.toInt ≠ (0 : Int) := xne h4
    have qz5 : (ps_i s 1131 5).toInt = 0 := by omega
    clear p2_0' p2_0
    have hRD := i1.resolve_left (by omega)
    have J6 := mwi_47 (v := (0 : Int32)) J (show 0 ≤ (0 : Int) from by omega) (show (0 : Int) ≤ 40 from by omega)
    have K7 := kpi K (q := 47) (v := (0 : Int32)) rfl
    have hMI : MI σ (ps_a (ps_ui s 1131 47 0) 1134) (ps_a (ps_ui s 1131 47 0) 1135) (ps_a (ps_ui s 1131 47 0) 1136) (ps_a (ps_ui s 1131 47 0) 1137) (ps_a (ps_ui s 1131 47 0) 1138) (ps_a (ps_ui s 1131 47 0) 1139) (ps_a (ps_ui s 1131 47 0) 1157) (ps_a (ps_ui s 1131 47 0) 1176) (ps_i (ps_ui s 1131 47 0) 1131 21).toInt (ps_i (ps_ui s 1131 47 0) 1131 47).toInt (ps_i (ps_ui s 1131 47 0) 1131 54).toInt := MI_st hMI (mf_47 J).1 (Int.le_refl _)
    have J8 := mwi_48 (v := (-1 : Int32)) J6 (show -1 ≤ (-1 : Int) from by omega) (show (-1 : Int) ≤ 40 from by omega)
    have K9 := kpi K7 (q := 48) (v := (-1 : Int32)) rfl
    have J10 := mwi_n 49 (v := (-1 : Int32)) J8 rfl
    have K11 := kpi K9 (q := 49) (v := (-1 : Int32)) rfl
    have r12 := mf_42 J
    exact ms_240_54 (σ := σ) k  (2 * (50 - (0 : Int)) - (-1 : Int)).toNat  _ J10 K11 hMI hRD (show 0 ≤ (0 : Int) from by omega) (show (0 : Int) ≤ (ps_i s 1131 42).toInt from by omega) (show (ps_i s 1131 3).toInt = 0 from by omega) (show 2 * (50 - (0 : Int)) - (-1 : Int) ≤ (((2 * (50 - (0 : Int)) - (-1 : Int)).toNat : Nat) : Int) from by omega)
  · have f13 : v2.toInt = (0 : Int) := xeq h4
    have qz13 : 1 ≤ (ps_i s 1131 5).toInt := by omega
    clear p2_0' p2_0
    exact k (-1 : Int32) _ J K hMI (show (ps_i s 1131 3).toInt = 0 from by omega)

theorem ms_240_9 {x : Nat → Nat → Nat} {t : Int32} {d : Nat} {s0 : ps_S} {σ : mSig} {Q : Option Value → ps_S → Prop} (k : ∀ (v : Int32) (s' : ps_S), mJ x t s' → kp [1133, 1134, 1143, 1144, 1145, 1146, 1147, 1148, 1149, 1150, 1151, 1152, 1153, 1154, 1155, 1156, 1157, 1158, 1159, 1160] [3, 4, 5, 6, 7, 8, 9, 10, 11, 22, 23, 29, 30, 31, 32, 34, 42, 47, 48, 49, 50, 51] s0 s' → (MI σ (ps_a s' 1134) (ps_a s' 1135) (ps_a s' 1136) (ps_a s' 1137) (ps_a s' 1138) (ps_a s' 1139) (ps_a s' 1157) (ps_a s' 1176) (ps_i s' 1131 21).toInt (ps_i s' 1131 47).toInt (ps_i s' 1131 54).toInt) → ((ps_i s' 1131 3).toInt = 0) → Q (some (.int v)) s') : ∀ (n : Nat) (s : ps_S), (mJ x t s) → (kp [1133, 1134, 1143, 1144, 1145, 1146, 1147, 1148, 1149, 1150, 1151, 1152, 1153, 1154, 1155, 1156, 1157, 1158, 1159, 1160] [3, 4, 5, 6, 7, 8, 9, 10, 11, 22, 23, 29, 30, 31, 32, 34, 42, 47, 48, 49, 50, 51] s0 s) → (MI σ (ps_a s 1134) (ps_a s 1135) (ps_a s 1136) (ps_a s 1137) (ps_a s 1138) (ps_a s 1139) (ps_a s 1157) (ps_a s 1176) (ps_i s 1131 21).toInt (ps_i s 1131 47).toInt (ps_i s 1131 54).toInt) → ((ps_i s 1131 8).toInt ≤ (ps_i s 1131 4).toInt) → ((ps_i s 1131 22).toInt = (ps_i s 1131 21).toInt) → (1 ≤ (ps_i s 1131 5).toInt ∨ SRs σ (ps_a s 1134) (ps_a s 1152) (ps_a s 1153) (ps_a s 1137 (Int32.toNatClampNeg (ps_i s 1131 21))).toInt (ps_i s 1131 42).toInt) → ((ps_i s 1131 47).toInt ≤ 40) → ((ps_i s 1131 3).toInt = 0) → 2 * (41 - (ps_i s 1131 42).toInt) - (ps_i s 1131 5).toInt ≤ (n : Int) → ps_At (d + 7) 240 9 [(0, .ref 1131)] [] s Q := by
  refine xstr (fun n ih => ?_)
  intro s J K hMI i1 i2 i3 i4 i5 hm
  have r1 := mf_8 J
  have r2 := mf_4 J
  have r3 := mf_22 J
  have r4 := mf_21 J
  have r5 := mf_47 J
  have r6 := mf_3 J
  have r7 := mf_42 J
  have r8 := mf_5 J
  refine pg_240_9 (d := d + 6) ?_
  refine ms_192 J  (fun v9 p9_0 b9 => ?_)
  have p9_0' : (v9.toInt = 0 ∧ 1 ≤ (ps_i s 1131 5).toInt) ∨ (v9.toInt = 1 ∧ (ps_i s 1131 5).toInt = 0) := p9_0
  refine And.intro (fun h10 => ?_) (fun h10 => ?_)
  · have f11 : v9.toInt = (0 : Int) := xeq h10
    have qz11 : 1 ≤ (ps_i s 1131 5).toInt := by omega
    clear p9_0' p9_0
    exact ms_240_30 (σ := σ) k   _ J K hMI (by assumption) (show (ps_i s 1131 3).toInt = 0 from by omega)
  · have f12 : v9.toInt ≠ (0 : Int) := xne h10
    have qz12 : (ps_i s 1131 5).toInt = 0 := by omega
    clear p9_0' p9_0
    have r13 := mf_9 J
    refine And.intro (fun h14 => ?_) (fun h14 => ?_)
    · have f15 : (ps_i s 1131 9).toInt = (0 : Int) := xeq h14
      exact ms_240_30 (σ := σ) k   _ J K hMI (by assumption) (show (ps_i s 1131 3).toInt = 0 from by omega)
    · have f16 : (ps_i s 1131 9).toInt ≠ (0 : Int) := xne h14
      have e21 : Int32.toNatClampNeg (ps_i s 1131 22) = Int32.toNatClampNeg (ps_i s 1131 21) := by show (ps_i s 1131 22).toInt.toNat = (ps_i s 1131 21).toInt.toNat; rw [i2]
      have hS2 : Sg (ps_a s 1135) (ps_a s 1136) (ps_a s 1138) (ps_a s 1139) (ps_i s 1131 22).toInt σ := by rw [i2]; exact hMI.1
      have hRs := i3.resolve_left (by omega)
      have hM0 : MI σ (ps_a s 1134) (ps_a s 1135) (ps_a s 1136) (ps_a s 1137) (ps_a s 1138) (ps_a s 1139) (ps_a s 1157) (ps_a s 1176) (ps_i s 1131 21).toInt (ps_i s 1131 47).toInt (ps_i s 1131 54).toInt := hMI
      refine ms_238 J hS2 (hRs) ((by rw [e21])) (show (ps_i s 1131 8).toInt ≤ (ps_i s 1131 4).toInt from by omega) (show (ps_i s 1131 5).toInt = 0 from by omega) (rfl) (fun s17 J17 K17 p17_0 p17_1 p17_2 p17_3 p17_4 => ?_)
      have K18 := kpt K K17 rfl rfl
      have KC := K17
      have hS2 : Sg (ps_a s17 1135) (ps_a s17 1136) (ps_a s17 1138) (ps_a s17 1139) (ps_i s17 1131 22).toInt σ := by rw [show ps_a s17 1135 = ps_a s 1135 from (K17.2 1135 rfl).1, show ps_a s17 1136 = ps_a s 1136 from (K17.2 1136 rfl).1, show ps_a s17 1138 = ps_a s 1138 from (K17.2 1138 rfl).1, show ps_a s17 1139 = ps_a s 1139 from (K17.2 1139 rfl).1, show ps_i s17 1131 22 = ps_i s 1131 22 from kp_i K17 22 rfl]; exact hS2
      have hM0 : MI σ (ps_a s 1134) (ps_a s17 1135) (ps_a s17 1136) (ps_a s17 1137) (ps_a s17 1138) (ps_a s17 1139) (ps_a s17 1157) (ps_a s17 1176) (ps_i s17 1131 21).toInt (ps_i s17 1131 47).toInt (ps_i s17 1131 54).toInt := by rw [show ps_a s17 1135 = ps_a s 1135 from (K17.2 1135 rfl).1, show ps_a s17 1136 = ps_a s 1136 from (K17.2 1136 rfl).1, show ps_a s17 1137 = ps_a s 1137 from (K17.2 1137 rfl).1, show ps_a s17 1138 = ps_a s 1138 from (K17.2 1138 rfl).1, show ps_a s17 1139 = ps_a s 1139 from (K17.2 1139 rfl).1, show ps_a s17 1157 = ps_a s 1157 from (K17.2 1157 rfl).1, show ps_a s17 1176 = ps_a s 1176 from (K17.2 1176 rfl).1, show ps_i s17 1131 21 = ps_i s 1131 21 from kp_i K17 21 rfl, show ps_i s17 1131 47 = ps_i s 1131 47 from kp_i K17 47 rfl, show ps_i s17 1131 54 = ps_i s 1131 54 from kp_i K17 54 rfl]; exact hM0
      have p17_0' : (ps_i s17 1131 8).toInt ≤ (ps_i s17 1131 4).toInt := p17_0
      have r19 := mf_8 J17
      have r20 := mf_4 J17
      have u21 : (ps_i s17 1131 4).toInt = (ps_i s 1131 4).toInt := xeq (kp_i K17 4 rfl)
      have p17_3' : 1 ≤ (ps_i s17 1131 5).toInt ∨ (ps_i s17 1131 42).toInt = (ps_i s 1131 42).toInt + 1 := p17_3
      have r22 := mf_5 J17
      have r23 := mf_42 J17
      have p17_4' : (ps_i s 1131 42).toInt ≤ (ps_i s17 1131 42).toInt := p17_4
      have hR1 : _ := p17_1
      have ho : _ := p17_2
      have r24 := mf_22 J17
      have u25 : (ps_i s17 1131 22).toInt = (ps_i s 1131 22).toInt := xeq (kp_i K17 22 rfl)
      have r26 := mf_21 J17
      have u27 : (ps_i s17 1131 21).toInt = (ps_i s 1131 21).toInt := xeq (kp_i K17 21 rfl)
      have r28 := mf_47 J17
      have u29 : (ps_i s17 1131 47).toInt = (ps_i s 1131 47).toInt := xeq (kp_i K17 47 rfl)
      have r30 := mf_3 J17
      have u31 : (ps_i s17 1131 3).toInt = (ps_i s 1131 3).toInt := xeq (kp_i K17 3 rfl)
      exact ih (n - 1) (show n - 1 < n from by omega)  _ J17 K18 (MI_pool hM0 (show (ps_i s17 1131 47).toInt ≤ 40 from by omega) ho) (show (ps_i s17 1131 8).toInt ≤ (ps_i s17 1131 4).toInt from by omega) (show (ps_i s17 1131 22).toInt = (ps_i s17 1131 21).toInt from by omega) (hR1.imp id (fun z => SRs_n z rfl (by rw [show ps_a s17 1137 = ps_a s 1137 from (KC.2 1137 rfl).1, show ps_i s17 1131 21 = ps_i s 1131 21 from kp_i KC 21 rfl]))) (show (ps_i s17 1131 47).toInt ≤ 40 from by omega) (show (ps_i s17 1131 3).toInt = 0 from by omega) (show 2 * (41 - (ps_i s17 1131 42).toInt) - (ps_i s17 1131 5).toInt ≤ ((n - 1 : Nat) : Int) from by omega)

theorem ms_240 {x : Nat → Nat → Nat} {t : Int32} {s : ps_S} {d : Nat} {f : Int32 → ps_S → Prop} (J : mJ x t s) {σ : mSig} (hMI : MI σ (ps_a s 1134) (ps_a s 1135) (ps_a s 1136) (ps_a s 1137) (ps_a s 1138) (ps_a s 1139) (ps_a s 1157) (ps_a s 1176) (ps_i s 1131 21).toInt (ps_i s 1131 47).toInt (ps_i s 1131 54).toInt) (k : ∀ (v : Int32) (s' : ps_S), mJ x t s' → kp [1133, 1134, 1143, 1144, 1145, 1146, 1147, 1148, 1149, 1150, 1151, 1152, 1153, 1154, 1155, 1156, 1157, 1158, 1159, 1160] [3, 4, 5, 6, 7, 8, 9, 10, 11, 22, 23, 29, 30, 31, 32, 34, 42, 47, 48, 49, 50, 51] s s' → (MI σ (ps_a s' 1134) (ps_a s' 1135) (ps_a s' 1136) (ps_a s' 1137) (ps_a s' 1138) (ps_a s' 1139) (ps_a s' 1157) (ps_a s' 1176) (ps_i s' 1131 21).toInt (ps_i s' 1131 47).toInt (ps_i s' 1131 54).toInt) → ((ps_i s' 1131 3).toInt = 0) → f v s') : ps_Cl (d + 7) 240 [.ref 1131] s (ps_rI f) := by
  have K : kp [1133, 1134, 1143, 1144, 1145, 1146, 1147, 1148, 1149, 1150, 1151, 1152, 1153, 1154, 1155, 1156, 1157, 1158, 1159, 1160] [3, 4, 5, 6, 7, 8, 9, 10, 11, 22, 23, 29, 30, 31, 32, 34, 42, 47, 48, 49, 50, 51] s s := kp_refl
  refine pg_240_0 (d := d + 6) ?_
  refine ms_198 J  (fun s1 J1 K1 p1_0 p1_1 p1_2 p1_3 p1_4 => ?_)
  have K2 := kpt K K1 rfl rfl
  have KC := K1
  have hMI : MI σ (ps_a s1 1134) (ps_a s1 1135) (ps_a s1 1136) (ps_a s1 1137) (ps_a s1 1138) (ps_a s1 1139) (ps_a s1 1157) (ps_a s1 1176) (ps_i s1 1131 21).toInt (ps_i s1 1131 47).toInt (ps_i s1 1131 54).toInt := by rw [show ps_a s1 1134 = ps_a s 1134 from (K1.2 1134 rfl).1, show ps_a s1 1135 = ps_a s 1135 from (K1.2 1135 rfl).1, show ps_a s1 1136 = ps_a s 1136 from (K1.2 1136 rfl).1, show ps_a s1 1137 = ps_a s 1137 from (K1.2 1137 rfl).1, show ps_a s1 1138 = ps_a s 1138 from (K1.2 1138 rfl).1, show ps_a s1 1139 = ps_a s 1139 from (K1.2 1139 rfl).1, show ps_a s1 1157 = ps_a s 1157 from (K1.2 1157 rfl).1, show ps_a s1 1176 = ps_a s 1176 from (K1.2 1176 rfl).1, show ps_i s1 1131 21 = ps_i s 1131 21 from kp_i K1 21 rfl, show ps_i s1 1131 47 = ps_i s 1131 47 from kp_i K1 47 rfl, show ps_i s1 1131 54 = ps_i s 1131 54 from kp_i K1 54 rfl]; exact hMI
  have p1_0' : (ps_i s1 1131 8).toInt ≤ (ps_i s1 1131 4).toInt := p1_0
  have r3 := mf_8 J1
  have r4 := mf_4 J1
  have p1_1' : (ps_i s1 1131 5).toInt = 0 := p1_1
  have r5 := mf_5 J1
  have p1_2' : (ps_i s1 1131 3).toInt = 0 := p1_2
  have r6 := mf_3 J1
  have p1_3' : (ps_i s1 1131 23).toInt = 0 := p1_3
  have r7 := mf_23 J1
  have p1_4' : (ps_i s1 1131 22).toInt = (ps_i s1 1131 21).toInt := p1_4
  have r8 := mf_22 J1
  have r9 := mf_21 J1
  have u10 : (ps_i s1 1131 21).toInt = (ps_i s 1131 21).toInt := xeq (kp_i K1 21 rfl)
  have r11 := mf_21 J
  have J12 := mwi_42 (v := (0 : Int32)) J1 (show 0 ≤ (0 : Int) from by omega) (show (0 : Int) ≤ 40 from by omega)
  have K13 := kpi K2 (q := 42) (v := (0 : Int32)) rfl
  have r14 := mf_47 J1
  have u15 : (ps_i s1 1131 47).toInt = (ps_i s 1131 47).toInt := xeq (kp_i K1 47 rfl)
  have r16 := mf_47 J
  exact ms_240_9 (σ := σ) k  (2 * (41 - (0 : Int)) - (ps_i s1 1131 5).toInt).toNat  _ J12 K13 hMI (show (ps_i s1 1131 8).toInt ≤ (ps_i s1 1131 4).toInt from by omega) (show (ps_i s1 1131 22).toInt = (ps_i s1 1131 21).toInt from by omega) (Or.inr (SRs_0 rfl)) (show (ps_i s1 1131 47).toInt ≤ 40 from by omega) (show (ps_i s1 1131 3).toInt = 0 from by omega) (show 2 * (41 - (0 : Int)) - (ps_i s1 1131 5).toInt ≤ (((2 * (41 - (0 : Int)) - (ps_i s1 1131 5).toInt).toNat : Nat) : Int) from by omega)
