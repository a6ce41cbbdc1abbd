set_option maxRecDepth 100000
-- ProofBenchModel.begin()V
theorem pg_202_0 {d : Nat} {s : ps_S} {Q : Option Value → ps_S → Prop} (h :
  ps_nd (pm_in 25748 27400) (ps_nd (pm_in 25789 27400) (Q none (ps_ua (ps_ua (ps_ui (ps_ui (ps_ui (ps_ui s 1131 47 0) 1131 48 (-1)) 1131 49 (-1)) 1131 54 0) 1134 (Int32.toNatClampNeg (25748 : Int32)) 0) 1134 (Int32.toNatClampNeg (25789 : Int32)) 0)))) : ps_At d 202 0 [(0, .ref 1131)] [] s Q :=
  ps_wp_at (stops := []) (n := 25) h rfl

-- ProofBenchModel.theory()I
theorem pg_201_0 {d : Nat} {s : ps_S} {Q : Option Value → ps_S → Prop} (h :
  ps_Cl d 198 [.ref 1131] s (ps_rV (fun s1 =>
    ps_nd (pm_in (ps_i (ps_ui s1 1131 22 ((1 : Int32) - (ps_i s1 1131 21))) 1131 22) 2) (ps_nd (pm_in (ps_i (ps_ua (ps_ui s1 1131 22 ((1 : Int32) - (ps_i s1 1131 21))) 1135 (Int32.toNatClampNeg (ps_i (ps_ui s1 1131 22 ((1 : Int32) - (ps_i s1 1131 21))) 1131 22)) 0) 1131 22) 2) (ps_nd (pm_in (ps_i (ps_ua (ps_ua (ps_ui s1 1131 22 ((1 : Int32) - (ps_i s1 1131 21))) 1135 (Int32.toNatClampNeg (ps_i (ps_ui s1 1131 22 ((1 : Int32) - (ps_i s1 1131 21))) 1131 22)) 0) 1136 (Int32.toNatClampNeg (ps_i (ps_ua (ps_ui s1 1131 22 ((1 : Int32) - (ps_i s1 1131 21))) 1135 (Int32.toNatClampNeg (ps_i (ps_ui s1 1131 22 ((1 : Int32) - (ps_i s1 1131 21))) 1131 22)) 0) 1131 22)) 0) 1131 22) 2) (ps_At (d + 1) 201 44 [(0, .ref 1131)] [] (ps_ua (ps_ua (ps_ua (ps_ui s1 1131 22 ((1 : Int32) - (ps_i s1 1131 21))) 1135 (Int32.toNatClampNeg (ps_i (ps_ui s1 1131 22 ((1 : Int32) - (ps_i s1 1131 21))) 1131 22)) 0) 1136 (Int32.toNatClampNeg (ps_i (ps_ua (ps_ui s1 1131 22 ((1 : Int32) - (ps_i s1 1131 21))) 1135 (Int32.toNatClampNeg (ps_i (ps_ui s1 1131 22 ((1 : Int32) - (ps_i s1 1131 21))) 1131 22)) 0) 1131 22)) 0) 1137 (Int32.toNatClampNeg (ps_i (ps_ua (ps_ua (ps_ui s1 1131 22 ((1 : Int32) - (ps_i s1 1131 21))) 1135 (Int32.toNatClampNeg (ps_i (ps_ui s1 1131 22 ((1 : Int32) - (ps_i s1 1131 21))) 1131 22)) 0) 1136 (Int32.toNatClampNeg (ps_i (ps_ua (ps_ui s1 1131 22 ((1 : Int32) - (ps_i s1 1131 21))) 1135 (Int32.toNatClampNeg (ps_i (ps_ui s1 1131 22 ((1 : Int32) - (ps_i s1 1131 21))) 1131 22)) 0) 1131 22)) 0) 1131 22)) 0) Q)))))) : ps_At (d + 1) 201 0 [(0, .ref 1131)] [] s Q :=
  ps_wp_at (stops := [(44, [0]), (65, [0]), (88, [0, 1])]) (n := 28) h rfl

theorem pg_201_44 {d : Nat} {s : ps_S} {Q : Option Value → ps_S → Prop} (h :
  ps_Cl d 192 [.ref 1131] s (ps_rI (fun v1 s1 =>
    (v1 = 0 →
      ps_At (d + 1) 201 65 [(0, .ref 1131)] [] s1 Q) ∧
    (v1 ≠ 0 →
      ((ps_i s1 1131 9) = 0 →
        ps_At (d + 1) 201 65 [(0, .ref 1131)] [] s1 Q) ∧
      ((ps_i s1 1131 9) ≠ 0 →
        ps_Cl d 204 [.ref 1131] s1 (ps_rV (fun s2 =>
          ps_At (d + 1) 201 44 [(0, .ref 1131)] [] s2 Q))))))) : ps_At (d + 1) 201 44 [(0, .ref 1131)] [] s Q :=
  ps_wp_at (stops := [(44, [0]), (65, [0]), (88, [0, 1])]) (n := 11) h rfl

theorem pg_201_65 {d : Nat} {s : ps_S} {Q : Option Value → ps_S → Prop} (h :
  ps_Cl d 192 [.ref 1131] s (ps_rI (fun v1 s1 =>
    (v1 ≠ 0 →
      ps_Cl d 202 [.ref 1131] (ps_ui s1 1131 21 (ps_i s1 1131 22)) (ps_rV (fun s2 =>
        ps_At (d + 1) 201 88 [(0, .ref 1131), (1, .int 0)] [] s2 Q))) ∧
    (v1 = 0 →
      Q (some (.int (-1))) s1)))) : ps_At (d + 1) 201 65 [(0, .ref 1131)] [] s Q :=
  ps_wp_at (stops := [(44, [0]), (65, [0]), (88, [0, 1])]) (n := 15) h rfl

theorem pg_201_88 {d : Nat} {x1 : Int32} {s : ps_S} {Q : Option Value → ps_S → Prop} (h :
  (3 ≤ x1 →
    ps_nd (pm_in (ps_i s 1131 21) 2) (Q (some (.int (ps_a s 1137 (Int32.toNatClampNeg (ps_i s 1131 21))))) s)) ∧
  (x1 < 3 →
    ps_nd (pm_in x1 3) (ps_At (d + 1) 201 88 [(0, .ref 1131), (1, .int (x1 + 1))] [] (ps_ua s 1176 (Int32.toNatClampNeg x1) (-1)) Q))) : ps_At (d + 1) 201 88 [(0, .ref 1131), (1, .int x1)] [] s Q :=
  ps_wp_at (stops := [(44, [0]), (65, [0]), (88, [0, 1])]) (n := 18) h rfl

theorem ms_201_88 {x : Nat → Nat → Nat} {t : Int32} {d : Nat} {s0 : ps_S} {σ : mSig} {Q : Option Value → ps_S → Prop} (k : ∀ (v : Int32) (s' : ps_S), mJ x t s' → kp [1133, 1134, 1135, 1136, 1137, 1138, 1139, 1140, 1141, 1142, 1143, 1144, 1145, 1146, 1147, 1148, 1176] [3, 4, 5, 6, 7, 8, 9, 10, 11, 21, 22, 23, 29, 30, 31, 32, 47, 48, 49, 54] s0 s' → (∃ τ, MI τ (ps_a s' 1134) (ps_a s' 1135) (ps_a s' 1136) (ps_a s' 1137) (ps_a s' 1138) (ps_a s' 1139) (ps_a s' 1157) (ps_a s' 1176) (ps_i s' 1131 21).toInt (ps_i s' 1131 47).toInt (ps_i s' 1131 54).toInt) → ((ps_i s' 1131 3).toInt = 0) → Q (some (.int v)) s') : ∀ (n : Nat) (x1 : Int32) (s : ps_S), (mJ x t s) → (kp [1133, 1134, 1135, 1136, 1137, 1138, 1139, 1140, 1141, 1142, 1143, 1144, 1145, 1146, 1147, 1148, 1176] [3, 4, 5, 6, 7, 8, 9, 10, 11, 21, 22, 23, 29, 30, 31, 32, 47, 48, 49, 54] s0 s) → (∃ τ, TH τ (ps_a s 1134) (ps_a s 1135) (ps_a s 1136) (ps_a s 1137) (ps_a s 1138) (ps_a s 1139) (ps_i s 1131 21).toInt) → ((ps_i s 1131 47).toInt = 0) → ((ps_i s 1131 54).toInt = 0) → ((ps_a s 1134 25748).toInt = 0) → (0 ≤ x1.toInt) → (x1.toInt ≤ 3) → (∀ i : Nat, (i : Int) < x1.toInt → (ps_a s 1176 i).toInt = -1) → ((ps_i s 1131 3).toInt = 0) → 3 - x1.toInt ≤ (n : Int) → ps_At (d + 7) 201 88 [(0, .ref 1131), (1, .int x1)] [] s Q := by
  refine xstr (fun n ih => ?_)
  intro x1 s J K hTb i1 i2 i3 i4 i5 i6 i7 hm
  have r1 := mf_47 J
  have r2 := mf_54 J
  have r3 := mf_3 J
  refine pg_201_88 (d := d + 6) ?_
  have ex : Int32.toNatClampNeg x1 = x1.toInt.toNat := rfl
  refine And.intro (fun h4 => ?_) (fun h4 => ?_)
  · have f5 : (3 : Int) ≤ x1.toInt := xle h4
    have r6 := mf_21 J
    refine ps_nd_i (show pm_in (ps_i s 1131 21) 2 = true from xgi (show 0 ≤ (ps_i s 1131 21).toInt from by omega) (show (ps_i s 1131 21).toInt < 2 from by omega)) ?_
    have r7 : 0 ≤ (ps_a s 1137 (Int32.toNatClampNeg (ps_i s 1131 21))).toInt ∧ (ps_a s 1137 (Int32.toNatClampNeg (ps_i s 1131 21))).toInt ≤ 8 := ma_1137 (i := (ps_i s 1131 21)) J (show 0 ≤ (ps_i s 1131 21).toInt from by omega) (show (ps_i s 1131 21).toInt < 2 from by omega)
    exact k (ps_a s 1137 (Int32.toNatClampNeg (ps_i s 1131 21))) _ J K ((by obtain ⟨τ, hT⟩ := hTb; exact ⟨τ, MI_new hT (show (ps_i s 1131 47).toInt = 0 from by omega) (show (ps_i s 1131 54).toInt = 0 from by omega) i3 (fun i hi => i6 i (by omega))⟩)) (show (ps_i s 1131 3).toInt = 0 from by omega)
  · have f8 : x1.toInt < (3 : Int) := xlt h4
    refine ps_nd_i (show pm_in x1 3 = true from xgi (show 0 ≤ x1.toInt from by omega) (show x1.toInt < 3 from by omega)) ?_
    have J9 := mwa_1176 (i := (Int32.toNatClampNeg x1)) (v := (-1 : Int32)) J (show -1 ≤ (-1 : Int) from by omega) (show (-1 : Int) ≤ 12 from by omega)
    have K10 := kpa' K (r := 1176) (i := (Int32.toNatClampNeg x1)) (v := (-1 : Int32)) rfl
    have a11 : (x1 + 1).toInt = x1.toInt + (1 : Int) := xIa (show -2147483648 ≤ x1.toInt + (1 : Int) from by omega) (show x1.toInt + (1 : Int) < 2147483648 from by omega)
    exact ih (n - 1) (show n - 1 < n from by omega) (x1 + 1) _ J9 K10 hTb (show (ps_i s 1131 47).toInt = 0 from by omega) (show (ps_i s 1131 54).toInt = 0 from by omega) (i3) (show 0 ≤ (x1 + 1).toInt from by omega) (show (x1 + 1).toInt ≤ 3 from by omega) (fun i hi => (by by_cases e : i = Int32.toNatClampNeg x1; (rw [e, ua_eq]; decide); exact (congrArg Int32.toInt (ua_ne e)).trans (i6 i (by omega)))) (show (ps_i s 1131 3).toInt = 0 from by omega) (show 3 - (x1 + 1).toInt ≤ ((n - 1 : Nat) : Int) from by omega)

theorem ms_201_65 {x : Nat → Nat → Nat} {t : Int32} {d : Nat} {s0 : ps_S} {σ : mSig} {Q : Option Value → ps_S → Prop} (k : ∀ (v : Int32) (s' : ps_S), mJ x t s' → kp [1133, 1134, 1135, 1136, 1137, 1138, 1139, 1140, 1141, 1142, 1143, 1144, 1145, 1146, 1147, 1148, 1176] [3, 4, 5, 6, 7, 8, 9, 10, 11, 21, 22, 23, 29, 30, 31, 32, 47, 48, 49, 54] s0 s' → (∃ τ, MI τ (ps_a s' 1134) (ps_a s' 1135) (ps_a s' 1136) (ps_a s' 1137) (ps_a s' 1138) (ps_a s' 1139) (ps_a s' 1157) (ps_a s' 1176) (ps_i s' 1131 21).toInt (ps_i s' 1131 47).toInt (ps_i s' 1131 54).toInt) → ((ps_i s' 1131 3).toInt = 0) → Q (some (.int v)) s') (s : ps_S) (J : mJ x t s) (K : kp [1133, 1134, 1135, 1136, 1137, 1138, 1139, 1140, 1141, 1142, 1143, 1144, 1145, 1146, 1147, 1148, 1176] [3, 4, 5, 6, 7, 8, 9, 10, 11, 21, 22, 23, 29, 30, 31, 32, 47, 48, 49, 54] s0 s) (hMI : MI σ (ps_a s 1134) (ps_a s 1135) (ps_a s 1136) (ps_a s 1137) (ps_a s 1138) (ps_a s 1139) (ps_a s 1157) (ps_a s 1176) (ps_i s 1131 21).toInt (ps_i s 1131 47).toInt (ps_i s 1131 54).toInt) (i1 : (ps_i s 1131 22).toInt = 1 - (ps_i s 1131 21).toInt) (i2 : 1 ≤ (ps_i s 1131 5).toInt ∨ ∃ τ, TH τ (ps_a s 1134) (ps_a s 1135) (ps_a s 1136) (ps_a s 1137) (ps_a s 1138) (ps_a s 1139) (ps_i s 1131 22).toInt) (i3 : (ps_i s 1131 3).toInt = 0) : ps_At (d + 7) 201 65 [(0, .ref 1131)] [] s Q := by
  have r1 := mf_22 J
  have r2 := mf_21 J
  have r3 := mf_3 J
  refine pg_201_65 (d := d + 6) ?_
  refine ms_192 J  (fun v4 p4_0 b4 => ?_)
  have p4_0' : (v4.toInt = 0 ∧ 1 ≤ (ps_i s 1131 5).toInt) ∨ (v4.toInt = 1 ∧ (ps_i s 1131 5).toInt = 0) := p4_0
  have r5 := mf_5 J
  refine And.intro (fun h6 => ?_) (fun h6 => ?_)
  · have f7 : v4.toInt ≠ (0 : Int) := xne h6
    have J8 := mwi_21 (v := (ps_i s 1131 22)) J (show 0 ≤ (ps_i s 1131 22).toInt from by omega) (show (ps_i s 1131 22).toInt ≤ 1 from by omega)
    have K9 := kpi K (q := 21) (v := (ps_i s 1131 22)) rfl
    refine pg_202_0 ?_
    have J10 := mwi_47 (v := (0 : Int32)) J8 (show 0 ≤ (0 : Int) from by omega) (show (0 : Int) ≤ 40 from by omega)
    have K11 := kpi K9 (q := 47) (v := (0 : Int32)) rfl
    have J12 := mwi_48 (v := (-1 : Int32)) J10 (show -1 ≤ (-1 : Int) from by omega) (show (-1 : Int) ≤ 40 from by omega)
    have K13 := kpi K11 (q := 48) (v := (-1 : Int32)) rfl
    have J14 := mwi_n 49 (v := (-1 : Int32)) J12 rfl
    have K15 := kpi K13 (q := 49) (v := (-1 : Int32)) rfl
    have J16 := mwi_54 (v := (0 : Int32)) J14 (show 0 ≤ (0 : Int) from by omega) (show (0 : Int) ≤ 12 from by omega)
    have K17 := kpi K15 (q := 54) (v := (0 : Int32)) rfl
    refine ps_nd_i (show pm_in (25748 : Int32) 27400 = true from xgi (show 0 ≤ (25748 : Int) from by omega) (show (25748 : Int) < 27400 from by omega)) ?_
    have J18 := mw_p (i := (25748 : Int32)) (v := (0 : Int32)) J16 (show (25748 : Int) % 41 = 0 → 0 ≤ (0 : Int) ∧ (0 : Int) ≤ 40 from by omega) (show 0 ≤ (25748 : Int) from by omega)
    have K19 := kpa' K17 (r := 1134) (i := (Int32.toNatClampNeg (25748 : Int32))) (v := (0 : Int32)) rfl
    refine ps_nd_i (show pm_in (25789 : Int32) 27400 = true from xgi (show 0 ≤ (25789 : Int) from by omega) (show (25789 : Int) < 27400 from by omega)) ?_
    have J20 := mw_p (i := (25789 : Int32)) (v := (0 : Int32)) J18 (show (25789 : Int) % 41 = 0 → 0 ≤ (0 : Int) ∧ (0 : Int) ≤ 40 from by omega) (show 0 ≤ (25789 : Int) from by omega)
    have K21 := kpa' K19 (r := 1134) (i := (Int32.toNatClampNeg (25789 : Int32))) (v := (0 : Int32)) rfl
    exact ms_201_88 (σ := σ) k  (3 - (0 : Int)).toNat (0) _ J20 K21 ((by obtain ⟨τ, hT⟩ := i2.resolve_left (by omega); exact ⟨τ, TH_keep hT (fun k hk => (ua_ne (show k ≠ 25789 from by omega)).trans (ua_ne (show k ≠ 25748 from by omega)))⟩)) (show (0 : Int) = 0 from by omega) (show (0 : Int) = 0 from by omega) ((by rw [show ps_a (ps_ua (ps_ua (ps_ui (ps_ui (ps_ui (ps_ui (ps_ui s 1131 21 (ps_i s 1131 22)) 1131 47 0) 1131 48 (-1)) 1131 49 (-1)) 1131 54 0) 1134 (Int32.toNatClampNeg (25748 : Int32)) 0) 1134 (Int32.toNatClampNeg (25789 : Int32)) 0) 1134 25748 = (0 : Int32) from (ua_ne (show (25748 : Nat) ≠ 25789 from by decide)).trans ua_eq]; rfl)) (show 0 ≤ (0 : Int) from by omega) (show (0 : Int) ≤ 3 from by omega) (fun i hi => absurd hi (by rw [Int32.toInt_zero]; omega)) (show (ps_i s 1131 3).toInt = 0 from by omega) (show 3 - (0 : Int) ≤ (((3 - (0 : Int)).toNat : Nat) : Int) from by omega)
  · have f22 : v4.toInt = (0 : Int) := xeq h6
    exact k (-1 : Int32) _ J K (⟨σ, hMI⟩) (show (ps_i s 1131 3).toInt = 0 from by omega)

theorem ms_201_44 {x : Nat → Nat → Nat} {t : Int32} {d : Nat} {s0 : ps_S} {σ : mSig} {Q : Option Value → ps_S → Prop} (k : ∀ (v : Int32) (s' : ps_S), mJ x t s' → kp [1133, 1134, 1135, 1136, 1137, 1138, 1139, 1140, 1141, 1142, 1143, 1144, 1145, 1146, 1147, 1148, 1176] [3, 4, 5, 6, 7, 8, 9, 10, 11, 21, 22, 23, 29, 30, 31, 32, 47, 48, 49, 54] s0 s' → (∃ τ, MI τ (ps_a s' 1134) (ps_a s' 1135) (ps_a s' 1136) (ps_a s' 1137) (ps_a s' 1138) (ps_a s' 1139) (ps_a s' 1157) (ps_a s' 1176) (ps_i s' 1131 21).toInt (ps_i s' 1131 47).toInt (ps_i s' 1131 54).toInt) → ((ps_i s' 1131 3).toInt = 0) → Q (some (.int v)) s') : ∀ (n : Nat) (s : ps_S), (mJ x t s) → (kp [1133, 1134, 1135, 1136, 1137, 1138, 1139, 1140, 1141, 1142, 1143, 1144, 1145, 1146, 1147, 1148, 1176] [3, 4, 5, 6, 7, 8, 9, 10, 11, 21, 22, 23, 29, 30, 31, 32, 47, 48, 49, 54] s0 s) → (MI σ (ps_a s 1134) (ps_a s 1135) (ps_a s 1136) (ps_a s 1137) (ps_a s 1138) (ps_a s 1139) (ps_a s 1157) (ps_a s 1176) (ps_i s 1131 21).toInt (ps_i s 1131 47).toInt (ps_i s 1131 54).toInt) → ((ps_i s 1131 8).toInt ≤ (ps_i s 1131 4).toInt) → ((ps_i s 1131 22).toInt = 1 - (ps_i s 1131 21).toInt) → (1 ≤ (ps_i s 1131 5).toInt ∨ ∃ τ, TH τ (ps_a s 1134) (ps_a s 1135) (ps_a s 1136) (ps_a s 1137) (ps_a s 1138) (ps_a s 1139) (ps_i s 1131 22).toInt) → ((ps_i s 1131 47).toInt ≤ 40) → ((ps_i s 1131 3).toInt = 0) → 2 * (20 - ((ps_a s 1135 (Int32.toNatClampNeg (ps_i s 1131 22))).toInt + (ps_a s 1136 (Int32.toNatClampNeg (ps_i s 1131 22))).toInt + (ps_a s 1137 (Int32.toNatClampNeg (ps_i s 1131 22))).toInt)) - (ps_i s 1131 5).toInt ≤ (n : Int) → ps_At (d + 7) 201 44 [(0, .ref 1131)] [] s Q := by
  refine xstr (fun n ih => ?_)
  intro s J K hMI i1 i2 i3 i4 i5 hm
  have r1 := mf_8 J
  have r2 := mf_4 J
  have r3 := mf_22 J
  have r4 := mf_21 J
  have r5 := mf_47 J
  have r6 := mf_3 J
  have r7 := mf_5 J
  have r8 : 0 ≤ (ps_a s 1135 (Int32.toNatClampNeg (ps_i s 1131 22))).toInt ∧ (ps_a s 1135 (Int32.toNatClampNeg (ps_i s 1131 22))).toInt ≤ 6 := ma_1135 (i := (ps_i s 1131 22)) J (show 0 ≤ (ps_i s 1131 22).toInt from by omega) (show (ps_i s 1131 22).toInt < 2 from by omega)
  have r9 : 0 ≤ (ps_a s 1136 (Int32.toNatClampNeg (ps_i s 1131 22))).toInt ∧ (ps_a s 1136 (Int32.toNatClampNeg (ps_i s 1131 22))).toInt ≤ 4 := ma_1136 (i := (ps_i s 1131 22)) J (show 0 ≤ (ps_i s 1131 22).toInt from by omega) (show (ps_i s 1131 22).toInt < 2 from by omega)
  have r10 : 0 ≤ (ps_a s 1137 (Int32.toNatClampNeg (ps_i s 1131 22))).toInt ∧ (ps_a s 1137 (Int32.toNatClampNeg (ps_i s 1131 22))).toInt ≤ 8 := ma_1137 (i := (ps_i s 1131 22)) J (show 0 ≤ (ps_i s 1131 22).toInt from by omega) (show (ps_i s 1131 22).toInt < 2 from by omega)
  refine pg_201_44 (d := d + 6) ?_
  refine ms_192 J  (fun v11 p11_0 b11 => ?_)
  have p11_0' : (v11.toInt = 0 ∧ 1 ≤ (ps_i s 1131 5).toInt) ∨ (v11.toInt = 1 ∧ (ps_i s 1131 5).toInt = 0) := p11_0
  refine And.intro (fun h12 => ?_) (fun h12 => ?_)
  · have f13 : v11.toInt = (0 : Int) := xeq h12
    exact ms_201_65 (σ := σ) k   _ J K hMI (show (ps_i s 1131 22).toInt = 1 - (ps_i s 1131 21).toInt from by omega) (by assumption) (show (ps_i s 1131 3).toInt = 0 from by omega)
  · have f14 : v11.toInt ≠ (0 : Int) := xne h12
    have r15 := mf_9 J
    refine And.intro (fun h16 => ?_) (fun h16 => ?_)
    · have f17 : (ps_i s 1131 9).toInt = (0 : Int) := xeq h16
      exact ms_201_65 (σ := σ) k   _ J K hMI (show (ps_i s 1131 22).toInt = 1 - (ps_i s 1131 21).toInt from by omega) (by assumption) (show (ps_i s 1131 3).toInt = 0 from by omega)
    · have f18 : (ps_i s 1131 9).toInt ≠ (0 : Int) := xne h16
      obtain ⟨τ, hT⟩ := i3.resolve_left (by omega)
      have hM0 : MI σ (ps_a s 1134) (ps_a s 1135) (ps_a s 1136) (ps_a s 1137) (ps_a s 1138) (ps_a s 1139) (ps_a s 1157) (ps_a s 1176) (ps_i s 1131 21).toInt (ps_i s 1131 47).toInt (ps_i s 1131 54).toInt := hMI
      refine ms_204 J (hT) (rfl) (rfl) (rfl) (show (ps_i s 1131 8).toInt ≤ (ps_i s 1131 4).toInt from by omega) (show (ps_i s 1131 5).toInt = 0 from by omega) (fun s19 J19 K19 p19_0 p19_1 p19_2 p19_3 p19_4 => ?_)
      have K20 := kpt K K19 rfl rfl
      have KC := K19
      have hM0 : MI σ (ps_a s 1134) (ps_a s 1135) (ps_a s 1136) (ps_a s 1137) (ps_a s 1138) (ps_a s 1139) (ps_a s19 1157) (ps_a s19 1176) (ps_i s19 1131 21).toInt (ps_i s19 1131 47).toInt (ps_i s19 1131 54).toInt := by rw [show ps_a s19 1157 = ps_a s 1157 from (K19.2 1157 rfl).1, show ps_a s19 1176 = ps_a s 1176 from (K19.2 1176 rfl).1, show ps_i s19 1131 21 = ps_i s 1131 21 from kp_i K19 21 rfl, show ps_i s19 1131 47 = ps_i s 1131 47 from kp_i K19 47 rfl, show ps_i s19 1131 54 = ps_i s 1131 54 from kp_i K19 54 rfl]; exact hM0
      have p19_0' : (ps_i s19 1131 8).toInt ≤ (ps_i s19 1131 4).toInt := p19_0
      have r21 := mf_8 J19
      have r22 := mf_4 J19
      have u23 : (ps_i s19 1131 4).toInt = (ps_i s 1131 4).toInt := xeq (kp_i K19 4 rfl)
      have hT1 : _ := p19_1
      have hKB : _ := p19_2
      have hs1 : _ := p19_3
      have hs2 : _ := p19_4
      have r24 := mf_22 J19
      have u25 : (ps_i s19 1131 22).toInt = (ps_i s 1131 22).toInt := xeq (kp_i K19 22 rfl)
      have r26 := mf_21 J19
      have u27 : (ps_i s19 1131 21).toInt = (ps_i s 1131 21).toInt := xeq (kp_i K19 21 rfl)
      have r28 := mf_47 J19
      have u29 : (ps_i s19 1131 47).toInt = (ps_i s 1131 47).toInt := xeq (kp_i K19 47 rfl)
      have r30 := mf_3 J19
      have u31 : (ps_i s19 1131 3).toInt = (ps_i s 1131 3).toInt := xeq (kp_i K19 3 rfl)
      have r32 := mf_5 J19
      have r33 : 0 ≤ (ps_a s19 1135 (Int32.toNatClampNeg (ps_i s19 1131 22))).toInt ∧ (ps_a s19 1135 (Int32.toNatClampNeg (ps_i s19 1131 22))).toInt ≤ 6 := ma_1135 (i := (ps_i s19 1131 22)) J19 (show 0 ≤ (ps_i s19 1131 22).toInt from by omega) (show (ps_i s19 1131 22).toInt < 2 from by omega)
      have r34 : 0 ≤ (ps_a s19 1136 (Int32.toNatClampNeg (ps_i s19 1131 22))).toInt ∧ (ps_a s19 1136 (Int32.toNatClampNeg (ps_i s19 1131 22))).toInt ≤ 4 := ma_1136 (i := (ps_i s19 1131 22)) J19 (show 0 ≤ (ps_i s19 1131 22).toInt from by omega) (show (ps_i s19 1131 22).toInt < 2 from by omega)
      have r35 : 0 ≤ (ps_a s19 1137 (Int32.toNatClampNeg (ps_i s19 1131 22))).toInt ∧ (ps_a s19 1137 (Int32.toNatClampNeg (ps_i s19 1131 22))).toInt ≤ 8 := ma_1137 (i := (ps_i s19 1131 22)) J19 (show 0 ≤ (ps_i s19 1131 22).toInt from by omega) (show (ps_i s19 1131 22).toInt < 2 from by omega)
      exact ih (n - 1) (show n - 1 < n from by omega)  _ J19 K20 (MI_bank hM0 hKB (show (ps_i s19 1131 22).toInt = 1 - (ps_i s19 1131 21).toInt from by omega) (show (ps_i s19 1131 47).toInt ≤ 40 from by omega)) (show (ps_i s19 1131 8).toInt ≤ (ps_i s19 1131 4).toInt from by omega) (show (ps_i s19 1131 22).toInt = 1 - (ps_i s19 1131 21).toInt from by omega) (hT1) (show (ps_i s19 1131 47).toInt ≤ 40 from by omega) (show (ps_i s19 1131 3).toInt = 0 from by omega) (show 2 * (20 - ((ps_a s19 1135 (Int32.toNatClampNeg (ps_i s19 1131 22))).toInt + (ps_a s19 1136 (Int32.toNatClampNeg (ps_i s19 1131 22))).toInt + (ps_a s19 1137 (Int32.toNatClampNeg (ps_i s19 1131 22))).toInt)) - (ps_i s19 1131 5).toInt ≤ ((n - 1 : Nat) : Int) from by omega)

theorem ms_201 {x : Nat → Nat → Nat} {t : Int32} {s : ps_S} {d : Nat} {f : Int32 → ps_S → Prop} (J : mJ x t s) {σ : mSig} (hMI : MI σ (ps_a s 1134) (ps_a s 1135) (ps_a s 1136) (ps_a s 1137) (ps_a s 1138) (ps_a s 1139) (ps_a s 1157) (ps_a s 1176) (ps_i s 1131 21).toInt (ps_i s 1131 47).toInt (ps_i s 1131 54).toInt) (k : ∀ (v : Int32) (s' : ps_S), mJ x t s' → kp [1133, 1134, 1135, 1136, 1137, 1138, 1139, 1140, 1141, 1142, 1143, 1144, 1145, 1146, 1147, 1148, 1176] [3, 4, 5, 6, 7, 8, 9, 10, 11, 21, 22, 23, 29, 30, 31, 32, 47, 48, 49, 54] s s' → (∃ τ, MI τ (ps_a s' 1134) (ps_a s' 1135) (ps_a s' 1136) (ps_a s' 1137) (ps_a s' 1138) (ps_a s' 1139) (ps_a s' 1157) (ps_a s' 1176) (ps_i s' 1131 21).toInt (ps_i s' 1131 47).toInt (ps_i s' 1131 54).toInt) → ((ps_i s' 1131 3).toInt = 0) → f v s') : ps_Cl (d + 7) 201 [.ref 1131] s (ps_rI f) := by
  have K : kp [1133, 1134, 1135, 1136, 1137, 1138, 1139, 1140, 1141, 1142, 1143, 1144, 1145, 1146, 1147, 1148, 1176] [3, 4, 5, 6, 7, 8, 9, 10, 11, 21, 22, 23, 29, 30, 31, 32, 47, 48, 49, 54] s s := kp_refl
  refine pg_201_0 (d := d + 6) ?_
  refine ms_198 J  (fun s1 J1 K1 p1_0 p1_1 p1_2 p1_3 p1_4 => ?_)
  have K2 := kpt K K1 rfl rfl
  have KC := K1
  have hMI : MI σ (ps_a s1 1134) (ps_a s1 1135) (ps_a s1 1136) (ps_a s1 1137) (ps_a s1 1138) (ps_a s1 1139) (ps_a s1 1157) (ps_a s1 1176) (ps_i s1 1131 21).toInt (ps_i s1 1131 47).toInt (ps_i s1 1131 54).toInt := by rw [show ps_a s1 1134 = ps_a s 1134 from (K1.2 1134 rfl).1, show ps_a s1 1135 = ps_a s 1135 from (K1.2 1135 rfl).1, show ps_a s1 1136 = ps_a s 1136 from (K1.2 1136 rfl).1, show ps_a s1 1137 = ps_a s 1137 from (K1.2 1137 rfl).1, show ps_a s1 1138 = ps_a s 1138 from (K1.2 1138 rfl).1, show ps_a s1 1139 = ps_a s 1139 from (K1.2 1139 rfl).1, show ps_a s1 1157 = ps_a s 1157 from (K1.2 1157 rfl).1, show ps_a s1 1176 = ps_a s 1176 from (K1.2 1176 rfl).1, show ps_i s1 1131 21 = ps_i s 1131 21 from kp_i K1 21 rfl, show ps_i s1 1131 47 = ps_i s 1131 47 from kp_i K1 47 rfl, show ps_i s1 1131 54 = ps_i s 1131 54 from kp_i K1 54 rfl]; exact hMI
  have p1_0' : (ps_i s1 1131 8).toInt ≤ (ps_i s1 1131 4).toInt := p1_0
  have r3 := mf_8 J1
  have r4 := mf_4 J1
  have p1_1' : (ps_i s1 1131 5).toInt = 0 := p1_1
  have r5 := mf_5 J1
  have p1_2' : (ps_i s1 1131 3).toInt = 0 := p1_2
  have r6 := mf_3 J1
  have p1_3' : (ps_i s1 1131 23).toInt = 0 := p1_3
  have r7 := mf_23 J1
  have p1_4' : (ps_i s1 1131 22).toInt = (ps_i s1 1131 21).toInt := p1_4
  have r8 := mf_22 J1
  have r9 := mf_21 J1
  have u10 : (ps_i s1 1131 21).toInt = (ps_i s 1131 21).toInt := xeq (kp_i K1 21 rfl)
  have r11 := mf_21 J
  have a12 : ((1 : Int32) - (ps_i s1 1131 21)).toInt = (1 : Int) - (ps_i s1 1131 21).toInt := xIs (show -2147483648 ≤ (1 : Int) - (ps_i s1 1131 21).toInt from by omega) (show (1 : Int) - (ps_i s1 1131 21).toInt < 2147483648 from by omega)
  have J13 := mwi_22 (v := ((1 : Int32) - (ps_i s1 1131 21))) J1 (show 0 ≤ ((1 : Int32) - (ps_i s1 1131 21)).toInt from by omega) (show ((1 : Int32) - (ps_i s1 1131 21)).toInt ≤ 1 from by omega)
  have K14 := kpi K2 (q := 22) (v := ((1 : Int32) - (ps_i s1 1131 21))) rfl
  refine ps_nd_i (show pm_in ((1 : Int32) - (ps_i s1 1131 21)) 2 = true from xgi (show 0 ≤ ((1 : Int32) - (ps_i s1 1131 21)).toInt from by omega) (show ((1 : Int32) - (ps_i s1 1131 21)).toInt < 2 from by omega)) ?_
  have J15 := mwa_1135 (i := (Int32.toNatClampNeg ((1 : Int32) - (ps_i s1 1131 21)))) (v := (0 : Int32)) J13 (show 0 ≤ (0 : Int) from by omega) (show (0 : Int) ≤ 6 from by omega)
  have K16 := kpa' K14 (r := 1135) (i := (Int32.toNatClampNeg ((1 : Int32) - (ps_i s1 1131 21)))) (v := (0 : Int32)) rfl
  refine ps_nd_i (show pm_in ((1 : Int32) - (ps_i s1 1131 21)) 2 = true from xgi (show 0 ≤ ((1 : Int32) - (ps_i s1 1131 21)).toInt from by omega) (show ((1 : Int32) - (ps_i s1 1131 21)).toInt < 2 from by omega)) ?_
  have J17 := mwa_1136 (i := (Int32.toNatClampNeg ((1 : Int32) - (ps_i s1 1131 21)))) (v := (0 : Int32)) J15 (show 0 ≤ (0 : Int) from by omega) (show (0 : Int) ≤ 4 from by omega)
  have K18 := kpa' K16 (r := 1136) (i := (Int32.toNatClampNeg ((1 : Int32) - (ps_i s1 1131 21)))) (v := (0 : Int32)) rfl
  refine ps_nd_i (show pm_in ((1 : Int32) - (ps_i s1 1131 21)) 2 = true from xgi (show 0 ≤ ((1 : Int32) - (ps_i s1 1131 21)).toInt from by omega) (show ((1 : Int32) - (ps_i s1 1131 21)).toInt < 2 from by omega)) ?_
  have J19 := mwa_1137 (i := (Int32.toNatClampNeg ((1 : Int32) - (ps_i s1 1131 21)))) (v := (0 : Int32)) J17 (show 0 ≤ (0 : Int) from by omega) (show (0 : Int) ≤ 8 from by omega)
  have K20 := kpa' K18 (r := 1137) (i := (Int32.toNatClampNeg ((1 : Int32) - (ps_i s1 1131 21)))) (v := (0 : Int32)) rfl
  have r21 := mf_47 J1
  have u22 : (ps_i s1 1131 47).toInt = (ps_i s 1131 47).toInt := xeq (kp_i K1 47 rfl)
  have r23 := mf_47 J
  have w24 : (ps_a (ps_ua (ps_ui s1 1131 22 ((1 : Int32) - (ps_i s1 1131 21))) 1135 (Int32.toNatClampNeg ((1 : Int32) - (ps_i s1 1131 21))) 0) 1135 (Int32.toNatClampNeg ((1 : Int32) - (ps_i s1 1131 21)))).toInt = (0 : Int) := xeq ua_eq
  have w25 : (ps_a (ps_ua (ps_ua (ps_ui s1 1131 22 ((1 : Int32) - (ps_i s1 1131 21))) 1135 (Int32.toNatClampNeg ((1 : Int32) - (ps_i s1 1131 21))) 0) 1136 (Int32.toNatClampNeg ((1 : Int32) - (ps_i s1 1131 21))) 0) 1136 (Int32.toNatClampNeg ((1 : Int32) - (ps_i s1 1131 21)))).toInt = (0 : Int) := xeq ua_eq
  have w26 : (ps_a (ps_ua (ps_ua (ps_ua (ps_ui s1 1131 22 ((1 : Int32) - (ps_i s1 1131 21))) 1135 (Int32.toNatClampNeg ((1 : Int32) - (ps_i s1 1131 21))) 0) 1136 (Int32.toNatClampNeg ((1 : Int32) - (ps_i s1 1131 21))) 0) 1137 (Int32.toNatClampNeg ((1 : Int32) - (ps_i s1 1131 21))) 0) 1137 (Int32.toNatClampNeg ((1 : Int32) - (ps_i s1 1131 21)))).toInt = (0 : Int) := xeq ua_eq
  have r27 : 0 ≤ (ps_a (ps_ua (ps_ua (ps_ua (ps_ui s1 1131 22 ((1 : Int32) - (ps_i s1 1131 21))) 1135 (Int32.toNatClampNeg ((1 : Int32) - (ps_i s1 1131 21))) 0) 1136 (Int32.toNatClampNeg ((1 : Int32) - (ps_i s1 1131 21))) 0) 1137 (Int32.toNatClampNeg ((1 : Int32) - (ps_i s1 1131 21))) 0) 1137 (Int32.toNatClampNeg ((1 : Int32) - (ps_i s1 1131 21)))).toInt ∧ (ps_a (ps_ua (ps_ua (ps_ua (ps_ui s1 1131 22 ((1 : Int32) - (ps_i s1 1131 21))) 1135 (Int32.toNatClampNeg ((1 : Int32) - (ps_i s1 1131 21))) 0) 1136 (Int32.toNatClampNeg ((1 : Int32) - (ps_i s1 1131 21))) 0) 1137 (Int32.toNatClampNeg ((1 : Int32) - (ps_i s1 1131 21))) 0) 1137 (Int32.toNatClampNeg ((1 : Int32) - (ps_i s1 1131 21)))).toInt ≤ 8 := ma_1137 (i := ((1 : Int32) - (ps_i s1 1131 21))) J19 (show 0 ≤ ((1 : Int32) - (ps_i s1 1131 21)).toInt from by omega) (show ((1 : Int32) - (ps_i s1 1131 21)).toInt < 2 from by omega)
  exact ms_201_44 (σ := σ) k  (2 * (20 - ((ps_a (ps_ua (ps_ui s1 1131 22 ((1 : Int32) - (ps_i s1 1131 21))) 1135 (Int32.toNatClampNeg ((1 : Int32) - (ps_i s1 1131 21))) 0) 1135 (Int32.toNatClampNeg ((1 : Int32) - (ps_i s1 1131 21)))).toInt + (ps_a (ps_ua (ps_ua (ps_ui s1 1131 22 ((1 : Int32) - (ps_i s1 1131 21))) 1135 (Int32.toNatClampNeg ((1 : Int32) - (ps_i s1 1131 21))) 0) 1136 (Int32.toNatClampNeg ((1 : Int32) - (ps_i s1 1131 21))) 0) 1136 (Int32.toNatClampNeg ((1 : Int32) - (ps_i s1 1131 21)))).toInt + (ps_a (ps_ua (ps_ua (ps_ua (ps_ui s1 1131 22 ((1 : Int32) - (ps_i s1 1131 21))) 1135 (Int32.toNatClampNeg ((1 : Int32) - (ps_i s1 1131 21))) 0) 1136 (Int32.toNatClampNeg ((1 : Int32) - (ps_i s1 1131 21))) 0) 1137 (Int32.toNatClampNeg ((1 : Int32) - (ps_i s1 1131 21))) 0) 1137 (Int32.toNatClampNeg ((1 : Int32) - (ps_i s1 1131 21)))).toInt)) - (ps_i s1 1131 5).toInt).toNat  _ J19 K20 ((by have hKB : KB ((1 : Int32) - (ps_i s1 1131 21)).toInt (ps_a s1 1134) (ps_a s1 1135) (ps_a s1 1136) (ps_a s1 1137) (ps_a s1 1138) (ps_a s1 1139) (ps_a (ps_ua (ps_ua (ps_ua (ps_ui s1 1131 22 ((1 : Int32) - (ps_i s1 1131 21))) 1135 (Int32.toNatClampNeg ((1 : Int32) - (ps_i s1 1131 21))) 0) 1136 (Int32.toNatClampNeg ((1 : Int32) - (ps_i s1 1131 21))) 0) 1137 (Int32.toNatClampNeg ((1 : Int32) - (ps_i s1 1131 21))) 0) 1134) (ps_a (ps_ua (ps_ua (ps_ua (ps_ui s1 1131 22 ((1 : Int32) - (ps_i s1 1131 21))) 1135 (Int32.toNatClampNeg ((1 : Int32) - (ps_i s1 1131 21))) 0) 1136 (Int32.toNatClampNeg ((1 : Int32) - (ps_i s1 1131 21))) 0) 1137 (Int32.toNatClampNeg ((1 : Int32) - (ps_i s1 1131 21))) 0) 1135) (ps_a (ps_ua (ps_ua (ps_ua (ps_ui s1 1131 22 ((1 : Int32) - (ps_i s1 1131 21))) 1135 (Int32.toNatClampNeg ((1 : Int32) - (ps_i s1 1131 21))) 0) 1136 (Int32.toNatClampNeg ((1 : Int32) - (ps_i s1 1131 21))) 0) 1137 (Int32.toNatClampNeg ((1 : Int32) - (ps_i s1 1131 21))) 0) 1136) (ps_a (ps_ua (ps_ua (ps_ua (ps_ui s1 1131 22 ((1 : Int32) - (ps_i s1 1131 21))) 1135 (Int32.toNatClampNeg ((1 : Int32) - (ps_i s1 1131 21))) 0) 1136 (Int32.toNatClampNeg ((1 : Int32) - (ps_i s1 1131 21))) 0) 1137 (Int32.toNatClampNeg ((1 : Int32) - (ps_i s1 1131 21))) 0) 1137) (ps_a (ps_ua (ps_ua (ps_ua (ps_ui s1 1131 22 ((1 : Int32) - (ps_i s1 1131 21))) 1135 (Int32.toNatClampNeg ((1 : Int32) - (ps_i s1 1131 21))) 0) 1136 (Int32.toNatClampNeg ((1 : Int32) - (ps_i s1 1131 21))) 0) 1137 (Int32.toNatClampNeg ((1 : Int32) - (ps_i s1 1131 21))) 0) 1138) (ps_a (ps_ua (ps_ua (ps_ua (ps_ui s1 1131 22 ((1 : Int32) - (ps_i s1 1131 21))) 1135 (Int32.toNatClampNeg ((1 : Int32) - (ps_i s1 1131 21))) 0) 1136 (Int32.toNatClampNeg ((1 : Int32) - (ps_i s1 1131 21))) 0) 1137 (Int32.toNatClampNeg ((1 : Int32) - (ps_i s1 1131 21))) 0) 1139) := KB_7 (i := Int32.toNatClampNeg ((1 : Int32) - (ps_i s1 1131 21))) (KB_6 (i := Int32.toNatClampNeg ((1 : Int32) - (ps_i s1 1131 21))) (KB_5 (i := Int32.toNatClampNeg ((1 : Int32) - (ps_i s1 1131 21))) KB_0 (show ((Int32.toNatClampNeg ((1 : Int32) - (ps_i s1 1131 21)) : Nat) : Int) = ((1 : Int32) - (ps_i s1 1131 21)).toInt from by rw [nx (n := ((1 : Int32) - (ps_i s1 1131 21)).toInt) rfl]; omega) (fun j hj => (ua_ne hj).trans ((ua_ne hj).trans (ua_ne hj)))) (show ((Int32.toNatClampNeg ((1 : Int32) - (ps_i s1 1131 21)) : Nat) : Int) = ((1 : Int32) - (ps_i s1 1131 21)).toInt from by rw [nx (n := ((1 : Int32) - (ps_i s1 1131 21)).toInt) rfl]; omega) (fun j hj => (ua_ne hj).trans ((ua_ne hj).trans (ua_ne hj)))) (show ((Int32.toNatClampNeg ((1 : Int32) - (ps_i s1 1131 21)) : Nat) : Int) = ((1 : Int32) - (ps_i s1 1131 21)).toInt from by rw [nx (n := ((1 : Int32) - (ps_i s1 1131 21)).toInt) rfl]; omega) (fun j hj => (ua_ne hj).trans ((ua_ne hj).trans (ua_ne hj))); exact MI_bank hMI hKB (show ((1 : Int32) - (ps_i s1 1131 21)).toInt = 1 - (ps_i s1 1131 21).toInt from by omega) (show (ps_i s1 1131 47).toInt ≤ 40 from by omega))) (show (ps_i s1 1131 8).toInt ≤ (ps_i s1 1131 4).toInt from by omega) (show ((1 : Int32) - (ps_i s1 1131 21)).toInt = 1 - (ps_i s1 1131 21).toInt from by omega) (Or.inr ⟨_, TH_0 (show 0 ≤ ((1 : Int32) - (ps_i s1 1131 21)).toInt from by omega) (show ((1 : Int32) - (ps_i s1 1131 21)).toInt ≤ 1 from by omega) (show (ps_a (ps_ua (ps_ua (ps_ua (ps_ui s1 1131 22 ((1 : Int32) - (ps_i s1 1131 21))) 1135 (Int32.toNatClampNeg ((1 : Int32) - (ps_i s1 1131 21))) 0) 1136 (Int32.toNatClampNeg ((1 : Int32) - (ps_i s1 1131 21))) 0) 1137 (Int32.toNatClampNeg ((1 : Int32) - (ps_i s1 1131 21))) 0) 1135 (Int32.toNatClampNeg ((1 : Int32) - (ps_i s1 1131 21)))).toInt = 0 from by rw [show ps_a (ps_ua (ps_ua (ps_ua (ps_ui s1 1131 22 ((1 : Int32) - (ps_i s1 1131 21))) 1135 (Int32.toNatClampNeg ((1 : Int32) - (ps_i s1 1131 21))) 0) 1136 (Int32.toNatClampNeg ((1 : Int32) - (ps_i s1 1131 21))) 0) 1137 (Int32.toNatClampNeg ((1 : Int32) - (ps_i s1 1131 21))) 0) 1135 (Int32.toNatClampNeg ((1 : Int32) - (ps_i s1 1131 21))) = (0 : Int32) from by rw [ps_a_ua, if_neg (fun z => absurd z.1 (by decide)), ps_a_ua, if_neg (fun z => absurd z.1 (by decide)), ps_a_ua, if_pos ⟨rfl, rfl⟩]]; rfl) (show (ps_a (ps_ua (ps_ua (ps_ua (ps_ui s1 1131 22 ((1 : Int32) - (ps_i s1 1131 21))) 1135 (Int32.toNatClampNeg ((1 : Int32) - (ps_i s1 1131 21))) 0) 1136 (Int32.toNatClampNeg ((1 : Int32) - (ps_i s1 1131 21))) 0) 1137 (Int32.toNatClampNeg ((1 : Int32) - (ps_i s1 1131 21))) 0) 1136 (Int32.toNatClampNeg ((1 : Int32) - (ps_i s1 1131 21)))).toInt = 0 from by rw [show ps_a (ps_ua (ps_ua (ps_ua (ps_ui s1 1131 22 ((1 : Int32) - (ps_i s1 1131 21))) 1135 (Int32.toNatClampNeg ((1 : Int32) - (ps_i s1 1131 21))) 0) 1136 (Int32.toNatClampNeg ((1 : Int32) - (ps_i s1 1131 21))) 0) 1137 (Int32.toNatClampNeg ((1 : Int32) - (ps_i s1 1131 21))) 0) 1136 (Int32.toNatClampNeg ((1 : Int32) - (ps_i s1 1131 21))) = (0 : Int32) from by rw [ps_a_ua, if_neg (fun z => absurd z.1 (by decide)), ps_a_ua, if_pos ⟨rfl, rfl⟩]]; rfl) (show (ps_a (ps_ua (ps_ua (ps_ua (ps_ui s1 1131 22 ((1 : Int32) - (ps_i s1 1131 21))) 1135 (Int32.toNatClampNeg ((1 : Int32) - (ps_i s1 1131 21))) 0) 1136 (Int32.toNatClampNeg ((1 : Int32) - (ps_i s1 1131 21))) 0) 1137 (Int32.toNatClampNeg ((1 : Int32) - (ps_i s1 1131 21))) 0) 1137 (Int32.toNatClampNeg ((1 : Int32) - (ps_i s1 1131 21)))).toInt = 0 from by rw [show ps_a (ps_ua (ps_ua (ps_ua (ps_ui s1 1131 22 ((1 : Int32) - (ps_i s1 1131 21))) 1135 (Int32.toNatClampNeg ((1 : Int32) - (ps_i s1 1131 21))) 0) 1136 (Int32.toNatClampNeg ((1 : Int32) - (ps_i s1 1131 21))) 0) 1137 (Int32.toNatClampNeg ((1 : Int32) - (ps_i s1 1131 21))) 0) 1137 (Int32.toNatClampNeg ((1 : Int32) - (ps_i s1 1131 21))) = (0 : Int32) from by rw [ps_a_ua, if_pos ⟨rfl, rfl⟩]]; rfl)⟩) (show (ps_i s1 1131 47).toInt ≤ 40 from by omega) (show (ps_i s1 1131 3).toInt = 0 from by omega) (show 2 * (20 - ((ps_a (ps_ua (ps_ui s1 1131 22 ((1 : Int32) - (ps_i s1 1131 21))) 1135 (Int32.toNatClampNeg ((1 : Int32) - (ps_i s1 1131 21))) 0) 1135 (Int32.toNatClampNeg ((1 : Int32) - (ps_i s1 1131 21)))).toInt + (ps_a (ps_ua (ps_ua (ps_ui s1 1131 22 ((1 : Int32) - (ps_i s1 1131 21))) 1135 (Int32.toNatClampNeg ((1 : Int32) - (ps_i s1 1131 21))) 0) 1136 (Int32.toNatClampNeg ((1 : Int32) - (ps_i s1 1131 21))) 0) 1136 (Int32.toNatClampNeg ((1 : Int32) - (ps_i s1 1131 21)))).toInt + (ps_a (ps_ua (ps_ua (ps_ua (ps_ui s1 1131 22 ((1 : Int32) - (ps_i s1 1131 21))) 1135 (Int32.toNatClampNeg ((1 : Int32) - (ps_i s1 1131 21))) 0) 1136 (Int32.toNatClampNeg ((1 : Int32) - (ps_i s1 1131 21))) 0) 1137 (Int32.toNatClampNeg ((1 : Int32) - (ps_i s1 1131 21))) 0) 1137 (Int32.toNatClampNeg ((1 : Int32) - (ps_i s1 1131 21)))).toInt)) - (ps_i s1 1131 5).toInt ≤ (((2 * (20 - ((ps_a (ps_ua (ps_ui s1 1131 22 ((1 : Int32) - (ps_i s1 1131 21))) 1135 (Int32.toNatClampNeg ((1 : Int32) - (ps_i s1 1131 21))) 0) 1135 (Int32.toNatClampNeg ((1 : Int32) - (ps_i s1 1131 21)))).toInt + (ps_a (ps_ua (ps_ua (ps_ui s1 1131 22 ((1 : Int32) - (ps_i s1 1131 21))) 1135 (Int32.toNatClampNeg ((1 : Int32) - (ps_i s1 1131 21))) 0) 1136 (Int32.toNatClampNeg ((1 : Int32) - (ps_i s1 1131 21))) 0) 1136 (Int32.toNatClampNeg ((1 : Int32) - (ps_i s1 1131 21)))).toInt + (ps_a (ps_ua (ps_ua (ps_ua (ps_ui s1 1131 22 ((1 : Int32) - (ps_i s1 1131 21))) 1135 (Int32.toNatClampNeg ((1 : Int32) - (ps_i s1 1131 21))) 0) 1136 (Int32.toNatClampNeg ((1 : Int32) - (ps_i s1 1131 21))) 0) 1137 (Int32.toNatClampNeg ((1 : Int32) - (ps_i s1 1131 21))) 0) 1137 (Int32.toNatClampNeg ((1 : Int32) - (ps_i s1 1131 21)))).toInt)) - (ps_i s1 1131 5).toInt).toNat : Nat) : Int) from by omega)
