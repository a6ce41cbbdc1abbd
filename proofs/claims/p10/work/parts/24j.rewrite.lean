set_option maxRecDepth 100000
-- ProofBenchModel.rewrite()I
theorem pg_288_0 {d : Nat} {s : ps_S} {Q : Option Value → ps_S → Prop} (h :
  ps_Cl d 198 [.ref 1131] s (ps_rV (fun s1 =>
    ps_Cl d 209 [.ref 1131, .int 25789, .int 0, .int 0] s1 (ps_rV (fun s2 =>
      ps_Cl d 192 [.ref 1131] s2 (ps_rI (fun v3 s3 =>
        (v3 = 0 →
          ps_At (d + 1) 288 31 [(0, .ref 1131)] [] s3 Q) ∧
        (v3 ≠ 0 →
          ((ps_i s3 1131 9) = 0 →
            ps_At (d + 1) 288 31 [(0, .ref 1131)] [] s3 Q) ∧
          ((ps_i s3 1131 9) ≠ 0 →
            ps_Cl d 196 [.ref 1131] s3 (ps_rV (fun s4 =>
              ps_At (d + 1) 288 31 [(0, .ref 1131)] [] s4 Q))))))))))) : ps_At (d + 1) 288 0 [(0, .ref 1131)] [] s Q :=
  ps_wp_at (stops := [(31, [0]), (51, [0, 1])]) (n := 17) h rfl

theorem pg_288_31 {d : Nat} {s : ps_S} {Q : Option Value → ps_S → Prop} (h :
  ps_Cl d 192 [.ref 1131] s (ps_rI (fun v1 s1 =>
    (v1 ≠ 0 →
      ps_At (d + 1) 288 51 [(0, .ref 1131), (1, .int 0)] [] s1 Q) ∧
    (v1 = 0 →
      ps_nd (pm_in 25789 27400) (Q (some (.int (-1))) (ps_ua s1 1134 (Int32.toNatClampNeg (25789 : Int32)) 0)))))) : ps_At (d + 1) 288 31 [(0, .ref 1131)] [] s Q :=
  ps_wp_at (stops := [(31, [0]), (51, [0, 1])]) (n := 14) h rfl

theorem pg_288_51 {d : Nat} {x1 : Int32} {s : ps_S} {Q : Option Value → ps_S → Prop} (h :
  ps_Cl d 287 [.ref 1131] s (ps_rI (fun v1 s1 =>
    (v1 = 0 →
      Q (some (.int x1)) s1) ∧
    (v1 ≠ 0 →
      (x1 = 60 →
        ps_nd (pm_in 25789 27400) (Q (some (.int (-2))) (ps_ua s1 1134 (Int32.toNatClampNeg (25789 : Int32)) 0))) ∧
      (x1 ≠ 60 →
        ps_Cl d 228 [.ref 1131] s1 (ps_rI (fun v2 s2 =>
          (v2 ≠ 0 →
            ps_Cl d 229 [.ref 1131, .int 25789] s2 (ps_rV (fun s3 =>
              ps_At (d + 1) 288 51 [(0, .ref 1131), (1, .int (x1 + 1))] [] s3 Q))) ∧
          (v2 = 0 →
            ps_nd (pm_in 25789 27400) (Q (some (.int (-2))) (ps_ua s2 1134 (Int32.toNatClampNeg (25789 : Int32)) 0)))))))))) : ps_At (d + 1) 288 51 [(0, .ref 1131), (1, .int x1)] [] s Q :=
  ps_wp_at (stops := [(31, [0]), (51, [0, 1])]) (n := 32) h rfl

theorem ms_288_51 {x : Nat → Nat → Nat} {t : Int32} {d : Nat} {s0 : ps_S} {σ : mSig} {Q : Option Value → ps_S → Prop} (k : ∀ (v : Int32) (s' : ps_S), mJ x t s' → kp [1133, 1134, 1143, 1144, 1145, 1146, 1147, 1148, 1149, 1150, 1151, 1167, 1168] [3, 4, 5, 6, 7, 8, 9, 10, 11, 22, 23, 29, 30, 31, 32, 34, 63, 64, 65] s0 s' → (MI σ (ps_a s' 1134) (ps_a s' 1135) (ps_a s' 1136) (ps_a s' 1137) (ps_a s' 1138) (ps_a s' 1139) (ps_a s' 1157) (ps_a s' 1176) (ps_i s' 1131 21).toInt (ps_i s' 1131 47).toInt (ps_i s' 1131 54).toInt) → ((ps_i s' 1131 3).toInt = 0) → Q (some (.int v)) s') : ∀ (n : Nat) (x1 : Int32) (s : ps_S), (mJ x t s) → (kp [1133, 1134, 1143, 1144, 1145, 1146, 1147, 1148, 1149, 1150, 1151, 1167, 1168] [3, 4, 5, 6, 7, 8, 9, 10, 11, 22, 23, 29, 30, 31, 32, 34, 63, 64, 65] s0 s) → (MI σ (ps_a s 1134) (ps_a s 1135) (ps_a s 1136) (ps_a s 1137) (ps_a s 1138) (ps_a s 1139) (ps_a s 1157) (ps_a s 1176) (ps_i s 1131 21).toInt (ps_i s 1131 47).toInt (ps_i s 1131 54).toInt) → (∃ nl, Rw (ps_a s 1134) (25789 : Int32).toInt nl ∧ ws σ nl [false]) → (0 ≤ x1.toInt) → (x1.toInt ≤ 60) → ((ps_i s 1131 47).toInt ≤ 40) → ((ps_i s 1131 3).toInt = 0) → 70 - x1.toInt ≤ (n : Int) → ps_At (d + 6) 288 51 [(0, .ref 1131), (1, .int x1)] [] s Q := by
  refine xstr (fun n ih => ?_)
  intro x1 s J K hMI hNl i2 i3 i4 i5 hm
  have r1 := mf_47 J
  have r2 := mf_3 J
  refine pg_288_51 (d := d + 5) ?_
  obtain ⟨nl, hN, hNw⟩ := id hNl
  have h47 : (ps_i s 1131 47).toInt ≤ 40 := (mf_47 J).2
  refine ms_287 J hMI hN (hNw) (fun v3 s3 J3 K3 p3_0 b3 => ?_)
  have K4 := kpt K K3 rfl rfl
  have hMI : MI σ (ps_a s3 1134) (ps_a s3 1135) (ps_a s3 1136) (ps_a s3 1137) (ps_a s3 1138) (ps_a s3 1139) (ps_a s3 1157) (ps_a s3 1176) (ps_i s3 1131 21).toInt (ps_i s3 1131 47).toInt (ps_i s3 1131 54).toInt := by rw [show ps_a s3 1134 = ps_a s 1134 from (K3.2 1134 rfl).1, show ps_a s3 1135 = ps_a s 1135 from (K3.2 1135 rfl).1, show ps_a s3 1136 = ps_a s 1136 from (K3.2 1136 rfl).1, show ps_a s3 1137 = ps_a s 1137 from (K3.2 1137 rfl).1, show ps_a s3 1138 = ps_a s 1138 from (K3.2 1138 rfl).1, show ps_a s3 1139 = ps_a s 1139 from (K3.2 1139 rfl).1, show ps_a s3 1157 = ps_a s 1157 from (K3.2 1157 rfl).1, show ps_a s3 1176 = ps_a s 1176 from (K3.2 1176 rfl).1, show ps_i s3 1131 21 = ps_i s 1131 21 from kp_i K3 21 rfl, show ps_i s3 1131 47 = ps_i s 1131 47 from kp_i K3 47 rfl, show ps_i s3 1131 54 = ps_i s 1131 54 from kp_i K3 54 rfl]; exact hMI
  have hNl : ∃ nl, Rw (ps_a s3 1134) (25789 : Int32).toInt nl ∧ ws σ nl [false] := by rw [show ps_a s3 1134 = ps_a s 1134 from (K3.2 1134 rfl).1]; exact hNl
  have hN : Rw (ps_a s3 1134) (25789 : Int32).toInt nl := by rw [show ps_a s3 1134 = ps_a s 1134 from (K3.2 1134 rfl).1]; exact hN
  have h47 : (ps_i s3 1131 47).toInt ≤ 40 := by rw [show ps_i s3 1131 47 = ps_i s 1131 47 from kp_i K3 47 rfl]; exact h47
  have hrw : _ := p3_0
  refine And.intro (fun h5 => ?_) (fun h5 => ?_)
  · have f6 : v3.toInt = (0 : Int) := xeq h5
    have r7 := mf_3 J3
    have u8 : (ps_i s3 1131 3).toInt = (ps_i s 1131 3).toInt := xeq (kp_i K3 3 rfl)
    exact k x1 _ J3 K4 hMI (show (ps_i s3 1131 3).toInt = 0 from by omega)
  · have f9 : v3.toInt ≠ (0 : Int) := xne h5
    refine And.intro (fun h10 => ?_) (fun h10 => ?_)
    · have f11 : x1.toInt = (60 : Int) := xeq h10
      refine ps_nd_i (show pm_in (25789 : Int32) 27400 = true from xgi (show 0 ≤ (25789 : Int) from by omega) (show (25789 : Int) < 27400 from by omega)) ?_
      have J12 := mw_p (i := (25789 : Int32)) (v := (0 : Int32)) J3 (show (25789 : Int) % 41 = 0 → 0 ≤ (0 : Int) ∧ (0 : Int) ≤ 40 from by omega) (show 0 ≤ (25789 : Int) from by omega)
      have K13 := kpa' K4 (r := 1134) (i := (Int32.toNatClampNeg (25789 : Int32))) (v := (0 : Int32)) rfl
      have r14 := mf_3 J3
      have u15 : (ps_i s3 1131 3).toInt = (ps_i s 1131 3).toInt := xeq (kp_i K3 3 rfl)
      exact k (-2 : Int32) _ J12 K13 (MI_norm hMI h47 (fun k hk => ua_ne (show k ≠ 25789 from by omega))) (show (ps_i s3 1131 3).toInt = 0 from by omega)
    · have f16 : x1.toInt ≠ (60 : Int) := xne h10
      obtain ⟨ml, hm1, hm2, hm3⟩ := hrw (by omega)
      have hS := MI_S hMI
      have hMl : Md (ps_a s3 1149) (ps_i s3 1131 34).toInt (ml) := hm1
      refine ms_228 J3 (hS) (hm1) (hm3) (fun v17 s17 J17 K17 p17_0 b17 => ?_)
      have K18 := kpt K4 K17 rfl rfl
      have hMI : MI σ (ps_a s17 1134) (ps_a s17 1135) (ps_a s17 1136) (ps_a s17 1137) (ps_a s17 1138) (ps_a s17 1139) (ps_a s17 1157) (ps_a s17 1176) (ps_i s17 1131 21).toInt (ps_i s17 1131 47).toInt (ps_i s17 1131 54).toInt := by rw [show ps_a s17 1134 = ps_a s3 1134 from (K17.2 1134 rfl).1, show ps_a s17 1135 = ps_a s3 1135 from (K17.2 1135 rfl).1, show ps_a s17 1136 = ps_a s3 1136 from (K17.2 1136 rfl).1, show ps_a s17 1137 = ps_a s3 1137 from (K17.2 1137 rfl).1, show ps_a s17 1138 = ps_a s3 1138 from (K17.2 1138 rfl).1, show ps_a s17 1139 = ps_a s3 1139 from (K17.2 1139 rfl).1, show ps_a s17 1157 = ps_a s3 1157 from (K17.2 1157 rfl).1, show ps_a s17 1176 = ps_a s3 1176 from (K17.2 1176 rfl).1, show ps_i s17 1131 21 = ps_i s3 1131 21 from kp_i K17 21 rfl, show ps_i s17 1131 47 = ps_i s3 1131 47 from kp_i K17 47 rfl, show ps_i s17 1131 54 = ps_i s3 1131 54 from kp_i K17 54 rfl]; exact hMI
      have hNl : ∃ nl, Rw (ps_a s17 1134) (25789 : Int32).toInt nl ∧ ws σ nl [false] := by rw [show ps_a s17 1134 = ps_a s3 1134 from (K17.2 1134 rfl).1]; exact hNl
      have hN : Rw (ps_a s17 1134) (25789 : Int32).toInt nl := by rw [show ps_a s17 1134 = ps_a s3 1134 from (K17.2 1134 rfl).1]; exact hN
      have h47 : (ps_i s17 1131 47).toInt ≤ 40 := by rw [show ps_i s17 1131 47 = ps_i s3 1131 47 from kp_i K17 47 rfl]; exact h47
      have hMl : Md (ps_a s17 1149) (ps_i s17 1131 34).toInt (ml) := by rw [show ps_a s17 1149 = ps_a s3 1149 from (K17.2 1149 rfl).1, show ps_i s17 1131 34 = ps_i s3 1131 34 from kp_i K17 34 rfl]; exact hMl
      have hv : _ := p17_0
      refine And.intro (fun h19 => ?_) (fun h19 => ?_)
      · have f20 : v17.toInt ≠ (0 : Int) := xne h19
        obtain ⟨g0, hg0⟩ : ∃ g0 : Nat → Int32, g0 = ps_a s17 1134 := ⟨_, rfl⟩
        have hM0 : MI σ g0 (ps_a s17 1135) (ps_a s17 1136) (ps_a s17 1137) (ps_a s17 1138) (ps_a s17 1139) (ps_a s17 1157) (ps_a s17 1176) (ps_i s17 1131 21).toInt (ps_i s17 1131 47).toInt (ps_i s17 1131 54).toInt := by rw [hg0]; exact hMI
        have e48 : (25789 : Int32).toInt = 25789 := by decide
        refine ms_229 J17 (hMl) (show (25789 : Int) % 41 = 0 from by omega) (show 0 ≤ (25789 : Int) from by omega) (show (25789 : Int) < 27306 from by omega) ((by rcases hv with z | z; omega; exact z.1)) (fun s21 J21 K21 p21_0 p21_1 => ?_)
        have K22 := kpt K18 K21 rfl rfl
        have h47 : (ps_i s21 1131 47).toInt ≤ 40 := by rw [show ps_i s21 1131 47 = ps_i s17 1131 47 from kp_i K21 47 rfl]; exact h47
        have hMl : Md (ps_a s21 1149) (ps_i s21 1131 34).toInt (ml) := by rw [show ps_a s21 1149 = ps_a s17 1149 from (K21.2 1149 rfl).1, show ps_i s21 1131 34 = ps_i s17 1131 34 from kp_i K21 34 rfl]; exact hMl
        have hM0 : MI σ g0 (ps_a s21 1135) (ps_a s21 1136) (ps_a s21 1137) (ps_a s21 1138) (ps_a s21 1139) (ps_a s21 1157) (ps_a s21 1176) (ps_i s21 1131 21).toInt (ps_i s21 1131 47).toInt (ps_i s21 1131 54).toInt := by rw [show ps_a s21 1135 = ps_a s17 1135 from (K21.2 1135 rfl).1, show ps_a s21 1136 = ps_a s17 1136 from (K21.2 1136 rfl).1, show ps_a s21 1137 = ps_a s17 1137 from (K21.2 1137 rfl).1, show ps_a s21 1138 = ps_a s17 1138 from (K21.2 1138 rfl).1, show ps_a s21 1139 = ps_a s17 1139 from (K21.2 1139 rfl).1, show ps_a s21 1157 = ps_a s17 1157 from (K21.2 1157 rfl).1, show ps_a s21 1176 = ps_a s17 1176 from (K21.2 1176 rfl).1, show ps_i s21 1131 21 = ps_i s17 1131 21 from kp_i K21 21 rfl, show ps_i s21 1131 47 = ps_i s17 1131 47 from kp_i K21 47 rfl, show ps_i s21 1131 54 = ps_i s17 1131 54 from kp_i K21 54 rfl]; exact hM0
        have hk1 : _ := p21_0
        have ho : _ := p21_1
        have a23 : (x1 + 1).toInt = x1.toInt + (1 : Int) := xIa (show -2147483648 ≤ x1.toInt + (1 : Int) from by omega) (show x1.toInt + (1 : Int) < 2147483648 from by omega)
        have r24 := mf_47 J21
        have u25 : (ps_i s21 1131 47).toInt = (ps_i s17 1131 47).toInt := xeq (kp_i K21 47 rfl)
        have r26 := mf_47 J17
        have u27 : (ps_i s17 1131 47).toInt = (ps_i s3 1131 47).toInt := xeq (kp_i K17 47 rfl)
        have r28 := mf_47 J3
        have u29 : (ps_i s3 1131 47).toInt = (ps_i s 1131 47).toInt := xeq (kp_i K3 47 rfl)
        have r30 := mf_3 J21
        have u31 : (ps_i s21 1131 3).toInt = (ps_i s17 1131 3).toInt := xeq (kp_i K21 3 rfl)
        have r32 := mf_3 J17
        have u33 : (ps_i s17 1131 3).toInt = (ps_i s3 1131 3).toInt := xeq (kp_i K17 3 rfl)
        have r34 := mf_3 J3
        have u35 : (ps_i s3 1131 3).toInt = (ps_i s 1131 3).toInt := xeq (kp_i K3 3 rfl)
        exact ih (n - 1) (show n - 1 < n from by omega) (x1 + 1) _ J21 K22 (MI_norm hM0 h47 (fun k hk => (ho k (by omega)).trans (congrFun hg0 k).symm)) (⟨ml, hk1, hm3⟩) (show 0 ≤ (x1 + 1).toInt from by omega) (show (x1 + 1).toInt ≤ 60 from by omega) (show (ps_i s21 1131 47).toInt ≤ 40 from by omega) (show (ps_i s21 1131 3).toInt = 0 from by omega) (show 70 - (x1 + 1).toInt ≤ ((n - 1 : Nat) : Int) from by omega)
      · have f36 : v17.toInt = (0 : Int) := xeq h19
        refine ps_nd_i (show pm_in (25789 : Int32) 27400 = true from xgi (show 0 ≤ (25789 : Int) from by omega) (show (25789 : Int) < 27400 from by omega)) ?_
        have J37 := mw_p (i := (25789 : Int32)) (v := (0 : Int32)) J17 (show (25789 : Int) % 41 = 0 → 0 ≤ (0 : Int) ∧ (0 : Int) ≤ 40 from by omega) (show 0 ≤ (25789 : Int) from by omega)
        have K38 := kpa' K18 (r := 1134) (i := (Int32.toNatClampNeg (25789 : Int32))) (v := (0 : Int32)) rfl
        have r39 := mf_3 J17
        have u40 : (ps_i s17 1131 3).toInt = (ps_i s3 1131 3).toInt := xeq (kp_i K17 3 rfl)
        have r41 := mf_3 J3
        have u42 : (ps_i s3 1131 3).toInt = (ps_i s 1131 3).toInt := xeq (kp_i K3 3 rfl)
        exact k (-2 : Int32) _ J37 K38 (MI_norm hMI h47 (fun k hk => ua_ne (show k ≠ 25789 from by omega))) (show (ps_i s17 1131 3).toInt = 0 from by omega)

theorem ms_288_31 {x : Nat → Nat → Nat} {t : Int32} {d : Nat} {s0 : ps_S} {σ : mSig} {Q : Option Value → ps_S → Prop} (k : ∀ (v : Int32) (s' : ps_S), mJ x t s' → kp [1133, 1134, 1143, 1144, 1145, 1146, 1147, 1148, 1149, 1150, 1151, 1167, 1168] [3, 4, 5, 6, 7, 8, 9, 10, 11, 22, 23, 29, 30, 31, 32, 34, 63, 64, 65] s0 s' → (MI σ (ps_a s' 1134) (ps_a s' 1135) (ps_a s' 1136) (ps_a s' 1137) (ps_a s' 1138) (ps_a s' 1139) (ps_a s' 1157) (ps_a s' 1176) (ps_i s' 1131 21).toInt (ps_i s' 1131 47).toInt (ps_i s' 1131 54).toInt) → ((ps_i s' 1131 3).toInt = 0) → Q (some (.int v)) s') (g0 : Nat → Int32) (s : ps_S) (J : mJ x t s) (K : kp [1133, 1134, 1143, 1144, 1145, 1146, 1147, 1148, 1149, 1150, 1151, 1167, 1168] [3, 4, 5, 6, 7, 8, 9, 10, 11, 22, 23, 29, 30, 31, 32, 34, 63, 64, 65] s0 s) (hM0 : MI σ g0 (ps_a s 1135) (ps_a s 1136) (ps_a s 1137) (ps_a s 1138) (ps_a s 1139) (ps_a s 1157) (ps_a s 1176) (ps_i s 1131 21).toInt (ps_i s 1131 47).toInt (ps_i s 1131 54).toInt) (hof : ∀ k : Nat, (k : Int) < 25789 ∨ 25830 ≤ (k : Int) → ps_a s 1134 k = g0 k) (i2 : 1 ≤ (ps_i s 1131 5).toInt ∨ ∃ nl, Rw (ps_a s 1134) (25789 : Int32).toInt nl ∧ ws σ nl [false]) (i3 : (ps_i s 1131 47).toInt ≤ 40) (i4 : (ps_i s 1131 3).toInt = 0) : ps_At (d + 6) 288 31 [(0, .ref 1131)] [] s Q := by
  have r1 := mf_47 J
  have r2 := mf_3 J
  refine pg_288_31 (d := d + 5) ?_
  refine ms_192 J  (fun v3 p3_0 b3 => ?_)
  have p3_0' : (v3.toInt = 0 ∧ 1 ≤ (ps_i s 1131 5).toInt) ∨ (v3.toInt = 1 ∧ (ps_i s 1131 5).toInt = 0) := p3_0
  have r4 := mf_5 J
  refine And.intro (fun h5 => ?_) (fun h5 => ?_)
  · have f6 : v3.toInt ≠ (0 : Int) := xne h5
    exact ms_288_51 (σ := σ) k  (70 - (0 : Int)).toNat (0) _ J K (MI_norm hM0 (show (ps_i s 1131 47).toInt ≤ 40 from by omega) hof) (i2.resolve_left (by omega)) (show 0 ≤ (0 : Int) from by omega) (show (0 : Int) ≤ 60 from by omega) (show (ps_i s 1131 47).toInt ≤ 40 from by omega) (show (ps_i s 1131 3).toInt = 0 from by omega) (show 70 - (0 : Int) ≤ (((70 - (0 : Int)).toNat : Nat) : Int) from by omega)
  · have f7 : v3.toInt = (0 : Int) := xeq h5
    refine ps_nd_i (show pm_in (25789 : Int32) 27400 = true from xgi (show 0 ≤ (25789 : Int) from by omega) (show (25789 : Int) < 27400 from by omega)) ?_
    have J8 := mw_p (i := (25789 : Int32)) (v := (0 : Int32)) J (show (25789 : Int) % 41 = 0 → 0 ≤ (0 : Int) ∧ (0 : Int) ≤ 40 from by omega) (show 0 ≤ (25789 : Int) from by omega)
    have K9 := kpa' K (r := 1134) (i := (Int32.toNatClampNeg (25789 : Int32))) (v := (0 : Int32)) rfl
    exact k (-1 : Int32) _ J8 K9 (MI_norm hM0 (show (ps_i s 1131 47).toInt ≤ 40 from by omega) (fun k hk => (ua_ne (show k ≠ 25789 from by omega)).trans (hof k hk))) (show (ps_i s 1131 3).toInt = 0 from by omega)

theorem ms_288 {x : Nat → Nat → Nat} {t : Int32} {s : ps_S} {d : Nat} {f : Int32 → ps_S → Prop} (J : mJ x t s) {σ : mSig} (hMI : MI σ (ps_a s 1134) (ps_a s 1135) (ps_a s 1136) (ps_a s 1137) (ps_a s 1138) (ps_a s 1139) (ps_a s 1157) (ps_a s 1176) (ps_i s 1131 21).toInt (ps_i s 1131 47).toInt (ps_i s 1131 54).toInt) (k : ∀ (v : Int32) (s' : ps_S), mJ x t s' → kp [1133, 1134, 1143, 1144, 1145, 1146, 1147, 1148, 1149, 1150, 1151, 1167, 1168] [3, 4, 5, 6, 7, 8, 9, 10, 11, 22, 23, 29, 30, 31, 32, 34, 63, 64, 65] s s' → (MI σ (ps_a s' 1134) (ps_a s' 1135) (ps_a s' 1136) (ps_a s' 1137) (ps_a s' 1138) (ps_a s' 1139) (ps_a s' 1157) (ps_a s' 1176) (ps_i s' 1131 21).toInt (ps_i s' 1131 47).toInt (ps_i s' 1131 54).toInt) → ((ps_i s' 1131 3).toInt = 0) → f v s') : ps_Cl (d + 6) 288 [.ref 1131] s (ps_rI f) := by
  have K : kp [1133, 1134, 1143, 1144, 1145, 1146, 1147, 1148, 1149, 1150, 1151, 1167, 1168] [3, 4, 5, 6, 7, 8, 9, 10, 11, 22, 23, 29, 30, 31, 32, 34, 63, 64, 65] s s := kp_refl
  refine pg_288_0 (d := d + 5) ?_
  refine ms_198 J  (fun s1 J1 K1 p1_0 p1_1 p1_2 p1_3 p1_4 => ?_)
  have K2 := kpt K K1 rfl rfl
  have hMI : MI σ (ps_a s1 1134) (ps_a s1 1135) (ps_a s1 1136) (ps_a s1 1137) (ps_a s1 1138) (ps_a s1 1139) (ps_a s1 1157) (ps_a s1 1176) (ps_i s1 1131 21).toInt (ps_i s1 1131 47).toInt (ps_i s1 1131 54).toInt := by rw [show ps_a s1 1134 = ps_a s 1134 from (K1.2 1134 rfl).1, show ps_a s1 1135 = ps_a s 1135 from (K1.2 1135 rfl).1, show ps_a s1 1136 = ps_a s 1136 from (K1.2 1136 rfl).1, show ps_a s1 1137 = ps_a s 1137 from (K1.2 1137 rfl).1, show ps_a s1 1138 = ps_a s 1138 from (K1.2 1138 rfl).1, show ps_a s1 1139 = ps_a s 1139 from (K1.2 1139 rfl).1, show ps_a s1 1157 = ps_a s 1157 from (K1.2 1157 rfl).1, show ps_a s1 1176 = ps_a s 1176 from (K1.2 1176 rfl).1, show ps_i s1 1131 21 = ps_i s 1131 21 from kp_i K1 21 rfl, show ps_i s1 1131 47 = ps_i s 1131 47 from kp_i K1 47 rfl, show ps_i s1 1131 54 = ps_i s 1131 54 from kp_i K1 54 rfl]; exact hMI
  have p1_0' : (ps_i s1 1131 8).toInt ≤ (ps_i s1 1131 4).toInt := p1_0
  have r3 := mf_8 J1
  have r4 := mf_4 J1
  have p1_1' : (ps_i s1 1131 5).toInt = 0 := p1_1
  have r5 := mf_5 J1
  have p1_2' : (ps_i s1 1131 3).toInt = 0 := p1_2
  have r6 := mf_3 J1
  have p1_3' : (ps_i s1 1131 23).toInt = 0 := p1_3
  have r7 := mf_23 J1
  have p1_4' : (ps_i s1 1131 22).toInt = (ps_i s1 1131 21).toInt := p1_4
  have r8 := mf_22 J1
  have r9 := mf_21 J1
  have u10 : (ps_i s1 1131 21).toInt = (ps_i s 1131 21).toInt := xeq (kp_i K1 21 rfl)
  have r11 := mf_21 J
  have hS2 : Sg (ps_a s1 1135) (ps_a s1 1136) (ps_a s1 1138) (ps_a s1 1139) (ps_i s1 1131 22).toInt σ := by rw [show (ps_i s1 1131 22).toInt = (ps_i s1 1131 21).toInt from by omega]; exact hMI.1
  obtain ⟨g0, hg0⟩ : ∃ g0 : Nat → Int32, g0 = ps_a s1 1134 := ⟨_, rfl⟩
  have hM0 : MI σ g0 (ps_a s1 1135) (ps_a s1 1136) (ps_a s1 1137) (ps_a s1 1138) (ps_a s1 1139) (ps_a s1 1157) (ps_a s1 1176) (ps_i s1 1131 21).toInt (ps_i s1 1131 47).toInt (ps_i s1 1131 54).toInt := by rw [hg0]; exact hMI
  have e48 : (25789 : Int32).toInt = 25789 := by decide
  refine ms_209 (b := false) J1 hS2 (show (25789 : Int) % 41 = 0 from by omega) (show 0 ≤ (25789 : Int) from by omega) (show (25789 : Int) < 27306 from by omega) (show (ps_i s1 1131 8).toInt ≤ (ps_i s1 1131 4).toInt from by omega) ((Or.inr ⟨by decide, rfl⟩)) ((by decide)) (fun s12 J12 K12 p12_0 p12_1 p12_2 p12_3 => ?_)
  have K13 := kpt K2 K12 rfl rfl
  have hS2 : Sg (ps_a s12 1135) (ps_a s12 1136) (ps_a s12 1138) (ps_a s12 1139) (ps_i s12 1131 22).toInt σ := by rw [show ps_a s12 1135 = ps_a s1 1135 from (K12.2 1135 rfl).1, show ps_a s12 1136 = ps_a s1 1136 from (K12.2 1136 rfl).1, show ps_a s12 1138 = ps_a s1 1138 from (K12.2 1138 rfl).1, show ps_a s12 1139 = ps_a s1 1139 from (K12.2 1139 rfl).1, show ps_i s12 1131 22 = ps_i s1 1131 22 from kp_i K12 22 rfl]; exact hS2
  have hM0 : MI σ g0 (ps_a s12 1135) (ps_a s12 1136) (ps_a s12 1137) (ps_a s12 1138) (ps_a s12 1139) (ps_a s12 1157) (ps_a s12 1176) (ps_i s12 1131 21).toInt (ps_i s12 1131 47).toInt (ps_i s12 1131 54).toInt := by rw [show ps_a s12 1135 = ps_a s1 1135 from (K12.2 1135 rfl).1, show ps_a s12 1136 = ps_a s1 1136 from (K12.2 1136 rfl).1, show ps_a s12 1137 = ps_a s1 1137 from (K12.2 1137 rfl).1, show ps_a s12 1138 = ps_a s1 1138 from (K12.2 1138 rfl).1, show ps_a s12 1139 = ps_a s1 1139 from (K12.2 1139 rfl).1, show ps_a s12 1157 = ps_a s1 1157 from (K12.2 1157 rfl).1, show ps_a s12 1176 = ps_a s1 1176 from (K12.2 1176 rfl).1, show ps_i s12 1131 21 = ps_i s1 1131 21 from kp_i K12 21 rfl, show ps_i s12 1131 47 = ps_i s1 1131 47 from kp_i K12 47 rfl, show ps_i s12 1131 54 = ps_i s1 1131 54 from kp_i K12 54 rfl]; exact hM0
  have p12_0' : (ps_i s12 1131 8).toInt ≤ (ps_i s12 1131 4).toInt := p12_0
  have r14 := mf_8 J12
  have r15 := mf_4 J12
  have u16 : (ps_i s12 1131 4).toInt = (ps_i s1 1131 4).toInt := xeq (kp_i K12 4 rfl)
  have p12_1' : 1 ≤ (ps_i s1 1131 5).toInt → 1 ≤ (ps_i s12 1131 5).toInt := p12_1
  have r17 := mf_5 J12
  have ho : _ := p12_2
  have hrow : _ := p12_3
  have hof : ∀ k : Nat, (k : Int) < 25789 ∨ 25830 ≤ (k : Int) → ps_a s12 1134 k = g0 k := fun k hk => (ho k (by omega)).trans (congrFun hg0 k).symm
  have hF : 1 ≤ (ps_i s12 1131 5).toInt ∨ ∃ nl, Rw (ps_a s12 1134) (25789 : Int32).toInt nl ∧ ws σ nl [false] := hrow.imp id (fun z => (by obtain ⟨l2, g1, g2, g3⟩ := z; exact ⟨l2, g1, wf_ws g2⟩))
  refine ms_192 J12  (fun v18 p18_0 b18 => ?_)
  have p18_0' : (v18.toInt = 0 ∧ 1 ≤ (ps_i s12 1131 5).toInt) ∨ (v18.toInt = 1 ∧ (ps_i s12 1131 5).toInt = 0) := p18_0
  refine And.intro (fun h19 => ?_) (fun h19 => ?_)
  · have f20 : v18.toInt = (0 : Int) := xeq h19
    have r21 := mf_47 J12
    have u22 : (ps_i s12 1131 47).toInt = (ps_i s1 1131 47).toInt := xeq (kp_i K12 47 rfl)
    have r23 := mf_47 J1
    have u24 : (ps_i s1 1131 47).toInt = (ps_i s 1131 47).toInt := xeq (kp_i K1 47 rfl)
    have r25 := mf_47 J
    have r26 := mf_3 J12
    have u27 : (ps_i s12 1131 3).toInt = (ps_i s1 1131 3).toInt := xeq (kp_i K12 3 rfl)
    exact ms_288_31 (σ := σ) k  g0 _ J12 K13 hM0 hof (by assumption) (show (ps_i s12 1131 47).toInt ≤ 40 from by omega) (show (ps_i s12 1131 3).toInt = 0 from by omega)
  · have f28 : v18.toInt ≠ (0 : Int) := xne h19
    have r29 := mf_9 J12
    refine And.intro (fun h30 => ?_) (fun h30 => ?_)
    · have f31 : (ps_i s12 1131 9).toInt = (0 : Int) := xeq h30
      have r32 := mf_47 J12
      have u33 : (ps_i s12 1131 47).toInt = (ps_i s1 1131 47).toInt := xeq (kp_i K12 47 rfl)
      have r34 := mf_47 J1
      have u35 : (ps_i s1 1131 47).toInt = (ps_i s 1131 47).toInt := xeq (kp_i K1 47 rfl)
      have r36 := mf_47 J
      have r37 := mf_3 J12
      have u38 : (ps_i s12 1131 3).toInt = (ps_i s1 1131 3).toInt := xeq (kp_i K12 3 rfl)
      exact ms_288_31 (σ := σ) k  g0 _ J12 K13 hM0 hof (by assumption) (show (ps_i s12 1131 47).toInt ≤ 40 from by omega) (show (ps_i s12 1131 3).toInt = 0 from by omega)
    · have f39 : (ps_i s12 1131 9).toInt ≠ (0 : Int) := xne h30
      refine ms_196 J12  (fun s40 J40 K40 p40_0 => ?_)
      have K41 := kpt K13 K40 rfl rfl
      have hS2 : Sg (ps_a s40 1135) (ps_a s40 1136) (ps_a s40 1138) (ps_a s40 1139) (ps_i s40 1131 22).toInt σ := by rw [show ps_a s40 1135 = ps_a s12 1135 from (K40.2 1135 rfl).1, show ps_a s40 1136 = ps_a s12 1136 from (K40.2 1136 rfl).1, show ps_a s40 1138 = ps_a s12 1138 from (K40.2 1138 rfl).1, show ps_a s40 1139 = ps_a s12 1139 from (K40.2 1139 rfl).1, show ps_i s40 1131 22 = ps_i s12 1131 22 from kp_i K40 22 rfl]; exact hS2
      have hM0 : MI σ g0 (ps_a s40 1135) (ps_a s40 1136) (ps_a s40 1137) (ps_a s40 1138) (ps_a s40 1139) (ps_a s40 1157) (ps_a s40 1176) (ps_i s40 1131 21).toInt (ps_i s40 1131 47).toInt (ps_i s40 1131 54).toInt := by rw [show ps_a s40 1135 = ps_a s12 1135 from (K40.2 1135 rfl).1, show ps_a s40 1136 = ps_a s12 1136 from (K40.2 1136 rfl).1, show ps_a s40 1137 = ps_a s12 1137 from (K40.2 1137 rfl).1, show ps_a s40 1138 = ps_a s12 1138 from (K40.2 1138 rfl).1, show ps_a s40 1139 = ps_a s12 1139 from (K40.2 1139 rfl).1, show ps_a s40 1157 = ps_a s12 1157 from (K40.2 1157 rfl).1, show ps_a s40 1176 = ps_a s12 1176 from (K40.2 1176 rfl).1, show ps_i s40 1131 21 = ps_i s12 1131 21 from kp_i K40 21 rfl, show ps_i s40 1131 47 = ps_i s12 1131 47 from kp_i K40 47 rfl, show ps_i s40 1131 54 = ps_i s12 1131 54 from kp_i K40 54 rfl]; exact hM0
      have hof : ∀ k : Nat, (k : Int) < 25789 ∨ 25830 ≤ (k : Int) → ps_a s40 1134 k = g0 k := by rw [show ps_a s40 1134 = ps_a s12 1134 from (K40.2 1134 rfl).1]; exact hof
      have p40_0' : 1 ≤ (ps_i s40 1131 5).toInt := p40_0
      have r42 := mf_5 J40
      have r43 := mf_47 J40
      have u44 : (ps_i s40 1131 47).toInt = (ps_i s12 1131 47).toInt := xeq (kp_i K40 47 rfl)
      have r45 := mf_47 J12
      have u46 : (ps_i s12 1131 47).toInt = (ps_i s1 1131 47).toInt := xeq (kp_i K12 47 rfl)
      have r47 := mf_47 J1
      have u48 : (ps_i s1 1131 47).toInt = (ps_i s 1131 47).toInt := xeq (kp_i K1 47 rfl)
      have r49 := mf_47 J
      have r50 := mf_3 J40
      have u51 : (ps_i s40 1131 3).toInt = (ps_i s12 1131 3).toInt := xeq (kp_i K40 3 rfl)
      have r52 := mf_3 J12
      have u53 : (ps_i s12 1131 3).toInt = (ps_i s1 1131 3).toInt := xeq (kp_i K12 3 rfl)
      exact ms_288_31 (σ := σ) k  g0 _ J40 K41 hM0 hof (Or.inl (show 1 ≤ (ps_i s40 1131 5).toInt from by omega)) (show (ps_i s40 1131 47).toInt ≤ 40 from by omega) (show (ps_i s40 1131 3).toInt = 0 from by omega)
