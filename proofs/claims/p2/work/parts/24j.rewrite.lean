set_option maxRecDepth 100000
-- ProofBenchModel.rewrite()I
theorem pg_288_0 {d : Nat} {s : ps_S} {Q : Option Value → ps_S → Prop} (h :
  ps_Cl d 198 [.ref 1131] s (ps_rV (fun s1 =>
    ps_Cl d 209 [.ref 1131, .int 25789, .int 0, .int 0] s1 (ps_rV (fun s2 =>
      ps_Cl d 192 [.ref 1131] s2 (ps_rI (fun v3 s3 =>
        (v3 = 0 →
          ps_At (d + 1) 288 31 [(0, .ref 1131)] [] s3 Q) ∧
        (v3 ≠ 0 →
          ((ps_i s3 1131 9) = 0 →
            ps_At (d + 1) 288 31 [(0, .ref 1131)] [] s3 Q) ∧
          ((ps_i s3 1131 9) ≠ 0 →
            ps_Cl d 196 [.ref 1131] s3 (ps_rV (fun s4 =>
              ps_At (d + 1) 288 31 [(0, .ref 1131)] [] s4 Q))))))))))) : ps_At (d + 1) 288 0 [(0, .ref 1131)] [] s Q :=
  ps_wp_at (stops := [(31, [0]), (51, [0, 1])]) (n := 17) h rfl

theorem pg_288_31 {d : Nat} {s : ps_S} {Q : Option Value → ps_S → Prop} (h :
  ps_Cl d 192 [.ref 1131] s (ps_rI (fun v1 s1 =>
    (v1 ≠ 0 →
      ps_At (d + 1) 288 51 [(0, .ref 1131), (1, .int 0)] [] s1 Q) ∧
    (v1 = 0 →
      ps_nd (pm_in 25789 27400) (Q (some (.int (-1))) (ps_ua s1 1134 (Int32.toNatClampNeg (25789 : Int32)) 0)))))) : ps_At (d + 1) 288 31 [(0, .ref 1131)] [] s Q :=
  ps_wp_at (stops := [(31, [0]), (51, [0, 1])]) (n := 14) h rfl

theorem pg_288_51 {d : Nat} {x1 : Int32} {s : ps_S} {Q : Option Value → ps_S → Prop} (h :
  ps_Cl d 287 [.ref 1131] s (ps_rI (fun v1 s1 =>
    (v1 = 0 →
      Q (some (.int x1)) s1) ∧
    (v1 ≠ 0 →
      (x1 = 60 →
        ps_nd (pm_in 25789 27400) (Q (some (.int (-2))) (ps_ua s1 1134 (Int32.toNatClampNeg (25789 : Int32)) 0))) ∧
      (x1 ≠ 60 →
        ps_Cl d 228 [.ref 1131] s1 (ps_rI (fun v2 s2 =>
          (v2 ≠ 0 →
            ps_Cl d 229 [.ref 1131, .int 25789] s2 (ps_rV (fun s3 =>
              ps_At (d + 1) 288 51 [(0, .ref 1131), (1, .int (x1 + 1))] [] s3 Q))) ∧
          (v2 = 0 →
            ps_nd (pm_in 25789 27400) (Q (some (.int (-2))) (ps_ua s2 1134 (Int32.toNatClampNeg (25789 : Int32)) 0)))))))))) : ps_At (d + 1) 288 51 [(0, .ref 1131), (1, .int x1)] [] s Q :=
  ps_wp_at (stops := [(31, [0]), (51, [0, 1])]) (n := 32) h rfl

theorem ms_288_51 {x : Nat → Nat → Nat} {t : Int32} {d : Nat} {s0 : ps_S} {σ : mSig} {Q : Option Value → ps_S → Prop} (k : ∀ (v : Int32) (s' : ps_S), mJ x t s' → kp [1133, 1134, 1143, 1144, 1145, 1146, 1147, 1148, 1149, 1150, 1151, 1167, 1168] [3, 4, 5, 6, 7, 8, 9, 10, 11, 22, 23, 29, 30, 31, 32, 34, 63, 64, 65] s0 s' → (MI σ (ps_a s' 1134) (ps_a s' 1135) (ps_a s' 1136) (ps_a s' 1137) (ps_a s' 1138) (ps_a s' 1139) (ps_a s' 1157) (ps_a s' 1176) (ps_i s' 1131 21).toInt (ps_i s' 1131 47).toInt (ps_i s' 1131 54).toInt) → Q (some (.int v)) s') : ∀ (n : Nat) (x1 : Int32) (s : ps_S), (mJ x t s) → (kp [1133, 1134, 1143, 1144, 1145, 1146, 1147, 1148, 1149, 1150, 1151, 1167, 1168] [3, 4, 5, 6, 7, 8, 9, 10, 11, 22, 23, 29, 30, 31, 32, 34, 63, 64, 65] s0 s) → (MI σ (ps_a s 1134) (ps_a s 1135) (ps_a s 1136) (ps_a s 1137) (ps_a s 1138) (ps_a s 1139) (ps_a s 1157) (ps_a s 1176) (ps_i s 1131 21).toInt (ps_i s 1131 47).toInt (ps_i s 1131 54).toInt) → (∃ nl, Rw (ps_a s 1134) (25789 : Int32).toInt nl ∧ ws σ nl [false]) → (0 ≤ x1.toInt) → (x1.toInt ≤ 60) → ((ps_i s 1131 47).toInt ≤ 40) → 70 - x1.toInt ≤ (n : Int) → ps_At (d + 6) 288 51 [(0, .ref 1131), (1, .int x1)] [] s Q := by
  refine xstr (fun n ih => ?_)
  intro x1 s J K hMI hNl i2 i3 i4 hm
  have r1 := mf_47 J
  refine pg_288_51 (d := d + 5) ?_
  obtain ⟨nl, hN, hNw⟩ := id hNl
  have h47 : (ps_i s 1131 47).toInt ≤ 40 := (mf_47 J).2
  refine ms_287 J hMI hN (hNw) (fun v2 s2 J2 K2 p2_0 b2 => ?_)
  have K3 := kpt K K2 rfl rfl
  have hMI : MI σ (ps_a s2 1134) (ps_a s2 1135) (ps_a s2 1136) (ps_a s2 1137) (ps_a s2 1138) (ps_a s2 1139) (ps_a s2 1157) (ps_a s2 1176) (ps_i s2 1131 21).toInt (ps_i s2 1131 47).toInt (ps_i s2 1131 54).toInt := by rw [show ps_a s2 1134 = ps_a s 1134 from (K2.2 1134 rfl).1, show ps_a s2 1135 = ps_a s 1135 from (K2.2 1135 rfl).1, show ps_a s2 1136 = ps_a s 1136 from (K2.2 1136 rfl).1, show ps_a s2 1137 = ps_a s 1137 from (K2.2 1137 rfl).1, show ps_a s2 1138 = ps_a s 1138 from (K2.2 1138 rfl).1, show ps_a s2 1139 = ps_a s 1139 from (K2.2 1139 rfl).1, show ps_a s2 1157 = ps_a s 1157 from (K2.2 1157 rfl).1, show ps_a s2 1176 = ps_a s 1176 from (K2.2 1176 rfl).1, show ps_i s2 1131 21 = ps_i s 1131 21 from kp_i K2 21 rfl, show ps_i s2 1131 47 = ps_i s 1131 47 from kp_i K2 47 rfl, show ps_i s2 1131 54 = ps_i s 1131 54 from kp_i K2 54 rfl]; exact hMI
  have hNl : ∃ nl, Rw (ps_a s2 1134) (25789 : Int32).toInt nl ∧ ws σ nl [false] := by rw [show ps_a s2 1134 = ps_a s 1134 from (K2.2 1134 rfl).1]; exact hNl
  have hN : Rw (ps_a s2 1134) (25789 : Int32).toInt nl := by rw [show ps_a s2 1134 = ps_a s 1134 from (K2.2 1134 rfl).1]; exact hN
  have h47 : (ps_i s2 1131 47).toInt ≤ 40 := by rw [show ps_i s2 1131 47 = ps_i s 1131 47 from kp_i K2 47 rfl]; exact h47
  have hrw : _ := p2_0
  refine And.intro (fun h4 => ?_) (fun h4 => ?_)
  · have f5 : v2.toInt = (0 : Int) := xeq h4
    exact k x1 _ J2 K3 hMI
  · have f6 : v2.toInt ≠ (0 : Int) := xne h4
    refine And.intro (fun h7 => ?_) (fun h7 => ?_)
    · have f8 : x1.toInt = (60 : Int) := xeq h7
      refine ps_nd_i (show pm_in (25789 : Int32) 27400 = true from xgi (show 0 ≤ (25789 : Int) from by omega) (show (25789 : Int) < 27400 from by omega)) ?_
      have J9 := mw_p (i := (25789 : Int32)) (v := (0 : Int32)) J2 (show (25789 : Int) % 41 = 0 → 0 ≤ (0 : Int) ∧ (0 : Int) ≤ 40 from by omega) (show 0 ≤ (25789 : Int) from by omega)
      have K10 := kpa' K3 (r := 1134) (i := (Int32.toNatClampNeg (25789 : Int32))) (v := (0 : Int32)) rfl
      exact k (-2 : Int32) _ J9 K10 (MI_norm hMI h47 (fun k hk => ua_ne (show k ≠ 25789 from by omega)))
    · have f11 : x1.toInt ≠ (60 : Int) := xne h7
      obtain ⟨ml, hm1, hm2, hm3⟩ := hrw (by omega)
      have hS := MI_S hMI
      have hMl : Md (ps_a s2 1149) (ps_i s2 1131 34).toInt (ml) := hm1
      refine ms_228 J2 (hS) (hm1) (hm3) (fun v12 s12 J12 K12 p12_0 b12 => ?_)
      have K13 := kpt K3 K12 rfl rfl
      have hMI : MI σ (ps_a s12 1134) (ps_a s12 1135) (ps_a s12 1136) (ps_a s12 1137) (ps_a s12 1138) (ps_a s12 1139) (ps_a s12 1157) (ps_a s12 1176) (ps_i s12 1131 21).toInt (ps_i s12 1131 47).toInt (ps_i s12 1131 54).toInt := by rw [show ps_a s12 1134 = ps_a s2 1134 from (K12.2 1134 rfl).1, show ps_a s12 1135 = ps_a s2 1135 from (K12.2 1135 rfl).1, show ps_a s12 1136 = ps_a s2 1136 from (K12.2 1136 rfl).1, show ps_a s12 1137 = ps_a s2 1137 from (K12.2 1137 rfl).1, show ps_a s12 1138 = ps_a s2 1138 from (K12.2 1138 rfl).1, show ps_a s12 1139 = ps_a s2 1139 from (K12.2 1139 rfl).1, show ps_a s12 1157 = ps_a s2 1157 from (K12.2 1157 rfl).1, show ps_a s12 1176 = ps_a s2 1176 from (K12.2 1176 rfl).1, show ps_i s12 1131 21 = ps_i s2 1131 21 from kp_i K12 21 rfl, show ps_i s12 1131 47 = ps_i s2 1131 47 from kp_i K12 47 rfl, show ps_i s12 1131 54 = ps_i s2 1131 54 from kp_i K12 54 rfl]; exact hMI
      have hNl : ∃ nl, Rw (ps_a s12 1134) (25789 : Int32).toInt nl ∧ ws σ nl [false] := by rw [show ps_a s12 1134 = ps_a s2 1134 from (K12.2 1134 rfl).1]; exact hNl
      have hN : Rw (ps_a s12 1134) (25789 : Int32).toInt nl := by rw [show ps_a s12 1134 = ps_a s2 1134 from (K12.2 1134 rfl).1]; exact hN
      have h47 : (ps_i s12 1131 47).toInt ≤ 40 := by rw [show ps_i s12 1131 47 = ps_i s2 1131 47 from kp_i K12 47 rfl]; exact h47
      have hMl : Md (ps_a s12 1149) (ps_i s12 1131 34).toInt (ml) := by rw [show ps_a s12 1149 = ps_a s2 1149 from (K12.2 1149 rfl).1, show ps_i s12 1131 34 = ps_i s2 1131 34 from kp_i K12 34 rfl]; exact hMl
      have hv : _ := p12_0
      refine And.intro (fun h14 => ?_) (fun h14 => ?_)
      · have f15 : v12.toInt ≠ (0 : Int) := xne h14
        obtain ⟨g0, hg0⟩ : ∃ g0 : Nat → Int32, g0 = ps_a s12 1134 := ⟨_, rfl⟩
        have hM0 : MI σ g0 (ps_a s12 1135) (ps_a s12 1136) (ps_a s12 1137) (ps_a s12 1138) (ps_a s12 1139) (ps_a s12 1157) (ps_a s12 1176) (ps_i s12 1131 21).toInt (ps_i s12 1131 47).toInt (ps_i s12 1131 54).toInt := by rw [hg0]; exact hMI
        have e48 : (25789 : Int32).toInt = 25789 := by decide
        refine ms_229 J12 (hMl) (show (25789 : Int) % 41 = 0 from by omega) (show 0 ≤ (25789 : Int) from by omega) (show (25789 : Int) < 27306 from by omega) ((by rcases hv with z | z; omega; exact z.1)) (fun s16 J16 K16 p16_0 p16_1 => ?_)
        have K17 := kpt K13 K16 rfl rfl
        have h47 : (ps_i s16 1131 47).toInt ≤ 40 := by rw [show ps_i s16 1131 47 = ps_i s12 1131 47 from kp_i K16 47 rfl]; exact h47
        have hMl : Md (ps_a s16 1149) (ps_i s16 1131 34).toInt (ml) := by rw [show ps_a s16 1149 = ps_a s12 1149 from (K16.2 1149 rfl).1, show ps_i s16 1131 34 = ps_i s12 1131 34 from kp_i K16 34 rfl]; exact hMl
        have hM0 : MI σ g0 (ps_a s16 1135) (ps_a s16 1136) (ps_a s16 1137) (ps_a s16 1138) (ps_a s16 1139) (ps_a s16 1157) (ps_a s16 1176) (ps_i s16 1131 21).toInt (ps_i s16 1131 47).toInt (ps_i s16 1131 54).toInt := by rw [show ps_a s16 1135 = ps_a s12 1135 from (K16.2 1135 rfl).1, show ps_a s16 1136 = ps_a s12 1136 from (K16.2 1136 rfl).1, show ps_a s16 1137 = ps_a s12 1137 from (K16.2 1137 rfl).1, show ps_a s16 1138 = ps_a s12 1138 from (K16.2 1138 rfl).1, show ps_a s16 1139 = ps_a s12 1139 from (K16.2 1139 rfl).1, show ps_a s16 1157 = ps_a s12 1157 from (K16.2 1157 rfl).1, show ps_a s16 1176 = ps_a s12 1176 from (K16.2 1176 rfl).1, show ps_i s16 1131 21 = ps_i s12 1131 21 from kp_i K16 21 rfl, show ps_i s16 1131 47 = ps_i s12 1131 47 from kp_i K16 47 rfl, show ps_i s16 1131 54 = ps_i s12 1131 54 from kp_i K16 54 rfl]; exact hM0
        have hk1 : _ := p16_0
        have ho : _ := p16_1
        have a18 : (x1 + 1).toInt = x1.toInt + (1 : Int) := xIa (show -2147483648 ≤ x1.toInt + (1 : Int) from by omega) (show x1.toInt + (1 : Int) < 2147483648 from by omega)
        have r19 := mf_47 J16
        have u20 : (ps_i s16 1131 47).toInt = (ps_i s12 1131 47).toInt := xeq (kp_i K16 47 rfl)
        have r21 := mf_47 J12
        have u22 : (ps_i s12 1131 47).toInt = (ps_i s2 1131 47).toInt := xeq (kp_i K12 47 rfl)
        have r23 := mf_47 J2
        have u24 : (ps_i s2 1131 47).toInt = (ps_i s 1131 47).toInt := xeq (kp_i K2 47 rfl)
        exact ih (n - 1) (show n - 1 < n from by omega) (x1 + 1) _ J16 K17 (MI_norm hM0 h47 (fun k hk => (ho k (by omega)).trans (congrFun hg0 k).symm)) (⟨ml, hk1, hm3⟩) (show 0 ≤ (x1 + 1).toInt from by omega) (show (x1 + 1).toInt ≤ 60 from by omega) (show (ps_i s16 1131 47).toInt ≤ 40 from by omega) (show 70 - (x1 + 1).toInt ≤ ((n - 1 : Nat) : Int) from by omega)
      · have f25 : v12.toInt = (0 : Int) := xeq h14
        refine ps_nd_i (show pm_in (25789 : Int32) 27400 = true from xgi (show 0 ≤ (25789 : Int) from by omega) (show (25789 : Int) < 27400 from by omega)) ?_
        have J26 := mw_p (i := (25789 : Int32)) (v := (0 : Int32)) J12 (show (25789 : Int) % 41 = 0 → 0 ≤ (0 : Int) ∧ (0 : Int) ≤ 40 from by omega) (show 0 ≤ (25789 : Int) from by omega)
        have K27 := kpa' K13 (r := 1134) (i := (Int32.toNatClampNeg (25789 : Int32))) (v := (0 : Int32)) rfl
        exact k (-2 : Int32) _ J26 K27 (MI_norm hMI h47 (fun k hk => ua_ne (show k ≠ 25789 from by omega)))

theorem ms_288_31 {x : Nat → Nat → Nat} {t : Int32} {d : Nat} {s0 : ps_S} {σ : mSig} {Q : Option Value → ps_S → Prop} (k : ∀ (v : Int32) (s' : ps_S), mJ x t s' → kp [1133, 1134, 1143, 1144, 1145, 1146, 1147, 1148, 1149, 1150, 1151, 1167, 1168] [3, 4, 5, 6, 7, 8, 9, 10, 11, 22, 23, 29, 30, 31, 32, 34, 63, 64, 65] s0 s' → (MI σ (ps_a s' 1134) (ps_a s' 1135) (ps_a s' 1136) (ps_a s' 1137) (ps_a s' 1138) (ps_a s' 1139) (ps_a s' 1157) (ps_a s' 1176) (ps_i s' 1131 21).toInt (ps_i s' 1131 47).toInt (ps_i s' 1131 54).toInt) → Q (some (.int v)) s') (g0 : Nat → Int32) (s : ps_S) (J : mJ x t s) (K : kp [1133, 1134, 1143, 1144, 1145, 1146, 1147, 1148, 1149, 1150, 1151, 1167, 1168] [3, 4, 5, 6, 7, 8, 9, 10, 11, 22, 23, 29, 30, 31, 32, 34, 63, 64, 65] s0 s) (hM0 : MI σ g0 (ps_a s 1135) (ps_a s 1136) (ps_a s 1137) (ps_a s 1138) (ps_a s 1139) (ps_a s 1157) (ps_a s 1176) (ps_i s 1131 21).toInt (ps_i s 1131 47).toInt (ps_i s 1131 54).toInt) (hof : ∀ k : Nat, (k : Int) < 25789 ∨ 25830 ≤ (k : Int) → ps_a s 1134 k = g0 k) (i2 : 1 ≤ (ps_i s 1131 5).toInt ∨ ∃ nl, Rw (ps_a s 1134) (25789 : Int32).toInt nl ∧ ws σ nl [false]) (i3 : (ps_i s 1131 47).toInt ≤ 40) : ps_At (d + 6) 288 31 [(0, .ref 1131)] [] s Q := by
  have r1 := mf_47 J
  refine pg_288_31 (d := d + 5) ?_
  refine ms_192 J  (fun v2 p2_0 b2 => ?_)
  have p2_0' : (v2.toInt = 0 ∧ 1 ≤ (ps_i s 1131 5).toInt) ∨ (v2.toInt = 1 ∧ (ps_i s 1131 5).toInt = 0) := p2_0
  have r3 := mf_5 J
  refine And.intro (fun h4 => ?_) (fun h4 => ?_)
  · have f5 : v2.toInt ≠ (0 : Int) := xne h4
    exact ms_288_51 (σ := σ) k  (70 - (0 : Int)).toNat (0) _ J K (MI_norm hM0 (show (ps_i s 1131 47).toInt ≤ 40 from by omega) hof) (i2.resolve_left (by omega)) (show 0 ≤ (0 : Int) from by omega) (show (0 : Int) ≤ 60 from by omega) (show (ps_i s 1131 47).toInt ≤ 40 from by omega) (show 70 - (0 : Int) ≤ (((70 - (0 : Int)).toNat : Nat) : Int) from by omega)
  · have f6 : v2.toInt = (0 : Int) := xeq h4
    refine ps_nd_i (show pm_in (25789 : Int32) 27400 = true from xgi (show 0 ≤ (25789 : Int) from by omega) (show (25789 : Int) < 27400 from by omega)) ?_
    have J7 := mw_p (i := (25789 : Int32)) (v := (0 : Int32)) J (show (25789 : Int) % 41 = 0 → 0 ≤ (0 : Int) ∧ (0 : Int) ≤ 40 from by omega) (show 0 ≤ (25789 : Int) from by omega)
    have K8 := kpa' K (r := 1134) (i := (Int32.toNatClampNeg (25789 : Int32))) (v := (0 : Int32)) rfl
    exact k (-1 : Int32) _ J7 K8 (MI_norm hM0 (show (ps_i s 1131 47).toInt ≤ 40 from by omega) (fun k hk => (ua_ne (show k ≠ 25789 from by omega)).trans (hof k hk)))

theorem ms_288 {x : Nat → Nat → Nat} {t : Int32} {s : ps_S} {d : Nat} {f : Int32 → ps_S → Prop} (J : mJ x t s) {σ : mSig} (hMI : MI σ (ps_a s 1134) (ps_a s 1135) (ps_a s 1136) (ps_a s 1137) (ps_a s 1138) (ps_a s 1139) (ps_a s 1157) (ps_a s 1176) (ps_i s 1131 21).toInt (ps_i s 1131 47).toInt (ps_i s 1131 54).toInt) (k : ∀ (v : Int32) (s' : ps_S), mJ x t s' → kp [1133, 1134, 1143, 1144, 1145, 1146, 1147, 1148, 1149, 1150, 1151, 1167, 1168] [3, 4, 5, 6, 7, 8, 9, 10, 11, 22, 23, 29, 30, 31, 32, 34, 63, 64, 65] s s' → (MI σ (ps_a s' 1134) (ps_a s' 1135) (ps_a s' 1136) (ps_a s' 1137) (ps_a s' 1138) (ps_a s' 1139) (ps_a s' 1157) (ps_a s' 1176) (ps_i s' 1131 21).toInt (ps_i s' 1131 47).toInt (ps_i s' 1131 54).toInt) → f v s') : ps_Cl (d + 6) 288 [.ref 1131] s (ps_rI f) := by
  have K : kp [1133, 1134, 1143, 1144, 1145, 1146, 1147, 1148, 1149, 1150, 1151, 1167, 1168] [3, 4, 5, 6, 7, 8, 9, 10, 11, 22, 23, 29, 30, 31, 32, 34, 63, 64, 65] s s := kp_refl
  refine pg_288_0 (d := d + 5) ?_
  refine ms_198 J  (fun s1 J1 K1 p1_0 p1_1 p1_2 p1_3 p1_4 => ?_)
  have K2 := kpt K K1 rfl rfl
  have hMI : MI σ (ps_a s1 1134) (ps_a s1 1135) (ps_a s1 1136) (ps_a s1 1137) (ps_a s1 1138) (ps_a s1 1139) (ps_a s1 1157) (ps_a s1 1176) (ps_i s1 1131 21).toInt (ps_i s1 1131 47).toInt (ps_i s1 1131 54).toInt := by rw [show ps_a s1 1134 = ps_a s 1134 from (K1.2 1134 rfl).1, show ps_a s1 1135 = ps_a s 1135 from (K1.2 1135 rfl).1, show ps_a s1 1136 = ps_a s 1136 from (K1.2 1136 rfl).1, show ps_a s1 1137 = ps_a s 1137 from (K1.2 1137 rfl).1, show ps_a s1 1138 = ps_a s 1138 from (K1.2 1138 rfl).1, show ps_a s1 1139 = ps_a s 1139 from (K1.2 1139 rfl).1, show ps_a s1 1157 = ps_a s 1157 from (K1.2 1157 rfl).1, show ps_a s1 1176 = ps_a s 1176 from (K1.2 1176 rfl).1, show ps_i s1 1131 21 = ps_i s 1131 21 from kp_i K1 21 rfl, show ps_i s1 1131 47 = ps_i s 1131 47 from kp_i K1 47 rfl, show ps_i s1 1131 54 = ps_i s 1131 54 from kp_i K1 54 rfl]; exact hMI
  have p1_0' : (ps_i s1 1131 8).toInt ≤ (ps_i s1 1131 4).toInt := p1_0
  have r3 := mf_8 J1
  have r4 := mf_4 J1
  have p1_1' : (ps_i s1 1131 5).toInt = 0 := p1_1
  have r5 := mf_5 J1
  have p1_2' : (ps_i s1 1131 3).toInt = 0 := p1_2
  have r6 := mf_3 J1
  have p1_3' : (ps_i s1 1131 23).toInt = 0 := p1_3
  have r7 := mf_23 J1
  have p1_4' : (ps_i s1 1131 22).toInt = (ps_i s1 1131 21).toInt := p1_4
  have r8 := mf_22 J1
  have r9 := mf_21 J1
  have u10 : (ps_i s1 1131 21).toInt = (ps_i s 1131 21).toInt := xeq (kp_i K1 21 rfl)
  have r11 := mf_21 J
  have hS2 : Sg (ps_a s1 1135) (ps_a s1 1136) (ps_a s1 1138) (ps_a s1 1139) (ps_i s1 1131 22).toInt σ := by rw [show (ps_i s1 1131 22).toInt = (ps_i s1 1131 21).toInt from by omega]; exact hMI.1
  obtain ⟨g0, hg0⟩ : ∃ g0 : Nat → Int32, g0 = ps_a s1 1134 := ⟨_, rfl⟩
  have hM0 : MI σ g0 (ps_a s1 1135) (ps_a s1 1136) (ps_a s1 1137) (ps_a s1 1138) (ps_a s1 1139) (ps_a s1 1157) (ps_a s1 1176) (ps_i s1 1131 21).toInt (ps_i s1 1131 47).toInt (ps_i s1 1131 54).toInt := by rw [hg0]; exact hMI
  have e48 : (25789 : Int32).toInt = 25789 := by decide
  refine ms_209 (b := false) J1 hS2 (show (25789 : Int) % 41 = 0 from by omega) (show 0 ≤ (25789 : Int) from by omega) (show (25789 : Int) < 27306 from by omega) (show (ps_i s1 1131 8).toInt ≤ (ps_i s1 1131 4).toInt from by omega) ((Or.inr ⟨by decide, rfl⟩)) ((by decide)) (fun s12 J12 K12 p12_0 p12_1 p12_2 p12_3 => ?_)
  have K13 := kpt K2 K12 rfl rfl
  have hS2 : Sg (ps_a s12 1135) (ps_a s12 1136) (ps_a s12 1138) (ps_a s12 1139) (ps_i s12 1131 22).toInt σ := by rw [show ps_a s12 1135 = ps_a s1 1135 from (K12.2 1135 rfl).1, show ps_a s12 1136 = ps_a s1 1136 from (K12.2 1136 rfl).1, show ps_a s12 1138 = ps_a s1 1138 from (K12.2 1138 rfl).1, show ps_a s12 1139 = ps_a s1 1139 from (K12.2 1139 rfl).1, show ps_i s12 1131 22 = ps_i s1 1131 22 from kp_i K12 22 rfl]; exact hS2
  have hM0 : MI σ g0 (ps_a s12 1135) (ps_a s12 1136) (ps_a s12 1137) (ps_a s12 1138) (ps_a s12 1139) (ps_a s12 1157) (ps_a s12 1176) (ps_i s12 1131 21).toInt (ps_i s12 1131 47).toInt (ps_i s12 1131 54).toInt := by rw [show ps_a s12 1135 = ps_a s1 1135 from (K12.2 1135 rfl).1, show ps_a s12 1136 = ps_a s1 1136 from (K12.2 1136 rfl).1, show ps_a s12 1137 = ps_a s1 1137 from (K12.2 1137 rfl).1, show ps_a s12 1138 = ps_a s1 1138 from (K12.2 1138 rfl).1, show ps_a s12 1139 = ps_a s1 1139 from (K12.2 1139 rfl).1, show ps_a s12 1157 = ps_a s1 1157 from (K12.2 1157 rfl).1, show ps_a s12 1176 = ps_a s1 1176 from (K12.2 1176 rfl).1, show ps_i s12 1131 21 = ps_i s1 1131 21 from kp_i K12 21 rfl, show ps_i s12 1131 47 = ps_i s1 1131 47 from kp_i K12 47 rfl, show ps_i s12 1131 54 = ps_i s1 1131 54 from kp_i K12 54 rfl]; exact hM0
  have p12_0' : (ps_i s12 1131 8).toInt ≤ (ps_i s12 1131 4).toInt := p12_0
  have r14 := mf_8 J12
  have r15 := mf_4 J12
  have u16 : (ps_i s12 1131 4).toInt = (ps_i s1 1131 4).toInt := xeq (kp_i K12 4 rfl)
  have p12_1' : 1 ≤ (ps_i s1 1131 5).toInt → 1 ≤ (ps_i s12 1131 5).toInt := p12_1
  have r17 := mf_5 J12
  have ho : _ := p12_2
  have hrow : _ := p12_3
  have hof : ∀ k : Nat, (k : Int) < 25789 ∨ 25830 ≤ (k : Int) → ps_a s12 1134 k = g0 k := fun k hk => (ho k (by omega)).trans (congrFun hg0 k).symm
  have hF : 1 ≤ (ps_i s12 1131 5).toInt ∨ ∃ nl, Rw (ps_a s12 1134) (25789 : Int32).toInt nl ∧ ws σ nl [false] := hrow.imp id (fun z => (by obtain ⟨l2, g1, g2, g3⟩ := z; exact ⟨l2, g1, wf_ws g2⟩))
  refine ms_192 J12  (fun v18 p18_0 b18 => ?_)
  have p18_0' : (v18.toInt = 0 ∧ 1 ≤ (ps_i s12 1131 5).toInt) ∨ (v18.toInt = 1 ∧ (ps_i s12 1131 5).toInt = 0) := p18_0
  refine And.intro (fun h19 => ?_) (fun h19 => ?_)
  · have f20 : v18.toInt = (0 : Int) := xeq h19
    have r21 := mf_47 J12
    have u22 : (ps_i s12 1131 47).toInt = (ps_i s1 1131 47).toInt := xeq (kp_i K12 47 rfl)
    have r23 := mf_47 J1
    have u24 : (ps_i s1 1131 47).toInt = (ps_i s 1131 47).toInt := xeq (kp_i K1 47 rfl)
    have r25 := mf_47 J
    exact ms_288_31 (σ := σ) k  g0 _ J12 K13 hM0 hof (by assumption) (show (ps_i s12 1131 47).toInt ≤ 40 from by omega)
  · have f26 : v18.toInt ≠ (0 : Int) := xne h19
    have r27 := mf_9 J12
    refine And.intro (fun h28 => ?_) (fun h28 => ?_)
    · have f29 : (ps_i s12 1131 9).toInt = (0 : Int) := xeq h28
      have r30 := mf_47 J12
      have u31 : (ps_i s12 1131 47).toInt = (ps_i s1 1131 47).toInt := xeq (kp_i K12 47 rfl)
      have r32 := mf_47 J1
      have u33 : (ps_i s1 1131 47).toInt = (ps_i s 1131 47).toInt := xeq (kp_i K1 47 rfl)
      have r34 := mf_47 J
      exact ms_288_31 (σ := σ) k  g0 _ J12 K13 hM0 hof (by assumption) (show (ps_i s12 1131 47).toInt ≤ 40 from by omega)
    · have f35 : (ps_i s12 1131 9).toInt ≠ (0 : Int) := xne h28
      refine ms_196 J12  (fun s36 J36 K36 p36_0 => ?_)
      have K37 := kpt K13 K36 rfl rfl
      have hS2 : Sg (ps_a s36 1135) (ps_a s36 1136) (ps_a s36 1138) (ps_a s36 1139) (ps_i s36 1131 22).toInt σ := by rw [show ps_a s36 1135 = ps_a s12 1135 from (K36.2 1135 rfl).1, show ps_a s36 1136 = ps_a s12 1136 from (K36.2 1136 rfl).1, show ps_a s36 1138 = ps_a s12 1138 from (K36.2 1138 rfl).1, show ps_a s36 1139 = ps_a s12 1139 from (K36.2 1139 rfl).1, show ps_i s36 1131 22 = ps_i s12 1131 22 from kp_i K36 22 rfl]; exact hS2
      have hM0 : MI σ g0 (ps_a s36 1135) (ps_a s36 1136) (ps_a s36 1137) (ps_a s36 1138) (ps_a s36 1139) (ps_a s36 1157) (ps_a s36 1176) (ps_i s36 1131 21).toInt (ps_i s36 1131 47).toInt (ps_i s36 1131 54).toInt := by rw [show ps_a s36 1135 = ps_a s12 1135 from (K36.2 1135 rfl).1, show ps_a s36 1136 = ps_a s12 1136 from (K36.2 1136 rfl).1, show ps_a s36 1137 = ps_a s12 1137 from (K36.2 1137 rfl).1, show ps_a s36 1138 = ps_a s12 1138 from (K36.2 1138 rfl).1, show ps_a s36 1139 = ps_a s12 1139 from (K36.2 1139 rfl).1, show ps_a s36 1157 = ps_a s12 1157 from (K36.2 1157 rfl).1, show ps_a s36 1176 = ps_a s12 1176 from (K36.2 1176 rfl).1, show ps_i s36 1131 21 = ps_i s12 1131 21 from kp_i K36 21 rfl, show ps_i s36 1131 47 = ps_i s12 1131 47 from kp_i K36 47 rfl, show ps_i s36 1131 54 = ps_i s12 1131 54 from kp_i K36 54 rfl]; exact hM0
      have hof : ∀ k : Nat, (k : Int) < 25789 ∨ 25830 ≤ (k : Int) → ps_a s36 1134 k = g0 k := by rw [show ps_a s36 1134 = ps_a s12 1134 from (K36.2 1134 rfl).1]; exact hof
      have p36_0' : 1 ≤ (ps_i s36 1131 5).toInt := p36_0
      have r38 := mf_5 J36
      have r39 := mf_47 J36
      have u40 : (ps_i s36 1131 47).toInt = (ps_i s12 1131 47).toInt := xeq (kp_i K36 47 rfl)
      have r41 := mf_47 J12
      have u42 : (ps_i s12 1131 47).toInt = (ps_i s1 1131 47).toInt := xeq (kp_i K12 47 rfl)
      have r43 := mf_47 J1
      have u44 : (ps_i s1 1131 47).toInt = (ps_i s 1131 47).toInt := xeq (kp_i K1 47 rfl)
      have r45 := mf_47 J
      exact ms_288_31 (σ := σ) k  g0 _ J36 K37 hM0 hof (Or.inl (show 1 ≤ (ps_i s36 1131 5).toInt from by omega)) (show (ps_i s36 1131 47).toInt ≤ 40 from by omega)
