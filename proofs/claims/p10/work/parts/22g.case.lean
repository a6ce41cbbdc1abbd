set_option maxRecDepth 100000
-- ProofBenchModel.takesCase(I)V
theorem pg_256_0 {d : Nat} {x1 : Int32} {s : ps_S} {Q : Option Value → ps_S → Prop} (h :
  ps_Cl d 244 [.ref 1131, .int x1] s (ps_rI (fun v1 s1 =>
    ps_Cl d 247 [.ref 1131, .int v1] s1 (ps_rI (fun v2 s2 =>
      (v2 ≠ 2 →
        ((0 : Int32) = 0 →
          ps_At (d + 1) 256 42 [(0, .ref 1131), (1, .int x1), (2, .int v1), (3, .int 0)] [] s2 Q) ∧
        ((0 : Int32) ≠ 0 →
          ps_Cl d 245 [.ref 1131, .int x1] s2 (ps_rI (fun v3 s3 =>
            ps_Cl d 246 [.ref 1131, .int x1] s3 (ps_rI (fun v4 s4 =>
              ps_Cl d 222 [.ref 1131, .int v3, .int v4] s4 (ps_rI (fun v5 s5 =>
                (v5 ≠ 0 →
                  ps_At (d + 1) 256 47 [(0, .ref 1131), (1, .int x1), (2, .int v1), (3, .int 0)] [] s5 Q) ∧
                (v5 = 0 →
                  ps_At (d + 1) 256 42 [(0, .ref 1131), (1, .int x1), (2, .int v1), (3, .int 0)] [] s5 Q))))))))) ∧
      (v2 = 2 →
        ((1 : Int32) = 0 →
          ps_At (d + 1) 256 42 [(0, .ref 1131), (1, .int x1), (2, .int v1), (3, .int 1)] [] s2 Q) ∧
        ((1 : Int32) ≠ 0 →
          ps_Cl d 245 [.ref 1131, .int x1] s2 (ps_rI (fun v6 s6 =>
            ps_Cl d 246 [.ref 1131, .int x1] s6 (ps_rI (fun v7 s7 =>
              ps_Cl d 222 [.ref 1131, .int v6, .int v7] s7 (ps_rI (fun v8 s8 =>
                (v8 ≠ 0 →
                  ps_At (d + 1) 256 47 [(0, .ref 1131), (1, .int x1), (2, .int v1), (3, .int 1)] [] s8 Q) ∧
                (v8 = 0 →
                  ps_At (d + 1) 256 42 [(0, .ref 1131), (1, .int x1), (2, .int v1), (3, .int 1)] [] s8 Q)))))))))))))) : ps_At (d + 1) 256 0 [(0, .ref 1131), (1, .int x1)] [] s Q :=
  ps_wp_at (stops := [(42, [0, 1, 2, 3]), (47, [0, 1, 2, 3])]) (n := 38) h rfl

theorem pg_256_42 {d : Nat} {x1 : Int32} {x2 : Int32} {x3 : Int32} {s : ps_S} {Q : Option Value → ps_S → Prop} (h :
  ps_Cl d 241 [.ref 1131, .int 2] s (ps_rV (fun s1 =>
    ps_At (d + 1) 256 47 [(0, .ref 1131), (1, .int x1), (2, .int x2), (3, .int x3)] [] s1 Q))) : ps_At (d + 1) 256 42 [(0, .ref 1131), (1, .int x1), (2, .int x2), (3, .int x3)] [] s Q :=
  ps_wp_at (stops := [(42, [0, 1, 2, 3]), (47, [0, 1, 2, 3])]) (n := 5) h rfl

theorem pg_256_47 {d : Nat} {x1 : Int32} {x2 : Int32} {x3 : Int32} {s : ps_S} {Q : Option Value → ps_S → Prop} (h :
  (x3 ≠ 0 →
    ps_Cl d 221 [.ref 1131, .int x2, .int 1] s (ps_rI (fun v1 s1 =>
      ps_nd (pm_in x1 40) (ps_Cl d 249 [.ref 1131, .int x1, .int (ps_a s1 1153 (Int32.toNatClampNeg x1)), .int 0] s1 (ps_rV (fun s2 =>
        ps_Cl d 226 [.ref 1131, .int x2, .int 1, .int v1] s2 (ps_rV (fun s3 =>
          ps_nd (pm_in x1 40) (ps_Cl d 249 [.ref 1131, .int x1, .int (ps_a s3 1154 (Int32.toNatClampNeg x1)), .int 1] s3 (ps_rV (fun s4 =>
            ps_Cl d 219 [.ref 1131, .int x2] (ps_ui s4 1131 34 0) (ps_rI (fun v5 s5 =>
              ps_Cl d 226 [.ref 1131, .int x2, .int v1, .int v5] s5 (ps_rV (fun s6 =>
                ps_nd (pm_in x1 40) (ps_Cl d 249 [.ref 1131, .int x1, .int (ps_a s6 1155 (Int32.toNatClampNeg x1)), .int 1] s6 (ps_rV (fun s7 =>
                  ps_Cl d 245 [.ref 1131, .int x1] (ps_ui s7 1131 34 0) (ps_rI (fun v8 s8 =>
                    ps_Cl d 227 [.ref 1131, .int v8] s8 (ps_rV (fun s9 =>
                      Q none s9)))))))))))))))))))))) ∧
  (x3 = 0 →
    Q none s)) : ps_At (d + 1) 256 47 [(0, .ref 1131), (1, .int x1), (2, .int x2), (3, .int x3)] [] s Q :=
  ps_wp_at (stops := [(42, [0, 1, 2, 3]), (47, [0, 1, 2, 3])]) (n := 58) h rfl

theorem ms_256_47 {x : Nat → Nat → Nat} {t : Int32} {d : Nat} {s0 : ps_S} {σ : mSig} {x1 : Int32} {Q : Option Value → ps_S → Prop} (k : ∀ (s' : ps_S), mJ x t s' → kp [1134, 1149] [34, 50, 51] s0 s' → (As σ (ps_a s' 1134) x1.toInt (ps_i s' 1131 51).toInt) → (OutB (ps_a s0 1134) (ps_a s' 1134) x1.toInt) → ((ps_i s0 1131 51).toInt ≤ (ps_i s' 1131 51).toInt) → ((ps_i s' 1131 51).toInt ≤ (ps_i s0 1131 51).toInt + 36) → (Res σ (ps_a s' 1149) (ps_i s' 1131 34).toInt (ps_i s' 1131 50).toInt) → Q none s') (x2 : Int32) (x3 : Int32) (s : ps_S) (J : mJ x t s) (K : kp [1134, 1149] [34, 50, 51] s0 s) (hS : Sg (ps_a s 1135) (ps_a s 1136) (ps_a s 1138) (ps_a s 1139) (ps_i s 1131 21).toInt σ) (hC : SC σ (ps_a s 1134) (ps_a s 1157) (ps_a s 1152) (ps_a s 1153) (ps_a s 1154) (ps_a s 1155) (ps_i s 1131 21).toInt x1.toInt) (hA : As σ (ps_a s 1134) x1.toInt (ps_i s 1131 51).toInt) (hM : Md (ps_a s 1149) (ps_i s 1131 34).toInt ([] : List Nat)) (hO : OutB (ps_a s0 1134) (ps_a s 1134) x1.toInt) (i5_k : 0 ≤ x1.toInt) (i6_k : x1.toInt < 40) (i7_k : (ps_i s0 1131 51).toInt ≤ 100) (i8_k : (ps_i s 1131 51).toInt = (ps_i s0 1131 51).toInt) (i9_k : (ps_a s 1152 (Int32.toNatClampNeg x1)).toInt = 8) (i10_k : x2.toInt = 41 * (ps_a s 1153 (Int32.toNatClampNeg x1)).toInt) (i11_k : (x3.toInt = 0 ∧ 1 ≤ (ps_i s 1131 50).toInt) ∨ (x3.toInt = 1 ∧ (ps_a s 1134 (Int32.toNatClampNeg ((x2 + 1) + 0))).toInt = 2)) : ps_At (d + 4) 256 47 [(0, .ref 1131), (1, .int x1), (2, .int x2), (3, .int x3)] [] s Q := by
  have r1_k := mf_51 J
  have r2_k : 0 ≤ (ps_a s 1152 (Int32.toNatClampNeg x1)).toInt ∧ (ps_a s 1152 (Int32.toNatClampNeg x1)).toInt ≤ 18 := ma_1152 (i := x1) J (show 0 ≤ x1.toInt from by omega) (show x1.toInt < 40 from by omega)
  have r3_k : -1 ≤ (ps_a s 1153 (Int32.toNatClampNeg x1)).toInt ∧ (ps_a s 1153 (Int32.toNatClampNeg x1)).toInt ≤ 9999 := ma_1153 (i := x1) J (show 0 ≤ x1.toInt from by omega) (show x1.toInt < 40 from by omega)
  refine pg_256_47 (d := d + 3) ?_
  refine And.intro (fun h4_k => ?_) (fun h4_k => ?_)
  · have f5_k : x3.toInt ≠ (0 : Int) := xne h4_k
    have g0 := SC_g0 hC rfl
    have q1_k := SC_l1 hC rfl ⟨by omega, by omega, by omega, by omega⟩
    have q2_k := SC_l2 hC rfl (by omega)
    have q3_k := SC_l3 hC rfl (by omega)
    have hc2 : (ps_a s 1134 (Int32.toNatClampNeg ((x2 + 1) + 0))).toInt = 2 := by rcases i11_k with z_k | z_k; exact absurd z_k.1 (by omega); exact z_k.2
    obtain ⟨l, hl1, hl2⟩ := SC_1i hC rfl ⟨by omega, by omega, by omega, by omega⟩
    obtain ⟨c, l3, rfl⟩ := wf_ne hl2
    have hl1x : Rw (ps_a s 1134) x2.toInt (c :: l3) := by rw [show x2.toInt = (41 * (ps_a s 1153 (Int32.toNatClampNeg x1)).toInt) from by omega]; exact hl1
    have hp_k := Rw_p (l1 := []) (i := 0) hl1x rfl rfl
    have hc1 : c = 2 := by omega
    subst hc1
    obtain ⟨ks_k, hk_k, hw2⟩ := ws_hd (show ws σ (2 :: l3) [true] from wf_ws hl2)
    rw [kS_f2 (by decide) (by decide)] at hk_k
    cases hk_k
    obtain ⟨p, q, hpq_k, hp1, hp2⟩ := ws_split (W1 := [true]) (W2 := [true]) hw2
    subst hpq_k
    have hRa : Rw (ps_a s 1134) (41 * (ps_a s 1153 (Int32.toNatClampNeg x1)).toInt) (2 :: (p ++ q)) := hl1
    have hlen := hl1.2.2.2.1
    rw [List.length_cons, List.length_append] at hlen
    obtain ⟨lb, hb1, hb2⟩ := SC_2i hC rfl (by omega)
    have hRb : Rw (ps_a s 1134) (41 * (ps_a s 1154 (Int32.toNatClampNeg x1)).toInt) lb := hb1
    have hlb := hb1.2.2.2.1
    refine ms_221 J hS ((show Rw (ps_a s 1134) (x2).toInt ([2] ++ (p ++ q)) from by rw [show (x2).toInt = (41 * (ps_a s 1153 (Int32.toNatClampNeg x1)).toInt) from by omega]; exact hRa)) (rfl) (hp1) (fun v6 p6_0 => ?_)
    have hv_k : _ := p6_0
    have hv2 : (v6).toInt = 1 + (p.length : Int) := hv_k
    refine ps_nd_i (show pm_in x1 40 = true from xgi (show 0 ≤ x1.toInt from by omega) (show x1.toInt < 40 from by omega)) ?_
    refine ms_249 J hA ((SC_p hC)) (show 0 ≤ x1.toInt from by omega) (show x1.toInt < 40 from by omega) (show 0 ≤ (ps_a s 1153 (Int32.toNatClampNeg x1)).toInt from by omega) (show (ps_a s 1153 (Int32.toNatClampNeg x1)).toInt < x1.toInt from by omega) (show (ps_i s 1131 51).toInt ≤ 800 from by omega) (fun s7 J7 K7 p7_0 p7_1 p7_2 p7_3 => ?_)
    have K8 := kpt K K7 rfl rfl
    have KC := K7
    have hS : Sg (ps_a s7 1135) (ps_a s7 1136) (ps_a s7 1138) (ps_a s7 1139) (ps_i s7 1131 21).toInt σ := by rw [show ps_a s7 1135 = ps_a s 1135 from (K7.2 1135 rfl).1, show ps_a s7 1136 = ps_a s 1136 from (K7.2 1136 rfl).1, show ps_a s7 1138 = ps_a s 1138 from (K7.2 1138 rfl).1, show ps_a s7 1139 = ps_a s 1139 from (K7.2 1139 rfl).1, show ps_i s7 1131 21 = ps_i s 1131 21 from kp_i K7 21 rfl]; exact hS
    have hM : Md (ps_a s7 1149) (ps_i s7 1131 34).toInt ([] : List Nat) := by rw [show ps_a s7 1149 = ps_a s 1149 from (K7.2 1149 rfl).1, show ps_i s7 1131 34 = ps_i s 1131 34 from kp_i K7 34 rfl]; exact hM
    have p7_2' : (ps_i s 1131 51).toInt ≤ (ps_i s7 1131 51).toInt := p7_2
    have r9_k := mf_51 J7
    have p7_3' : (ps_i s7 1131 51).toInt ≤ (ps_i s 1131 51).toInt + 12 := p7_3
    have hA : As σ (ps_a s7 1134) x1.toInt (ps_i s7 1131 51).toInt := p7_0
    have ho : _ := p7_1
    have hO := OutB_tr hO ho
    have hC : SC σ (ps_a s7 1134) (ps_a s7 1157) (ps_a s7 1152) (ps_a s7 1153) (ps_a s7 1154) (ps_a s7 1155) (ps_i s7 1131 21).toInt x1.toInt := by rw [show ps_a s7 1157 = ps_a s 1157 from (KC.2 1157 rfl).1, show ps_a s7 1152 = ps_a s 1152 from (KC.2 1152 rfl).1, show ps_a s7 1153 = ps_a s 1153 from (KC.2 1153 rfl).1, show ps_a s7 1154 = ps_a s 1154 from (KC.2 1154 rfl).1, show ps_a s7 1155 = ps_a s 1155 from (KC.2 1155 rfl).1, show ps_i s7 1131 21 = ps_i s 1131 21 from kp_i KC 21 rfl]; exact SC_out hC ho
    have hRa : Rw (ps_a s7 1134) (41 * (ps_a s 1153 (Int32.toNatClampNeg x1)).toInt) (2 :: (p ++ q)) := Rw_out hRa ho (by omega)
    have hRb : Rw (ps_a s7 1134) (41 * (ps_a s 1154 (Int32.toNatClampNeg x1)).toInt) lb := Rw_out hRb ho (by omega)
    refine ms_226 J7 ((show Rw (ps_a s7 1134) (x2).toInt ([2] ++ (p ++ q)) from by rw [show (x2).toInt = (41 * (ps_a s 1153 (Int32.toNatClampNeg x1)).toInt) from by omega]; exact hRa)) (hM) (rfl) (Or.inl hv_k) ((by rw [List.length_nil]; omega)) (fun s10 J10 K10 p10_0 => ?_)
    have K11 := kpt K8 K10 rfl rfl
    have KC := K10
    have hS : Sg (ps_a s10 1135) (ps_a s10 1136) (ps_a s10 1138) (ps_a s10 1139) (ps_i s10 1131 21).toInt σ := by rw [show ps_a s10 1135 = ps_a s7 1135 from (K10.2 1135 rfl).1, show ps_a s10 1136 = ps_a s7 1136 from (K10.2 1136 rfl).1, show ps_a s10 1138 = ps_a s7 1138 from (K10.2 1138 rfl).1, show ps_a s10 1139 = ps_a s7 1139 from (K10.2 1139 rfl).1, show ps_i s10 1131 21 = ps_i s7 1131 21 from kp_i K10 21 rfl]; exact hS
    have hA : As σ (ps_a s10 1134) x1.toInt (ps_i s10 1131 51).toInt := by rw [show ps_a s10 1134 = ps_a s7 1134 from (K10.2 1134 rfl).1, show ps_i s10 1131 51 = ps_i s7 1131 51 from kp_i K10 51 rfl]; exact hA
    have hO : OutB (ps_a s0 1134) (ps_a s10 1134) x1.toInt := by rw [show ps_a s10 1134 = ps_a s7 1134 from (K10.2 1134 rfl).1]; exact hO
    have hC : SC σ (ps_a s10 1134) (ps_a s10 1157) (ps_a s10 1152) (ps_a s10 1153) (ps_a s10 1154) (ps_a s10 1155) (ps_i s10 1131 21).toInt x1.toInt := by rw [show ps_a s10 1134 = ps_a s7 1134 from (K10.2 1134 rfl).1, show ps_a s10 1157 = ps_a s7 1157 from (K10.2 1157 rfl).1, show ps_a s10 1152 = ps_a s7 1152 from (K10.2 1152 rfl).1, show ps_a s10 1153 = ps_a s7 1153 from (K10.2 1153 rfl).1, show ps_a s10 1154 = ps_a s7 1154 from (K10.2 1154 rfl).1, show ps_a s10 1155 = ps_a s7 1155 from (K10.2 1155 rfl).1, show ps_i s10 1131 21 = ps_i s7 1131 21 from kp_i K10 21 rfl]; exact hC
    have hRa : Rw (ps_a s10 1134) (41 * (ps_a s 1153 (Int32.toNatClampNeg x1)).toInt) (2 :: (p ++ q)) := by rw [show ps_a s10 1134 = ps_a s7 1134 from (K10.2 1134 rfl).1]; exact hRa
    have hRb : Rw (ps_a s10 1134) (41 * (ps_a s 1154 (Int32.toNatClampNeg x1)).toInt) lb := by rw [show ps_a s10 1134 = ps_a s7 1134 from (K10.2 1134 rfl).1]; exact hRb
    refine ps_nd_i (show pm_in x1 40 = true from xgi (show 0 ≤ x1.toInt from by omega) (show x1.toInt < 40 from by omega)) ?_
    have r12_k : 0 ≤ (ps_a s10 1154 (Int32.toNatClampNeg x1)).toInt ∧ (ps_a s10 1154 (Int32.toNatClampNeg x1)).toInt ≤ 9999 := ma_1154 (i := x1) J10 (show 0 ≤ x1.toInt from by omega) (show x1.toInt < 40 from by omega)
    have u13 : (ps_a s10 1154 (Int32.toNatClampNeg x1)).toInt = (ps_a s7 1154 (Int32.toNatClampNeg x1)).toInt := xeq (kp_a K10 1154 rfl _)
    have r14_k : 0 ≤ (ps_a s7 1154 (Int32.toNatClampNeg x1)).toInt ∧ (ps_a s7 1154 (Int32.toNatClampNeg x1)).toInt ≤ 9999 := ma_1154 (i := x1) J7 (show 0 ≤ x1.toInt from by omega) (show x1.toInt < 40 from by omega)
    have u15 : (ps_a s7 1154 (Int32.toNatClampNeg x1)).toInt = (ps_a s 1154 (Int32.toNatClampNeg x1)).toInt := xeq (kp_a K7 1154 rfl _)
    have r16_k : 0 ≤ (ps_a s 1154 (Int32.toNatClampNeg x1)).toInt ∧ (ps_a s 1154 (Int32.toNatClampNeg x1)).toInt ≤ 9999 := ma_1154 (i := x1) J (show 0 ≤ x1.toInt from by omega) (show x1.toInt < 40 from by omega)
    have r17_k := mf_51 J10
    have u18 : (ps_i s10 1131 51).toInt = (ps_i s7 1131 51).toInt := xeq (kp_i K10 51 rfl)
    refine ms_249 J10 hA ((SC_p hC)) (show 0 ≤ x1.toInt from by omega) (show x1.toInt < 40 from by omega) (show 0 ≤ (ps_a s10 1154 (Int32.toNatClampNeg x1)).toInt from by omega) (show (ps_a s10 1154 (Int32.toNatClampNeg x1)).toInt < x1.toInt from by omega) (show (ps_i s10 1131 51).toInt ≤ 800 from by omega) (fun s19 J19 K19 p19_0 p19_1 p19_2 p19_3 => ?_)
    have K20 := kpt K11 K19 rfl rfl
    have KC := K19
    have hS : Sg (ps_a s19 1135) (ps_a s19 1136) (ps_a s19 1138) (ps_a s19 1139) (ps_i s19 1131 21).toInt σ := by rw [show ps_a s19 1135 = ps_a s10 1135 from (K19.2 1135 rfl).1, show ps_a s19 1136 = ps_a s10 1136 from (K19.2 1136 rfl).1, show ps_a s19 1138 = ps_a s10 1138 from (K19.2 1138 rfl).1, show ps_a s19 1139 = ps_a s10 1139 from (K19.2 1139 rfl).1, show ps_i s19 1131 21 = ps_i s10 1131 21 from kp_i K19 21 rfl]; exact hS
    have p19_2' : (ps_i s10 1131 51).toInt ≤ (ps_i s19 1131 51).toInt := p19_2
    have r21_k := mf_51 J19
    have p19_3' : (ps_i s19 1131 51).toInt ≤ (ps_i s10 1131 51).toInt + 12 := p19_3
    have hA : As σ (ps_a s19 1134) x1.toInt (ps_i s19 1131 51).toInt := p19_0
    have ho : _ := p19_1
    have hO := OutB_tr hO ho
    have hC : SC σ (ps_a s19 1134) (ps_a s19 1157) (ps_a s19 1152) (ps_a s19 1153) (ps_a s19 1154) (ps_a s19 1155) (ps_i s19 1131 21).toInt x1.toInt := by rw [show ps_a s19 1157 = ps_a s10 1157 from (KC.2 1157 rfl).1, show ps_a s19 1152 = ps_a s10 1152 from (KC.2 1152 rfl).1, show ps_a s19 1153 = ps_a s10 1153 from (KC.2 1153 rfl).1, show ps_a s19 1154 = ps_a s10 1154 from (KC.2 1154 rfl).1, show ps_a s19 1155 = ps_a s10 1155 from (KC.2 1155 rfl).1, show ps_i s19 1131 21 = ps_i s10 1131 21 from kp_i KC 21 rfl]; exact SC_out hC ho
    have hRa : Rw (ps_a s19 1134) (41 * (ps_a s 1153 (Int32.toNatClampNeg x1)).toInt) (2 :: (p ++ q)) := Rw_out hRa ho (by omega)
    have hRb : Rw (ps_a s19 1134) (41 * (ps_a s 1154 (Int32.toNatClampNeg x1)).toInt) lb := Rw_out hRb ho (by omega)
    have J22 := mwi_34 (v := (0 : Int32)) J19 (show 0 ≤ (0 : Int) from by omega) (show (0 : Int) ≤ 100000 from by omega)
    have K23 := kpi K20 (q := 34) (v := (0 : Int32)) rfl
    have hM : Md (ps_a (ps_ui s19 1131 34 0) 1149) (ps_i (ps_ui s19 1131 34 0) 1131 34).toInt ([] : List Nat) := Md_nil rfl
    refine pg_219_0 ?_
    refine ps_nd_i (show pm_in x2 27400 = true from xgi (show 0 ≤ x2.toInt from by omega) (show x2.toInt < 27400 from by omega)) ?_
    have r24_k : x2.toInt % 41 = 0 → x2.toInt < 27306 → 0 ≤ (ps_a s19 1134 (Int32.toNatClampNeg x2)).toInt ∧ (ps_a s19 1134 (Int32.toNatClampNeg x2)).toInt ≤ 40 := fun z1_k z2_k => mp_row (i := x2) J19 z1_k (show 0 ≤ x2.toInt from by omega) z2_k
    refine ms_226 J22 ((show Rw (ps_a (ps_ui s19 1131 34 0) 1134) (x2).toInt (([2] ++ p) ++ (q ++ [])) from by rw [List.append_nil, List.append_assoc, show (x2).toInt = (41 * (ps_a s 1153 (Int32.toNatClampNeg x1)).toInt) from by omega]; exact hRa)) (hM) ((by rw [llen]; exact hv_k)) ((Or.inl ((Rw_n (show Rw (ps_a (ps_ui s19 1131 34 0) 1134) (x2).toInt (2 :: (p ++ q)) from by rw [show (x2).toInt = (41 * (ps_a s 1153 (Int32.toNatClampNeg x1)).toInt) from by omega]; exact hRa)).trans (by simp only [List.length_cons, List.length_append, List.length_nil]; omega)))) ((by rw [List.length_nil]; omega)) (fun s25 J25 K25 p25_0 => ?_)
    have K26 := kpt K23 K25 rfl rfl
    have KC := K25
    have hS : Sg (ps_a s25 1135) (ps_a s25 1136) (ps_a s25 1138) (ps_a s25 1139) (ps_i s25 1131 21).toInt σ := by rw [show ps_a s25 1135 = ps_a (ps_ui s19 1131 34 0) 1135 from (K25.2 1135 rfl).1, show ps_a s25 1136 = ps_a (ps_ui s19 1131 34 0) 1136 from (K25.2 1136 rfl).1, show ps_a s25 1138 = ps_a (ps_ui s19 1131 34 0) 1138 from (K25.2 1138 rfl).1, show ps_a s25 1139 = ps_a (ps_ui s19 1131 34 0) 1139 from (K25.2 1139 rfl).1, show ps_i s25 1131 21 = ps_i (ps_ui s19 1131 34 0) 1131 21 from kp_i K25 21 rfl]; exact hS
    have hA : As σ (ps_a s25 1134) x1.toInt (ps_i s25 1131 51).toInt := by rw [show ps_a s25 1134 = ps_a (ps_ui s19 1131 34 0) 1134 from (K25.2 1134 rfl).1, show ps_i s25 1131 51 = ps_i (ps_ui s19 1131 34 0) 1131 51 from kp_i K25 51 rfl]; exact hA
    have hO : OutB (ps_a s0 1134) (ps_a s25 1134) x1.toInt := by rw [show ps_a s25 1134 = ps_a (ps_ui s19 1131 34 0) 1134 from (K25.2 1134 rfl).1]; exact hO
    have hC : SC σ (ps_a s25 1134) (ps_a s25 1157) (ps_a s25 1152) (ps_a s25 1153) (ps_a s25 1154) (ps_a s25 1155) (ps_i s25 1131 21).toInt x1.toInt := by rw [show ps_a s25 1134 = ps_a (ps_ui s19 1131 34 0) 1134 from (K25.2 1134 rfl).1, show ps_a s25 1157 = ps_a (ps_ui s19 1131 34 0) 1157 from (K25.2 1157 rfl).1, show ps_a s25 1152 = ps_a (ps_ui s19 1131 34 0) 1152 from (K25.2 1152 rfl).1, show ps_a s25 1153 = ps_a (ps_ui s19 1131 34 0) 1153 from (K25.2 1153 rfl).1, show ps_a s25 1154 = ps_a (ps_ui s19 1131 34 0) 1154 from (K25.2 1154 rfl).1, show ps_a s25 1155 = ps_a (ps_ui s19 1131 34 0) 1155 from (K25.2 1155 rfl).1, show ps_i s25 1131 21 = ps_i (ps_ui s19 1131 34 0) 1131 21 from kp_i K25 21 rfl]; exact hC
    have hRa : Rw (ps_a s25 1134) (41 * (ps_a s 1153 (Int32.toNatClampNeg x1)).toInt) (2 :: (p ++ q)) := by rw [show ps_a s25 1134 = ps_a (ps_ui s19 1131 34 0) 1134 from (K25.2 1134 rfl).1]; exact hRa
    have hRb : Rw (ps_a s25 1134) (41 * (ps_a s 1154 (Int32.toNatClampNeg x1)).toInt) lb := by rw [show ps_a s25 1134 = ps_a (ps_ui s19 1131 34 0) 1134 from (K25.2 1134 rfl).1]; exact hRb
    refine ps_nd_i (show pm_in x1 40 = true from xgi (show 0 ≤ x1.toInt from by omega) (show x1.toInt < 40 from by omega)) ?_
    have r27_k : 0 ≤ (ps_a s25 1155 (Int32.toNatClampNeg x1)).toInt ∧ (ps_a s25 1155 (Int32.toNatClampNeg x1)).toInt ≤ 9999 := ma_1155 (i := x1) J25 (show 0 ≤ x1.toInt from by omega) (show x1.toInt < 40 from by omega)
    have u28 : (ps_a s25 1155 (Int32.toNatClampNeg x1)).toInt = (ps_a s19 1155 (Int32.toNatClampNeg x1)).toInt := xeq (kp_a K25 1155 rfl _)
    have r29_k : 0 ≤ (ps_a s19 1155 (Int32.toNatClampNeg x1)).toInt ∧ (ps_a s19 1155 (Int32.toNatClampNeg x1)).toInt ≤ 9999 := ma_1155 (i := x1) J19 (show 0 ≤ x1.toInt from by omega) (show x1.toInt < 40 from by omega)
    have u30 : (ps_a s19 1155 (Int32.toNatClampNeg x1)).toInt = (ps_a s10 1155 (Int32.toNatClampNeg x1)).toInt := xeq (kp_a K19 1155 rfl _)
    have r31_k : 0 ≤ (ps_a s10 1155 (Int32.toNatClampNeg x1)).toInt ∧ (ps_a s10 1155 (Int32.toNatClampNeg x1)).toInt ≤ 9999 := ma_1155 (i := x1) J10 (show 0 ≤ x1.toInt from by omega) (show x1.toInt < 40 from by omega)
    have u32 : (ps_a s10 1155 (Int32.toNatClampNeg x1)).toInt = (ps_a s7 1155 (Int32.toNatClampNeg x1)).toInt := xeq (kp_a K10 1155 rfl _)
    have r33_k : 0 ≤ (ps_a s7 1155 (Int32.toNatClampNeg x1)).toInt ∧ (ps_a s7 1155 (Int32.toNatClampNeg x1)).toInt ≤ 9999 := ma_1155 (i := x1) J7 (show 0 ≤ x1.toInt from by omega) (show x1.toInt < 40 from by omega)
    have u34 : (ps_a s7 1155 (Int32.toNatClampNeg x1)).toInt = (ps_a s 1155 (Int32.toNatClampNeg x1)).toInt := xeq (kp_a K7 1155 rfl _)
    have r35_k : 0 ≤ (ps_a s 1155 (Int32.toNatClampNeg x1)).toInt ∧ (ps_a s 1155 (Int32.toNatClampNeg x1)).toInt ≤ 9999 := ma_1155 (i := x1) J (show 0 ≤ x1.toInt from by omega) (show x1.toInt < 40 from by omega)
    have r36_k := mf_51 J25
    have u37 : (ps_i s25 1131 51).toInt = (ps_i s19 1131 51).toInt := xeq (kp_i K25 51 rfl)
    refine ms_249 J25 hA ((SC_p hC)) (show 0 ≤ x1.toInt from by omega) (show x1.toInt < 40 from by omega) (show 0 ≤ (ps_a s25 1155 (Int32.toNatClampNeg x1)).toInt from by omega) (show (ps_a s25 1155 (Int32.toNatClampNeg x1)).toInt < x1.toInt from by omega) (show (ps_i s25 1131 51).toInt ≤ 800 from by omega) (fun s38 J38 K38 p38_0 p38_1 p38_2 p38_3 => ?_)
    have K39 := kpt K26 K38 rfl rfl
    have KC := K38
    have hS : Sg (ps_a s38 1135) (ps_a s38 1136) (ps_a s38 1138) (ps_a s38 1139) (ps_i s38 1131 21).toInt σ := by rw [show ps_a s38 1135 = ps_a s25 1135 from (K38.2 1135 rfl).1, show ps_a s38 1136 = ps_a s25 1136 from (K38.2 1136 rfl).1, show ps_a s38 1138 = ps_a s25 1138 from (K38.2 1138 rfl).1, show ps_a s38 1139 = ps_a s25 1139 from (K38.2 1139 rfl).1, show ps_i s38 1131 21 = ps_i s25 1131 21 from kp_i K38 21 rfl]; exact hS
    have p38_2' : (ps_i s25 1131 51).toInt ≤ (ps_i s38 1131 51).toInt := p38_2
    have r40_k := mf_51 J38
    have p38_3' : (ps_i s38 1131 51).toInt ≤ (ps_i s25 1131 51).toInt + 12 := p38_3
    have hA : As σ (ps_a s38 1134) x1.toInt (ps_i s38 1131 51).toInt := p38_0
    have ho : _ := p38_1
    have hO := OutB_tr hO ho
    have hC : SC σ (ps_a s38 1134) (ps_a s38 1157) (ps_a s38 1152) (ps_a s38 1153) (ps_a s38 1154) (ps_a s38 1155) (ps_i s38 1131 21).toInt x1.toInt := by rw [show ps_a s38 1157 = ps_a s25 1157 from (KC.2 1157 rfl).1, show ps_a s38 1152 = ps_a s25 1152 from (KC.2 1152 rfl).1, show ps_a s38 1153 = ps_a s25 1153 from (KC.2 1153 rfl).1, show ps_a s38 1154 = ps_a s25 1154 from (KC.2 1154 rfl).1, show ps_a s38 1155 = ps_a s25 1155 from (KC.2 1155 rfl).1, show ps_i s38 1131 21 = ps_i s25 1131 21 from kp_i KC 21 rfl]; exact SC_out hC ho
    have hRa : Rw (ps_a s38 1134) (41 * (ps_a s 1153 (Int32.toNatClampNeg x1)).toInt) (2 :: (p ++ q)) := Rw_out hRa ho (by omega)
    have hRb : Rw (ps_a s38 1134) (41 * (ps_a s 1154 (Int32.toNatClampNeg x1)).toInt) lb := Rw_out hRb ho (by omega)
    have J41 := mwi_34 (v := (0 : Int32)) J38 (show 0 ≤ (0 : Int) from by omega) (show (0 : Int) ≤ 100000 from by omega)
    have K42 := kpi K39 (q := 34) (v := (0 : Int32)) rfl
    have hM : Md (ps_a (ps_ui s38 1131 34 0) 1149) (ps_i (ps_ui s38 1131 34 0) 1131 34).toInt ([] : List Nat) := Md_nil rfl
    refine pg_245_0 ?_
    refine ps_nd_i (show pm_in x1 40 = true from xgi (show 0 ≤ x1.toInt from by omega) (show x1.toInt < 40 from by omega)) ?_
    have r43_k : 0 ≤ (ps_a s38 1154 (Int32.toNatClampNeg x1)).toInt ∧ (ps_a s38 1154 (Int32.toNatClampNeg x1)).toInt ≤ 9999 := ma_1154 (i := x1) J38 (show 0 ≤ x1.toInt from by omega) (show x1.toInt < 40 from by omega)
    have u44 : (ps_a s38 1154 (Int32.toNatClampNeg x1)).toInt = (ps_a s25 1154 (Int32.toNatClampNeg x1)).toInt := xeq (kp_a K38 1154 rfl _)
    have r45_k : 0 ≤ (ps_a s25 1154 (Int32.toNatClampNeg x1)).toInt ∧ (ps_a s25 1154 (Int32.toNatClampNeg x1)).toInt ≤ 9999 := ma_1154 (i := x1) J25 (show 0 ≤ x1.toInt from by omega) (show x1.toInt < 40 from by omega)
    have u46 : (ps_a s25 1154 (Int32.toNatClampNeg x1)).toInt = (ps_a s19 1154 (Int32.toNatClampNeg x1)).toInt := xeq (kp_a K25 1154 rfl _)
    have r47_k : 0 ≤ (ps_a s19 1154 (Int32.toNatClampNeg x1)).toInt ∧ (ps_a s19 1154 (Int32.toNatClampNeg x1)).toInt ≤ 9999 := ma_1154 (i := x1) J19 (show 0 ≤ x1.toInt from by omega) (show x1.toInt < 40 from by omega)
    have u48 : (ps_a s19 1154 (Int32.toNatClampNeg x1)).toInt = (ps_a s10 1154 (Int32.toNatClampNeg x1)).toInt := xeq (kp_a K19 1154 rfl _)
    refine pg_242_0 ?_
    have a49_k : ((41 : Int32) * (ps_a s38 1154 (Int32.toNatClampNeg x1))).toInt = (41 : Int) * (ps_a s38 1154 (Int32.toNatClampNeg x1)).toInt := xIm (show -2147483648 ≤ (41 : Int) * (ps_a s38 1154 (Int32.toNatClampNeg x1)).toInt from by omega) (show (41 : Int) * (ps_a s38 1154 (Int32.toNatClampNeg x1)).toInt < 2147483648 from by omega)
    have a50_k : ((0 : Int32) + ((41 : Int32) * (ps_a s38 1154 (Int32.toNatClampNeg x1)))).toInt = (0 : Int) + ((41 : Int32) * (ps_a s38 1154 (Int32.toNatClampNeg x1))).toInt := xIa (show -2147483648 ≤ (0 : Int) + ((41 : Int32) * (ps_a s38 1154 (Int32.toNatClampNeg x1))).toInt from by omega) (show (0 : Int) + ((41 : Int32) * (ps_a s38 1154 (Int32.toNatClampNeg x1))).toInt < 2147483648 from by omega)
    refine ms_227 J41 ((show Rw (ps_a (ps_ui s38 1131 34 0) 1134) (((0 : Int32) + ((41 : Int32) * (ps_a s38 1154 (Int32.toNatClampNeg x1))))).toInt lb from by rw [show (((0 : Int32) + ((41 : Int32) * (ps_a s38 1154 (Int32.toNatClampNeg x1))))).toInt = (41 * (ps_a s 1154 (Int32.toNatClampNeg x1)).toInt) from by omega]; exact hRb)) (hM) ((by rw [List.length_nil]; omega)) (fun s51 J51 K51 p51_0 => ?_)
    have K52 := kpt K42 K51 rfl rfl
    have KC := K51
    have hS : Sg (ps_a s51 1135) (ps_a s51 1136) (ps_a s51 1138) (ps_a s51 1139) (ps_i s51 1131 21).toInt σ := by rw [show ps_a s51 1135 = ps_a (ps_ui s38 1131 34 0) 1135 from (K51.2 1135 rfl).1, show ps_a s51 1136 = ps_a (ps_ui s38 1131 34 0) 1136 from (K51.2 1136 rfl).1, show ps_a s51 1138 = ps_a (ps_ui s38 1131 34 0) 1138 from (K51.2 1138 rfl).1, show ps_a s51 1139 = ps_a (ps_ui s38 1131 34 0) 1139 from (K51.2 1139 rfl).1, show ps_i s51 1131 21 = ps_i (ps_ui s38 1131 34 0) 1131 21 from kp_i K51 21 rfl]; exact hS
    have hA : As σ (ps_a s51 1134) x1.toInt (ps_i s51 1131 51).toInt := by rw [show ps_a s51 1134 = ps_a (ps_ui s38 1131 34 0) 1134 from (K51.2 1134 rfl).1, show ps_i s51 1131 51 = ps_i (ps_ui s38 1131 34 0) 1131 51 from kp_i K51 51 rfl]; exact hA
    have hO : OutB (ps_a s0 1134) (ps_a s51 1134) x1.toInt := by rw [show ps_a s51 1134 = ps_a (ps_ui s38 1131 34 0) 1134 from (K51.2 1134 rfl).1]; exact hO
    have hC : SC σ (ps_a s51 1134) (ps_a s51 1157) (ps_a s51 1152) (ps_a s51 1153) (ps_a s51 1154) (ps_a s51 1155) (ps_i s51 1131 21).toInt x1.toInt := by rw [show ps_a s51 1134 = ps_a (ps_ui s38 1131 34 0) 1134 from (K51.2 1134 rfl).1, show ps_a s51 1157 = ps_a (ps_ui s38 1131 34 0) 1157 from (K51.2 1157 rfl).1, show ps_a s51 1152 = ps_a (ps_ui s38 1131 34 0) 1152 from (K51.2 1152 rfl).1, show ps_a s51 1153 = ps_a (ps_ui s38 1131 34 0) 1153 from (K51.2 1153 rfl).1, show ps_a s51 1154 = ps_a (ps_ui s38 1131 34 0) 1154 from (K51.2 1154 rfl).1, show ps_a s51 1155 = ps_a (ps_ui s38 1131 34 0) 1155 from (K51.2 1155 rfl).1, show ps_i s51 1131 21 = ps_i (ps_ui s38 1131 34 0) 1131 21 from kp_i K51 21 rfl]; exact hC
    have hRa : Rw (ps_a s51 1134) (41 * (ps_a s 1153 (Int32.toNatClampNeg x1)).toInt) (2 :: (p ++ q)) := by rw [show ps_a s51 1134 = ps_a (ps_ui s38 1131 34 0) 1134 from (K51.2 1134 rfl).1]; exact hRa
    have hRb : Rw (ps_a s51 1134) (41 * (ps_a s 1154 (Int32.toNatClampNeg x1)).toInt) lb := by rw [show ps_a s51 1134 = ps_a (ps_ui s38 1131 34 0) 1134 from (K51.2 1134 rfl).1]; exact hRb
    have hM1 : Md (ps_a s51 1149) (ps_i s51 1131 34).toInt ([] ++ lb) := p51_0
    have r53_k := mf_51 J51
    have u54 : (ps_i s51 1131 51).toInt = (ps_i s38 1131 51).toInt := xeq (kp_i K51 51 rfl)
    exact k _ J51 K52 hA hO (show (ps_i s0 1131 51).toInt ≤ (ps_i s51 1131 51).toInt from by omega) (show (ps_i s51 1131 51).toInt ≤ (ps_i s0 1131 51).toInt + 36 from by omega) (⟨_, hM1, by simp only [List.length_append, List.length_cons, List.length_nil]; omega, Or.inl (wf_ws hb2)⟩)
  · have f55_k : x3.toInt = (0 : Int) := xeq h4_k
    exact k _ J K hA hO (show (ps_i s0 1131 51).toInt ≤ (ps_i s 1131 51).toInt from by omega) (show (ps_i s 1131 51).toInt ≤ (ps_i s0 1131 51).toInt + 36 from by omega) (⟨[], hM, by decide, Or.inr ⟨rfl, (by rcases i11_k with z_k | z_k; exact z_k.2; exact absurd z_k.1 (by omega))⟩⟩)

theorem ms_256_42 {x : Nat → Nat → Nat} {t : Int32} {d : Nat} {s0 : ps_S} {σ : mSig} {x1 : Int32} {Q : Option Value → ps_S → Prop} (k : ∀ (s' : ps_S), mJ x t s' → kp [1134, 1149] [34, 50, 51] s0 s' → (As σ (ps_a s' 1134) x1.toInt (ps_i s' 1131 51).toInt) → (OutB (ps_a s0 1134) (ps_a s' 1134) x1.toInt) → ((ps_i s0 1131 51).toInt ≤ (ps_i s' 1131 51).toInt) → ((ps_i s' 1131 51).toInt ≤ (ps_i s0 1131 51).toInt + 36) → (Res σ (ps_a s' 1149) (ps_i s' 1131 34).toInt (ps_i s' 1131 50).toInt) → Q none s') (x2 : Int32) (x3 : Int32) (s : ps_S) (J : mJ x t s) (K : kp [1134, 1149] [34, 50, 51] s0 s) (hS : Sg (ps_a s 1135) (ps_a s 1136) (ps_a s 1138) (ps_a s 1139) (ps_i s 1131 21).toInt σ) (hC : SC σ (ps_a s 1134) (ps_a s 1157) (ps_a s 1152) (ps_a s 1153) (ps_a s 1154) (ps_a s 1155) (ps_i s 1131 21).toInt x1.toInt) (hA : As σ (ps_a s 1134) x1.toInt (ps_i s 1131 51).toInt) (hM : Md (ps_a s 1149) (ps_i s 1131 34).toInt ([] : List Nat)) (hO : OutB (ps_a s0 1134) (ps_a s 1134) x1.toInt) (i5_k : 0 ≤ x1.toInt) (i6_k : x1.toInt < 40) (i7_k : (ps_i s0 1131 51).toInt ≤ 100) (i8_k : (ps_i s 1131 51).toInt = (ps_i s0 1131 51).toInt) (i9_k : (ps_a s 1152 (Int32.toNatClampNeg x1)).toInt = 8) (i10_k : x2.toInt = 41 * (ps_a s 1153 (Int32.toNatClampNeg x1)).toInt) (i11_k : (x3.toInt = 0) ∨ (x3.toInt = 1 ∧ (ps_a s 1134 (Int32.toNatClampNeg ((x2 + 1) + 0))).toInt = 2)) : ps_At (d + 4) 256 42 [(0, .ref 1131), (1, .int x1), (2, .int x2), (3, .int x3)] [] s Q := by
  have r1_k := mf_51 J
  have r2_k : 0 ≤ (ps_a s 1152 (Int32.toNatClampNeg x1)).toInt ∧ (ps_a s 1152 (Int32.toNatClampNeg x1)).toInt ≤ 18 := ma_1152 (i := x1) J (show 0 ≤ x1.toInt from by omega) (show x1.toInt < 40 from by omega)
  have r3_k : -1 ≤ (ps_a s 1153 (Int32.toNatClampNeg x1)).toInt ∧ (ps_a s 1153 (Int32.toNatClampNeg x1)).toInt ≤ 9999 := ma_1153 (i := x1) J (show 0 ≤ x1.toInt from by omega) (show x1.toInt < 40 from by omega)
  refine pg_256_42 (d := d + 3) ?_
  refine ms_241 J (show 1 ≤ (2 : Int) from by omega) (show (2 : Int) ≤ 5 from by omega) (fun s4 J4 K4 p4_0 => ?_)
  have K5 := kpt K K4 rfl rfl
  have KC := K4
  have hS : Sg (ps_a s4 1135) (ps_a s4 1136) (ps_a s4 1138) (ps_a s4 1139) (ps_i s4 1131 21).toInt σ := by rw [show ps_a s4 1135 = ps_a s 1135 from (K4.2 1135 rfl).1, show ps_a s4 1136 = ps_a s 1136 from (K4.2 1136 rfl).1, show ps_a s4 1138 = ps_a s 1138 from (K4.2 1138 rfl).1, show ps_a s4 1139 = ps_a s 1139 from (K4.2 1139 rfl).1, show ps_i s4 1131 21 = ps_i s 1131 21 from kp_i K4 21 rfl]; exact hS
  have hC : SC σ (ps_a s4 1134) (ps_a s4 1157) (ps_a s4 1152) (ps_a s4 1153) (ps_a s4 1154) (ps_a s4 1155) (ps_i s4 1131 21).toInt x1.toInt := by rw [show ps_a s4 1134 = ps_a s 1134 from (K4.2 1134 rfl).1, show ps_a s4 1157 = ps_a s 1157 from (K4.2 1157 rfl).1, show ps_a s4 1152 = ps_a s 1152 from (K4.2 1152 rfl).1, show ps_a s4 1153 = ps_a s 1153 from (K4.2 1153 rfl).1, show ps_a s4 1154 = ps_a s 1154 from (K4.2 1154 rfl).1, show ps_a s4 1155 = ps_a s 1155 from (K4.2 1155 rfl).1, show ps_i s4 1131 21 = ps_i s 1131 21 from kp_i K4 21 rfl]; exact hC
  have hA : As σ (ps_a s4 1134) x1.toInt (ps_i s4 1131 51).toInt := by rw [show ps_a s4 1134 = ps_a s 1134 from (K4.2 1134 rfl).1, show ps_i s4 1131 51 = ps_i s 1131 51 from kp_i K4 51 rfl]; exact hA
  have hM : Md (ps_a s4 1149) (ps_i s4 1131 34).toInt ([] : List Nat) := by rw [show ps_a s4 1149 = ps_a s 1149 from (K4.2 1149 rfl).1, show ps_i s4 1131 34 = ps_i s 1131 34 from kp_i K4 34 rfl]; exact hM
  have hO : OutB (ps_a s0 1134) (ps_a s4 1134) x1.toInt := by rw [show ps_a s4 1134 = ps_a s 1134 from (K4.2 1134 rfl).1]; exact hO
  have p4_0' : 1 ≤ (ps_i s4 1131 50).toInt := p4_0
  have r6_k := mf_50 J4
  have r7_k := mf_51 J4
  have u8 : (ps_i s4 1131 51).toInt = (ps_i s 1131 51).toInt := xeq (kp_i K4 51 rfl)
  have r9_k : 0 ≤ (ps_a s4 1152 (Int32.toNatClampNeg x1)).toInt ∧ (ps_a s4 1152 (Int32.toNatClampNeg x1)).toInt ≤ 18 := ma_1152 (i := x1) J4 (show 0 ≤ x1.toInt from by omega) (show x1.toInt < 40 from by omega)
  have u10 : (ps_a s4 1152 (Int32.toNatClampNeg x1)).toInt = (ps_a s 1152 (Int32.toNatClampNeg x1)).toInt := xeq (kp_a K4 1152 rfl _)
  have r11_k : -1 ≤ (ps_a s4 1153 (Int32.toNatClampNeg x1)).toInt ∧ (ps_a s4 1153 (Int32.toNatClampNeg x1)).toInt ≤ 9999 := ma_1153 (i := x1) J4 (show 0 ≤ x1.toInt from by omega) (show x1.toInt < 40 from by omega)
  have u12 : (ps_a s4 1153 (Int32.toNatClampNeg x1)).toInt = (ps_a s 1153 (Int32.toNatClampNeg x1)).toInt := xeq (kp_a K4 1153 rfl _)
  exact ms_256_47 (x1 := x1) (σ := σ) k  x2 x3 _ J4 K5 hS hC hA hM hO (show 0 ≤ x1.toInt from by omega) (show x1.toInt < 40 from by omega) (show (ps_i s0 1131 51).toInt ≤ 100 from by omega) (show (ps_i s4 1131 51).toInt = (ps_i s0 1131 51).toInt from by omega) (show (ps_a s4 1152 (Int32.toNatClampNeg x1)).toInt = 8 from by omega) (show x2.toInt = 41 * (ps_a s4 1153 (Int32.toNatClampNeg x1)).toInt from by omega) ((by rcases i11_k with z_k | z_k; exact Or.inl ⟨z_k, show 1 ≤ (ps_i s4 1131 50).toInt from by omega⟩; exact Or.inr ⟨z_k.1, (by rw [show ps_a s4 1134 = ps_a s 1134 from (KC.2 1134 rfl).1]; exact z_k.2)⟩))

theorem ms_256 {x : Nat → Nat → Nat} {t : Int32} {s : ps_S} {d : Nat} {x1 : Int32} {f : ps_S → Prop} (J : mJ x t s) {σ : mSig} (hS : Sg (ps_a s 1135) (ps_a s 1136) (ps_a s 1138) (ps_a s 1139) (ps_i s 1131 21).toInt σ) (hC : SC σ (ps_a s 1134) (ps_a s 1157) (ps_a s 1152) (ps_a s 1153) (ps_a s 1154) (ps_a s 1155) (ps_i s 1131 21).toInt x1.toInt) (hA : As σ (ps_a s 1134) x1.toInt (ps_i s 1131 51).toInt) (hM : Md (ps_a s 1149) (ps_i s 1131 34).toInt ([] : List Nat)) (q4_k : 0 ≤ x1.toInt) (q5_k : x1.toInt < 40) (q6_k : (ps_i s 1131 51).toInt ≤ 100) (q7_k : (ps_a s 1152 (Int32.toNatClampNeg x1)).toInt = 8) (k : ∀ (s' : ps_S), mJ x t s' → kp [1134, 1149] [34, 50, 51] s s' → (As σ (ps_a s' 1134) x1.toInt (ps_i s' 1131 51).toInt) → (OutB (ps_a s 1134) (ps_a s' 1134) x1.toInt) → ((ps_i s 1131 51).toInt ≤ (ps_i s' 1131 51).toInt) → ((ps_i s' 1131 51).toInt ≤ (ps_i s 1131 51).toInt + 36) → (Res σ (ps_a s' 1149) (ps_i s' 1131 34).toInt (ps_i s' 1131 50).toInt) → f s') : ps_Cl (d + 4) 256 [.ref 1131, .int x1] s (ps_rV f) := by
  have r1_k := mf_51 J
  have r2_k : 0 ≤ (ps_a s 1152 (Int32.toNatClampNeg x1)).toInt ∧ (ps_a s 1152 (Int32.toNatClampNeg x1)).toInt ≤ 18 := ma_1152 (i := x1) J (show 0 ≤ x1.toInt from by omega) (show x1.toInt < 40 from by omega)
  have K : kp [1134, 1149] [34, 50, 51] s s := kp_refl
  refine pg_256_0 (d := d + 3) ?_
  have hO : OutB (ps_a s 1134) (ps_a s 1134) x1.toInt := OutB_refl
  have q1_k := SC_l1 hC rfl ⟨by omega, by omega, by omega, by omega⟩
  have q2_k := SC_l2 hC rfl (by omega)
  have q3_k := SC_l3 hC rfl (by omega)
  refine pg_244_0 ?_
  refine ps_nd_i (show pm_in x1 40 = true from xgi (show 0 ≤ x1.toInt from by omega) (show x1.toInt < 40 from by omega)) ?_
  have r3_k : -1 ≤ (ps_a s 1153 (Int32.toNatClampNeg x1)).toInt ∧ (ps_a s 1153 (Int32.toNatClampNeg x1)).toInt ≤ 9999 := ma_1153 (i := x1) J (show 0 ≤ x1.toInt from by omega) (show x1.toInt < 40 from by omega)
  refine pg_242_0 ?_
  have a4_k : ((41 : Int32) * (ps_a s 1153 (Int32.toNatClampNeg x1))).toInt = (41 : Int) * (ps_a s 1153 (Int32.toNatClampNeg x1)).toInt := xIm (show -2147483648 ≤ (41 : Int) * (ps_a s 1153 (Int32.toNatClampNeg x1)).toInt from by omega) (show (41 : Int) * (ps_a s 1153 (Int32.toNatClampNeg x1)).toInt < 2147483648 from by omega)
  have a5_k : ((0 : Int32) + ((41 : Int32) * (ps_a s 1153 (Int32.toNatClampNeg x1)))).toInt = (0 : Int) + ((41 : Int32) * (ps_a s 1153 (Int32.toNatClampNeg x1))).toInt := xIa (show -2147483648 ≤ (0 : Int) + ((41 : Int32) * (ps_a s 1153 (Int32.toNatClampNeg x1))).toInt from by omega) (show (0 : Int) + ((41 : Int32) * (ps_a s 1153 (Int32.toNatClampNeg x1))).toInt < 2147483648 from by omega)
  obtain ⟨l, hl1, hl2⟩ := SC_1i hC rfl ⟨by omega, by omega, by omega, by omega⟩
  have hl1 : Rw (ps_a s 1134) (((0 : Int32) + ((41 : Int32) * (ps_a s 1153 (Int32.toNatClampNeg x1))))).toInt l := by rw [show (((0 : Int32) + ((41 : Int32) * (ps_a s 1153 (Int32.toNatClampNeg x1))))).toInt = 41 * (ps_a s 1153 (Int32.toNatClampNeg x1)).toInt from by omega]; exact hl1
  obtain ⟨c, l3, rfl⟩ := wf_ne hl2
  have hp_k := Rw_p (l1 := []) (i := 0) hl1 rfl rfl
  have w1 := hl1.1
  have w2 := hl1.2.1
  have w3 := hl1.2.2.1
  refine pg_247_0 ?_
  refine pg_220_0 ?_
  have a6_k : (((0 : Int32) + ((41 : Int32) * (ps_a s 1153 (Int32.toNatClampNeg x1)))) + 1).toInt = ((0 : Int32) + ((41 : Int32) * (ps_a s 1153 (Int32.toNatClampNeg x1)))).toInt + (1 : Int) := xIa (show -2147483648 ≤ ((0 : Int32) + ((41 : Int32) * (ps_a s 1153 (Int32.toNatClampNeg x1)))).toInt + (1 : Int) from by omega) (show ((0 : Int32) + ((41 : Int32) * (ps_a s 1153 (Int32.toNatClampNeg x1)))).toInt + (1 : Int) < 2147483648 from by omega)
  have a7_k : ((((0 : Int32) + ((41 : Int32) * (ps_a s 1153 (Int32.toNatClampNeg x1)))) + 1) + 0).toInt = (((0 : Int32) + ((41 : Int32) * (ps_a s 1153 (Int32.toNatClampNeg x1)))) + 1).toInt + (0 : Int) := xIa (show -2147483648 ≤ (((0 : Int32) + ((41 : Int32) * (ps_a s 1153 (Int32.toNatClampNeg x1)))) + 1).toInt + (0 : Int) from by omega) (show (((0 : Int32) + ((41 : Int32) * (ps_a s 1153 (Int32.toNatClampNeg x1)))) + 1).toInt + (0 : Int) < 2147483648 from by omega)
  refine ps_nd_i (show pm_in ((((0 : Int32) + ((41 : Int32) * (ps_a s 1153 (Int32.toNatClampNeg x1)))) + 1) + 0) 27400 = true from xgi (show 0 ≤ ((((0 : Int32) + ((41 : Int32) * (ps_a s 1153 (Int32.toNatClampNeg x1)))) + 1) + 0).toInt from by omega) (show ((((0 : Int32) + ((41 : Int32) * (ps_a s 1153 (Int32.toNatClampNeg x1)))) + 1) + 0).toInt < 27400 from by omega)) ?_
  have r8_k : ((((0 : Int32) + ((41 : Int32) * (ps_a s 1153 (Int32.toNatClampNeg x1)))) + 1) + 0).toInt % 41 = 0 → ((((0 : Int32) + ((41 : Int32) * (ps_a s 1153 (Int32.toNatClampNeg x1)))) + 1) + 0).toInt < 27306 → 0 ≤ (ps_a s 1134 (Int32.toNatClampNeg ((((0 : Int32) + ((41 : Int32) * (ps_a s 1153 (Int32.toNatClampNeg x1)))) + 1) + 0))).toInt ∧ (ps_a s 1134 (Int32.toNatClampNeg ((((0 : Int32) + ((41 : Int32) * (ps_a s 1153 (Int32.toNatClampNeg x1)))) + 1) + 0))).toInt ≤ 40 := fun z1_k z2_k => mp_row (i := ((((0 : Int32) + ((41 : Int32) * (ps_a s 1153 (Int32.toNatClampNeg x1)))) + 1) + 0)) J z1_k (show 0 ≤ ((((0 : Int32) + ((41 : Int32) * (ps_a s 1153 (Int32.toNatClampNeg x1)))) + 1) + 0).toInt from by omega) z2_k
  refine And.intro (fun h9_k => ?_) (fun h9_k => ?_)
  · have f10_k : (ps_a s 1134 (Int32.toNatClampNeg ((((0 : Int32) + ((41 : Int32) * (ps_a s 1153 (Int32.toNatClampNeg x1)))) + 1) + 0))).toInt ≠ (2 : Int) := xne h9_k
    refine And.intro (fun h11_k => ?_) (fun h11_k => ?_)
    · exact ms_256_42 (x1 := x1) (σ := σ) k  ((0 : Int32) + ((41 : Int32) * (ps_a s 1153 (Int32.toNatClampNeg x1)))) (0) _ J K hS hC hA hM hO (show 0 ≤ x1.toInt from by omega) (show x1.toInt < 40 from by omega) (show (ps_i s 1131 51).toInt ≤ 100 from by omega) (show (ps_i s 1131 51).toInt = (ps_i s 1131 51).toInt from by omega) (show (ps_a s 1152 (Int32.toNatClampNeg x1)).toInt = 8 from by omega) (show ((0 : Int32) + ((41 : Int32) * (ps_a s 1153 (Int32.toNatClampNeg x1)))).toInt = 41 * (ps_a s 1153 (Int32.toNatClampNeg x1)).toInt from by omega) ((by first | exact Or.inl rfl | exact Or.inr ⟨rfl, (show (ps_a s 1134 (Int32.toNatClampNeg (((0 : Int32) + ((41 : Int32) * (ps_a s 1153 (Int32.toNatClampNeg x1)))) + 1 + 0))).toInt = 2 from by omega)⟩))
    · exact absurd (show (0 : Int32) ≠ (0 : Int32) from h11_k) (by decide)
  · have f12_k : (ps_a s 1134 (Int32.toNatClampNeg ((((0 : Int32) + ((41 : Int32) * (ps_a s 1153 (Int32.toNatClampNeg x1)))) + 1) + 0))).toInt = (2 : Int) := xeq h9_k
    refine And.intro (fun h13_k => ?_) (fun h13_k => ?_)
    · exact absurd (show (1 : Int32) = (0 : Int32) from h13_k) (by decide)
    · have f14_k : (1 : Int) ≠ (0 : Int) := xne h13_k
      refine pg_245_0 ?_
      refine ps_nd_i (show pm_in x1 40 = true from xgi (show 0 ≤ x1.toInt from by omega) (show x1.toInt < 40 from by omega)) ?_
      have r15_k : 0 ≤ (ps_a s 1154 (Int32.toNatClampNeg x1)).toInt ∧ (ps_a s 1154 (Int32.toNatClampNeg x1)).toInt ≤ 9999 := ma_1154 (i := x1) J (show 0 ≤ x1.toInt from by omega) (show x1.toInt < 40 from by omega)
      refine pg_242_0 ?_
      have a16_k : ((41 : Int32) * (ps_a s 1154 (Int32.toNatClampNeg x1))).toInt = (41 : Int) * (ps_a s 1154 (Int32.toNatClampNeg x1)).toInt := xIm (show -2147483648 ≤ (41 : Int) * (ps_a s 1154 (Int32.toNatClampNeg x1)).toInt from by omega) (show (41 : Int) * (ps_a s 1154 (Int32.toNatClampNeg x1)).toInt < 2147483648 from by omega)
      have a17_k : ((0 : Int32) + ((41 : Int32) * (ps_a s 1154 (Int32.toNatClampNeg x1)))).toInt = (0 : Int) + ((41 : Int32) * (ps_a s 1154 (Int32.toNatClampNeg x1))).toInt := xIa (show -2147483648 ≤ (0 : Int) + ((41 : Int32) * (ps_a s 1154 (Int32.toNatClampNeg x1))).toInt from by omega) (show (0 : Int) + ((41 : Int32) * (ps_a s 1154 (Int32.toNatClampNeg x1))).toInt < 2147483648 from by omega)
      refine pg_246_0 ?_
      refine ps_nd_i (show pm_in x1 40 = true from xgi (show 0 ≤ x1.toInt from by omega) (show x1.toInt < 40 from by omega)) ?_
      have r18_k : 0 ≤ (ps_a s 1155 (Int32.toNatClampNeg x1)).toInt ∧ (ps_a s 1155 (Int32.toNatClampNeg x1)).toInt ≤ 9999 := ma_1155 (i := x1) J (show 0 ≤ x1.toInt from by omega) (show x1.toInt < 40 from by omega)
      refine pg_242_0 ?_
      have a19_k : ((41 : Int32) * (ps_a s 1155 (Int32.toNatClampNeg x1))).toInt = (41 : Int) * (ps_a s 1155 (Int32.toNatClampNeg x1)).toInt := xIm (show -2147483648 ≤ (41 : Int) * (ps_a s 1155 (Int32.toNatClampNeg x1)).toInt from by omega) (show (41 : Int) * (ps_a s 1155 (Int32.toNatClampNeg x1)).toInt < 2147483648 from by omega)
      have a20_k : ((0 : Int32) + ((41 : Int32) * (ps_a s 1155 (Int32.toNatClampNeg x1)))).toInt = (0 : Int) + ((41 : Int32) * (ps_a s 1155 (Int32.toNatClampNeg x1))).toInt := xIa (show -2147483648 ≤ (0 : Int) + ((41 : Int32) * (ps_a s 1155 (Int32.toNatClampNeg x1))).toInt from by omega) (show (0 : Int) + ((41 : Int32) * (ps_a s 1155 (Int32.toNatClampNeg x1))).toInt < 2147483648 from by omega)
      refine ms_222 J (show ((0 : Int32) + ((41 : Int32) * (ps_a s 1154 (Int32.toNatClampNeg x1)))).toInt % 41 = 0 from by omega) (show 0 ≤ ((0 : Int32) + ((41 : Int32) * (ps_a s 1154 (Int32.toNatClampNeg x1)))).toInt from by omega) (show ((0 : Int32) + ((41 : Int32) * (ps_a s 1154 (Int32.toNatClampNeg x1)))).toInt < 27306 from by omega) (show ((0 : Int32) + ((41 : Int32) * (ps_a s 1155 (Int32.toNatClampNeg x1)))).toInt % 41 = 0 from by omega) (show 0 ≤ ((0 : Int32) + ((41 : Int32) * (ps_a s 1155 (Int32.toNatClampNeg x1)))).toInt from by omega) (show ((0 : Int32) + ((41 : Int32) * (ps_a s 1155 (Int32.toNatClampNeg x1)))).toInt < 27306 from by omega) (fun v21 b21 => ?_)
      refine And.intro (fun h22_k => ?_) (fun h22_k => ?_)
      · have f23_k : v21.toInt ≠ (0 : Int) := xne h22_k
        exact ms_256_47 (x1 := x1) (σ := σ) k  ((0 : Int32) + ((41 : Int32) * (ps_a s 1153 (Int32.toNatClampNeg x1)))) (1) _ J K hS hC hA hM hO (show 0 ≤ x1.toInt from by omega) (show x1.toInt < 40 from by omega) (show (ps_i s 1131 51).toInt ≤ 100 from by omega) (show (ps_i s 1131 51).toInt = (ps_i s 1131 51).toInt from by omega) (show (ps_a s 1152 (Int32.toNatClampNeg x1)).toInt = 8 from by omega) (show ((0 : Int32) + ((41 : Int32) * (ps_a s 1153 (Int32.toNatClampNeg x1)))).toInt = 41 * (ps_a s 1153 (Int32.toNatClampNeg x1)).toInt from by omega) (Or.inr ⟨rfl, (show (ps_a s 1134 (Int32.toNatClampNeg (((0 : Int32) + ((41 : Int32) * (ps_a s 1153 (Int32.toNatClampNeg x1)))) + 1 + 0))).toInt = 2 from by omega)⟩)
      · have f24_k : v21.toInt = (0 : Int) := xeq h22_k
        exact ms_256_42 (x1 := x1) (σ := σ) k  ((0 : Int32) + ((41 : Int32) * (ps_a s 1153 (Int32.toNatClampNeg x1)))) (1) _ J K hS hC hA hM hO (show 0 ≤ x1.toInt from by omega) (show x1.toInt < 40 from by omega) (show (ps_i s 1131 51).toInt ≤ 100 from by omega) (show (ps_i s 1131 51).toInt = (ps_i s 1131 51).toInt from by omega) (show (ps_a s 1152 (Int32.toNatClampNeg x1)).toInt = 8 from by omega) (show ((0 : Int32) + ((41 : Int32) * (ps_a s 1153 (Int32.toNatClampNeg x1)))).toInt = 41 * (ps_a s 1153 (Int32.toNatClampNeg x1)).toInt from by omega) ((by first | exact Or.inl rfl | exact Or.inr ⟨rfl, (show (ps_a s 1134 (Int32.toNatClampNeg (((0 : Int32) + ((41 : Int32) * (ps_a s 1153 (Int32.toNatClampNeg x1)))) + 1 + 0))).toInt = 2 from by omega)⟩))
