set_option maxRecDepth 100000
-- ProofBenchModel.takesStep(I)V
theorem pg_252_0 {d : Nat} {x1 : Int32} {s : ps_S} {Q : Option Value → ps_S → Prop} (h :
  ps_nd (pm_in x1 40) (((ps_a (ps_ui (ps_ui (ps_ui s 1131 50 0) 1131 51 0) 1131 34 0) 1152 (Int32.toNatClampNeg x1)) ≠ 1 →
    ps_nd (pm_in x1 40) (ps_nd (pm_in x1 40) (((ps_a (ps_ua (ps_ui (ps_ui (ps_ui s 1131 50 0) 1131 51 0) 1131 34 0) 1158 (Int32.toNatClampNeg x1) 0) 1152 (Int32.toNatClampNeg x1)) ≠ 2 →
      ps_nd (pm_in x1 40) (ps_At (d + 1) 252 84 [(0, .ref 1131), (1, .int x1)] [] (ps_ua (ps_ua (ps_ui (ps_ui (ps_ui s 1131 50 0) 1131 51 0) 1131 34 0) 1158 (Int32.toNatClampNeg x1) 0) 1159 (Int32.toNatClampNeg x1) 0) Q)) ∧
    ((ps_a (ps_ua (ps_ui (ps_ui (ps_ui s 1131 50 0) 1131 51 0) 1131 34 0) 1158 (Int32.toNatClampNeg x1) 0) 1152 (Int32.toNatClampNeg x1)) = 2 →
      ps_nd (pm_in x1 40) (((ps_i (ps_ua (ps_ui (ps_ui (ps_ui s 1131 50 0) 1131 51 0) 1131 34 0) 1158 (Int32.toNatClampNeg x1) 0) 1131 54) ≤ (ps_a (ps_ua (ps_ui (ps_ui (ps_ui s 1131 50 0) 1131 51 0) 1131 34 0) 1158 (Int32.toNatClampNeg x1) 0) 1153 (Int32.toNatClampNeg x1)) →
        ps_nd (pm_in x1 40) (ps_At (d + 1) 252 84 [(0, .ref 1131), (1, .int x1)] [] (ps_ua (ps_ua (ps_ui (ps_ui (ps_ui s 1131 50 0) 1131 51 0) 1131 34 0) 1158 (Int32.toNatClampNeg x1) 0) 1159 (Int32.toNatClampNeg x1) 0) Q)) ∧
      ((ps_a (ps_ua (ps_ui (ps_ui (ps_ui s 1131 50 0) 1131 51 0) 1131 34 0) 1158 (Int32.toNatClampNeg x1) 0) 1153 (Int32.toNatClampNeg x1)) < (ps_i (ps_ua (ps_ui (ps_ui (ps_ui s 1131 50 0) 1131 51 0) 1131 34 0) 1158 (Int32.toNatClampNeg x1) 0) 1131 54) →
        ps_nd (pm_in x1 40) (ps_nd (pm_in x1 40) (ps_At (d + 1) 252 84 [(0, .ref 1131), (1, .int x1)] [] (ps_ua (ps_ua (ps_ui (ps_ui (ps_ui s 1131 50 0) 1131 51 0) 1131 34 0) 1158 (Int32.toNatClampNeg x1) 0) 1159 (Int32.toNatClampNeg x1) ((1 : Int32) <<< ((ps_a (ps_ua (ps_ui (ps_ui (ps_ui s 1131 50 0) 1131 51 0) 1131 34 0) 1158 (Int32.toNatClampNeg x1) 0) 1153 (Int32.toNatClampNeg x1)) &&& 31))) Q)))))))) ∧
  ((ps_a (ps_ui (ps_ui (ps_ui s 1131 50 0) 1131 51 0) 1131 34 0) 1152 (Int32.toNatClampNeg x1)) = 1 →
    ps_nd (pm_in x1 40) (ps_nd (pm_in x1 40) (ps_nd (pm_in x1 40) (((ps_a (ps_ua (ps_ui (ps_ui (ps_ui s 1131 50 0) 1131 51 0) 1131 34 0) 1158 (Int32.toNatClampNeg x1) ((1 : Int32) <<< ((ps_a (ps_ui (ps_ui (ps_ui s 1131 50 0) 1131 51 0) 1131 34 0) 1153 (Int32.toNatClampNeg x1)) &&& 31))) 1152 (Int32.toNatClampNeg x1)) ≠ 2 →
      ps_nd (pm_in x1 40) (ps_At (d + 1) 252 84 [(0, .ref 1131), (1, .int x1)] [] (ps_ua (ps_ua (ps_ui (ps_ui (ps_ui s 1131 50 0) 1131 51 0) 1131 34 0) 1158 (Int32.toNatClampNeg x1) ((1 : Int32) <<< ((ps_a (ps_ui (ps_ui (ps_ui s 1131 50 0) 1131 51 0) 1131 34 0) 1153 (Int32.toNatClampNeg x1)) &&& 31))) 1159 (Int32.toNatClampNeg x1) 0) Q)) ∧
    ((ps_a (ps_ua (ps_ui (ps_ui (ps_ui s 1131 50 0) 1131 51 0) 1131 34 0) 1158 (Int32.toNatClampNeg x1) ((1 : Int32) <<< ((ps_a (ps_ui (ps_ui (ps_ui s 1131 50 0) 1131 51 0) 1131 34 0) 1153 (Int32.toNatClampNeg x1)) &&& 31))) 1152 (Int32.toNatClampNeg x1)) = 2 →
      ps_nd (pm_in x1 40) (((ps_i (ps_ua (ps_ui (ps_ui (ps_ui s 1131 50 0) 1131 51 0) 1131 34 0) 1158 (Int32.toNatClampNeg x1) ((1 : Int32) <<< ((ps_a (ps_ui (ps_ui (ps_ui s 1131 50 0) 1131 51 0) 1131 34 0) 1153 (Int32.toNatClampNeg x1)) &&& 31))) 1131 54) ≤ (ps_a (ps_ua (ps_ui (ps_ui (ps_ui s 1131 50 0) 1131 51 0) 1131 34 0) 1158 (Int32.toNatClampNeg x1) ((1 : Int32) <<< ((ps_a (ps_ui (ps_ui (ps_ui s 1131 50 0) 1131 51 0) 1131 34 0) 1153 (Int32.toNatClampNeg x1)) &&& 31))) 1153 (Int32.toNatClampNeg x1)) →
        ps_nd (pm_in x1 40) (ps_At (d + 1) 252 84 [(0, .ref 1131), (1, .int x1)] [] (ps_ua (ps_ua (ps_ui (ps_ui (ps_ui s 1131 50 0) 1131 51 0) 1131 34 0) 1158 (Int32.toNatClampNeg x1) ((1 : Int32) <<< ((ps_a (ps_ui (ps_ui (ps_ui s 1131 50 0) 1131 51 0) 1131 34 0) 1153 (Int32.toNatClampNeg x1)) &&& 31))) 1159 (Int32.toNatClampNeg x1) 0) Q)) ∧
      ((ps_a (ps_ua (ps_ui (ps_ui (ps_ui s 1131 50 0) 1131 51 0) 1131 34 0) 1158 (Int32.toNatClampNeg x1) ((1 : Int32) <<< ((ps_a (ps_ui (ps_ui (ps_ui s 1131 50 0) 1131 51 0) 1131 34 0) 1153 (Int32.toNatClampNeg x1)) &&& 31))) 1153 (Int32.toNatClampNeg x1)) < (ps_i (ps_ua (ps_ui (ps_ui (ps_ui s 1131 50 0) 1131 51 0) 1131 34 0) 1158 (Int32.toNatClampNeg x1) ((1 : Int32) <<< ((ps_a (ps_ui (ps_ui (ps_ui s 1131 50 0) 1131 51 0) 1131 34 0) 1153 (Int32.toNatClampNeg x1)) &&& 31))) 1131 54) →
        ps_nd (pm_in x1 40) (ps_nd (pm_in x1 40) (ps_At (d + 1) 252 84 [(0, .ref 1131), (1, .int x1)] [] (ps_ua (ps_ua (ps_ui (ps_ui (ps_ui s 1131 50 0) 1131 51 0) 1131 34 0) 1158 (Int32.toNatClampNeg x1) ((1 : Int32) <<< ((ps_a (ps_ui (ps_ui (ps_ui s 1131 50 0) 1131 51 0) 1131 34 0) 1153 (Int32.toNatClampNeg x1)) &&& 31))) 1159 (Int32.toNatClampNeg x1) ((1 : Int32) <<< ((ps_a (ps_ua (ps_ui (ps_ui (ps_ui s 1131 50 0) 1131 51 0) 1131 34 0) 1158 (Int32.toNatClampNeg x1) ((1 : Int32) <<< ((ps_a (ps_ui (ps_ui (ps_ui s 1131 50 0) 1131 51 0) 1131 34 0) 1153 (Int32.toNatClampNeg x1)) &&& 31))) 1153 (Int32.toNatClampNeg x1)) &&& 31))) Q))))))))))) : ps_At (d + 1) 252 0 [(0, .ref 1131), (1, .int x1)] [] s Q :=
  ps_wp_at (stops := [(84, [0, 1]), (146, [0, 1, 2]), (162, [0, 1, 2]), (178, [0, 1]), (219, [0, 1]), (232, [0, 1]), (248, [0, 1]), (253, [0, 1])]) (n := 86) h rfl

theorem pg_252_84 {d : Nat} {x1 : Int32} {s : ps_S} {Q : Option Value → ps_S → Prop} (h :
  ps_nd (pm_in x1 40) (ps_Cl d 250 [.ref 1131, .int x1] (ps_ub s 1160 (Int32.toNatClampNeg x1) ((1 : Int64) <<< (Int32.toInt64 x1 &&& 63))) (ps_rI (fun v1 s1 =>
    (v1 ≠ 0 →
      ps_nd (pm_in x1 40) (((ps_a s1 1152 (Int32.toNatClampNeg x1)) ≠ 2 →
        ps_nd (pm_in x1 40) (ps_Cl d 234 [.int (ps_a s1 1152 (Int32.toNatClampNeg x1))] s1 (ps_rI (fun v2 s2 =>
          (v2 ≤ 0 →
            ps_At (d + 1) 252 146 [(0, .ref 1131), (1, .int x1), (2, .int v2)] [] s2 Q) ∧
          (0 < v2 →
            ps_nd (pm_in x1 40) (ps_Cl d 251 [.ref 1131, .int x1, .int (ps_a s2 1153 (Int32.toNatClampNeg x1))] s2 (ps_rV (fun s3 =>
              ps_At (d + 1) 252 146 [(0, .ref 1131), (1, .int x1), (2, .int v2)] [] s3 Q)))))))) ∧
      ((ps_a s1 1152 (Int32.toNatClampNeg x1)) = 2 →
        ((0 : Int32) ≤ 0 →
          ps_At (d + 1) 252 146 [(0, .ref 1131), (1, .int x1), (2, .int 0)] [] s1 Q) ∧
        ((0 : Int32) < (0 : Int32) →
          ps_nd (pm_in x1 40) (ps_Cl d 251 [.ref 1131, .int x1, .int (ps_a s1 1153 (Int32.toNatClampNeg x1))] s1 (ps_rV (fun s4 =>
            ps_At (d + 1) 252 146 [(0, .ref 1131), (1, .int x1), (2, .int 0)] [] s4 Q))))))) ∧
    (v1 = 0 →
      ps_Cl d 241 [.ref 1131, .int 1] s1 (ps_rV (fun s5 =>
        Q none s5))))))) : ps_At (d + 1) 252 84 [(0, .ref 1131), (1, .int x1)] [] s Q :=
  ps_wp_at (stops := [(84, [0, 1]), (146, [0, 1, 2]), (162, [0, 1, 2]), (178, [0, 1]), (219, [0, 1]), (232, [0, 1]), (248, [0, 1]), (253, [0, 1])]) (n := 50) h rfl

theorem pg_252_146 {d : Nat} {x1 : Int32} {x2 : Int32} {s : ps_S} {Q : Option Value → ps_S → Prop} (h :
  (x2 ≤ 1 →
    ps_At (d + 1) 252 162 [(0, .ref 1131), (1, .int x1), (2, .int x2)] [] s Q) ∧
  (1 < x2 →
    ps_nd (pm_in x1 40) (ps_Cl d 251 [.ref 1131, .int x1, .int (ps_a s 1154 (Int32.toNatClampNeg x1))] s (ps_rV (fun s1 =>
      ps_At (d + 1) 252 162 [(0, .ref 1131), (1, .int x1), (2, .int x2)] [] s1 Q))))) : ps_At (d + 1) 252 146 [(0, .ref 1131), (1, .int x1), (2, .int x2)] [] s Q :=
  ps_wp_at (stops := [(84, [0, 1]), (146, [0, 1, 2]), (162, [0, 1, 2]), (178, [0, 1]), (219, [0, 1]), (232, [0, 1]), (248, [0, 1]), (253, [0, 1])]) (n := 12) h rfl

theorem pg_252_162 {d : Nat} {x1 : Int32} {x2 : Int32} {s : ps_S} {Q : Option Value → ps_S → Prop} (h :
  (x2 ≤ 2 →
    ps_At (d + 1) 252 178 [(0, .ref 1131), (1, .int x1)] [] s Q) ∧
  (2 < x2 →
    ps_nd (pm_in x1 40) (ps_Cl d 251 [.ref 1131, .int x1, .int (ps_a s 1155 (Int32.toNatClampNeg x1))] s (ps_rV (fun s1 =>
      ps_At (d + 1) 252 178 [(0, .ref 1131), (1, .int x1)] [] s1 Q))))) : ps_At (d + 1) 252 162 [(0, .ref 1131), (1, .int x1), (2, .int x2)] [] s Q :=
  ps_wp_at (stops := [(84, [0, 1]), (146, [0, 1, 2]), (162, [0, 1, 2]), (178, [0, 1]), (219, [0, 1]), (232, [0, 1]), (248, [0, 1]), (253, [0, 1])]) (n := 12) h rfl

theorem pg_252_178 {d : Nat} {x1 : Int32} {s : ps_S} {Q : Option Value → ps_S → Prop} (h :
  ps_nd (pm_in x1 40) ((8 ≤ (ps_a s 1152 (Int32.toNatClampNeg x1)) →
    ps_nd (pm_in x1 40) (((ps_a s 1152 (Int32.toNatClampNeg x1)) < 11 →
      ps_At (d + 1) 252 219 [(0, .ref 1131), (1, .int x1)] [] s Q) ∧
    (11 ≤ (ps_a s 1152 (Int32.toNatClampNeg x1)) →
      ps_nd (pm_in x1 40) (((ps_a s 1152 (Int32.toNatClampNeg x1)) ≤ 16 →
        ps_Cl d 257 [.ref 1131, .int x1] s (ps_rV (fun s1 =>
          ps_At (d + 1) 252 232 [(0, .ref 1131), (1, .int x1)] [] s1 Q))) ∧
      (16 < (ps_a s 1152 (Int32.toNatClampNeg x1)) →
        ps_At (d + 1) 252 219 [(0, .ref 1131), (1, .int x1)] [] s Q))))) ∧
  ((ps_a s 1152 (Int32.toNatClampNeg x1)) < 8 →
    ps_Cl d 253 [.ref 1131, .int x1] s (ps_rV (fun s2 =>
      ps_At (d + 1) 252 232 [(0, .ref 1131), (1, .int x1)] [] s2 Q))))) : ps_At (d + 1) 252 178 [(0, .ref 1131), (1, .int x1)] [] s Q :=
  ps_wp_at (stops := [(84, [0, 1]), (146, [0, 1, 2]), (162, [0, 1, 2]), (178, [0, 1]), (219, [0, 1]), (232, [0, 1]), (248, [0, 1]), (253, [0, 1])]) (n := 27) h rfl

theorem pg_252_219 {d : Nat} {x1 : Int32} {s : ps_S} {Q : Option Value → ps_S → Prop} (h :
  ps_Cl d 255 [.ref 1131, .int x1] s (ps_rV (fun s1 =>
    ps_At (d + 1) 252 232 [(0, .ref 1131), (1, .int x1)] [] s1 Q))) : ps_At (d + 1) 252 219 [(0, .ref 1131), (1, .int x1)] [] s Q :=
  ps_wp_at (stops := [(84, [0, 1]), (146, [0, 1, 2]), (162, [0, 1, 2]), (178, [0, 1]), (219, [0, 1]), (232, [0, 1]), (248, [0, 1]), (253, [0, 1])]) (n := 6) h rfl

theorem pg_252_232 {d : Nat} {x1 : Int32} {s : ps_S} {Q : Option Value → ps_S → Prop} (h :
  (12 < (ps_i s 1131 51) →
    ps_At (d + 1) 252 248 [(0, .ref 1131), (1, .int x1)] [] s Q) ∧
  ((ps_i s 1131 51) ≤ 12 →
    ps_Cl d 228 [.ref 1131] s (ps_rI (fun v1 s1 =>
      (v1 ≠ 0 →
        ps_At (d + 1) 252 253 [(0, .ref 1131), (1, .int x1)] [] s1 Q) ∧
      (v1 = 0 →
        ps_At (d + 1) 252 248 [(0, .ref 1131), (1, .int x1)] [] s1 Q))))) : ps_At (d + 1) 252 232 [(0, .ref 1131), (1, .int x1)] [] s Q :=
  ps_wp_at (stops := [(84, [0, 1]), (146, [0, 1, 2]), (162, [0, 1, 2]), (178, [0, 1]), (219, [0, 1]), (232, [0, 1]), (248, [0, 1]), (253, [0, 1])]) (n := 9) h rfl

theorem pg_252_248 {d : Nat} {x1 : Int32} {s : ps_S} {Q : Option Value → ps_S → Prop} (h :
  ps_Cl d 241 [.ref 1131, .int 5] s (ps_rV (fun s1 =>
    ps_At (d + 1) 252 253 [(0, .ref 1131), (1, .int x1)] [] s1 Q))) : ps_At (d + 1) 252 248 [(0, .ref 1131), (1, .int x1)] [] s Q :=
  ps_wp_at (stops := [(84, [0, 1]), (146, [0, 1, 2]), (162, [0, 1, 2]), (178, [0, 1]), (219, [0, 1]), (232, [0, 1]), (248, [0, 1]), (253, [0, 1])]) (n := 5) h rfl

theorem pg_252_253 {d : Nat} {x1 : Int32} {s : ps_S} {Q : Option Value → ps_S → Prop} (h :
  ((ps_i s 1131 50) ≤ 0 →
    ps_Cl d 242 [.int x1] s (ps_rI (fun v1 s1 =>
      ps_Cl d 229 [.ref 1131, .int v1] s1 (ps_rV (fun s2 =>
        ps_nd (pm_in x1 41) (Q none (ps_ua s2 1157 (Int32.toNatClampNeg x1) (ps_i s2 1131 51)))))))) ∧
  (0 < (ps_i s 1131 50) →
    Q none s)) : ps_At (d + 1) 252 253 [(0, .ref 1131), (1, .int x1)] [] s Q :=
  ps_wp_at (stops := [(84, [0, 1]), (146, [0, 1, 2]), (162, [0, 1, 2]), (178, [0, 1]), (219, [0, 1]), (232, [0, 1]), (248, [0, 1]), (253, [0, 1])]) (n := 17) h rfl

theorem ms_252_253 {x : Nat → Nat → Nat} {t : Int32} {d : Nat} {s0 : ps_S} {σ : mSig} {x1 : Int32} {Q : Option Value → ps_S → Prop} (k : ∀ (s' : ps_S), mJ x t s' → kp [1134, 1149, 1150, 1151, 1157, 1158, 1159, 1160] [34, 50, 51] s0 s' → (PSt σ (ps_a s' 1134) (ps_a s' 1157) x1.toInt) → ((ps_i s' 1131 50).toInt ≤ 0 → PSt σ (ps_a s' 1134) (ps_a s' 1157) (x1.toInt + 1)) → (∀ k : Nat, 21320 ≤ k → ps_a s' 1134 k = ps_a s0 1134 k) → Q none s') (s : ps_S) (J : mJ x t s) (K : kp [1134, 1149, 1150, 1151, 1157, 1158, 1159, 1160] [34, 50, 51] s0 s) (hA : As σ (ps_a s 1134) x1.toInt (ps_i s 1131 51).toInt) (hO : OutB (ps_a s0 1134) (ps_a s 1134) x1.toInt) (hP : PSt σ (ps_a s 1134) (ps_a s 1157) x1.toInt) (i3_k : 0 ≤ x1.toInt) (i4_k : x1.toInt < 40) (i5_k : (ps_i s 1131 51).toInt ≤ 36) (i6_k : 1 ≤ (ps_i s 1131 50).toInt ∨ ((ps_i s 1131 51).toInt ≤ 12 ∧ ∃ ml, Md (ps_a s 1149) (ps_i s 1131 34).toInt ml ∧ ml.length ≤ 40 ∧ wf σ 5 ml [(true, 0)])) : ps_At (d + 6) 252 253 [(0, .ref 1131), (1, .int x1)] [] s Q := by
  have r1_k := mf_51 J
  refine pg_252_253 (d := d + 5) ?_
  have r2_k := mf_50 J
  refine And.intro (fun h3_k => ?_) (fun h3_k => ?_)
  · have f4_k : (ps_i s 1131 50).toInt ≤ (0 : Int) := xle h3_k
    obtain ⟨h12_k, ml, hm1, hm2, hm3⟩ := i6_k.resolve_left (by omega)
    have ex_k : Int32.toNatClampNeg x1 = x1.toInt.toNat := rfl
    refine pg_242_0 ?_
    have a5_k : ((41 : Int32) * x1).toInt = (41 : Int) * x1.toInt := xIm (show -2147483648 ≤ (41 : Int) * x1.toInt from by omega) (show (41 : Int) * x1.toInt < 2147483648 from by omega)
    have a6_k : ((0 : Int32) + ((41 : Int32) * x1)).toInt = (0 : Int) + ((41 : Int32) * x1).toInt := xIa (show -2147483648 ≤ (0 : Int) + ((41 : Int32) * x1).toInt from by omega) (show (0 : Int) + ((41 : Int32) * x1).toInt < 2147483648 from by omega)
    refine ms_229 J (hm1) (show ((0 : Int32) + ((41 : Int32) * x1)).toInt % 41 = 0 from by omega) (show 0 ≤ ((0 : Int32) + ((41 : Int32) * x1)).toInt from by omega) (show ((0 : Int32) + ((41 : Int32) * x1)).toInt < 27306 from by omega) (hm2) (fun s7 J7 K7 p7_0 p7_1 => ?_)
    have K8 := kpt K K7 rfl rfl
    have KC := K7
    have hr : _ := p7_0
    have hu : _ := p7_1
    have r9_k := mf_51 J7
    have u10 : (ps_i s7 1131 51).toInt = (ps_i s 1131 51).toInt := xeq (kp_i K7 51 rfl)
    refine ps_nd_i (show pm_in x1 41 = true from xgi (show 0 ≤ x1.toInt from by omega) (show x1.toInt < 41 from by omega)) ?_
    have J11 := mwa_1157 (i := (Int32.toNatClampNeg x1)) (v := (ps_i s7 1131 51)) J7 (show 0 ≤ (ps_i s7 1131 51).toInt from by omega) (show (ps_i s7 1131 51).toInt ≤ 12 from by omega)
    have K12 := kpa' K8 (r := 1157) (i := (Int32.toNatClampNeg x1)) (v := (ps_i s7 1131 51)) rfl
    have PU : PSt σ (ps_a (ps_ua s7 1157 (Int32.toNatClampNeg x1) (ps_i s7 1131 51)) 1134) (ps_a (ps_ua s7 1157 (Int32.toNatClampNeg x1) (ps_i s7 1131 51)) 1157) (x1.toInt + 1) := PSt_up hP (by omega) (by omega) hA (by have z_k := hr; rw [show ((0 : Int32) + ((41 : Int32) * x1)).toInt = 41 * x1.toInt from by omega] at z_k; exact z_k) hm3 (fun k hk_k => hu k (by omega)) (fun j hj => (ua_ne (by omega)).trans (congrFun (KC.2 1157 rfl).1 j)) (by rw [show ps_a (ps_ua s7 1157 (Int32.toNatClampNeg x1) (ps_i s7 1131 51)) 1157 x1.toInt.toNat = _ from ua_eq]; exact xeq (kp_i KC 51 rfl))
    exact k _ J11 K12 ((PSt_le PU (by omega))) (fun _ => PU) (fun k hk_k => (hu k (by omega)).trans (hO k (by omega)))
  · have f13_k : (0 : Int) < (ps_i s 1131 50).toInt := xlt h3_k
    exact k _ J K hP (fun z_k => absurd z_k (show ¬ ((ps_i s 1131 50).toInt ≤ 0) from by omega)) (fun k hk_k => hO k (by omega))

theorem ms_252_248 {x : Nat → Nat → Nat} {t : Int32} {d : Nat} {s0 : ps_S} {σ : mSig} {x1 : Int32} {Q : Option Value → ps_S → Prop} (k : ∀ (s' : ps_S), mJ x t s' → kp [1134, 1149, 1150, 1151, 1157, 1158, 1159, 1160] [34, 50, 51] s0 s' → (PSt σ (ps_a s' 1134) (ps_a s' 1157) x1.toInt) → ((ps_i s' 1131 50).toInt ≤ 0 → PSt σ (ps_a s' 1134) (ps_a s' 1157) (x1.toInt + 1)) → (∀ k : Nat, 21320 ≤ k → ps_a s' 1134 k = ps_a s0 1134 k) → Q none s') (s : ps_S) (J : mJ x t s) (K : kp [1134, 1149, 1150, 1151, 1157, 1158, 1159, 1160] [34, 50, 51] s0 s) (hA : As σ (ps_a s 1134) x1.toInt (ps_i s 1131 51).toInt) (hO : OutB (ps_a s0 1134) (ps_a s 1134) x1.toInt) (hP : PSt σ (ps_a s 1134) (ps_a s 1157) x1.toInt) (i3_k : 0 ≤ x1.toInt) (i4_k : x1.toInt < 40) (i5_k : (ps_i s 1131 51).toInt ≤ 36) : ps_At (d + 6) 252 248 [(0, .ref 1131), (1, .int x1)] [] s Q := by
  have r1_k := mf_51 J
  refine pg_252_248 (d := d + 5) ?_
  refine ms_241 J (show 1 ≤ (5 : Int) from by omega) (show (5 : Int) ≤ 5 from by omega) (fun s2 J2 K2 p2_0 => ?_)
  have K3 := kpt K K2 rfl rfl
  have KC := K2
  have hA : As σ (ps_a s2 1134) x1.toInt (ps_i s2 1131 51).toInt := by rw [show ps_a s2 1134 = ps_a s 1134 from (K2.2 1134 rfl).1, show ps_i s2 1131 51 = ps_i s 1131 51 from kp_i K2 51 rfl]; exact hA
  have hO : OutB (ps_a s0 1134) (ps_a s2 1134) x1.toInt := by rw [show ps_a s2 1134 = ps_a s 1134 from (K2.2 1134 rfl).1]; exact hO
  have hP : PSt σ (ps_a s2 1134) (ps_a s2 1157) x1.toInt := by rw [show ps_a s2 1134 = ps_a s 1134 from (K2.2 1134 rfl).1, show ps_a s2 1157 = ps_a s 1157 from (K2.2 1157 rfl).1]; exact hP
  have p2_0' : 1 ≤ (ps_i s2 1131 50).toInt := p2_0
  have r4_k := mf_50 J2
  have r5_k := mf_51 J2
  have u6 : (ps_i s2 1131 51).toInt = (ps_i s 1131 51).toInt := xeq (kp_i K2 51 rfl)
  exact ms_252_253 (x1 := x1) (σ := σ) k   _ J2 K3 hA hO hP (show 0 ≤ x1.toInt from by omega) (show x1.toInt < 40 from by omega) (show (ps_i s2 1131 51).toInt ≤ 36 from by omega) (Or.inl (show 1 ≤ (ps_i s2 1131 50).toInt from by omega))

theorem ms_252_232 {x : Nat → Nat → Nat} {t : Int32} {d : Nat} {s0 : ps_S} {σ : mSig} {x1 : Int32} {Q : Option Value → ps_S → Prop} (k : ∀ (s' : ps_S), mJ x t s' → kp [1134, 1149, 1150, 1151, 1157, 1158, 1159, 1160] [34, 50, 51] s0 s' → (PSt σ (ps_a s' 1134) (ps_a s' 1157) x1.toInt) → ((ps_i s' 1131 50).toInt ≤ 0 → PSt σ (ps_a s' 1134) (ps_a s' 1157) (x1.toInt + 1)) → (∀ k : Nat, 21320 ≤ k → ps_a s' 1134 k = ps_a s0 1134 k) → Q none s') (s : ps_S) (J : mJ x t s) (K : kp [1134, 1149, 1150, 1151, 1157, 1158, 1159, 1160] [34, 50, 51] s0 s) (hS : Sg (ps_a s 1135) (ps_a s 1136) (ps_a s 1138) (ps_a s 1139) (ps_i s 1131 21).toInt σ) (hA : As σ (ps_a s 1134) x1.toInt (ps_i s 1131 51).toInt) (hO : OutB (ps_a s0 1134) (ps_a s 1134) x1.toInt) (hP : PSt σ (ps_a s 1134) (ps_a s 1157) x1.toInt) (hRs : Res σ (ps_a s 1149) (ps_i s 1131 34).toInt (ps_i s 1131 50).toInt) (i5_k : 0 ≤ x1.toInt) (i6_k : x1.toInt < 40) (i7_k : (ps_i s 1131 51).toInt ≤ 36) : ps_At (d + 6) 252 232 [(0, .ref 1131), (1, .int x1)] [] s Q := by
  have r1_k := mf_51 J
  refine pg_252_232 (d := d + 5) ?_
  obtain ⟨ml, hm1, hm2, hm3⟩ := id hRs
  have hMl : Md (ps_a s 1149) (ps_i s 1131 34).toInt (ml) := hm1
  refine And.intro (fun h2_k => ?_) (fun h2_k => ?_)
  · have f3_k : (12 : Int) < (ps_i s 1131 51).toInt := xlt h2_k
    exact ms_252_248 (x1 := x1) (σ := σ) k   _ J K hA hO hP (show 0 ≤ x1.toInt from by omega) (show x1.toInt < 40 from by omega) (show (ps_i s 1131 51).toInt ≤ 36 from by omega)
  · have f4_k : (ps_i s 1131 51).toInt ≤ (12 : Int) := xle h2_k
    refine mt_228 J hS (hm1) ((hm3.imp id (fun z_k => z_k.1))) (fun v5 s5 J5 K5 p5_0 b5 => ?_)
    have K6 := kpt K K5 rfl rfl
    have KC := K5
    have hS : Sg (ps_a s5 1135) (ps_a s5 1136) (ps_a s5 1138) (ps_a s5 1139) (ps_i s5 1131 21).toInt σ := by rw [show ps_a s5 1135 = ps_a s 1135 from (K5.2 1135 rfl).1, show ps_a s5 1136 = ps_a s 1136 from (K5.2 1136 rfl).1, show ps_a s5 1138 = ps_a s 1138 from (K5.2 1138 rfl).1, show ps_a s5 1139 = ps_a s 1139 from (K5.2 1139 rfl).1, show ps_i s5 1131 21 = ps_i s 1131 21 from kp_i K5 21 rfl]; exact hS
    have hA : As σ (ps_a s5 1134) x1.toInt (ps_i s5 1131 51).toInt := by rw [show ps_a s5 1134 = ps_a s 1134 from (K5.2 1134 rfl).1, show ps_i s5 1131 51 = ps_i s 1131 51 from kp_i K5 51 rfl]; exact hA
    have hO : OutB (ps_a s0 1134) (ps_a s5 1134) x1.toInt := by rw [show ps_a s5 1134 = ps_a s 1134 from (K5.2 1134 rfl).1]; exact hO
    have hP : PSt σ (ps_a s5 1134) (ps_a s5 1157) x1.toInt := by rw [show ps_a s5 1134 = ps_a s 1134 from (K5.2 1134 rfl).1, show ps_a s5 1157 = ps_a s 1157 from (K5.2 1157 rfl).1]; exact hP
    have hRs : Res σ (ps_a s5 1149) (ps_i s5 1131 34).toInt (ps_i s5 1131 50).toInt := by rw [show ps_a s5 1149 = ps_a s 1149 from (K5.2 1149 rfl).1, show ps_i s5 1131 34 = ps_i s 1131 34 from kp_i K5 34 rfl, show ps_i s5 1131 50 = ps_i s 1131 50 from kp_i K5 50 rfl]; exact hRs
    have hMl : Md (ps_a s5 1149) (ps_i s5 1131 34).toInt (ml) := by rw [show ps_a s5 1149 = ps_a s 1149 from (K5.2 1149 rfl).1, show ps_i s5 1131 34 = ps_i s 1131 34 from kp_i K5 34 rfl]; exact hMl
    have hv_k : _ := p5_0
    refine And.intro (fun h7_k => ?_) (fun h7_k => ?_)
    · have f8_k : v5.toInt ≠ (0 : Int) := xne h7_k
      have r9_k := mf_51 J5
      have u10 : (ps_i s5 1131 51).toInt = (ps_i s 1131 51).toInt := xeq (kp_i K5 51 rfl)
      exact ms_252_253 (x1 := x1) (σ := σ) k   _ J5 K6 hA hO hP (show 0 ≤ x1.toInt from by omega) (show x1.toInt < 40 from by omega) (show (ps_i s5 1131 51).toInt ≤ 36 from by omega) ((by rcases hv_k with z_k | ⟨z1_k, z2_k⟩; exact absurd z_k (by omega); rcases z2_k with z2_k | z2_k; exact Or.inr ⟨by omega, ml, hMl, z1_k, z2_k⟩; rcases hm3 with z3_k | z3_k; rw [z2_k] at z3_k; cases z3_k; exact Or.inl (by rw [show ps_i s5 1131 50 = ps_i s 1131 50 from kp_i KC 50 rfl]; exact z3_k.2)))
    · have f11_k : v5.toInt = (0 : Int) := xeq h7_k
      have r12_k := mf_51 J5
      have u13 : (ps_i s5 1131 51).toInt = (ps_i s 1131 51).toInt := xeq (kp_i K5 51 rfl)
      exact ms_252_248 (x1 := x1) (σ := σ) k   _ J5 K6 hA hO hP (show 0 ≤ x1.toInt from by omega) (show x1.toInt < 40 from by omega) (show (ps_i s5 1131 51).toInt ≤ 36 from by omega)

theorem ms_252_219 {x : Nat → Nat → Nat} {t : Int32} {d : Nat} {s0 : ps_S} {σ : mSig} {x1 : Int32} {Q : Option Value → ps_S → Prop} (k : ∀ (s' : ps_S), mJ x t s' → kp [1134, 1149, 1150, 1151, 1157, 1158, 1159, 1160] [34, 50, 51] s0 s' → (PSt σ (ps_a s' 1134) (ps_a s' 1157) x1.toInt) → ((ps_i s' 1131 50).toInt ≤ 0 → PSt σ (ps_a s' 1134) (ps_a s' 1157) (x1.toInt + 1)) → (∀ k : Nat, 21320 ≤ k → ps_a s' 1134 k = ps_a s0 1134 k) → Q none s') (s : ps_S) (J : mJ x t s) (K : kp [1134, 1149, 1150, 1151, 1157, 1158, 1159, 1160] [34, 50, 51] s0 s) (hS : Sg (ps_a s 1135) (ps_a s 1136) (ps_a s 1138) (ps_a s 1139) (ps_i s 1131 21).toInt σ) (hC : SC σ (ps_a s 1134) (ps_a s 1157) (ps_a s 1152) (ps_a s 1153) (ps_a s 1154) (ps_a s 1155) (ps_i s 1131 21).toInt x1.toInt) (hA : As σ (ps_a s 1134) x1.toInt (ps_i s 1131 51).toInt) (hO : OutB (ps_a s0 1134) (ps_a s 1134) x1.toInt) (hM : Md (ps_a s 1149) (ps_i s 1131 34).toInt ([] : List Nat)) (i5_k : 0 ≤ x1.toInt) (i6_k : x1.toInt < 40) (i7_k : (ps_i s 1131 51).toInt = 0) (i8_k : (ps_a s 1152 (Int32.toNatClampNeg x1)).toInt = 8 ∨ (ps_a s 1152 (Int32.toNatClampNeg x1)).toInt = 9 ∨ (ps_a s 1152 (Int32.toNatClampNeg x1)).toInt = 10 ∨ (ps_a s 1152 (Int32.toNatClampNeg x1)).toInt = 17 ∨ (ps_a s 1152 (Int32.toNatClampNeg x1)).toInt = 18) : ps_At (d + 6) 252 219 [(0, .ref 1131), (1, .int x1)] [] s Q := by
  have r1_k := mf_51 J
  have r2_k : 0 ≤ (ps_a s 1152 (Int32.toNatClampNeg x1)).toInt ∧ (ps_a s 1152 (Int32.toNatClampNeg x1)).toInt ≤ 18 := ma_1152 (i := x1) J (show 0 ≤ x1.toInt from by omega) (show x1.toInt < 40 from by omega)
  refine pg_252_219 (d := d + 5) ?_
  refine ms_255 J hS hC hA hM (show 0 ≤ x1.toInt from by omega) (show x1.toInt < 40 from by omega) (show (ps_i s 1131 51).toInt ≤ 100 from by omega) (show (ps_a s 1152 (Int32.toNatClampNeg x1)).toInt = 8 ∨ (ps_a s 1152 (Int32.toNatClampNeg x1)).toInt = 9 ∨ (ps_a s 1152 (Int32.toNatClampNeg x1)).toInt = 10 ∨ (ps_a s 1152 (Int32.toNatClampNeg x1)).toInt = 17 ∨ (ps_a s 1152 (Int32.toNatClampNeg x1)).toInt = 18 from by omega) (fun s3 J3 K3 p3_0 p3_1 p3_2 p3_3 p3_4 => ?_)
  have K4 := kpt K K3 rfl rfl
  have KC := K3
  have hS : Sg (ps_a s3 1135) (ps_a s3 1136) (ps_a s3 1138) (ps_a s3 1139) (ps_i s3 1131 21).toInt σ := by rw [show ps_a s3 1135 = ps_a s 1135 from (K3.2 1135 rfl).1, show ps_a s3 1136 = ps_a s 1136 from (K3.2 1136 rfl).1, show ps_a s3 1138 = ps_a s 1138 from (K3.2 1138 rfl).1, show ps_a s3 1139 = ps_a s 1139 from (K3.2 1139 rfl).1, show ps_i s3 1131 21 = ps_i s 1131 21 from kp_i K3 21 rfl]; exact hS
  have p3_2' : (ps_i s 1131 51).toInt ≤ (ps_i s3 1131 51).toInt := p3_2
  have r5_k := mf_51 J3
  have p3_3' : (ps_i s3 1131 51).toInt ≤ (ps_i s 1131 51).toInt + 36 := p3_3
  have hA : As σ (ps_a s3 1134) x1.toInt (ps_i s3 1131 51).toInt := p3_0
  have ho : _ := p3_1
  have hRs : Res σ (ps_a s3 1149) (ps_i s3 1131 34).toInt (ps_i s3 1131 50).toInt := p3_4
  exact ms_252_232 (x1 := x1) (σ := σ) k   _ J3 K4 hS hA (OutB_tr hO ho) ((by rw [show ps_a s3 1157 = ps_a s 1157 from (KC.2 1157 rfl).1]; exact PSt_out (SC_p hC) ho (by omega))) hRs (show 0 ≤ x1.toInt from by omega) (show x1.toInt < 40 from by omega) (show (ps_i s3 1131 51).toInt ≤ 36 from by omega)

theorem ms_252_178 {x : Nat → Nat → Nat} {t : Int32} {d : Nat} {s0 : ps_S} {σ : mSig} {x1 : Int32} {Q : Option Value → ps_S → Prop} (k : ∀ (s' : ps_S), mJ x t s' → kp [1134, 1149, 1150, 1151, 1157, 1158, 1159, 1160] [34, 50, 51] s0 s' → (PSt σ (ps_a s' 1134) (ps_a s' 1157) x1.toInt) → ((ps_i s' 1131 50).toInt ≤ 0 → PSt σ (ps_a s' 1134) (ps_a s' 1157) (x1.toInt + 1)) → (∀ k : Nat, 21320 ≤ k → ps_a s' 1134 k = ps_a s0 1134 k) → Q none s') (s : ps_S) (J : mJ x t s) (K : kp [1134, 1149, 1150, 1151, 1157, 1158, 1159, 1160] [34, 50, 51] s0 s) (hS : Sg (ps_a s 1135) (ps_a s 1136) (ps_a s 1138) (ps_a s 1139) (ps_i s 1131 21).toInt σ) (hC : SC σ (ps_a s 1134) (ps_a s 1157) (ps_a s 1152) (ps_a s 1153) (ps_a s 1154) (ps_a s 1155) (ps_i s 1131 21).toInt x1.toInt) (hA : As σ (ps_a s 1134) x1.toInt (ps_i s 1131 51).toInt) (hO : OutB (ps_a s0 1134) (ps_a s 1134) x1.toInt) (hM : Md (ps_a s 1149) (ps_i s 1131 34).toInt ([] : List Nat)) (i5_k : 0 ≤ x1.toInt) (i6_k : x1.toInt < 40) (i7_k : (ps_i s 1131 51).toInt = 0) : ps_At (d + 6) 252 178 [(0, .ref 1131), (1, .int x1)] [] s Q := by
  have r1_k := mf_51 J
  refine pg_252_178 (d := d + 5) ?_
  refine ps_nd_i (show pm_in x1 40 = true from xgi (show 0 ≤ x1.toInt from by omega) (show x1.toInt < 40 from by omega)) ?_
  have r2_k : 0 ≤ (ps_a s 1152 (Int32.toNatClampNeg x1)).toInt ∧ (ps_a s 1152 (Int32.toNatClampNeg x1)).toInt ≤ 18 := ma_1152 (i := x1) J (show 0 ≤ x1.toInt from by omega) (show x1.toInt < 40 from by omega)
  refine And.intro (fun h3_k => ?_) (fun h3_k => ?_)
  · have f4_k : (8 : Int) ≤ (ps_a s 1152 (Int32.toNatClampNeg x1)).toInt := xle h3_k
    refine ps_nd_i (show pm_in x1 40 = true from xgi (show 0 ≤ x1.toInt from by omega) (show x1.toInt < 40 from by omega)) ?_
    refine And.intro (fun h5_k => ?_) (fun h5_k => ?_)
    · have f6_k : (ps_a s 1152 (Int32.toNatClampNeg x1)).toInt < (11 : Int) := xlt h5_k
      exact ms_252_219 (x1 := x1) (σ := σ) k   _ J K hS hC hA hO hM (show 0 ≤ x1.toInt from by omega) (show x1.toInt < 40 from by omega) (show (ps_i s 1131 51).toInt = 0 from by omega) (show (ps_a s 1152 (Int32.toNatClampNeg x1)).toInt = 8 ∨ (ps_a s 1152 (Int32.toNatClampNeg x1)).toInt = 9 ∨ (ps_a s 1152 (Int32.toNatClampNeg x1)).toInt = 10 ∨ (ps_a s 1152 (Int32.toNatClampNeg x1)).toInt = 17 ∨ (ps_a s 1152 (Int32.toNatClampNeg x1)).toInt = 18 from by omega)
    · have f7_k : (11 : Int) ≤ (ps_a s 1152 (Int32.toNatClampNeg x1)).toInt := xle h5_k
      refine ps_nd_i (show pm_in x1 40 = true from xgi (show 0 ≤ x1.toInt from by omega) (show x1.toInt < 40 from by omega)) ?_
      refine And.intro (fun h8_k => ?_) (fun h8_k => ?_)
      · have f9_k : (ps_a s 1152 (Int32.toNatClampNeg x1)).toInt ≤ (16 : Int) := xle h8_k
        refine ms_257 J hS hC hA hM (show 0 ≤ x1.toInt from by omega) (show x1.toInt < 40 from by omega) (show (ps_i s 1131 51).toInt ≤ 100 from by omega) (show 11 ≤ (ps_a s 1152 (Int32.toNatClampNeg x1)).toInt from by omega) (show (ps_a s 1152 (Int32.toNatClampNeg x1)).toInt ≤ 16 from by omega) (fun s10 J10 K10 p10_0 p10_1 p10_2 p10_3 p10_4 => ?_)
        have K11 := kpt K K10 rfl rfl
        have KC := K10
        have hS : Sg (ps_a s10 1135) (ps_a s10 1136) (ps_a s10 1138) (ps_a s10 1139) (ps_i s10 1131 21).toInt σ := by rw [show ps_a s10 1135 = ps_a s 1135 from (K10.2 1135 rfl).1, show ps_a s10 1136 = ps_a s 1136 from (K10.2 1136 rfl).1, show ps_a s10 1138 = ps_a s 1138 from (K10.2 1138 rfl).1, show ps_a s10 1139 = ps_a s 1139 from (K10.2 1139 rfl).1, show ps_i s10 1131 21 = ps_i s 1131 21 from kp_i K10 21 rfl]; exact hS
        have p10_2' : (ps_i s 1131 51).toInt ≤ (ps_i s10 1131 51).toInt := p10_2
        have r12_k := mf_51 J10
        have p10_3' : (ps_i s10 1131 51).toInt ≤ (ps_i s 1131 51).toInt + 36 := p10_3
        have hA : As σ (ps_a s10 1134) x1.toInt (ps_i s10 1131 51).toInt := p10_0
        have ho : _ := p10_1
        have hRs : Res σ (ps_a s10 1149) (ps_i s10 1131 34).toInt (ps_i s10 1131 50).toInt := p10_4
        exact ms_252_232 (x1 := x1) (σ := σ) k   _ J10 K11 hS hA (OutB_tr hO ho) ((by rw [show ps_a s10 1157 = ps_a s 1157 from (KC.2 1157 rfl).1]; exact PSt_out (SC_p hC) ho (by omega))) hRs (show 0 ≤ x1.toInt from by omega) (show x1.toInt < 40 from by omega) (show (ps_i s10 1131 51).toInt ≤ 36 from by omega)
      · have f13_k : (16 : Int) < (ps_a s 1152 (Int32.toNatClampNeg x1)).toInt := xlt h8_k
        exact ms_252_219 (x1 := x1) (σ := σ) k   _ J K hS hC hA hO hM (show 0 ≤ x1.toInt from by omega) (show x1.toInt < 40 from by omega) (show (ps_i s 1131 51).toInt = 0 from by omega) (show (ps_a s 1152 (Int32.toNatClampNeg x1)).toInt = 8 ∨ (ps_a s 1152 (Int32.toNatClampNeg x1)).toInt = 9 ∨ (ps_a s 1152 (Int32.toNatClampNeg x1)).toInt = 10 ∨ (ps_a s 1152 (Int32.toNatClampNeg x1)).toInt = 17 ∨ (ps_a s 1152 (Int32.toNatClampNeg x1)).toInt = 18 from by omega)
  · have f14_k : (ps_a s 1152 (Int32.toNatClampNeg x1)).toInt < (8 : Int) := xlt h3_k
    refine ms_253 J hS hC hA hM (show 0 ≤ x1.toInt from by omega) (show x1.toInt < 40 from by omega) (show (ps_i s 1131 51).toInt ≤ 100 from by omega) (show (ps_a s 1152 (Int32.toNatClampNeg x1)).toInt < 8 from by omega) (fun s15 J15 K15 p15_0 p15_1 p15_2 p15_3 p15_4 => ?_)
    have K16 := kpt K K15 rfl rfl
    have KC := K15
    have hS : Sg (ps_a s15 1135) (ps_a s15 1136) (ps_a s15 1138) (ps_a s15 1139) (ps_i s15 1131 21).toInt σ := by rw [show ps_a s15 1135 = ps_a s 1135 from (K15.2 1135 rfl).1, show ps_a s15 1136 = ps_a s 1136 from (K15.2 1136 rfl).1, show ps_a s15 1138 = ps_a s 1138 from (K15.2 1138 rfl).1, show ps_a s15 1139 = ps_a s 1139 from (K15.2 1139 rfl).1, show ps_i s15 1131 21 = ps_i s 1131 21 from kp_i K15 21 rfl]; exact hS
    have p15_2' : (ps_i s 1131 51).toInt ≤ (ps_i s15 1131 51).toInt := p15_2
    have r17_k := mf_51 J15
    have p15_3' : (ps_i s15 1131 51).toInt ≤ (ps_i s 1131 51).toInt + 24 := p15_3
    have hA : As σ (ps_a s15 1134) x1.toInt (ps_i s15 1131 51).toInt := p15_0
    have ho : _ := p15_1
    have hRs : Res σ (ps_a s15 1149) (ps_i s15 1131 34).toInt (ps_i s15 1131 50).toInt := p15_4
    exact ms_252_232 (x1 := x1) (σ := σ) k   _ J15 K16 hS hA (OutB_tr hO ho) ((by rw [show ps_a s15 1157 = ps_a s 1157 from (KC.2 1157 rfl).1]; exact PSt_out (SC_p hC) ho (by omega))) hRs (show 0 ≤ x1.toInt from by omega) (show x1.toInt < 40 from by omega) (show (ps_i s15 1131 51).toInt ≤ 36 from by omega)

theorem ms_252_162 {x : Nat → Nat → Nat} {t : Int32} {d : Nat} {s0 : ps_S} {σ : mSig} {x1 : Int32} {Q : Option Value → ps_S → Prop} (k : ∀ (s' : ps_S), mJ x t s' → kp [1134, 1149, 1150, 1151, 1157, 1158, 1159, 1160] [34, 50, 51] s0 s' → (PSt σ (ps_a s' 1134) (ps_a s' 1157) x1.toInt) → ((ps_i s' 1131 50).toInt ≤ 0 → PSt σ (ps_a s' 1134) (ps_a s' 1157) (x1.toInt + 1)) → (∀ k : Nat, 21320 ≤ k → ps_a s' 1134 k = ps_a s0 1134 k) → Q none s') (x2 : Int32) (s : ps_S) (J : mJ x t s) (K : kp [1134, 1149, 1150, 1151, 1157, 1158, 1159, 1160] [34, 50, 51] s0 s) (hS : Sg (ps_a s 1135) (ps_a s 1136) (ps_a s 1138) (ps_a s 1139) (ps_i s 1131 21).toInt σ) (hC : SC σ (ps_a s 1134) (ps_a s 1157) (ps_a s 1152) (ps_a s 1153) (ps_a s 1154) (ps_a s 1155) (ps_i s 1131 21).toInt x1.toInt) (hA : As σ (ps_a s 1134) x1.toInt (ps_i s 1131 51).toInt) (hO : OutB (ps_a s0 1134) (ps_a s 1134) x1.toInt) (hM : Md (ps_a s 1149) (ps_i s 1131 34).toInt ([] : List Nat)) (i5_k : 0 ≤ x1.toInt) (i6_k : x1.toInt < 40) (i7_k : (ps_i s 1131 51).toInt = 0) (i8_k : ((ps_a s 1152 (Int32.toNatClampNeg x1)).toInt = 2 ∧ x2.toInt = 0) ∨ ((((ps_a s 1152 (Int32.toNatClampNeg x1)).toInt = 0 ∨ (ps_a s 1152 (Int32.toNatClampNeg x1)).toInt = 1 ∨ (ps_a s 1152 (Int32.toNatClampNeg x1)).toInt = 15) ∧ x2.toInt = 0) ∨ (((ps_a s 1152 (Int32.toNatClampNeg x1)).toInt = 3 ∨ (ps_a s 1152 (Int32.toNatClampNeg x1)).toInt = 9 ∨ (ps_a s 1152 (Int32.toNatClampNeg x1)).toInt = 14 ∨ (ps_a s 1152 (Int32.toNatClampNeg x1)).toInt = 16) ∧ x2.toInt = 2) ∨ ((ps_a s 1152 (Int32.toNatClampNeg x1)).toInt = 8 ∧ x2.toInt = 3) ∨ (x2.toInt = 1 ∧ (ps_a s 1152 (Int32.toNatClampNeg x1)).toInt ≠ 0 ∧ (ps_a s 1152 (Int32.toNatClampNeg x1)).toInt ≠ 1 ∧ (ps_a s 1152 (Int32.toNatClampNeg x1)).toInt ≠ 15 ∧ (ps_a s 1152 (Int32.toNatClampNeg x1)).toInt ≠ 3 ∧ (ps_a s 1152 (Int32.toNatClampNeg x1)).toInt ≠ 9 ∧ (ps_a s 1152 (Int32.toNatClampNeg x1)).toInt ≠ 14 ∧ (ps_a s 1152 (Int32.toNatClampNeg x1)).toInt ≠ 16 ∧ (ps_a s 1152 (Int32.toNatClampNeg x1)).toInt ≠ 8))) : ps_At (d + 6) 252 162 [(0, .ref 1131), (1, .int x1), (2, .int x2)] [] s Q := by
  have r1_k := mf_51 J
  have r2_k : 0 ≤ (ps_a s 1152 (Int32.toNatClampNeg x1)).toInt ∧ (ps_a s 1152 (Int32.toNatClampNeg x1)).toInt ≤ 18 := ma_1152 (i := x1) J (show 0 ≤ x1.toInt from by omega) (show x1.toInt < 40 from by omega)
  refine pg_252_162 (d := d + 5) ?_
  refine And.intro (fun h3_k => ?_) (fun h3_k => ?_)
  · have f4_k : x2.toInt ≤ (2 : Int) := xle h3_k
    exact ms_252_178 (x1 := x1) (σ := σ) k   _ J K hS hC hA hO hM (show 0 ≤ x1.toInt from by omega) (show x1.toInt < 40 from by omega) (show (ps_i s 1131 51).toInt = 0 from by omega)
  · have f5_k : (2 : Int) < x2.toInt := xlt h3_k
    have q3_k := SC_l3 hC rfl (by omega)
    refine ps_nd_i (show pm_in x1 40 = true from xgi (show 0 ≤ x1.toInt from by omega) (show x1.toInt < 40 from by omega)) ?_
    have r6_k : 0 ≤ (ps_a s 1155 (Int32.toNatClampNeg x1)).toInt ∧ (ps_a s 1155 (Int32.toNatClampNeg x1)).toInt ≤ 9999 := ma_1155 (i := x1) J (show 0 ≤ x1.toInt from by omega) (show x1.toInt < 40 from by omega)
    refine ms_251 J (show 0 ≤ x1.toInt from by omega) (show x1.toInt < 40 from by omega) (show 0 ≤ (ps_a s 1155 (Int32.toNatClampNeg x1)).toInt from by omega) (show (ps_a s 1155 (Int32.toNatClampNeg x1)).toInt < 40 from by omega) (fun s7 J7 K7 => ?_)
    have K8 := kpt K K7 rfl rfl
    have KC := K7
    have hS : Sg (ps_a s7 1135) (ps_a s7 1136) (ps_a s7 1138) (ps_a s7 1139) (ps_i s7 1131 21).toInt σ := by rw [show ps_a s7 1135 = ps_a s 1135 from (K7.2 1135 rfl).1, show ps_a s7 1136 = ps_a s 1136 from (K7.2 1136 rfl).1, show ps_a s7 1138 = ps_a s 1138 from (K7.2 1138 rfl).1, show ps_a s7 1139 = ps_a s 1139 from (K7.2 1139 rfl).1, show ps_i s7 1131 21 = ps_i s 1131 21 from kp_i K7 21 rfl]; exact hS
    have hC : SC σ (ps_a s7 1134) (ps_a s7 1157) (ps_a s7 1152) (ps_a s7 1153) (ps_a s7 1154) (ps_a s7 1155) (ps_i s7 1131 21).toInt x1.toInt := by rw [show ps_a s7 1134 = ps_a s 1134 from (K7.2 1134 rfl).1, show ps_a s7 1157 = ps_a s 1157 from (K7.2 1157 rfl).1, show ps_a s7 1152 = ps_a s 1152 from (K7.2 1152 rfl).1, show ps_a s7 1153 = ps_a s 1153 from (K7.2 1153 rfl).1, show ps_a s7 1154 = ps_a s 1154 from (K7.2 1154 rfl).1, show ps_a s7 1155 = ps_a s 1155 from (K7.2 1155 rfl).1, show ps_i s7 1131 21 = ps_i s 1131 21 from kp_i K7 21 rfl]; exact hC
    have hA : As σ (ps_a s7 1134) x1.toInt (ps_i s7 1131 51).toInt := by rw [show ps_a s7 1134 = ps_a s 1134 from (K7.2 1134 rfl).1, show ps_i s7 1131 51 = ps_i s 1131 51 from kp_i K7 51 rfl]; exact hA
    have hO : OutB (ps_a s0 1134) (ps_a s7 1134) x1.toInt := by rw [show ps_a s7 1134 = ps_a s 1134 from (K7.2 1134 rfl).1]; exact hO
    have hM : Md (ps_a s7 1149) (ps_i s7 1131 34).toInt ([] : List Nat) := by rw [show ps_a s7 1149 = ps_a s 1149 from (K7.2 1149 rfl).1, show ps_i s7 1131 34 = ps_i s 1131 34 from kp_i K7 34 rfl]; exact hM
    have r9_k := mf_51 J7
    have u10 : (ps_i s7 1131 51).toInt = (ps_i s 1131 51).toInt := xeq (kp_i K7 51 rfl)
    exact ms_252_178 (x1 := x1) (σ := σ) k   _ J7 K8 hS hC hA hO hM (show 0 ≤ x1.toInt from by omega) (show x1.toInt < 40 from by omega) (show (ps_i s7 1131 51).toInt = 0 from by omega)

theorem ms_252_146 {x : Nat → Nat → Nat} {t : Int32} {d : Nat} {s0 : ps_S} {σ : mSig} {x1 : Int32} {Q : Option Value → ps_S → Prop} (k : ∀ (s' : ps_S), mJ x t s' → kp [1134, 1149, 1150, 1151, 1157, 1158, 1159, 1160] [34, 50, 51] s0 s' → (PSt σ (ps_a s' 1134) (ps_a s' 1157) x1.toInt) → ((ps_i s' 1131 50).toInt ≤ 0 → PSt σ (ps_a s' 1134) (ps_a s' 1157) (x1.toInt + 1)) → (∀ k : Nat, 21320 ≤ k → ps_a s' 1134 k = ps_a s0 1134 k) → Q none s') (x2 : Int32) (s : ps_S) (J : mJ x t s) (K : kp [1134, 1149, 1150, 1151, 1157, 1158, 1159, 1160] [34, 50, 51] s0 s) (hS : Sg (ps_a s 1135) (ps_a s 1136) (ps_a s 1138) (ps_a s 1139) (ps_i s 1131 21).toInt σ) (hC : SC σ (ps_a s 1134) (ps_a s 1157) (ps_a s 1152) (ps_a s 1153) (ps_a s 1154) (ps_a s 1155) (ps_i s 1131 21).toInt x1.toInt) (hA : As σ (ps_a s 1134) x1.toInt (ps_i s 1131 51).toInt) (hO : OutB (ps_a s0 1134) (ps_a s 1134) x1.toInt) (hM : Md (ps_a s 1149) (ps_i s 1131 34).toInt ([] : List Nat)) (i5_k : 0 ≤ x1.toInt) (i6_k : x1.toInt < 40) (i7_k : (ps_i s 1131 51).toInt = 0) (i8_k : ((ps_a s 1152 (Int32.toNatClampNeg x1)).toInt = 2 ∧ x2.toInt = 0) ∨ ((((ps_a s 1152 (Int32.toNatClampNeg x1)).toInt = 0 ∨ (ps_a s 1152 (Int32.toNatClampNeg x1)).toInt = 1 ∨ (ps_a s 1152 (Int32.toNatClampNeg x1)).toInt = 15) ∧ x2.toInt = 0) ∨ (((ps_a s 1152 (Int32.toNatClampNeg x1)).toInt = 3 ∨ (ps_a s 1152 (Int32.toNatClampNeg x1)).toInt = 9 ∨ (ps_a s 1152 (Int32.toNatClampNeg x1)).toInt = 14 ∨ (ps_a s 1152 (Int32.toNatClampNeg x1)).toInt = 16) ∧ x2.toInt = 2) ∨ ((ps_a s 1152 (Int32.toNatClampNeg x1)).toInt = 8 ∧ x2.toInt = 3) ∨ (x2.toInt = 1 ∧ (ps_a s 1152 (Int32.toNatClampNeg x1)).toInt ≠ 0 ∧ (ps_a s 1152 (Int32.toNatClampNeg x1)).toInt ≠ 1 ∧ (ps_a s 1152 (Int32.toNatClampNeg x1)).toInt ≠ 15 ∧ (ps_a s 1152 (Int32.toNatClampNeg x1)).toInt ≠ 3 ∧ (ps_a s 1152 (Int32.toNatClampNeg x1)).toInt ≠ 9 ∧ (ps_a s 1152 (Int32.toNatClampNeg x1)).toInt ≠ 14 ∧ (ps_a s 1152 (Int32.toNatClampNeg x1)).toInt ≠ 16 ∧ (ps_a s 1152 (Int32.toNatClampNeg x1)).toInt ≠ 8))) : ps_At (d + 6) 252 146 [(0, .ref 1131), (1, .int x1), (2, .int x2)] [] s Q := by
  have r1_k := mf_51 J
  have r2_k : 0 ≤ (ps_a s 1152 (Int32.toNatClampNeg x1)).toInt ∧ (ps_a s 1152 (Int32.toNatClampNeg x1)).toInt ≤ 18 := ma_1152 (i := x1) J (show 0 ≤ x1.toInt from by omega) (show x1.toInt < 40 from by omega)
  refine pg_252_146 (d := d + 5) ?_
  refine And.intro (fun h3_k => ?_) (fun h3_k => ?_)
  · have f4_k : x2.toInt ≤ (1 : Int) := xle h3_k
    exact ms_252_162 (x1 := x1) (σ := σ) k  x2 _ J K hS hC hA hO hM (show 0 ≤ x1.toInt from by omega) (show x1.toInt < 40 from by omega) (show (ps_i s 1131 51).toInt = 0 from by omega) (show ((ps_a s 1152 (Int32.toNatClampNeg x1)).toInt = 2 ∧ x2.toInt = 0) ∨ ((((ps_a s 1152 (Int32.toNatClampNeg x1)).toInt = 0 ∨ (ps_a s 1152 (Int32.toNatClampNeg x1)).toInt = 1 ∨ (ps_a s 1152 (Int32.toNatClampNeg x1)).toInt = 15) ∧ x2.toInt = 0) ∨ (((ps_a s 1152 (Int32.toNatClampNeg x1)).toInt = 3 ∨ (ps_a s 1152 (Int32.toNatClampNeg x1)).toInt = 9 ∨ (ps_a s 1152 (Int32.toNatClampNeg x1)).toInt = 14 ∨ (ps_a s 1152 (Int32.toNatClampNeg x1)).toInt = 16) ∧ x2.toInt = 2) ∨ ((ps_a s 1152 (Int32.toNatClampNeg x1)).toInt = 8 ∧ x2.toInt = 3) ∨ (x2.toInt = 1 ∧ (ps_a s 1152 (Int32.toNatClampNeg x1)).toInt ≠ 0 ∧ (ps_a s 1152 (Int32.toNatClampNeg x1)).toInt ≠ 1 ∧ (ps_a s 1152 (Int32.toNatClampNeg x1)).toInt ≠ 15 ∧ (ps_a s 1152 (Int32.toNatClampNeg x1)).toInt ≠ 3 ∧ (ps_a s 1152 (Int32.toNatClampNeg x1)).toInt ≠ 9 ∧ (ps_a s 1152 (Int32.toNatClampNeg x1)).toInt ≠ 14 ∧ (ps_a s 1152 (Int32.toNatClampNeg x1)).toInt ≠ 16 ∧ (ps_a s 1152 (Int32.toNatClampNeg x1)).toInt ≠ 8)) from by omega)
  · have f5_k : (1 : Int) < x2.toInt := xlt h3_k
    have q2_k := SC_l2 hC rfl (by omega)
    refine ps_nd_i (show pm_in x1 40 = true from xgi (show 0 ≤ x1.toInt from by omega) (show x1.toInt < 40 from by omega)) ?_
    have r6_k : 0 ≤ (ps_a s 1154 (Int32.toNatClampNeg x1)).toInt ∧ (ps_a s 1154 (Int32.toNatClampNeg x1)).toInt ≤ 9999 := ma_1154 (i := x1) J (show 0 ≤ x1.toInt from by omega) (show x1.toInt < 40 from by omega)
    refine ms_251 J (show 0 ≤ x1.toInt from by omega) (show x1.toInt < 40 from by omega) (show 0 ≤ (ps_a s 1154 (Int32.toNatClampNeg x1)).toInt from by omega) (show (ps_a s 1154 (Int32.toNatClampNeg x1)).toInt < 40 from by omega) (fun s7 J7 K7 => ?_)
    have K8 := kpt K K7 rfl rfl
    have KC := K7
    have hS : Sg (ps_a s7 1135) (ps_a s7 1136) (ps_a s7 1138) (ps_a s7 1139) (ps_i s7 1131 21).toInt σ := by rw [show ps_a s7 1135 = ps_a s 1135 from (K7.2 1135 rfl).1, show ps_a s7 1136 = ps_a s 1136 from (K7.2 1136 rfl).1, show ps_a s7 1138 = ps_a s 1138 from (K7.2 1138 rfl).1, show ps_a s7 1139 = ps_a s 1139 from (K7.2 1139 rfl).1, show ps_i s7 1131 21 = ps_i s 1131 21 from kp_i K7 21 rfl]; exact hS
    have hC : SC σ (ps_a s7 1134) (ps_a s7 1157) (ps_a s7 1152) (ps_a s7 1153) (ps_a s7 1154) (ps_a s7 1155) (ps_i s7 1131 21).toInt x1.toInt := by rw [show ps_a s7 1134 = ps_a s 1134 from (K7.2 1134 rfl).1, show ps_a s7 1157 = ps_a s 1157 from (K7.2 1157 rfl).1, show ps_a s7 1152 = ps_a s 1152 from (K7.2 1152 rfl).1, show ps_a s7 1153 = ps_a s 1153 from (K7.2 1153 rfl).1, show ps_a s7 1154 = ps_a s 1154 from (K7.2 1154 rfl).1, show ps_a s7 1155 = ps_a s 1155 from (K7.2 1155 rfl).1, show ps_i s7 1131 21 = ps_i s 1131 21 from kp_i K7 21 rfl]; exact hC
    have hA : As σ (ps_a s7 1134) x1.toInt (ps_i s7 1131 51).toInt := by rw [show ps_a s7 1134 = ps_a s 1134 from (K7.2 1134 rfl).1, show ps_i s7 1131 51 = ps_i s 1131 51 from kp_i K7 51 rfl]; exact hA
    have hO : OutB (ps_a s0 1134) (ps_a s7 1134) x1.toInt := by rw [show ps_a s7 1134 = ps_a s 1134 from (K7.2 1134 rfl).1]; exact hO
    have hM : Md (ps_a s7 1149) (ps_i s7 1131 34).toInt ([] : List Nat) := by rw [show ps_a s7 1149 = ps_a s 1149 from (K7.2 1149 rfl).1, show ps_i s7 1131 34 = ps_i s 1131 34 from kp_i K7 34 rfl]; exact hM
    have r9_k := mf_51 J7
    have u10 : (ps_i s7 1131 51).toInt = (ps_i s 1131 51).toInt := xeq (kp_i K7 51 rfl)
    have r11_k : 0 ≤ (ps_a s7 1152 (Int32.toNatClampNeg x1)).toInt ∧ (ps_a s7 1152 (Int32.toNatClampNeg x1)).toInt ≤ 18 := ma_1152 (i := x1) J7 (show 0 ≤ x1.toInt from by omega) (show x1.toInt < 40 from by omega)
    have u12 : (ps_a s7 1152 (Int32.toNatClampNeg x1)).toInt = (ps_a s 1152 (Int32.toNatClampNeg x1)).toInt := xeq (kp_a K7 1152 rfl _)
    exact ms_252_162 (x1 := x1) (σ := σ) k  x2 _ J7 K8 hS hC hA hO hM (show 0 ≤ x1.toInt from by omega) (show x1.toInt < 40 from by omega) (show (ps_i s7 1131 51).toInt = 0 from by omega) (show ((ps_a s7 1152 (Int32.toNatClampNeg x1)).toInt = 2 ∧ x2.toInt = 0) ∨ ((((ps_a s7 1152 (Int32.toNatClampNeg x1)).toInt = 0 ∨ (ps_a s7 1152 (Int32.toNatClampNeg x1)).toInt = 1 ∨ (ps_a s7 1152 (Int32.toNatClampNeg x1)).toInt = 15) ∧ x2.toInt = 0) ∨ (((ps_a s7 1152 (Int32.toNatClampNeg x1)).toInt = 3 ∨ (ps_a s7 1152 (Int32.toNatClampNeg x1)).toInt = 9 ∨ (ps_a s7 1152 (Int32.toNatClampNeg x1)).toInt = 14 ∨ (ps_a s7 1152 (Int32.toNatClampNeg x1)).toInt = 16) ∧ x2.toInt = 2) ∨ ((ps_a s7 1152 (Int32.toNatClampNeg x1)).toInt = 8 ∧ x2.toInt = 3) ∨ (x2.toInt = 1 ∧ (ps_a s7 1152 (Int32.toNatClampNeg x1)).toInt ≠ 0 ∧ (ps_a s7 1152 (Int32.toNatClampNeg x1)).toInt ≠ 1 ∧ (ps_a s7 1152 (Int32.toNatClampNeg x1)).toInt ≠ 15 ∧ (ps_a s7 1152 (Int32.toNatClampNeg x1)).toInt ≠ 3 ∧ (ps_a s7 1152 (Int32.toNatClampNeg x1)).toInt ≠ 9 ∧ (ps_a s7 1152 (Int32.toNatClampNeg x1)).toInt ≠ 14 ∧ (ps_a s7 1152 (Int32.toNatClampNeg x1)).toInt ≠ 16 ∧ (ps_a s7 1152 (Int32.toNatClampNeg x1)).toInt ≠ 8)) from by omega)

theorem ms_252_84 {x : Nat → Nat → Nat} {t : Int32} {d : Nat} {s0 : ps_S} {σ : mSig} {x1 : Int32} {Q : Option Value → ps_S → Prop} (k : ∀ (s' : ps_S), mJ x t s' → kp [1134, 1149, 1150, 1151, 1157, 1158, 1159, 1160] [34, 50, 51] s0 s' → (PSt σ (ps_a s' 1134) (ps_a s' 1157) x1.toInt) → ((ps_i s' 1131 50).toInt ≤ 0 → PSt σ (ps_a s' 1134) (ps_a s' 1157) (x1.toInt + 1)) → (∀ k : Nat, 21320 ≤ k → ps_a s' 1134 k = ps_a s0 1134 k) → Q none s') (s : ps_S) (J : mJ x t s) (K : kp [1134, 1149, 1150, 1151, 1157, 1158, 1159, 1160] [34, 50, 51] s0 s) (hS : Sg (ps_a s 1135) (ps_a s 1136) (ps_a s 1138) (ps_a s 1139) (ps_i s 1131 21).toInt σ) (hP : PSt σ (ps_a s 1134) (ps_a s 1157) x1.toInt) (hB : SB σ (ps_a s 1134) (ps_a s 1152) (ps_a s 1153) (ps_i s 1131 21).toInt (ps_i s 1131 54).toInt x1.toInt) (hA : As σ (ps_a s 1134) x1.toInt (ps_i s 1131 51).toInt) (hO : OutB (ps_a s0 1134) (ps_a s 1134) x1.toInt) (hM : Md (ps_a s 1149) (ps_i s 1131 34).toInt ([] : List Nat)) (i6_k : 0 ≤ x1.toInt) (i7_k : x1.toInt < 40) (i8_k : (ps_i s 1131 51).toInt = 0) : ps_At (d + 6) 252 84 [(0, .ref 1131), (1, .int x1)] [] s Q := by
  have r1_k := mf_51 J
  refine pg_252_84 (d := d + 5) ?_
  refine ps_nd_i (show pm_in x1 40 = true from xgi (show 0 ≤ x1.toInt from by omega) (show x1.toInt < 40 from by omega)) ?_
  have J2 := mw_b (r := 1160) (i := (Int32.toNatClampNeg x1)) (v := ((1 : Int64) <<< (Int32.toInt64 x1 &&& 63))) J
  have K3 := kpb' K (r := 1160) (i := (Int32.toNatClampNeg x1)) (v := ((1 : Int64) <<< (Int32.toInt64 x1 &&& 63))) rfl
  refine ms_250 J2 (show 0 ≤ x1.toInt from by omega) (show x1.toInt < 40 from by omega) (fun v4 p4_0 p4_1 p4_2 p4_3 b4 => ?_)
  have p4_0' : v4.toInt = 0 ∨ (ps_a s 1152 (Int32.toNatClampNeg x1)).toInt ≠ 2 ∨ (ps_a s 1153 (Int32.toNatClampNeg x1)).toInt < (ps_i s 1131 54).toInt := p4_0
  have r5_k := mf_54 J
  have r6_k : 0 ≤ (ps_a s 1152 (Int32.toNatClampNeg x1)).toInt ∧ (ps_a s 1152 (Int32.toNatClampNeg x1)).toInt ≤ 18 := ma_1152 (i := x1) J (show 0 ≤ x1.toInt from by omega) (show x1.toInt < 40 from by omega)
  have r7_k : -1 ≤ (ps_a s 1153 (Int32.toNatClampNeg x1)).toInt ∧ (ps_a s 1153 (Int32.toNatClampNeg x1)).toInt ≤ 9999 := ma_1153 (i := x1) J (show 0 ≤ x1.toInt from by omega) (show x1.toInt < 40 from by omega)
  have p4_1' : v4.toInt = 0 ∨ (ps_a s 1152 (Int32.toNatClampNeg x1)).toInt = 0 ∨ (ps_a s 1152 (Int32.toNatClampNeg x1)).toInt = 1 ∨ (ps_a s 1152 (Int32.toNatClampNeg x1)).toInt = 2 ∨ (ps_a s 1152 (Int32.toNatClampNeg x1)).toInt = 15 ∨ (ps_a s 1153 (Int32.toNatClampNeg x1)).toInt < x1.toInt := p4_1
  have p4_2' : v4.toInt = 0 ∨ ((ps_a s 1152 (Int32.toNatClampNeg x1)).toInt ≠ 3 ∧ (ps_a s 1152 (Int32.toNatClampNeg x1)).toInt ≠ 9 ∧ (ps_a s 1152 (Int32.toNatClampNeg x1)).toInt ≠ 14 ∧ (ps_a s 1152 (Int32.toNatClampNeg x1)).toInt ≠ 16 ∧ (ps_a s 1152 (Int32.toNatClampNeg x1)).toInt ≠ 8) ∨ (ps_a s 1154 (Int32.toNatClampNeg x1)).toInt < x1.toInt := p4_2
  have r8_k : 0 ≤ (ps_a s 1154 (Int32.toNatClampNeg x1)).toInt ∧ (ps_a s 1154 (Int32.toNatClampNeg x1)).toInt ≤ 9999 := ma_1154 (i := x1) J (show 0 ≤ x1.toInt from by omega) (show x1.toInt < 40 from by omega)
  have p4_3' : v4.toInt = 0 ∨ (ps_a s 1152 (Int32.toNatClampNeg x1)).toInt ≠ 8 ∨ (ps_a s 1155 (Int32.toNatClampNeg x1)).toInt < x1.toInt := p4_3
  have r9_k : 0 ≤ (ps_a s 1155 (Int32.toNatClampNeg x1)).toInt ∧ (ps_a s 1155 (Int32.toNatClampNeg x1)).toInt ≤ 9999 := ma_1155 (i := x1) J (show 0 ≤ x1.toInt from by omega) (show x1.toInt < 40 from by omega)
  refine And.intro (fun h10_k => ?_) (fun h10_k => ?_)
  · have f11_k : v4.toInt ≠ (0 : Int) := xne h10_k
    have hg1 := ma_1153 (i := x1) J (by omega) (by omega)
    have hg2 := ma_1154 (i := x1) J (by omega) (by omega)
    have hg3 := ma_1155 (i := x1) J (by omega) (by omega)
    have hbk := mf_21 J
    have hth := mf_54 J
    have hC : SC σ (ps_a s 1134) (ps_a s 1157) (ps_a s 1152) (ps_a s 1153) (ps_a s 1154) (ps_a s 1155) (ps_i s 1131 21).toInt x1.toInt := SB_SC hB hP ⟨by omega, by omega, hbk.1, hg2.1, hg3.1⟩ (fun z1_k z2_k z3_k z4_k => (by have z1_k : (ps_a s 1152 (Int32.toNatClampNeg x1)).toInt ≠ 0 := z1_k; have z2_k : (ps_a s 1152 (Int32.toNatClampNeg x1)).toInt ≠ 1 := z2_k; have z3_k : (ps_a s 1152 (Int32.toNatClampNeg x1)).toInt ≠ 2 := z3_k; have z4_k : (ps_a s 1152 (Int32.toNatClampNeg x1)).toInt ≠ 15 := z4_k; show (ps_a s 1153 (Int32.toNatClampNeg x1)).toInt < x1.toInt; omega)) (fun z_k => (by have z_k : (ps_a s 1152 (Int32.toNatClampNeg x1)).toInt = 3 ∨ (ps_a s 1152 (Int32.toNatClampNeg x1)).toInt = 9 ∨ (ps_a s 1152 (Int32.toNatClampNeg x1)).toInt = 14 ∨ (ps_a s 1152 (Int32.toNatClampNeg x1)).toInt = 16 ∨ (ps_a s 1152 (Int32.toNatClampNeg x1)).toInt = 8 := z_k; show (ps_a s 1154 (Int32.toNatClampNeg x1)).toInt < x1.toInt; omega)) (fun z_k => (by have z_k : (ps_a s 1152 (Int32.toNatClampNeg x1)).toInt = 8 := z_k; show (ps_a s 1155 (Int32.toNatClampNeg x1)).toInt < x1.toInt; omega)) (fun z_k => (by have z_k : (ps_a s 1152 (Int32.toNatClampNeg x1)).toInt = 2 := z_k; show (ps_a s 1153 (Int32.toNatClampNeg x1)).toInt < (ps_i s 1131 54).toInt; omega))
    have g0 : (ps_a s 1152 (Int32.toNatClampNeg x1)).toInt ≠ 0 → (ps_a s 1152 (Int32.toNatClampNeg x1)).toInt ≠ 15 → 0 ≤ (ps_a s 1153 (Int32.toNatClampNeg x1)).toInt := hB.1
    refine ps_nd_i (show pm_in x1 40 = true from xgi (show 0 ≤ x1.toInt from by omega) (show x1.toInt < 40 from by omega)) ?_
    refine And.intro (fun h12_k => ?_) (fun h12_k => ?_)
    · have f13_k : (ps_a s 1152 (Int32.toNatClampNeg x1)).toInt ≠ (2 : Int) := xne h12_k
      refine ps_nd_i (show pm_in x1 40 = true from xgi (show 0 ≤ x1.toInt from by omega) (show x1.toInt < 40 from by omega)) ?_
      refine ms_234 J2  (fun v14 p14_0 => ?_)
      have p14_0' : (((ps_a s 1152 (Int32.toNatClampNeg x1)).toInt = 0 ∨ (ps_a s 1152 (Int32.toNatClampNeg x1)).toInt = 1 ∨ (ps_a s 1152 (Int32.toNatClampNeg x1)).toInt = 15) ∧ v14.toInt = 0) ∨ (((ps_a s 1152 (Int32.toNatClampNeg x1)).toInt = 3 ∨ (ps_a s 1152 (Int32.toNatClampNeg x1)).toInt = 9 ∨ (ps_a s 1152 (Int32.toNatClampNeg x1)).toInt = 14 ∨ (ps_a s 1152 (Int32.toNatClampNeg x1)).toInt = 16) ∧ v14.toInt = 2) ∨ ((ps_a s 1152 (Int32.toNatClampNeg x1)).toInt = 8 ∧ v14.toInt = 3) ∨ (v14.toInt = 1 ∧ (ps_a s 1152 (Int32.toNatClampNeg x1)).toInt ≠ 0 ∧ (ps_a s 1152 (Int32.toNatClampNeg x1)).toInt ≠ 1 ∧ (ps_a s 1152 (Int32.toNatClampNeg x1)).toInt ≠ 15 ∧ (ps_a s 1152 (Int32.toNatClampNeg x1)).toInt ≠ 3 ∧ (ps_a s 1152 (Int32.toNatClampNeg x1)).toInt ≠ 9 ∧ (ps_a s 1152 (Int32.toNatClampNeg x1)).toInt ≠ 14 ∧ (ps_a s 1152 (Int32.toNatClampNeg x1)).toInt ≠ 16 ∧ (ps_a s 1152 (Int32.toNatClampNeg x1)).toInt ≠ 8) := p14_0
      refine And.intro (fun h15_k => ?_) (fun h15_k => ?_)
      · have f16_k : v14.toInt ≤ (0 : Int) := xle h15_k
        exact ms_252_146 (x1 := x1) (σ := σ) k  v14 _ J2 K3 hS hC hA hO hM (show 0 ≤ x1.toInt from by omega) (show x1.toInt < 40 from by omega) (show (ps_i s 1131 51).toInt = 0 from by omega) (show ((ps_a s 1152 (Int32.toNatClampNeg x1)).toInt = 2 ∧ v14.toInt = 0) ∨ ((((ps_a s 1152 (Int32.toNatClampNeg x1)).toInt = 0 ∨ (ps_a s 1152 (Int32.toNatClampNeg x1)).toInt = 1 ∨ (ps_a s 1152 (Int32.toNatClampNeg x1)).toInt = 15) ∧ v14.toInt = 0) ∨ (((ps_a s 1152 (Int32.toNatClampNeg x1)).toInt = 3 ∨ (ps_a s 1152 (Int32.toNatClampNeg x1)).toInt = 9 ∨ (ps_a s 1152 (Int32.toNatClampNeg x1)).toInt = 14 ∨ (ps_a s 1152 (Int32.toNatClampNeg x1)).toInt = 16) ∧ v14.toInt = 2) ∨ ((ps_a s 1152 (Int32.toNatClampNeg x1)).toInt = 8 ∧ v14.toInt = 3) ∨ (v14.toInt = 1 ∧ (ps_a s 1152 (Int32.toNatClampNeg x1)).toInt ≠ 0 ∧ (ps_a s 1152 (Int32.toNatClampNeg x1)).toInt ≠ 1 ∧ (ps_a s 1152 (Int32.toNatClampNeg x1)).toInt ≠ 15 ∧ (ps_a s 1152 (Int32.toNatClampNeg x1)).toInt ≠ 3 ∧ (ps_a s 1152 (Int32.toNatClampNeg x1)).toInt ≠ 9 ∧ (ps_a s 1152 (Int32.toNatClampNeg x1)).toInt ≠ 14 ∧ (ps_a s 1152 (Int32.toNatClampNeg x1)).toInt ≠ 16 ∧ (ps_a s 1152 (Int32.toNatClampNeg x1)).toInt ≠ 8)) from by omega)
      · have f17_k : (0 : Int) < v14.toInt := xlt h15_k
        refine ps_nd_i (show pm_in x1 40 = true from xgi (show 0 ≤ x1.toInt from by omega) (show x1.toInt < 40 from by omega)) ?_
        refine ms_251 J2 (show 0 ≤ x1.toInt from by omega) (show x1.toInt < 40 from by omega) (show 0 ≤ (ps_a s 1153 (Int32.toNatClampNeg x1)).toInt from by omega) (show (ps_a s 1153 (Int32.toNatClampNeg x1)).toInt < 40 from by omega) (fun s18 J18 K18 => ?_)
        have K19 := kpt K3 K18 rfl rfl
        have KC := K18
        have hS : Sg (ps_a s18 1135) (ps_a s18 1136) (ps_a s18 1138) (ps_a s18 1139) (ps_i s18 1131 21).toInt σ := by rw [show ps_a s18 1135 = ps_a (ps_ub s 1160 (Int32.toNatClampNeg x1) ((1 : Int64) <<< (Int32.toInt64 x1 &&& 63))) 1135 from (K18.2 1135 rfl).1, show ps_a s18 1136 = ps_a (ps_ub s 1160 (Int32.toNatClampNeg x1) ((1 : Int64) <<< (Int32.toInt64 x1 &&& 63))) 1136 from (K18.2 1136 rfl).1, show ps_a s18 1138 = ps_a (ps_ub s 1160 (Int32.toNatClampNeg x1) ((1 : Int64) <<< (Int32.toInt64 x1 &&& 63))) 1138 from (K18.2 1138 rfl).1, show ps_a s18 1139 = ps_a (ps_ub s 1160 (Int32.toNatClampNeg x1) ((1 : Int64) <<< (Int32.toInt64 x1 &&& 63))) 1139 from (K18.2 1139 rfl).1, show ps_i s18 1131 21 = ps_i (ps_ub s 1160 (Int32.toNatClampNeg x1) ((1 : Int64) <<< (Int32.toInt64 x1 &&& 63))) 1131 21 from kp_i K18 21 rfl]; exact hS
        have hP : PSt σ (ps_a s18 1134) (ps_a s18 1157) x1.toInt := by rw [show ps_a s18 1134 = ps_a (ps_ub s 1160 (Int32.toNatClampNeg x1) ((1 : Int64) <<< (Int32.toInt64 x1 &&& 63))) 1134 from (K18.2 1134 rfl).1, show ps_a s18 1157 = ps_a (ps_ub s 1160 (Int32.toNatClampNeg x1) ((1 : Int64) <<< (Int32.toInt64 x1 &&& 63))) 1157 from (K18.2 1157 rfl).1]; exact hP
        have hB : SB σ (ps_a s18 1134) (ps_a s18 1152) (ps_a s18 1153) (ps_i s18 1131 21).toInt (ps_i s18 1131 54).toInt x1.toInt := by rw [show ps_a s18 1134 = ps_a (ps_ub s 1160 (Int32.toNatClampNeg x1) ((1 : Int64) <<< (Int32.toInt64 x1 &&& 63))) 1134 from (K18.2 1134 rfl).1, show ps_a s18 1152 = ps_a (ps_ub s 1160 (Int32.toNatClampNeg x1) ((1 : Int64) <<< (Int32.toInt64 x1 &&& 63))) 1152 from (K18.2 1152 rfl).1, show ps_a s18 1153 = ps_a (ps_ub s 1160 (Int32.toNatClampNeg x1) ((1 : Int64) <<< (Int32.toInt64 x1 &&& 63))) 1153 from (K18.2 1153 rfl).1, show ps_i s18 1131 21 = ps_i (ps_ub s 1160 (Int32.toNatClampNeg x1) ((1 : Int64) <<< (Int32.toInt64 x1 &&& 63))) 1131 21 from kp_i K18 21 rfl, show ps_i s18 1131 54 = ps_i (ps_ub s 1160 (Int32.toNatClampNeg x1) ((1 : Int64) <<< (Int32.toInt64 x1 &&& 63))) 1131 54 from kp_i K18 54 rfl]; exact hB
        have hA : As σ (ps_a s18 1134) x1.toInt (ps_i s18 1131 51).toInt := by rw [show ps_a s18 1134 = ps_a (ps_ub s 1160 (Int32.toNatClampNeg x1) ((1 : Int64) <<< (Int32.toInt64 x1 &&& 63))) 1134 from (K18.2 1134 rfl).1, show ps_i s18 1131 51 = ps_i (ps_ub s 1160 (Int32.toNatClampNeg x1) ((1 : Int64) <<< (Int32.toInt64 x1 &&& 63))) 1131 51 from kp_i K18 51 rfl]; exact hA
        have hO : OutB (ps_a s0 1134) (ps_a s18 1134) x1.toInt := by rw [show ps_a s18 1134 = ps_a (ps_ub s 1160 (Int32.toNatClampNeg x1) ((1 : Int64) <<< (Int32.toInt64 x1 &&& 63))) 1134 from (K18.2 1134 rfl).1]; exact hO
        have hM : Md (ps_a s18 1149) (ps_i s18 1131 34).toInt ([] : List Nat) := by rw [show ps_a s18 1149 = ps_a (ps_ub s 1160 (Int32.toNatClampNeg x1) ((1 : Int64) <<< (Int32.toInt64 x1 &&& 63))) 1149 from (K18.2 1149 rfl).1, show ps_i s18 1131 34 = ps_i (ps_ub s 1160 (Int32.toNatClampNeg x1) ((1 : Int64) <<< (Int32.toInt64 x1 &&& 63))) 1131 34 from kp_i K18 34 rfl]; exact hM
        have hC : SC σ (ps_a s18 1134) (ps_a s18 1157) (ps_a s18 1152) (ps_a s18 1153) (ps_a s18 1154) (ps_a s18 1155) (ps_i s18 1131 21).toInt x1.toInt := by rw [show ps_a s18 1134 = ps_a (ps_ub s 1160 (Int32.toNatClampNeg x1) ((1 : Int64) <<< (Int32.toInt64 x1 &&& 63))) 1134 from (K18.2 1134 rfl).1, show ps_a s18 1157 = ps_a (ps_ub s 1160 (Int32.toNatClampNeg x1) ((1 : Int64) <<< (Int32.toInt64 x1 &&& 63))) 1157 from (K18.2 1157 rfl).1, show ps_a s18 1152 = ps_a (ps_ub s 1160 (Int32.toNatClampNeg x1) ((1 : Int64) <<< (Int32.toInt64 x1 &&& 63))) 1152 from (K18.2 1152 rfl).1, show ps_a s18 1153 = ps_a (ps_ub s 1160 (Int32.toNatClampNeg x1) ((1 : Int64) <<< (Int32.toInt64 x1 &&& 63))) 1153 from (K18.2 1153 rfl).1, show ps_a s18 1154 = ps_a (ps_ub s 1160 (Int32.toNatClampNeg x1) ((1 : Int64) <<< (Int32.toInt64 x1 &&& 63))) 1154 from (K18.2 1154 rfl).1, show ps_a s18 1155 = ps_a (ps_ub s 1160 (Int32.toNatClampNeg x1) ((1 : Int64) <<< (Int32.toInt64 x1 &&& 63))) 1155 from (K18.2 1155 rfl).1, show ps_i s18 1131 21 = ps_i (ps_ub s 1160 (Int32.toNatClampNeg x1) ((1 : Int64) <<< (Int32.toInt64 x1 &&& 63))) 1131 21 from kp_i K18 21 rfl]; exact hC
        have r20_k := mf_51 J18
        have u21 : (ps_i s18 1131 51).toInt = (ps_i s 1131 51).toInt := xeq (kp_i K18 51 rfl)
        have r22_k : 0 ≤ (ps_a s18 1152 (Int32.toNatClampNeg x1)).toInt ∧ (ps_a s18 1152 (Int32.toNatClampNeg x1)).toInt ≤ 18 := ma_1152 (i := x1) J18 (show 0 ≤ x1.toInt from by omega) (show x1.toInt < 40 from by omega)
        have u23 : (ps_a s18 1152 (Int32.toNatClampNeg x1)).toInt = (ps_a s 1152 (Int32.toNatClampNeg x1)).toInt := xeq (kp_a K18 1152 rfl _)
        exact ms_252_146 (x1 := x1) (σ := σ) k  v14 _ J18 K19 hS hC hA hO hM (show 0 ≤ x1.toInt from by omega) (show x1.toInt < 40 from by omega) (show (ps_i s18 1131 51).toInt = 0 from by omega) (show ((ps_a s18 1152 (Int32.toNatClampNeg x1)).toInt = 2 ∧ v14.toInt = 0) ∨ ((((ps_a s18 1152 (Int32.toNatClampNeg x1)).toInt = 0 ∨ (ps_a s18 1152 (Int32.toNatClampNeg x1)).toInt = 1 ∨ (ps_a s18 1152 (Int32.toNatClampNeg x1)).toInt = 15) ∧ v14.toInt = 0) ∨ (((ps_a s18 1152 (Int32.toNatClampNeg x1)).toInt = 3 ∨ (ps_a s18 1152 (Int32.toNatClampNeg x1)).toInt = 9 ∨ (ps_a s18 1152 (Int32.toNatClampNeg x1)).toInt = 14 ∨ (ps_a s18 1152 (Int32.toNatClampNeg x1)).toInt = 16) ∧ v14.toInt = 2) ∨ ((ps_a s18 1152 (Int32.toNatClampNeg x1)).toInt = 8 ∧ v14.toInt = 3) ∨ (v14.toInt = 1 ∧ (ps_a s18 1152 (Int32.toNatClampNeg x1)).toInt ≠ 0 ∧ (ps_a s18 1152 (Int32.toNatClampNeg x1)).toInt ≠ 1 ∧ (ps_a s18 1152 (Int32.toNatClampNeg x1)).toInt ≠ 15 ∧ (ps_a s18 1152 (Int32.toNatClampNeg x1)).toInt ≠ 3 ∧ (ps_a s18 1152 (Int32.toNatClampNeg x1)).toInt ≠ 9 ∧ (ps_a s18 1152 (Int32.toNatClampNeg x1)).toInt ≠ 14 ∧ (ps_a s18 1152 (Int32.toNatClampNeg x1)).toInt ≠ 16 ∧ (ps_a s18 1152 (Int32.toNatClampNeg x1)).toInt ≠ 8)) from by omega)
    · have f24_k : (ps_a s 1152 (Int32.toNatClampNeg x1)).toInt = (2 : Int) := xeq h12_k
      refine And.intro (fun h25_k => ?_) (fun h25_k => ?_)
      · exact ms_252_146 (x1 := x1) (σ := σ) k  (0) _ J2 K3 hS hC hA hO hM (show 0 ≤ x1.toInt from by omega) (show x1.toInt < 40 from by omega) (show (ps_i s 1131 51).toInt = 0 from by omega) (show ((ps_a s 1152 (Int32.toNatClampNeg x1)).toInt = 2 ∧ (0 : Int) = 0) ∨ ((((ps_a s 1152 (Int32.toNatClampNeg x1)).toInt = 0 ∨ (ps_a s 1152 (Int32.toNatClampNeg x1)).toInt = 1 ∨ (ps_a s 1152 (Int32.toNatClampNeg x1)).toInt = 15) ∧ (0 : Int) = 0) ∨ (((ps_a s 1152 (Int32.toNatClampNeg x1)).toInt = 3 ∨ (ps_a s 1152 (Int32.toNatClampNeg x1)).toInt = 9 ∨ (ps_a s 1152 (Int32.toNatClampNeg x1)).toInt = 14 ∨ (ps_a s 1152 (Int32.toNatClampNeg x1)).toInt = 16) ∧ (0 : Int) = 2) ∨ ((ps_a s 1152 (Int32.toNatClampNeg x1)).toInt = 8 ∧ (0 : Int) = 3) ∨ ((0 : Int) = 1 ∧ (ps_a s 1152 (Int32.toNatClampNeg x1)).toInt ≠ 0 ∧ (ps_a s 1152 (Int32.toNatClampNeg x1)).toInt ≠ 1 ∧ (ps_a s 1152 (Int32.toNatClampNeg x1)).toInt ≠ 15 ∧ (ps_a s 1152 (Int32.toNatClampNeg x1)).toInt ≠ 3 ∧ (ps_a s 1152 (Int32.toNatClampNeg x1)).toInt ≠ 9 ∧ (ps_a s 1152 (Int32.toNatClampNeg x1)).toInt ≠ 14 ∧ (ps_a s 1152 (Int32.toNatClampNeg x1)).toInt ≠ 16 ∧ (ps_a s 1152 (Int32.toNatClampNeg x1)).toInt ≠ 8)) from by omega)
      · exact absurd (show (0 : Int32) < (0 : Int32) from h25_k) (by decide)
  · have f26_k : v4.toInt = (0 : Int) := xeq h10_k
    refine ms_241 J2 (show 1 ≤ (1 : Int) from by omega) (show (1 : Int) ≤ 5 from by omega) (fun s27 J27 K27 p27_0 => ?_)
    have K28 := kpt K3 K27 rfl rfl
    have KC := K27
    have hS : Sg (ps_a s27 1135) (ps_a s27 1136) (ps_a s27 1138) (ps_a s27 1139) (ps_i s27 1131 21).toInt σ := by rw [show ps_a s27 1135 = ps_a (ps_ub s 1160 (Int32.toNatClampNeg x1) ((1 : Int64) <<< (Int32.toInt64 x1 &&& 63))) 1135 from (K27.2 1135 rfl).1, show ps_a s27 1136 = ps_a (ps_ub s 1160 (Int32.toNatClampNeg x1) ((1 : Int64) <<< (Int32.toInt64 x1 &&& 63))) 1136 from (K27.2 1136 rfl).1, show ps_a s27 1138 = ps_a (ps_ub s 1160 (Int32.toNatClampNeg x1) ((1 : Int64) <<< (Int32.toInt64 x1 &&& 63))) 1138 from (K27.2 1138 rfl).1, show ps_a s27 1139 = ps_a (ps_ub s 1160 (Int32.toNatClampNeg x1) ((1 : Int64) <<< (Int32.toInt64 x1 &&& 63))) 1139 from (K27.2 1139 rfl).1, show ps_i s27 1131 21 = ps_i (ps_ub s 1160 (Int32.toNatClampNeg x1) ((1 : Int64) <<< (Int32.toInt64 x1 &&& 63))) 1131 21 from kp_i K27 21 rfl]; exact hS
    have hP : PSt σ (ps_a s27 1134) (ps_a s27 1157) x1.toInt := by rw [show ps_a s27 1134 = ps_a (ps_ub s 1160 (Int32.toNatClampNeg x1) ((1 : Int64) <<< (Int32.toInt64 x1 &&& 63))) 1134 from (K27.2 1134 rfl).1, show ps_a s27 1157 = ps_a (ps_ub s 1160 (Int32.toNatClampNeg x1) ((1 : Int64) <<< (Int32.toInt64 x1 &&& 63))) 1157 from (K27.2 1157 rfl).1]; exact hP
    have hB : SB σ (ps_a s27 1134) (ps_a s27 1152) (ps_a s27 1153) (ps_i s27 1131 21).toInt (ps_i s27 1131 54).toInt x1.toInt := by rw [show ps_a s27 1134 = ps_a (ps_ub s 1160 (Int32.toNatClampNeg x1) ((1 : Int64) <<< (Int32.toInt64 x1 &&& 63))) 1134 from (K27.2 1134 rfl).1, show ps_a s27 1152 = ps_a (ps_ub s 1160 (Int32.toNatClampNeg x1) ((1 : Int64) <<< (Int32.toInt64 x1 &&& 63))) 1152 from (K27.2 1152 rfl).1, show ps_a s27 1153 = ps_a (ps_ub s 1160 (Int32.toNatClampNeg x1) ((1 : Int64) <<< (Int32.toInt64 x1 &&& 63))) 1153 from (K27.2 1153 rfl).1, show ps_i s27 1131 21 = ps_i (ps_ub s 1160 (Int32.toNatClampNeg x1) ((1 : Int64) <<< (Int32.toInt64 x1 &&& 63))) 1131 21 from kp_i K27 21 rfl, show ps_i s27 1131 54 = ps_i (ps_ub s 1160 (Int32.toNatClampNeg x1) ((1 : Int64) <<< (Int32.toInt64 x1 &&& 63))) 1131 54 from kp_i K27 54 rfl]; exact hB
    have hA : As σ (ps_a s27 1134) x1.toInt (ps_i s27 1131 51).toInt := by rw [show ps_a s27 1134 = ps_a (ps_ub s 1160 (Int32.toNatClampNeg x1) ((1 : Int64) <<< (Int32.toInt64 x1 &&& 63))) 1134 from (K27.2 1134 rfl).1, show ps_i s27 1131 51 = ps_i (ps_ub s 1160 (Int32.toNatClampNeg x1) ((1 : Int64) <<< (Int32.toInt64 x1 &&& 63))) 1131 51 from kp_i K27 51 rfl]; exact hA
    have hO : OutB (ps_a s0 1134) (ps_a s27 1134) x1.toInt := by rw [show ps_a s27 1134 = ps_a (ps_ub s 1160 (Int32.toNatClampNeg x1) ((1 : Int64) <<< (Int32.toInt64 x1 &&& 63))) 1134 from (K27.2 1134 rfl).1]; exact hO
    have hM : Md (ps_a s27 1149) (ps_i s27 1131 34).toInt ([] : List Nat) := by rw [show ps_a s27 1149 = ps_a (ps_ub s 1160 (Int32.toNatClampNeg x1) ((1 : Int64) <<< (Int32.toInt64 x1 &&& 63))) 1149 from (K27.2 1149 rfl).1, show ps_i s27 1131 34 = ps_i (ps_ub s 1160 (Int32.toNatClampNeg x1) ((1 : Int64) <<< (Int32.toInt64 x1 &&& 63))) 1131 34 from kp_i K27 34 rfl]; exact hM
    have p27_0' : 1 ≤ (ps_i s27 1131 50).toInt := p27_0
    have r29_k := mf_50 J27
    exact k _ J27 K28 hP (fun z_k => absurd z_k (show ¬ ((ps_i s27 1131 50).toInt ≤ 0) from by omega)) (fun k hk_k => hO k (by omega))

theorem ms_252 {x : Nat → Nat → Nat} {t : Int32} {s : ps_S} {d : Nat} {x1 : Int32} {f : ps_S → Prop} (J : mJ x t s) {σ : mSig} (hS : Sg (ps_a s 1135) (ps_a s 1136) (ps_a s 1138) (ps_a s 1139) (ps_i s 1131 21).toInt σ) (hP : PSt σ (ps_a s 1134) (ps_a s 1157) x1.toInt) (hB : SB σ (ps_a s 1134) (ps_a s 1152) (ps_a s 1153) (ps_i s 1131 21).toInt (ps_i s 1131 54).toInt x1.toInt) (q3_k : 0 ≤ x1.toInt) (q4_k : x1.toInt < 40) (k : ∀ (s' : ps_S), mJ x t s' → kp [1134, 1149, 1150, 1151, 1157, 1158, 1159, 1160] [34, 50, 51] s s' → (PSt σ (ps_a s' 1134) (ps_a s' 1157) x1.toInt) → ((ps_i s' 1131 50).toInt ≤ 0 → PSt σ (ps_a s' 1134) (ps_a s' 1157) (x1.toInt + 1)) → (∀ k : Nat, 21320 ≤ k → ps_a s' 1134 k = ps_a s 1134 k) → f s') : ps_Cl (d + 6) 252 [.ref 1131, .int x1] s (ps_rV f) := by
  have K : kp [1134, 1149, 1150, 1151, 1157, 1158, 1159, 1160] [34, 50, 51] s s := kp_refl
  refine pg_252_0 (d := d + 5) ?_
  have hO : OutB (ps_a s 1134) (ps_a s 1134) x1.toInt := OutB_refl
  have J1 := mwi_50 (v := (0 : Int32)) J (show 0 ≤ (0 : Int) from by omega) (show (0 : Int) ≤ 5 from by omega)
  have K2 := kpi K (q := 50) (v := (0 : Int32)) rfl
  have J3 := mwi_51 (v := (0 : Int32)) J1 (show 0 ≤ (0 : Int) from by omega) (show (0 : Int) ≤ 1000 from by omega)
  have K4 := kpi K2 (q := 51) (v := (0 : Int32)) rfl
  have J5 := mwi_34 (v := (0 : Int32)) J3 (show 0 ≤ (0 : Int) from by omega) (show (0 : Int) ≤ 100000 from by omega)
  have K6 := kpi K4 (q := 34) (v := (0 : Int32)) rfl
  have hA : As σ (ps_a (ps_ui (ps_ui (ps_ui s 1131 50 0) 1131 51 0) 1131 34 0) 1134) x1.toInt (ps_i (ps_ui (ps_ui (ps_ui s 1131 50 0) 1131 51 0) 1131 34 0) 1131 51).toInt := As_0
  have hM : Md (ps_a (ps_ui (ps_ui (ps_ui s 1131 50 0) 1131 51 0) 1131 34 0) 1149) (ps_i (ps_ui (ps_ui (ps_ui s 1131 50 0) 1131 51 0) 1131 34 0) 1131 34).toInt ([] : List Nat) := Md_nil rfl
  refine ps_nd_i (show pm_in x1 40 = true from xgi (show 0 ≤ x1.toInt from by omega) (show x1.toInt < 40 from by omega)) ?_
  have r7_k : 0 ≤ (ps_a s 1152 (Int32.toNatClampNeg x1)).toInt ∧ (ps_a s 1152 (Int32.toNatClampNeg x1)).toInt ≤ 18 := ma_1152 (i := x1) J (show 0 ≤ x1.toInt from by omega) (show x1.toInt < 40 from by omega)
  refine And.intro (fun h8_k => ?_) (fun h8_k => ?_)
  · have f9_k : (ps_a s 1152 (Int32.toNatClampNeg x1)).toInt ≠ (1 : Int) := xne h8_k
    refine ps_nd_i (show pm_in x1 40 = true from xgi (show 0 ≤ x1.toInt from by omega) (show x1.toInt < 40 from by omega)) ?_
    have J10 := mwa_n 1158 (i := (Int32.toNatClampNeg x1)) (v := (0 : Int32)) J5 rfl (by decide)
    have K11 := kpa' K6 (r := 1158) (i := (Int32.toNatClampNeg x1)) (v := (0 : Int32)) rfl
    refine ps_nd_i (show pm_in x1 40 = true from xgi (show 0 ≤ x1.toInt from by omega) (show x1.toInt < 40 from by omega)) ?_
    refine And.intro (fun h12_k => ?_) (fun h12_k => ?_)
    · have f13_k : (ps_a s 1152 (Int32.toNatClampNeg x1)).toInt ≠ (2 : Int) := xne h12_k
      refine ps_nd_i (show pm_in x1 40 = true from xgi (show 0 ≤ x1.toInt from by omega) (show x1.toInt < 40 from by omega)) ?_
      have J14 := mwa_n 1159 (i := (Int32.toNatClampNeg x1)) (v := (0 : Int32)) J10 rfl (by decide)
      have K15 := kpa' K11 (r := 1159) (i := (Int32.toNatClampNeg x1)) (v := (0 : Int32)) rfl
      exact ms_252_84 (x1 := x1) (σ := σ) k   _ J14 K15 hS hP hB hA hO hM (show 0 ≤ x1.toInt from by omega) (show x1.toInt < 40 from by omega) (show (0 : Int) = 0 from by omega)
    · have f16_k : (ps_a s 1152 (Int32.toNatClampNeg x1)).toInt = (2 : Int) := xeq h12_k
      refine ps_nd_i (show pm_in x1 40 = true from xgi (show 0 ≤ x1.toInt from by omega) (show x1.toInt < 40 from by omega)) ?_
      have r17_k : -1 ≤ (ps_a s 1153 (Int32.toNatClampNeg x1)).toInt ∧ (ps_a s 1153 (Int32.toNatClampNeg x1)).toInt ≤ 9999 := ma_1153 (i := x1) J (show 0 ≤ x1.toInt from by omega) (show x1.toInt < 40 from by omega)
      have r18_k := mf_54 J
      refine And.intro (fun h19_k => ?_) (fun h19_k => ?_)
      · have f20_k : (ps_i s 1131 54).toInt ≤ (ps_a s 1153 (Int32.toNatClampNeg x1)).toInt := xle h19_k
        refine ps_nd_i (show pm_in x1 40 = true from xgi (show 0 ≤ x1.toInt from by omega) (show x1.toInt < 40 from by omega)) ?_
        have J21 := mwa_n 1159 (i := (Int32.toNatClampNeg x1)) (v := (0 : Int32)) J10 rfl (by decide)
        have K22 := kpa' K11 (r := 1159) (i := (Int32.toNatClampNeg x1)) (v := (0 : Int32)) rfl
        exact ms_252_84 (x1 := x1) (σ := σ) k   _ J21 K22 hS hP hB hA hO hM (show 0 ≤ x1.toInt from by omega) (show x1.toInt < 40 from by omega) (show (0 : Int) = 0 from by omega)
      · have f23_k : (ps_a s 1153 (Int32.toNatClampNeg x1)).toInt < (ps_i s 1131 54).toInt := xlt h19_k
        refine ps_nd_i (show pm_in x1 40 = true from xgi (show 0 ≤ x1.toInt from by omega) (show x1.toInt < 40 from by omega)) ?_
        refine ps_nd_i (show pm_in x1 40 = true from xgi (show 0 ≤ x1.toInt from by omega) (show x1.toInt < 40 from by omega)) ?_
        have J24 := mwa_n 1159 (i := (Int32.toNatClampNeg x1)) (v := ((1 : Int32) <<< ((ps_a s 1153 (Int32.toNatClampNeg x1)) &&& 31))) J10 rfl (by decide)
        have K25 := kpa' K11 (r := 1159) (i := (Int32.toNatClampNeg x1)) (v := ((1 : Int32) <<< ((ps_a s 1153 (Int32.toNatClampNeg x1)) &&& 31))) rfl
        exact ms_252_84 (x1 := x1) (σ := σ) k   _ J24 K25 hS hP hB hA hO hM (show 0 ≤ x1.toInt from by omega) (show x1.toInt < 40 from by omega) (show (0 : Int) = 0 from by omega)
  · have f26_k : (ps_a s 1152 (Int32.toNatClampNeg x1)).toInt = (1 : Int) := xeq h8_k
    refine ps_nd_i (show pm_in x1 40 = true from xgi (show 0 ≤ x1.toInt from by omega) (show x1.toInt < 40 from by omega)) ?_
    have r27_k : -1 ≤ (ps_a s 1153 (Int32.toNatClampNeg x1)).toInt ∧ (ps_a s 1153 (Int32.toNatClampNeg x1)).toInt ≤ 9999 := ma_1153 (i := x1) J (show 0 ≤ x1.toInt from by omega) (show x1.toInt < 40 from by omega)
    refine ps_nd_i (show pm_in x1 40 = true from xgi (show 0 ≤ x1.toInt from by omega) (show x1.toInt < 40 from by omega)) ?_
    have J28 := mwa_n 1158 (i := (Int32.toNatClampNeg x1)) (v := ((1 : Int32) <<< ((ps_a s 1153 (Int32.toNatClampNeg x1)) &&& 31))) J5 rfl (by decide)
    have K29 := kpa' K6 (r := 1158) (i := (Int32.toNatClampNeg x1)) (v := ((1 : Int32) <<< ((ps_a s 1153 (Int32.toNatClampNeg x1)) &&& 31))) rfl
    refine ps_nd_i (show pm_in x1 40 = true from xgi (show 0 ≤ x1.toInt from by omega) (show x1.toInt < 40 from by omega)) ?_
    refine And.intro (fun h30_k => ?_) (fun h30_k => ?_)
    · have f31_k : (ps_a s 1152 (Int32.toNatClampNeg x1)).toInt ≠ (2 : Int) := xne h30_k
      refine ps_nd_i (show pm_in x1 40 = true from xgi (show 0 ≤ x1.toInt from by omega) (show x1.toInt < 40 from by omega)) ?_
      have J32 := mwa_n 1159 (i := (Int32.toNatClampNeg x1)) (v := (0 : Int32)) J28 rfl (by decide)
      have K33 := kpa' K29 (r := 1159) (i := (Int32.toNatClampNeg x1)) (v := (0 : Int32)) rfl
      exact ms_252_84 (x1 := x1) (σ := σ) k   _ J32 K33 hS hP hB hA hO hM (show 0 ≤ x1.toInt from by omega) (show x1.toInt < 40 from by omega) (show (0 : Int) = 0 from by omega)
    · have f34_k : (ps_a s 1152 (Int32.toNatClampNeg x1)).toInt = (2 : Int) := xeq h30_k
      refine ps_nd_i (show pm_in x1 40 = true from xgi (show 0 ≤ x1.toInt from by omega) (show x1.toInt < 40 from by omega)) ?_
      have r35_k := mf_54 J
      refine And.intro (fun h36_k => ?_) (fun h36_k => ?_)
      · have f37_k : (ps_i s 1131 54).toInt ≤ (ps_a s 1153 (Int32.toNatClampNeg x1)).toInt := xle h36_k
        refine ps_nd_i (show pm_in x1 40 = true from xgi (show 0 ≤ x1.toInt from by omega) (show x1.toInt < 40 from by omega)) ?_
        have J38 := mwa_n 1159 (i := (Int32.toNatClampNeg x1)) (v := (0 : Int32)) J28 rfl (by decide)
        have K39 := kpa' K29 (r := 1159) (i := (Int32.toNatClampNeg x1)) (v := (0 : Int32)) rfl
        exact ms_252_84 (x1 := x1) (σ := σ) k   _ J38 K39 hS hP hB hA hO hM (show 0 ≤ x1.toInt from by omega) (show x1.toInt < 40 from by omega) (show (0 : Int) = 0 from by omega)
      · have f40_k : (ps_a s 1153 (Int32.toNatClampNeg x1)).toInt < (ps_i s 1131 54).toInt := xlt h36_k
        refine ps_nd_i (show pm_in x1 40 = true from xgi (show 0 ≤ x1.toInt from by omega) (show x1.toInt < 40 from by omega)) ?_
        refine ps_nd_i (show pm_in x1 40 = true from xgi (show 0 ≤ x1.toInt from by omega) (show x1.toInt < 40 from by omega)) ?_
        have J41 := mwa_n 1159 (i := (Int32.toNatClampNeg x1)) (v := ((1 : Int32) <<< ((ps_a s 1153 (Int32.toNatClampNeg x1)) &&& 31))) J28 rfl (by decide)
        have K42 := kpa' K29 (r := 1159) (i := (Int32.toNatClampNeg x1)) (v := ((1 : Int32) <<< ((ps_a s 1153 (Int32.toNatClampNeg x1)) &&& 31))) rfl
        exact ms_252_84 (x1 := x1) (σ := σ) k   _ J41 K42 hS hP hB hA hO hM (show 0 ≤ x1.toInt from by omega) (show x1.toInt < 40 from by omega) (show (0 : Int) = 0 from by omega)
