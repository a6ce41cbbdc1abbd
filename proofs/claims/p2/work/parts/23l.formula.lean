set_option maxRecDepth 100000
-- ProofBenchModel.beginsFormula(I)V
theorem pg_214_0 {d : Nat} {x1 : Int32} {s : ps_S} {Q : Option Value → ps_S → Prop} (h :
  ps_Cl d 213 [.ref 1131] s (ps_rI (fun v1 s1 =>
    ps_Cl d 195 [.ref 1131, .long (7237492 : Int64)] s1 (ps_rI (fun v2 s2 =>
      (v1 = 4 →
        ps_At (d + 1) 214 23 [(0, .ref 1131), (1, .int x1), (2, .int v1), (3, .int v2)] [] s2 Q) ∧
      (v1 ≠ 4 →
        (v1 ≠ 5 →
          (v2 = 0 →
            (v1 < 0 →
              ps_At (d + 1) 214 84 [(0, .ref 1131), (1, .int x1), (2, .int v1), (3, .int v2), (4, .int 0), (5, .int 1)] [] s2 Q) ∧
            (0 ≤ v1 →
              (40 < ((ps_i s2 1131 31) + 1) →
                ps_At (d + 1) 214 84 [(0, .ref 1131), (1, .int x1), (2, .int v1), (3, .int v2), (4, .int 0), (5, .int 1)] [] s2 Q) ∧
              (((ps_i s2 1131 31) + 1) ≤ 40 →
                (12 < (((ps_i s2 1131 29) + 1) - 1) →
                  ps_At (d + 1) 214 84 [(0, .ref 1131), (1, .int x1), (2, .int v1), (3, .int v2), (4, .int 0), (5, .int 1)] [] s2 Q) ∧
                ((((ps_i s2 1131 29) + 1) - 1) ≤ 12 →
                  ((0 : Int32) = 0 →
                    ps_At (d + 1) 214 88 [(0, .ref 1131), (1, .int x1), (2, .int v1), (3, .int v2), (4, .int 0), (5, .int 1)] [] s2 Q) ∧
                  ((0 : Int32) ≠ 0 →
                    ((ps_i s2 1131 30) ≤ 4 →
                      ps_At (d + 1) 214 88 [(0, .ref 1131), (1, .int x1), (2, .int v1), (3, .int v2), (4, .int 0), (5, .int 1)] [] s2 Q) ∧
                    (4 < (ps_i s2 1131 30) →
                      ps_At (d + 1) 214 84 [(0, .ref 1131), (1, .int x1), (2, .int v1), (3, .int v2), (4, .int 0), (5, .int 1)] [] s2 Q)))))) ∧
          (v2 ≠ 0 →
            (v1 < 0 →
              ps_At (d + 1) 214 84 [(0, .ref 1131), (1, .int x1), (2, .int v1), (3, .int v2), (4, .int 0), (5, .int 2)] [] s2 Q) ∧
            (0 ≤ v1 →
              (40 < ((ps_i s2 1131 31) + 2) →
                ps_At (d + 1) 214 84 [(0, .ref 1131), (1, .int x1), (2, .int v1), (3, .int v2), (4, .int 0), (5, .int 2)] [] s2 Q) ∧
              (((ps_i s2 1131 31) + 2) ≤ 40 →
                (12 < (((ps_i s2 1131 29) + 2) - 1) →
                  ps_At (d + 1) 214 84 [(0, .ref 1131), (1, .int x1), (2, .int v1), (3, .int v2), (4, .int 0), (5, .int 2)] [] s2 Q) ∧
                ((((ps_i s2 1131 29) + 2) - 1) ≤ 12 →
                  ((0 : Int32) = 0 →
                    ps_At (d + 1) 214 88 [(0, .ref 1131), (1, .int x1), (2, .int v1), (3, .int v2), (4, .int 0), (5, .int 2)] [] s2 Q) ∧
                  ((0 : Int32) ≠ 0 →
                    ((ps_i s2 1131 30) ≤ 4 →
                      ps_At (d + 1) 214 88 [(0, .ref 1131), (1, .int x1), (2, .int v1), (3, .int v2), (4, .int 0), (5, .int 2)] [] s2 Q) ∧
                    (4 < (ps_i s2 1131 30) →
                      ps_At (d + 1) 214 84 [(0, .ref 1131), (1, .int x1), (2, .int v1), (3, .int v2), (4, .int 0), (5, .int 2)] [] s2 Q))))))) ∧
        (v1 = 5 →
          ps_At (d + 1) 214 23 [(0, .ref 1131), (1, .int x1), (2, .int v1), (3, .int v2)] [] s2 Q))))))) : ps_At (d + 1) 214 0 [(0, .ref 1131), (1, .int x1)] [] s Q :=
  ps_wp_at (stops := [(23, [0, 1, 2, 3]), (84, [0, 1, 2, 3, 4, 5]), (88, [0, 1, 2, 3, 4, 5]), (133, [0])]) (n := 68) h rfl

theorem pg_214_23 {d : Nat} {x1 : Int32} {x2 : Int32} {x3 : Int32} {s : ps_S} {Q : Option Value → ps_S → Prop} (h :
  (x3 = 0 →
    (x2 < 0 →
      ps_At (d + 1) 214 84 [(0, .ref 1131), (1, .int x1), (2, .int x2), (3, .int x3), (4, .int 1), (5, .int 1)] [] s Q) ∧
    (0 ≤ x2 →
      (40 < ((ps_i s 1131 31) + 1) →
        ps_At (d + 1) 214 84 [(0, .ref 1131), (1, .int x1), (2, .int x2), (3, .int x3), (4, .int 1), (5, .int 1)] [] s Q) ∧
      (((ps_i s 1131 31) + 1) ≤ 40 →
        (12 < (((ps_i s 1131 29) + 1) - 1) →
          ps_At (d + 1) 214 84 [(0, .ref 1131), (1, .int x1), (2, .int x2), (3, .int x3), (4, .int 1), (5, .int 1)] [] s Q) ∧
        ((((ps_i s 1131 29) + 1) - 1) ≤ 12 →
          ((1 : Int32) = 0 →
            ps_At (d + 1) 214 88 [(0, .ref 1131), (1, .int x1), (2, .int x2), (3, .int x3), (4, .int 1), (5, .int 1)] [] s Q) ∧
          ((1 : Int32) ≠ 0 →
            ((ps_i s 1131 30) ≤ 4 →
              ps_At (d + 1) 214 88 [(0, .ref 1131), (1, .int x1), (2, .int x2), (3, .int x3), (4, .int 1), (5, .int 1)] [] s Q) ∧
            (4 < (ps_i s 1131 30) →
              ps_At (d + 1) 214 84 [(0, .ref 1131), (1, .int x1), (2, .int x2), (3, .int x3), (4, .int 1), (5, .int 1)] [] s Q)))))) ∧
  (x3 ≠ 0 →
    (x2 < 0 →
      ps_At (d + 1) 214 84 [(0, .ref 1131), (1, .int x1), (2, .int x2), (3, .int x3), (4, .int 1), (5, .int 2)] [] s Q) ∧
    (0 ≤ x2 →
      (40 < ((ps_i s 1131 31) + 2) →
        ps_At (d + 1) 214 84 [(0, .ref 1131), (1, .int x1), (2, .int x2), (3, .int x3), (4, .int 1), (5, .int 2)] [] s Q) ∧
      (((ps_i s 1131 31) + 2) ≤ 40 →
        (12 < (((ps_i s 1131 29) + 2) - 1) →
          ps_At (d + 1) 214 84 [(0, .ref 1131), (1, .int x1), (2, .int x2), (3, .int x3), (4, .int 1), (5, .int 2)] [] s Q) ∧
        ((((ps_i s 1131 29) + 2) - 1) ≤ 12 →
          ((1 : Int32) = 0 →
            ps_At (d + 1) 214 88 [(0, .ref 1131), (1, .int x1), (2, .int x2), (3, .int x3), (4, .int 1), (5, .int 2)] [] s Q) ∧
          ((1 : Int32) ≠ 0 →
            ((ps_i s 1131 30) ≤ 4 →
              ps_At (d + 1) 214 88 [(0, .ref 1131), (1, .int x1), (2, .int x2), (3, .int x3), (4, .int 1), (5, .int 2)] [] s Q) ∧
            (4 < (ps_i s 1131 30) →
              ps_At (d + 1) 214 84 [(0, .ref 1131), (1, .int x1), (2, .int x2), (3, .int x3), (4, .int 1), (5, .int 2)] [] s Q))))))) : ps_At (d + 1) 214 23 [(0, .ref 1131), (1, .int x1), (2, .int x2), (3, .int x3)] [] s Q :=
  ps_wp_at (stops := [(23, [0, 1, 2, 3]), (84, [0, 1, 2, 3, 4, 5]), (88, [0, 1, 2, 3, 4, 5]), (133, [0])]) (n := 56) h rfl

theorem pg_214_84 {d : Nat} {x1 : Int32} {x2 : Int32} {x3 : Int32} {x4 : Int32} {x5 : Int32} {s : ps_S} {Q : Option Value → ps_S → Prop} (h :
  ps_Cl d 196 [.ref 1131] s (ps_rV (fun s1 =>
    ps_At (d + 1) 214 88 [(0, .ref 1131), (1, .int x1), (2, .int x2), (3, .int x3), (4, .int x4), (5, .int x5)] [] s1 Q))) : ps_At (d + 1) 214 84 [(0, .ref 1131), (1, .int x1), (2, .int x2), (3, .int x3), (4, .int x4), (5, .int x5)] [] s Q :=
  ps_wp_at (stops := [(23, [0, 1, 2, 3]), (84, [0, 1, 2, 3, 4, 5]), (88, [0, 1, 2, 3, 4, 5]), (133, [0])]) (n := 4) h rfl

theorem pg_214_88 {d : Nat} {x1 : Int32} {x2 : Int32} {x3 : Int32} {x4 : Int32} {x5 : Int32} {s : ps_S} {Q : Option Value → ps_S → Prop} (h :
  ps_Cl d 192 [.ref 1131] s (ps_rI (fun v1 s1 =>
    (v1 ≠ 0 →
      ps_Cl d 210 [.ref 1131, .int x1, .int x2] (ps_ui s1 1131 31 ((ps_i s1 1131 31) + x5)) (ps_rV (fun s2 =>
        ps_Cl d 194 [.ref 1131] s2 (ps_rV (fun s3 =>
          (x4 = 0 →
            (x3 = 0 →
              (x2 ≠ 0 →
                (10 ≤ x2 →
                  ps_nd (pm_in ((((6 : Int32) * (ps_i s3 1131 22)) + x2) - 10) 12) ((x2 < 6 →
                    ps_Cl d 211 [.ref 1131, .int (ps_a s3 1138 (Int32.toNatClampNeg ((((6 : Int32) * (ps_i s3 1131 22)) + x2) - 10))), .int 0] s3 (ps_rV (fun s4 =>
                      ps_nd (pm_in ((ps_i s4 1131 29) - 1) 16) (Q none (ps_ua s4 1146 (Int32.toNatClampNeg ((ps_i s4 1131 29) - 1)) (x3 &&& 1)))))) ∧
                  (6 ≤ x2 →
                    ps_Cl d 211 [.ref 1131, .int (ps_a s3 1138 (Int32.toNatClampNeg ((((6 : Int32) * (ps_i s3 1131 22)) + x2) - 10))), .int 1] s3 (ps_rV (fun s5 =>
                      ps_nd (pm_in ((ps_i s5 1131 29) - 1) 16) (Q none (ps_ua s5 1146 (Int32.toNatClampNeg ((ps_i s5 1131 29) - 1)) (x3 &&& 1)))))))) ∧
                (x2 < 10 →
                  (x2 < 6 →
                    ps_Cl d 211 [.ref 1131, .int 2, .int 0] s3 (ps_rV (fun s6 =>
                      ps_nd (pm_in ((ps_i s6 1131 29) - 1) 16) (Q none (ps_ua s6 1146 (Int32.toNatClampNeg ((ps_i s6 1131 29) - 1)) (x3 &&& 1)))))) ∧
                  (6 ≤ x2 →
                    ps_Cl d 211 [.ref 1131, .int 2, .int 1] s3 (ps_rV (fun s7 =>
                      ps_nd (pm_in ((ps_i s7 1131 29) - 1) 16) (Q none (ps_ua s7 1146 (Int32.toNatClampNeg ((ps_i s7 1131 29) - 1)) (x3 &&& 1)))))))) ∧
              (x2 = 0 →
                (x2 < 6 →
                  ps_Cl d 211 [.ref 1131, .int 0, .int 0] s3 (ps_rV (fun s8 =>
                    ps_nd (pm_in ((ps_i s8 1131 29) - 1) 16) (Q none (ps_ua s8 1146 (Int32.toNatClampNeg ((ps_i s8 1131 29) - 1)) (x3 &&& 1)))))) ∧
                (6 ≤ x2 →
                  ps_Cl d 211 [.ref 1131, .int 0, .int 1] s3 (ps_rV (fun s9 =>
                    ps_nd (pm_in ((ps_i s9 1131 29) - 1) 16) (Q none (ps_ua s9 1146 (Int32.toNatClampNeg ((ps_i s9 1131 29) - 1)) (x3 &&& 1)))))))) ∧
            (x3 ≠ 0 →
              (x2 < 6 →
                ps_Cl d 211 [.ref 1131, .int 1, .int 0] s3 (ps_rV (fun s10 =>
                  ps_nd (pm_in ((ps_i s10 1131 29) - 1) 16) (Q none (ps_ua s10 1146 (Int32.toNatClampNeg ((ps_i s10 1131 29) - 1)) (x3 &&& 1)))))) ∧
              (6 ≤ x2 →
                ps_Cl d 211 [.ref 1131, .int 1, .int 1] s3 (ps_rV (fun s11 =>
                  ps_nd (pm_in ((ps_i s11 1131 29) - 1) 16) (Q none (ps_ua s11 1146 (Int32.toNatClampNeg ((ps_i s11 1131 29) - 1)) (x3 &&& 1)))))))) ∧
          (x4 ≠ 0 →
            ps_Cl d 208 [.ref 1131] s3 (ps_rI (fun v12 s12 =>
              (v12 ≠ 0 →
                ps_At (d + 1) 214 133 [(0, .ref 1131)] [] s12 Q) ∧
              (v12 = 0 →
                ps_Cl d 196 [.ref 1131] s12 (ps_rV (fun s13 =>
                  ps_At (d + 1) 214 133 [(0, .ref 1131)] [] s13 Q))))))))))) ∧
    (v1 = 0 →
      Q none s1)))) : ps_At (d + 1) 214 88 [(0, .ref 1131), (1, .int x1), (2, .int x2), (3, .int x3), (4, .int x4), (5, .int x5)] [] s Q :=
  ps_wp_at (stops := [(23, [0, 1, 2, 3]), (84, [0, 1, 2, 3, 4, 5]), (88, [0, 1, 2, 3, 4, 5]), (133, [0])]) (n := 154) h rfl

theorem pg_214_133 {d : Nat} {s : ps_S} {Q : Option Value → ps_S → Prop} (h :
  ps_Cl d 192 [.ref 1131] s (ps_rI (fun v1 s1 =>
    (v1 ≠ 0 →
      ps_Cl d 211 [.ref 1131, .int 1, .int 0] s1 (ps_rV (fun s2 =>
        ps_nd (pm_in ((ps_i s2 1131 29) - 1) 16) (ps_nd (pm_in ((ps_i (ps_ua s2 1147 (Int32.toNatClampNeg ((ps_i s2 1131 29) - 1)) ((1 : Int32) &&& 1)) 1131 29) - 1) 16) (ps_Cl d 194 [.ref 1131] (ps_ui (ps_ub (ps_ua s2 1147 (Int32.toNatClampNeg ((ps_i s2 1131 29) - 1)) ((1 : Int32) &&& 1)) 1148 (Int32.toNatClampNeg ((ps_i (ps_ua s2 1147 (Int32.toNatClampNeg ((ps_i s2 1131 29) - 1)) ((1 : Int32) &&& 1)) 1131 29) - 1)) (ps_j (ps_ua s2 1147 (Int32.toNatClampNeg ((ps_i s2 1131 29) - 1)) ((1 : Int32) &&& 1)) 1131 11)) 1131 30 ((ps_i (ps_ub (ps_ua s2 1147 (Int32.toNatClampNeg ((ps_i s2 1131 29) - 1)) ((1 : Int32) &&& 1)) 1148 (Int32.toNatClampNeg ((ps_i (ps_ua s2 1147 (Int32.toNatClampNeg ((ps_i s2 1131 29) - 1)) ((1 : Int32) &&& 1)) 1131 29) - 1)) (ps_j (ps_ua s2 1147 (Int32.toNatClampNeg ((ps_i s2 1131 29) - 1)) ((1 : Int32) &&& 1)) 1131 11)) 1131 30) + 1)) (ps_rV (fun s3 =>
          Q none s3))))))) ∧
    (v1 = 0 →
      Q none s1)))) : ps_At (d + 1) 214 133 [(0, .ref 1131)] [] s Q :=
  ps_wp_at (stops := [(23, [0, 1, 2, 3]), (84, [0, 1, 2, 3, 4, 5]), (88, [0, 1, 2, 3, 4, 5]), (133, [0])]) (n := 37) h rfl

theorem ms_214_133 {x : Nat → Nat → Nat} {t : Int32} {d : Nat} {s0 : ps_S} {σ : mSig} {l : List Nat} {b : Bool} {x1 : Int32} {Q : Option Value → ps_S → Prop} (k : ∀ (s' : ps_S), mJ x t s' → kp [1134, 1144, 1145, 1146, 1147, 1148] [5, 6, 7, 8, 9, 10, 11, 29, 30, 31] s0 s' → ((ps_i s' 1131 8).toInt ≤ (ps_i s' 1131 4).toInt) → (1 ≤ (ps_i s' 1131 5).toInt ∨ ((ps_i s' 1131 29).toInt ≤ 13 ∧ 0 ≤ (ps_i s' 1131 30).toInt ∧ (ps_i s' 1131 30).toInt ≤ 5 ∧ (ps_i s' 1131 31).toInt ≤ 40 ∧ (ps_i s0 1131 31).toInt < (ps_i s' 1131 31).toInt)) → ((ps_i s0 1131 31).toInt ≤ (ps_i s' 1131 31).toInt) → (1 ≤ (ps_i s' 1131 5).toInt ∨ ∃ l2, Rw (ps_a s' 1134) x1.toInt l2 ∧ RQ σ (ps_a s' 1144) (ps_a s' 1145) (ps_a s' 1146) (ps_a s' 1147) (ps_i s' 1131 29).toInt (ps_i s' 1131 30).toInt (ps_i s' 1131 31).toInt (ps_i s' 1131 32).toInt l2 b) → (∀ i : Nat, (i : Int) < x1.toInt ∨ x1.toInt + 41 ≤ (i : Int) → ps_a s' 1134 i = ps_a s0 1134 i) → Q none s') (c : Nat) (s : ps_S) (J : mJ x t s) (K : kp [1134, 1144, 1145, 1146, 1147, 1148] [5, 6, 7, 8, 9, 10, 11, 29, 30, 31] s0 s) (hS2 : Sg (ps_a s 1135) (ps_a s 1136) (ps_a s 1138) (ps_a s 1139) (ps_i s 1131 22).toInt σ) (hRc : Rw (ps_a s 1134) x1.toInt (l ++ [c])) (hH1 : RH σ (ps_a s 1144) (ps_a s 1145) (ps_a s 1146) (ps_a s 1147) (ps_i s 1131 29).toInt (ps_i s 1131 30).toInt ((ps_i s 1131 31).toInt - 1) (ps_i s 1131 32).toInt (l) b true) (i3 : c = 4 ∨ c = 5) (hO : ∀ i : Nat, (i : Int) < x1.toInt ∨ x1.toInt + 41 ≤ (i : Int) → ps_a s 1134 i = ps_a s0 1134 i) (i5 : (ps_i s 1131 8).toInt ≤ (ps_i s 1131 4).toInt) (i6 : (ps_i s 1131 29).toInt ≤ 12) (i7 : 0 ≤ (ps_i s 1131 30).toInt) (i8 : (ps_i s 1131 30).toInt ≤ 4) (i9 : (ps_i s 1131 31).toInt ≤ 40) (i10 : (ps_i s0 1131 31).toInt < (ps_i s 1131 31).toInt) : ps_At (d + 2) 214 133 [(0, .ref 1131)] [] s Q := by
  have r1 := mf_8 J
  have r2 := mf_4 J
  have r3 := mf_29 J
  have r4 := mf_31 J
  refine pg_214_133 (d := d + 1) ?_
  refine ms_192 J  (fun v5 p5_0 b5 => ?_)
  have p5_0' : (v5.toInt = 0 ∧ 1 ≤ (ps_i s 1131 5).toInt) ∨ (v5.toInt = 1 ∧ (ps_i s 1131 5).toInt = 0) := p5_0
  have r6 := mf_5 J
  refine And.intro (fun h7 => ?_) (fun h7 => ?_)
  · have f8 : v5.toInt ≠ (0 : Int) := xne h7
    refine ms_211 J (show (ps_i s 1131 29).toInt ≤ 14 from by omega) (fun s9 J9 K9 p9_0 p9_1 p9_2 p9_3 p9_4 => ?_)
    have K10 := kpt K K9 rfl rfl
    have KC := K9
    have hS2 : Sg (ps_a s9 1135) (ps_a s9 1136) (ps_a s9 1138) (ps_a s9 1139) (ps_i s9 1131 22).toInt σ := by rw [show ps_a s9 1135 = ps_a s 1135 from (K9.2 1135 rfl).1, show ps_a s9 1136 = ps_a s 1136 from (K9.2 1136 rfl).1, show ps_a s9 1138 = ps_a s 1138 from (K9.2 1138 rfl).1, show ps_a s9 1139 = ps_a s 1139 from (K9.2 1139 rfl).1, show ps_i s9 1131 22 = ps_i s 1131 22 from kp_i K9 22 rfl]; exact hS2
    have hRc : Rw (ps_a s9 1134) x1.toInt (l ++ [c]) := by rw [show ps_a s9 1134 = ps_a s 1134 from (K9.2 1134 rfl).1]; exact hRc
    have hO : ∀ i : Nat, (i : Int) < x1.toInt ∨ x1.toInt + 41 ≤ (i : Int) → ps_a s9 1134 i = ps_a s0 1134 i := by rw [show ps_a s9 1134 = ps_a s 1134 from (K9.2 1134 rfl).1]; exact hO
    have p9_0' : (ps_i s9 1131 29).toInt = (ps_i s 1131 29).toInt + 1 := p9_0
    have r11 := mf_29 J9
    have w44 : _ := p9_1
    have w45 : _ := p9_2
    have w46 : _ := p9_3
    have w47 : _ := p9_4
    have a12 : ((ps_i s9 1131 29) - 1).toInt = (ps_i s9 1131 29).toInt - (1 : Int) := xIs (show -2147483648 ≤ (ps_i s9 1131 29).toInt - (1 : Int) from by omega) (show (ps_i s9 1131 29).toInt - (1 : Int) < 2147483648 from by omega)
    have e9 : Int32.toNatClampNeg ((ps_i s9 1131 29) - 1) = (ps_i s 1131 29).toInt.toNat := nx (show ((ps_i s9 1131 29) - 1).toInt = (ps_i s 1131 29).toInt from by omega)
    refine ps_nd_i (show pm_in ((ps_i s9 1131 29) - 1) 16 = true from xgi (show 0 ≤ ((ps_i s9 1131 29) - 1).toInt from by omega) (show ((ps_i s9 1131 29) - 1).toInt < 16 from by omega)) ?_
    have J13 := mwa_n 1147 (i := (Int32.toNatClampNeg ((ps_i s9 1131 29) - 1))) (v := ((1 : Int32) &&& 1)) J9 rfl (by decide)
    have K14 := kpa' K10 (r := 1147) (i := (Int32.toNatClampNeg ((ps_i s9 1131 29) - 1))) (v := ((1 : Int32) &&& 1)) rfl
    have g7 : ps_a (ps_ua s9 1147 (Int32.toNatClampNeg ((ps_i s9 1131 29) - 1)) ((1 : Int32) &&& 1)) 1147 (ps_i s 1131 29).toInt.toNat = 1 := by rw [← e9]; exact ua_eq.trans (by decide)
    have g7l : ∀ i, i < (ps_i s 1131 29).toInt.toNat → ps_a (ps_ua s9 1147 (Int32.toNatClampNeg ((ps_i s9 1131 29) - 1)) ((1 : Int32) &&& 1)) 1147 i = ps_a s 1147 i := fun i hi => (ua_ne (by omega)).trans ((w47 i).trans (if_neg (by omega)))
    refine ps_nd_i (show pm_in ((ps_i s9 1131 29) - 1) 16 = true from xgi (show 0 ≤ ((ps_i s9 1131 29) - 1).toInt from by omega) (show ((ps_i s9 1131 29) - 1).toInt < 16 from by omega)) ?_
    have J15 := mw_b (r := 1148) (i := (Int32.toNatClampNeg ((ps_i s9 1131 29) - 1))) (v := (ps_j s9 1131 11)) J13
    have K16 := kpb' K14 (r := 1148) (i := (Int32.toNatClampNeg ((ps_i s9 1131 29) - 1))) (v := (ps_j s9 1131 11)) rfl
    have u17 : (ps_i s9 1131 30).toInt = (ps_i s 1131 30).toInt := xeq (kp_i K9 30 rfl)
    have a18 : ((ps_i s9 1131 30) + 1).toInt = (ps_i s9 1131 30).toInt + (1 : Int) := xIa (show -2147483648 ≤ (ps_i s9 1131 30).toInt + (1 : Int) from by omega) (show (ps_i s9 1131 30).toInt + (1 : Int) < 2147483648 from by omega)
    have J19 := mwi_n 30 (v := ((ps_i s9 1131 30) + 1)) J15 rfl
    have K20 := kpi K16 (q := 30) (v := ((ps_i s9 1131 30) + 1)) rfl
    have u30 := xeq (kp_i KC 30 rfl)
    have u31 := xeq (kp_i KC 31 rfl)
    have u32 := xeq (kp_i KC 32 rfl)
    have hQ : ∃ l2, Rw (ps_a (ps_ui (ps_ub (ps_ua s9 1147 (Int32.toNatClampNeg ((ps_i s9 1131 29) - 1)) ((1 : Int32) &&& 1)) 1148 (Int32.toNatClampNeg ((ps_i s9 1131 29) - 1)) (ps_j s9 1131 11)) 1131 30 ((ps_i s9 1131 30) + 1)) 1134) x1.toInt l2 ∧ RQ σ (ps_a (ps_ui (ps_ub (ps_ua s9 1147 (Int32.toNatClampNeg ((ps_i s9 1131 29) - 1)) ((1 : Int32) &&& 1)) 1148 (Int32.toNatClampNeg ((ps_i s9 1131 29) - 1)) (ps_j s9 1131 11)) 1131 30 ((ps_i s9 1131 30) + 1)) 1144) (ps_a (ps_ui (ps_ub (ps_ua s9 1147 (Int32.toNatClampNeg ((ps_i s9 1131 29) - 1)) ((1 : Int32) &&& 1)) 1148 (Int32.toNatClampNeg ((ps_i s9 1131 29) - 1)) (ps_j s9 1131 11)) 1131 30 ((ps_i s9 1131 30) + 1)) 1145) (ps_a (ps_ui (ps_ub (ps_ua s9 1147 (Int32.toNatClampNeg ((ps_i s9 1131 29) - 1)) ((1 : Int32) &&& 1)) 1148 (Int32.toNatClampNeg ((ps_i s9 1131 29) - 1)) (ps_j s9 1131 11)) 1131 30 ((ps_i s9 1131 30) + 1)) 1146) (ps_a (ps_ui (ps_ub (ps_ua s9 1147 (Int32.toNatClampNeg ((ps_i s9 1131 29) - 1)) ((1 : Int32) &&& 1)) 1148 (Int32.toNatClampNeg ((ps_i s9 1131 29) - 1)) (ps_j s9 1131 11)) 1131 30 ((ps_i s9 1131 30) + 1)) 1147) (ps_i (ps_ui (ps_ub (ps_ua s9 1147 (Int32.toNatClampNeg ((ps_i s9 1131 29) - 1)) ((1 : Int32) &&& 1)) 1148 (Int32.toNatClampNeg ((ps_i s9 1131 29) - 1)) (ps_j s9 1131 11)) 1131 30 ((ps_i s9 1131 30) + 1)) 1131 29).toInt (ps_i (ps_ui (ps_ub (ps_ua s9 1147 (Int32.toNatClampNeg ((ps_i s9 1131 29) - 1)) ((1 : Int32) &&& 1)) 1148 (Int32.toNatClampNeg ((ps_i s9 1131 29) - 1)) (ps_j s9 1131 11)) 1131 30 ((ps_i s9 1131 30) + 1)) 1131 30).toInt (ps_i (ps_ui (ps_ub (ps_ua s9 1147 (Int32.toNatClampNeg ((ps_i s9 1131 29) - 1)) ((1 : Int32) &&& 1)) 1148 (Int32.toNatClampNeg ((ps_i s9 1131 29) - 1)) (ps_j s9 1131 11)) 1131 30 ((ps_i s9 1131 30) + 1)) 1131 31).toInt (ps_i (ps_ui (ps_ub (ps_ua s9 1147 (Int32.toNatClampNeg ((ps_i s9 1131 29) - 1)) ((1 : Int32) &&& 1)) 1148 (Int32.toNatClampNeg ((ps_i s9 1131 29) - 1)) (ps_j s9 1131 11)) 1131 30 ((ps_i s9 1131 30) + 1)) 1131 32).toInt l2 b := ⟨_, hRc, RQ_c hH1 (by omega) (by omega) (kS_push4 i3 rfl (((w45 _).trans (if_pos rfl)).trans (by decide))) (by decide) (congrArg Int32.toInt ((w44 _).trans (if_pos rfl))) (((w46 _).trans (if_pos rfl)).trans (by decide)) (show ((ps_i s9 1131 30) + 1).toInt = (ps_i s 1131 30).toInt + (if c = 4 ∨ c = 5 then 1 else 0) from by rw [if_pos i3]; omega) ⟨fun z => absurd (g7.symm.trans z) (by decide), fun z => absurd i3 z⟩ (fun i hi => ⟨(w44 i).trans (if_neg (by omega)), (w45 i).trans (if_neg (by omega)), (w46 i).trans (if_neg (by omega)), g7l i hi⟩) (show (ps_i s9 1131 29).toInt = (ps_i s 1131 29).toInt + 1 from by omega) (show (ps_i s9 1131 31).toInt = ((ps_i s 1131 31).toInt - 1) + 1 from by omega) (show (ps_i (ps_ui (ps_ub (ps_ua s9 1147 (Int32.toNatClampNeg ((ps_i s9 1131 29) - 1)) ((1 : Int32) &&& 1)) 1148 (Int32.toNatClampNeg ((ps_i s9 1131 29) - 1)) (ps_j s9 1131 11)) 1131 30 ((ps_i s9 1131 30) + 1)) 1131 32).toInt = (ps_i s 1131 32).toInt from u32) (fun _ => by omega)⟩
    have r21 := mf_8 J9
    have u22 : (ps_i s9 1131 8).toInt = (ps_i s 1131 8).toInt := xeq (kp_i K9 8 rfl)
    have r23 := mf_4 J9
    have u24 : (ps_i s9 1131 4).toInt = (ps_i s 1131 4).toInt := xeq (kp_i K9 4 rfl)
    refine ms_194 J19 (show (ps_i s9 1131 8).toInt ≤ (ps_i s9 1131 4).toInt from by omega) (fun s25 J25 K25 p25_0 => ?_)
    have K26 := kpt K20 K25 rfl rfl
    have KC := K25
    have hS2 : Sg (ps_a s25 1135) (ps_a s25 1136) (ps_a s25 1138) (ps_a s25 1139) (ps_i s25 1131 22).toInt σ := by rw [show ps_a s25 1135 = ps_a (ps_ui (ps_ub (ps_ua s9 1147 (Int32.toNatClampNeg ((ps_i s9 1131 29) - 1)) ((1 : Int32) &&& 1)) 1148 (Int32.toNatClampNeg ((ps_i s9 1131 29) - 1)) (ps_j s9 1131 11)) 1131 30 ((ps_i s9 1131 30) + 1)) 1135 from (K25.2 1135 rfl).1, show ps_a s25 1136 = ps_a (ps_ui (ps_ub (ps_ua s9 1147 (Int32.toNatClampNeg ((ps_i s9 1131 29) - 1)) ((1 : Int32) &&& 1)) 1148 (Int32.toNatClampNeg ((ps_i s9 1131 29) - 1)) (ps_j s9 1131 11)) 1131 30 ((ps_i s9 1131 30) + 1)) 1136 from (K25.2 1136 rfl).1, show ps_a s25 1138 = ps_a (ps_ui (ps_ub (ps_ua s9 1147 (Int32.toNatClampNeg ((ps_i s9 1131 29) - 1)) ((1 : Int32) &&& 1)) 1148 (Int32.toNatClampNeg ((ps_i s9 1131 29) - 1)) (ps_j s9 1131 11)) 1131 30 ((ps_i s9 1131 30) + 1)) 1138 from (K25.2 1138 rfl).1, show ps_a s25 1139 = ps_a (ps_ui (ps_ub (ps_ua s9 1147 (Int32.toNatClampNeg ((ps_i s9 1131 29) - 1)) ((1 : Int32) &&& 1)) 1148 (Int32.toNatClampNeg ((ps_i s9 1131 29) - 1)) (ps_j s9 1131 11)) 1131 30 ((ps_i s9 1131 30) + 1)) 1139 from (K25.2 1139 rfl).1, show ps_i s25 1131 22 = ps_i (ps_ui (ps_ub (ps_ua s9 1147 (Int32.toNatClampNeg ((ps_i s9 1131 29) - 1)) ((1 : Int32) &&& 1)) 1148 (Int32.toNatClampNeg ((ps_i s9 1131 29) - 1)) (ps_j s9 1131 11)) 1131 30 ((ps_i s9 1131 30) + 1)) 1131 22 from kp_i K25 22 rfl]; exact hS2
    have hRc : Rw (ps_a s25 1134) x1.toInt (l ++ [c]) := by rw [show ps_a s25 1134 = ps_a (ps_ui (ps_ub (ps_ua s9 1147 (Int32.toNatClampNeg ((ps_i s9 1131 29) - 1)) ((1 : Int32) &&& 1)) 1148 (Int32.toNatClampNeg ((ps_i s9 1131 29) - 1)) (ps_j s9 1131 11)) 1131 30 ((ps_i s9 1131 30) + 1)) 1134 from (K25.2 1134 rfl).1]; exact hRc
    have hO : ∀ i : Nat, (i : Int) < x1.toInt ∨ x1.toInt + 41 ≤ (i : Int) → ps_a s25 1134 i = ps_a s0 1134 i := by rw [show ps_a s25 1134 = ps_a (ps_ui (ps_ub (ps_ua s9 1147 (Int32.toNatClampNeg ((ps_i s9 1131 29) - 1)) ((1 : Int32) &&& 1)) 1148 (Int32.toNatClampNeg ((ps_i s9 1131 29) - 1)) (ps_j s9 1131 11)) 1131 30 ((ps_i s9 1131 30) + 1)) 1134 from (K25.2 1134 rfl).1]; exact hO
    have hQ : ∃ l2, Rw (ps_a s25 1134) x1.toInt l2 ∧ RQ σ (ps_a s25 1144) (ps_a s25 1145) (ps_a s25 1146) (ps_a s25 1147) (ps_i s25 1131 29).toInt (ps_i s25 1131 30).toInt (ps_i s25 1131 31).toInt (ps_i s25 1131 32).toInt l2 b := by rw [show ps_a s25 1134 = ps_a (ps_ui (ps_ub (ps_ua s9 1147 (Int32.toNatClampNeg ((ps_i s9 1131 29) - 1)) ((1 : Int32) &&& 1)) 1148 (Int32.toNatClampNeg ((ps_i s9 1131 29) - 1)) (ps_j s9 1131 11)) 1131 30 ((ps_i s9 1131 30) + 1)) 1134 from (K25.2 1134 rfl).1, show ps_a s25 1144 = ps_a (ps_ui (ps_ub (ps_ua s9 1147 (Int32.toNatClampNeg ((ps_i s9 1131 29) - 1)) ((1 : Int32) &&& 1)) 1148 (Int32.toNatClampNeg ((ps_i s9 1131 29) - 1)) (ps_j s9 1131 11)) 1131 30 ((ps_i s9 1131 30) + 1)) 1144 from (K25.2 1144 rfl).1, show ps_a s25 1145 = ps_a (ps_ui (ps_ub (ps_ua s9 1147 (Int32.toNatClampNeg ((ps_i s9 1131 29) - 1)) ((1 : Int32) &&& 1)) 1148 (Int32.toNatClampNeg ((ps_i s9 1131 29) - 1)) (ps_j s9 1131 11)) 1131 30 ((ps_i s9 1131 30) + 1)) 1145 from (K25.2 1145 rfl).1, show ps_a s25 1146 = ps_a (ps_ui (ps_ub (ps_ua s9 1147 (Int32.toNatClampNeg ((ps_i s9 1131 29) - 1)) ((1 : Int32) &&& 1)) 1148 (Int32.toNatClampNeg ((ps_i s9 1131 29) - 1)) (ps_j s9 1131 11)) 1131 30 ((ps_i s9 1131 30) + 1)) 1146 from (K25.2 1146 rfl).1, show ps_a s25 1147 = ps_a (ps_ui (ps_ub (ps_ua s9 1147 (Int32.toNatClampNeg ((ps_i s9 1131 29) - 1)) ((1 : Int32) &&& 1)) 1148 (Int32.toNatClampNeg ((ps_i s9 1131 29) - 1)) (ps_j s9 1131 11)) 1131 30 ((ps_i s9 1131 30) + 1)) 1147 from (K25.2 1147 rfl).1, show ps_i s25 1131 29 = ps_i (ps_ui (ps_ub (ps_ua s9 1147 (Int32.toNatClampNeg ((ps_i s9 1131 29) - 1)) ((1 : Int32) &&& 1)) 1148 (Int32.toNatClampNeg ((ps_i s9 1131 29) - 1)) (ps_j s9 1131 11)) 1131 30 ((ps_i s9 1131 30) + 1)) 1131 29 from kp_i K25 29 rfl, show ps_i s25 1131 30 = ps_i (ps_ui (ps_ub (ps_ua s9 1147 (Int32.toNatClampNeg ((ps_i s9 1131 29) - 1)) ((1 : Int32) &&& 1)) 1148 (Int32.toNatClampNeg ((ps_i s9 1131 29) - 1)) (ps_j s9 1131 11)) 1131 30 ((ps_i s9 1131 30) + 1)) 1131 30 from kp_i K25 30 rfl, show ps_i s25 1131 31 = ps_i (ps_ui (ps_ub (ps_ua s9 1147 (Int32.toNatClampNeg ((ps_i s9 1131 29) - 1)) ((1 : Int32) &&& 1)) 1148 (Int32.toNatClampNeg ((ps_i s9 1131 29) - 1)) (ps_j s9 1131 11)) 1131 30 ((ps_i s9 1131 30) + 1)) 1131 31 from kp_i K25 31 rfl, show ps_i s25 1131 32 = ps_i (ps_ui (ps_ub (ps_ua s9 1147 (Int32.toNatClampNeg ((ps_i s9 1131 29) - 1)) ((1 : Int32) &&& 1)) 1148 (Int32.toNatClampNeg ((ps_i s9 1131 29) - 1)) (ps_j s9 1131 11)) 1131 30 ((ps_i s9 1131 30) + 1)) 1131 32 from kp_i K25 32 rfl]; exact hQ
    have p25_0' : (ps_i s25 1131 8).toInt ≤ (ps_i s25 1131 4).toInt := p25_0
    have r27 := mf_8 J25
    have r28 := mf_4 J25
    have u29 : (ps_i s25 1131 4).toInt = (ps_i s9 1131 4).toInt := xeq (kp_i K25 4 rfl)
    have r30 := mf_5 J25
    have u31 : (ps_i s25 1131 5).toInt = (ps_i s9 1131 5).toInt := xeq (kp_i K25 5 rfl)
    have r32 := mf_5 J9
    have u33 : (ps_i s9 1131 5).toInt = (ps_i s 1131 5).toInt := xeq (kp_i K9 5 rfl)
    have r34 := mf_29 J25
    have u35 : (ps_i s25 1131 29).toInt = (ps_i s9 1131 29).toInt := xeq (kp_i K25 29 rfl)
    have u36 : (ps_i s25 1131 30).toInt = ((ps_i s9 1131 30) + 1).toInt := xeq (kp_i K25 30 rfl)
    have r37 := mf_31 J25
    have u38 : (ps_i s25 1131 31).toInt = (ps_i s9 1131 31).toInt := xeq (kp_i K25 31 rfl)
    have r39 := mf_31 J9
    have u40 : (ps_i s9 1131 31).toInt = (ps_i s 1131 31).toInt := xeq (kp_i K9 31 rfl)
    exact k _ J25 K26 (show (ps_i s25 1131 8).toInt ≤ (ps_i s25 1131 4).toInt from by omega) (show 1 ≤ (ps_i s25 1131 5).toInt ∨ ((ps_i s25 1131 29).toInt ≤ 13 ∧ 0 ≤ (ps_i s25 1131 30).toInt ∧ (ps_i s25 1131 30).toInt ≤ 5 ∧ (ps_i s25 1131 31).toInt ≤ 40 ∧ (ps_i s0 1131 31).toInt < (ps_i s25 1131 31).toInt) from by omega) (show (ps_i s0 1131 31).toInt ≤ (ps_i s25 1131 31).toInt from by omega) (Or.inr hQ) (hO)
  · have f41 : v5.toInt = (0 : Int) := xeq h7
    exact k _ J K (show (ps_i s 1131 8).toInt ≤ (ps_i s 1131 4).toInt from by omega) (show 1 ≤ (ps_i s 1131 5).toInt ∨ ((ps_i s 1131 29).toInt ≤ 13 ∧ 0 ≤ (ps_i s 1131 30).toInt ∧ (ps_i s 1131 30).toInt ≤ 5 ∧ (ps_i s 1131 31).toInt ≤ 40 ∧ (ps_i s0 1131 31).toInt < (ps_i s 1131 31).toInt) from by omega) (show (ps_i s0 1131 31).toInt ≤ (ps_i s 1131 31).toInt from by omega) (Or.inl (show 1 ≤ (ps_i s 1131 5).toInt from by omega)) (hO)

theorem ms_214_88 {x : Nat → Nat → Nat} {t : Int32} {d : Nat} {s0 : ps_S} {σ : mSig} {l : List Nat} {b : Bool} {x1 : Int32} {Q : Option Value → ps_S → Prop} (k : ∀ (s' : ps_S), mJ x t s' → kp [1134, 1144, 1145, 1146, 1147, 1148] [5, 6, 7, 8, 9, 10, 11, 29, 30, 31] s0 s' → ((ps_i s' 1131 8).toInt ≤ (ps_i s' 1131 4).toInt) → (1 ≤ (ps_i s' 1131 5).toInt ∨ ((ps_i s' 1131 29).toInt ≤ 13 ∧ 0 ≤ (ps_i s' 1131 30).toInt ∧ (ps_i s' 1131 30).toInt ≤ 5 ∧ (ps_i s' 1131 31).toInt ≤ 40 ∧ (ps_i s0 1131 31).toInt < (ps_i s' 1131 31).toInt)) → ((ps_i s0 1131 31).toInt ≤ (ps_i s' 1131 31).toInt) → (1 ≤ (ps_i s' 1131 5).toInt ∨ ∃ l2, Rw (ps_a s' 1134) x1.toInt l2 ∧ RQ σ (ps_a s' 1144) (ps_a s' 1145) (ps_a s' 1146) (ps_a s' 1147) (ps_i s' 1131 29).toInt (ps_i s' 1131 30).toInt (ps_i s' 1131 31).toInt (ps_i s' 1131 32).toInt l2 b) → (∀ i : Nat, (i : Int) < x1.toInt ∨ x1.toInt + 41 ≤ (i : Int) → ps_a s' 1134 i = ps_a s0 1134 i) → Q none s') (x2 : Int32) (x3 : Int32) (x4 : Int32) (x5 : Int32) (s : ps_S) (J : mJ x t s) (K : kp [1134, 1144, 1145, 1146, 1147, 1148] [5, 6, 7, 8, 9, 10, 11, 29, 30, 31] s0 s) (hS2 : Sg (ps_a s 1135) (ps_a s 1136) (ps_a s 1138) (ps_a s 1139) (ps_i s 1131 22).toInt σ) (hR : Rw (ps_a s 1134) x1.toInt (l)) (hH0 : RH σ (ps_a s 1144) (ps_a s 1145) (ps_a s 1146) (ps_a s 1147) (ps_i s 1131 29).toInt (ps_i s 1131 30).toInt (ps_i s 1131 31).toInt (ps_i s 1131 32).toInt (l) b true) (hO : ∀ i : Nat, (i : Int) < x1.toInt ∨ x1.toInt + 41 ≤ (i : Int) → ps_a s 1134 i = ps_a s0 1134 i) (i4 : (ps_i s 1131 8).toInt ≤ (ps_i s 1131 4).toInt) (i5 : (ps_i s 1131 29).toInt ≤ 13) (i6 : 0 ≤ (ps_i s 1131 30).toInt) (i7 : (ps_i s 1131 30).toInt ≤ 5) (i8 : (ps_i s 1131 31).toInt ≤ 40) (i9 : (ps_i s 1131 31).toInt = (ps_i s0 1131 31).toInt) (i10 : x2.toInt = -1 ∨ (0 ≤ x2.toInt ∧ x2.toInt ≤ 6) ∨ (10 ≤ x2.toInt ∧ x2.toInt < 10 + (ps_a s 1135 (Int32.toNatClampNeg (ps_i s 1131 22))).toInt)) (i11 : (x3.toInt = 0 ∧ x5.toInt = 1) ∨ (x3.toInt = 1 ∧ x2.toInt = 3 ∧ x5.toInt = 2)) (i12 : (x4.toInt = 1 ∧ (x2.toInt = 4 ∨ x2.toInt = 5)) ∨ (x4.toInt = 0 ∧ x2.toInt ≠ 4 ∧ x2.toInt ≠ 5)) (i13 : 1 ≤ (ps_i s 1131 5).toInt ∨ (0 ≤ x2.toInt ∧ (ps_i s 1131 31).toInt + x5.toInt ≤ 40 ∧ (ps_i s 1131 29).toInt + x5.toInt ≤ 13 ∧ (x4.toInt = 0 ∨ (ps_i s 1131 30).toInt ≤ 4))) : ps_At (d + 2) 214 88 [(0, .ref 1131), (1, .int x1), (2, .int x2), (3, .int x3), (4, .int x4), (5, .int x5)] [] s Q := by
  have r1 := mf_8 J
  have r2 := mf_4 J
  have r3 := mf_29 J
  have r4 := mf_31 J
  have r5 := mf_22 J
  have r6 : 0 ≤ (ps_a s 1135 (Int32.toNatClampNeg (ps_i s 1131 22))).toInt ∧ (ps_a s 1135 (Int32.toNatClampNeg (ps_i s 1131 22))).toInt ≤ 6 := ma_1135 (i := (ps_i s 1131 22)) J (show 0 ≤ (ps_i s 1131 22).toInt from by omega) (show (ps_i s 1131 22).toInt < 2 from by omega)
  have r7 := mf_5 J
  refine pg_214_88 (d := d + 1) ?_
  obtain ⟨hb0, hb1, h5, hR6, h6, hF, h8, h9⟩ := id hS2
  have h5x : (ps_a s 1135 (Int32.toNatClampNeg (ps_i s 1131 22))).toInt = (σ.1.1 : Int) := h5
  refine ms_192 J  (fun v8 p8_0 b8 => ?_)
  have p8_0' : (v8.toInt = 0 ∧ 1 ≤ (ps_i s 1131 5).toInt) ∨ (v8.toInt = 1 ∧ (ps_i s 1131 5).toInt = 0) := p8_0
  refine And.intro (fun h9 => ?_) (fun h9 => ?_)
  · have f10 : v8.toInt ≠ (0 : Int) := xne h9
    have a11 : ((ps_i s 1131 31) + x5).toInt = (ps_i s 1131 31).toInt + x5.toInt := xIa (show -2147483648 ≤ (ps_i s 1131 31).toInt + x5.toInt from by omega) (show (ps_i s 1131 31).toInt + x5.toInt < 2147483648 from by omega)
    have J12 := mwi_31 (v := ((ps_i s 1131 31) + x5)) J (show 0 ≤ ((ps_i s 1131 31) + x5).toInt from by omega) (show ((ps_i s 1131 31) + x5).toInt ≤ 42 from by omega)
    have K13 := kpi K (q := 31) (v := ((ps_i s 1131 31) + x5)) rfl
    have hH : RH σ (ps_a (ps_ui s 1131 31 ((ps_i s 1131 31) + x5)) 1144) (ps_a (ps_ui s 1131 31 ((ps_i s 1131 31) + x5)) 1145) (ps_a (ps_ui s 1131 31 ((ps_i s 1131 31) + x5)) 1146) (ps_a (ps_ui s 1131 31 ((ps_i s 1131 31) + x5)) 1147) (ps_i (ps_ui s 1131 31 ((ps_i s 1131 31) + x5)) 1131 29).toInt (ps_i (ps_ui s 1131 31 ((ps_i s 1131 31) + x5)) 1131 30).toInt ((ps_i (ps_ui s 1131 31 ((ps_i s 1131 31) + x5)) 1131 31).toInt - x5.toInt) (ps_i (ps_ui s 1131 31 ((ps_i s 1131 31) + x5)) 1131 32).toInt (l) b true := RH_cnt hH0 (show ((ps_i s 1131 31) + x5).toInt - x5.toInt = (ps_i s 1131 31).toInt from by omega)
    refine ms_210 (l := l) (p := x2.toInt.toNat) J12 hR ((by have z := RH_len hH; omega)) ((by omega)) (fun s14 J14 K14 p14_0 p14_1 => ?_)
    have K15 := kpt K13 K14 rfl rfl
    have KC := K14
    have hS2 : Sg (ps_a s14 1135) (ps_a s14 1136) (ps_a s14 1138) (ps_a s14 1139) (ps_i s14 1131 22).toInt σ := by rw [show ps_a s14 1135 = ps_a (ps_ui s 1131 31 ((ps_i s 1131 31) + x5)) 1135 from (K14.2 1135 rfl).1, show ps_a s14 1136 = ps_a (ps_ui s 1131 31 ((ps_i s 1131 31) + x5)) 1136 from (K14.2 1136 rfl).1, show ps_a s14 1138 = ps_a (ps_ui s 1131 31 ((ps_i s 1131 31) + x5)) 1138 from (K14.2 1138 rfl).1, show ps_a s14 1139 = ps_a (ps_ui s 1131 31 ((ps_i s 1131 31) + x5)) 1139 from (K14.2 1139 rfl).1, show ps_i s14 1131 22 = ps_i (ps_ui s 1131 31 ((ps_i s 1131 31) + x5)) 1131 22 from kp_i K14 22 rfl]; exact hS2
    have hH : RH σ (ps_a s14 1144) (ps_a s14 1145) (ps_a s14 1146) (ps_a s14 1147) (ps_i s14 1131 29).toInt (ps_i s14 1131 30).toInt ((ps_i s14 1131 31).toInt - x5.toInt) (ps_i s14 1131 32).toInt (l) b true := by rw [show ps_a s14 1144 = ps_a (ps_ui s 1131 31 ((ps_i s 1131 31) + x5)) 1144 from (K14.2 1144 rfl).1, show ps_a s14 1145 = ps_a (ps_ui s 1131 31 ((ps_i s 1131 31) + x5)) 1145 from (K14.2 1145 rfl).1, show ps_a s14 1146 = ps_a (ps_ui s 1131 31 ((ps_i s 1131 31) + x5)) 1146 from (K14.2 1146 rfl).1, show ps_a s14 1147 = ps_a (ps_ui s 1131 31 ((ps_i s 1131 31) + x5)) 1147 from (K14.2 1147 rfl).1, show ps_i s14 1131 29 = ps_i (ps_ui s 1131 31 ((ps_i s 1131 31) + x5)) 1131 29 from kp_i K14 29 rfl, show ps_i s14 1131 30 = ps_i (ps_ui s 1131 31 ((ps_i s 1131 31) + x5)) 1131 30 from kp_i K14 30 rfl, show ps_i s14 1131 31 = ps_i (ps_ui s 1131 31 ((ps_i s 1131 31) + x5)) 1131 31 from kp_i K14 31 rfl, show ps_i s14 1131 32 = ps_i (ps_ui s 1131 31 ((ps_i s 1131 31) + x5)) 1131 32 from kp_i K14 32 rfl]; exact hH
    have hR2 : Rw (ps_a s14 1134) x1.toInt (l ++ [x2.toInt.toNat]) := p14_0
    have ho : _ := p14_1
    have hO : ∀ i : Nat, (i : Int) < x1.toInt ∨ x1.toInt + 41 ≤ (i : Int) → ps_a s14 1134 i = ps_a s0 1134 i := fun i hi => (ho i hi).trans (hO i hi)
    have r16 := mf_8 J14
    have u17 : (ps_i s14 1131 8).toInt = (ps_i s 1131 8).toInt := xeq (kp_i K14 8 rfl)
    have r18 := mf_4 J14
    have u19 : (ps_i s14 1131 4).toInt = (ps_i s 1131 4).toInt := xeq (kp_i K14 4 rfl)
    refine ms_194 J14 (show (ps_i s14 1131 8).toInt ≤ (ps_i s14 1131 4).toInt from by omega) (fun s20 J20 K20 p20_0 => ?_)
    have K21 := kpt K15 K20 rfl rfl
    have KC := K20
    have hS2 : Sg (ps_a s20 1135) (ps_a s20 1136) (ps_a s20 1138) (ps_a s20 1139) (ps_i s20 1131 22).toInt σ := by rw [show ps_a s20 1135 = ps_a s14 1135 from (K20.2 1135 rfl).1, show ps_a s20 1136 = ps_a s14 1136 from (K20.2 1136 rfl).1, show ps_a s20 1138 = ps_a s14 1138 from (K20.2 1138 rfl).1, show ps_a s20 1139 = ps_a s14 1139 from (K20.2 1139 rfl).1, show ps_i s20 1131 22 = ps_i s14 1131 22 from kp_i K20 22 rfl]; exact hS2
    have hH : RH σ (ps_a s20 1144) (ps_a s20 1145) (ps_a s20 1146) (ps_a s20 1147) (ps_i s20 1131 29).toInt (ps_i s20 1131 30).toInt ((ps_i s20 1131 31).toInt - x5.toInt) (ps_i s20 1131 32).toInt (l) b true := by rw [show ps_a s20 1144 = ps_a s14 1144 from (K20.2 1144 rfl).1, show ps_a s20 1145 = ps_a s14 1145 from (K20.2 1145 rfl).1, show ps_a s20 1146 = ps_a s14 1146 from (K20.2 1146 rfl).1, show ps_a s20 1147 = ps_a s14 1147 from (K20.2 1147 rfl).1, show ps_i s20 1131 29 = ps_i s14 1131 29 from kp_i K20 29 rfl, show ps_i s20 1131 30 = ps_i s14 1131 30 from kp_i K20 30 rfl, show ps_i s20 1131 31 = ps_i s14 1131 31 from kp_i K20 31 rfl, show ps_i s20 1131 32 = ps_i s14 1131 32 from kp_i K20 32 rfl]; exact hH
    have hR2 : Rw (ps_a s20 1134) x1.toInt (l ++ [x2.toInt.toNat]) := by rw [show ps_a s20 1134 = ps_a s14 1134 from (K20.2 1134 rfl).1]; exact hR2
    have hO : ∀ i : Nat, (i : Int) < x1.toInt ∨ x1.toInt + 41 ≤ (i : Int) → ps_a s20 1134 i = ps_a s0 1134 i := by rw [show ps_a s20 1134 = ps_a s14 1134 from (K20.2 1134 rfl).1]; exact hO
    have p20_0' : (ps_i s20 1131 8).toInt ≤ (ps_i s20 1131 4).toInt := p20_0
    have r22 := mf_8 J20
    have r23 := mf_4 J20
    have u24 : (ps_i s20 1131 4).toInt = (ps_i s14 1131 4).toInt := xeq (kp_i K20 4 rfl)
    refine And.intro (fun h25 => ?_) (fun h25 => ?_)
    · have f26 : x4.toInt = (0 : Int) := xeq h25
      refine And.intro (fun h27 => ?_) (fun h27 => ?_)
      · have f28 : x3.toInt = (0 : Int) := xeq h27
        refine And.intro (fun h29 => ?_) (fun h29 => ?_)
        · have f30 : x2.toInt ≠ (0 : Int) := xne h29
          refine And.intro (fun h31 => ?_) (fun h31 => ?_)
          · have f32 : (10 : Int) ≤ x2.toInt := xle h31
            have r33 := mf_22 J20
            have u34 : (ps_i s20 1131 22).toInt = (ps_i s14 1131 22).toInt := xeq (kp_i K20 22 rfl)
            have r35 := mf_22 J14
            have u36 : (ps_i s14 1131 22).toInt = (ps_i s 1131 22).toInt := xeq (kp_i K14 22 rfl)
            have a37 : ((6 : Int32) * (ps_i s20 1131 22)).toInt = (6 : Int) * (ps_i s20 1131 22).toInt := xIm (show -2147483648 ≤ (6 : Int) * (ps_i s20 1131 22).toInt from by omega) (show (6 : Int) * (ps_i s20 1131 22).toInt < 2147483648 from by omega)
            have a38 : (((6 : Int32) * (ps_i s20 1131 22)) + x2).toInt = ((6 : Int32) * (ps_i s20 1131 22)).toInt + x2.toInt := xIa (show -2147483648 ≤ ((6 : Int32) * (ps_i s20 1131 22)).toInt + x2.toInt from by omega) (show ((6 : Int32) * (ps_i s20 1131 22)).toInt + x2.toInt < 2147483648 from by omega)
            have a39 : ((((6 : Int32) * (ps_i s20 1131 22)) + x2) - 10).toInt = (((6 : Int32) * (ps_i s20 1131 22)) + x2).toInt - (10 : Int) := xIs (show -2147483648 ≤ (((6 : Int32) * (ps_i s20 1131 22)) + x2).toInt - (10 : Int) from by omega) (show (((6 : Int32) * (ps_i s20 1131 22)) + x2).toInt - (10 : Int) < 2147483648 from by omega)
            refine ps_nd_i (show pm_in ((((6 : Int32) * (ps_i s20 1131 22)) + x2) - 10) 12 = true from xgi (show 0 ≤ ((((6 : Int32) * (ps_i s20 1131 22)) + x2) - 10).toInt from by omega) (show ((((6 : Int32) * (ps_i s20 1131 22)) + x2) - 10).toInt < 12 from by omega)) ?_
            have r40 : 0 ≤ (ps_a s20 1138 (Int32.toNatClampNeg ((((6 : Int32) * (ps_i s20 1131 22)) + x2) - 10))).toInt ∧ (ps_a s20 1138 (Int32.toNatClampNeg ((((6 : Int32) * (ps_i s20 1131 22)) + x2) - 10))).toInt ≤ 9999 := ma_1138 (i := ((((6 : Int32) * (ps_i s20 1131 22)) + x2) - 10)) J20 (show 0 ≤ ((((6 : Int32) * (ps_i s20 1131 22)) + x2) - 10).toInt from by omega) (show ((((6 : Int32) * (ps_i s20 1131 22)) + x2) - 10).toInt < 12 from by omega)
            have u41 : (ps_a s20 1138 (Int32.toNatClampNeg ((((6 : Int32) * (ps_i s20 1131 22)) + x2) - 10))).toInt = (ps_a s14 1138 (Int32.toNatClampNeg ((((6 : Int32) * (ps_i s20 1131 22)) + x2) - 10))).toInt := xeq (kp_a K20 1138 rfl _)
            have r42 : 0 ≤ (ps_a s14 1138 (Int32.toNatClampNeg ((((6 : Int32) * (ps_i s20 1131 22)) + x2) - 10))).toInt ∧ (ps_a s14 1138 (Int32.toNatClampNeg ((((6 : Int32) * (ps_i s20 1131 22)) + x2) - 10))).toInt ≤ 9999 := ma_1138 (i := ((((6 : Int32) * (ps_i s20 1131 22)) + x2) - 10)) J14 (show 0 ≤ ((((6 : Int32) * (ps_i s20 1131 22)) + x2) - 10).toInt from by omega) (show ((((6 : Int32) * (ps_i s20 1131 22)) + x2) - 10).toInt < 12 from by omega)
            have u43 : (ps_a s14 1138 (Int32.toNatClampNeg ((((6 : Int32) * (ps_i s20 1131 22)) + x2) - 10))).toInt = (ps_a s 1138 (Int32.toNatClampNeg ((((6 : Int32) * (ps_i s20 1131 22)) + x2) - 10))).toInt := xeq (kp_a K14 1138 rfl _)
            have r44 : 0 ≤ (ps_a s 1138 (Int32.toNatClampNeg ((((6 : Int32) * (ps_i s20 1131 22)) + x2) - 10))).toInt ∧ (ps_a s 1138 (Int32.toNatClampNeg ((((6 : Int32) * (ps_i s20 1131 22)) + x2) - 10))).toInt ≤ 9999 := ma_1138 (i := ((((6 : Int32) * (ps_i s20 1131 22)) + x2) - 10)) J (show 0 ≤ ((((6 : Int32) * (ps_i s20 1131 22)) + x2) - 10).toInt from by omega) (show ((((6 : Int32) * (ps_i s20 1131 22)) + x2) - 10).toInt < 12 from by omega)
            have hwv : (x3.toInt = 1 ∧ ((ps_a s20 1138 (Int32.toNatClampNeg ((((6 : Int32) * (ps_i s20 1131 22)) + x2) - 10)))).toInt = 1) ∨ (x3.toInt = 0 ∧ x2.toInt = 0 ∧ ((ps_a s20 1138 (Int32.toNatClampNeg ((((6 : Int32) * (ps_i s20 1131 22)) + x2) - 10)))).toInt = 0) ∨ (x3.toInt = 0 ∧ x2.toInt ≠ 0 ∧ x2.toInt < 10 ∧ ((ps_a s20 1138 (Int32.toNatClampNeg ((((6 : Int32) * (ps_i s20 1131 22)) + x2) - 10)))).toInt = 2) ∨ (x3.toInt = 0 ∧ 10 ≤ x2.toInt ∧ ((ps_a s20 1138 (Int32.toNatClampNeg ((((6 : Int32) * (ps_i s20 1131 22)) + x2) - 10)))).toInt = σ.2.1 (x2.toInt.toNat - 10) ∧ σ.2.1 (x2.toInt.toNat - 10) ≤ 2) := by first | exact Or.inl ⟨by omega, by decide⟩ | exact Or.inr (Or.inl ⟨by omega, by omega, by decide⟩) | exact Or.inr (Or.inr (Or.inl ⟨by omega, by omega, by omega, by decide⟩)) | exact Or.inr (Or.inr (Or.inr ⟨by omega, by omega, Sg_r hS2 (by omega) (by omega)⟩))
            refine And.intro (fun h45 => ?_) (fun h45 => ?_)
            · have f46 : x2.toInt < (6 : Int) := xlt h45
              have r47 := mf_29 J20
              have u48 : (ps_i s20 1131 29).toInt = (ps_i s14 1131 29).toInt := xeq (kp_i K20 29 rfl)
              have r49 := mf_29 J14
              have u50 : (ps_i s14 1131 29).toInt = (ps_i s 1131 29).toInt := xeq (kp_i K14 29 rfl)
              refine ms_211 J20 (show (ps_i s20 1131 29).toInt ≤ 14 from by omega) (fun s51 J51 K51 p51_0 p51_1 p51_2 p51_3 p51_4 => ?_)
              have K52 := kpt K21 K51 rfl rfl
              have KC := K51
              have hS2 : Sg (ps_a s51 1135) (ps_a s51 1136) (ps_a s51 1138) (ps_a s51 1139) (ps_i s51 1131 22).toInt σ := by rw [show ps_a s51 1135 = ps_a s20 1135 from (K51.2 1135 rfl).1, show ps_a s51 1136 = ps_a s20 1136 from (K51.2 1136 rfl).1, show ps_a s51 1138 = ps_a s20 1138 from (K51.2 1138 rfl).1, show ps_a s51 1139 = ps_a s20 1139 from (K51.2 1139 rfl).1, show ps_i s51 1131 22 = ps_i s20 1131 22 from kp_i K51 22 rfl]; exact hS2
              have hR2 : Rw (ps_a s51 1134) x1.toInt (l ++ [x2.toInt.toNat]) := by rw [show ps_a s51 1134 = ps_a s20 1134 from (K51.2 1134 rfl).1]; exact hR2
              have hO : ∀ i : Nat, (i : Int) < x1.toInt ∨ x1.toInt + 41 ≤ (i : Int) → ps_a s51 1134 i = ps_a s0 1134 i := by rw [show ps_a s51 1134 = ps_a s20 1134 from (K51.2 1134 rfl).1]; exact hO
              have p51_0' : (ps_i s51 1131 29).toInt = (ps_i s20 1131 29).toInt + 1 := p51_0
              have r53 := mf_29 J51
              have w44 : _ := p51_1
              have w45 : _ := p51_2
              have w46 : _ := p51_3
              have w47 : _ := p51_4
              have u30 := xeq (kp_i KC 30 rfl)
              have u31 := xeq (kp_i KC 31 rfl)
              have u32 := xeq (kp_i KC 32 rfl)
              have g5 : (x2.toInt < 6 ∧ ps_a s51 1145 (ps_i s20 1131 29).toInt.toNat = 0) ∨ (6 ≤ x2.toInt ∧ ps_a s51 1145 (ps_i s20 1131 29).toInt.toNat ≠ 0) := by first | exact Or.inl ⟨by omega, ((w45 _).trans (if_pos rfl)).trans (by decide)⟩ | exact Or.inr ⟨by omega, by rw [(w45 _).trans (if_pos rfl)]; decide⟩
              have g7 : ps_a s51 1147 (ps_i s20 1131 29).toInt.toNat = 0 := ((w47 _).trans (if_pos rfl)).trans (by decide)
              have g4 := congrArg Int32.toInt ((w44 (ps_i s20 1131 29).toInt.toNat).trans (if_pos rfl))
              have a54 : ((ps_i s51 1131 29) - 1).toInt = (ps_i s51 1131 29).toInt - (1 : Int) := xIs (show -2147483648 ≤ (ps_i s51 1131 29).toInt - (1 : Int) from by omega) (show (ps_i s51 1131 29).toInt - (1 : Int) < 2147483648 from by omega)
              have e9 : Int32.toNatClampNeg ((ps_i s51 1131 29) - 1) = (ps_i s20 1131 29).toInt.toNat := nx (show ((ps_i s51 1131 29) - 1).toInt = (ps_i s20 1131 29).toInt from by omega)
              refine ps_nd_i (show pm_in ((ps_i s51 1131 29) - 1) 16 = true from xgi (show 0 ≤ ((ps_i s51 1131 29) - 1).toInt from by omega) (show ((ps_i s51 1131 29) - 1).toInt < 16 from by omega)) ?_
              have J55 := mwa_n 1146 (i := (Int32.toNatClampNeg ((ps_i s51 1131 29) - 1))) (v := (x3 &&& 1)) J51 rfl (by decide)
              have K56 := kpa' K52 (r := 1146) (i := (Int32.toNatClampNeg ((ps_i s51 1131 29) - 1))) (v := (x3 &&& 1)) rfl
              have g6 : ps_a (ps_ua s51 1146 (Int32.toNatClampNeg ((ps_i s51 1131 29) - 1)) (x3 &&& 1)) 1146 (ps_i s20 1131 29).toInt.toNat = (x3 &&& 1) := by rw [← e9]; exact ua_eq
              have g6l : ∀ i, i < (ps_i s20 1131 29).toInt.toNat → ps_a (ps_ua s51 1146 (Int32.toNatClampNeg ((ps_i s51 1131 29) - 1)) (x3 &&& 1)) 1146 i = ps_a s20 1146 i := fun i hi => (ua_ne (by omega)).trans ((w46 i).trans (if_neg (by omega)))
              have r57 := mf_8 J51
              have u58 : (ps_i s51 1131 8).toInt = (ps_i s20 1131 8).toInt := xeq (kp_i K51 8 rfl)
              have r59 := mf_4 J51
              have u60 : (ps_i s51 1131 4).toInt = (ps_i s20 1131 4).toInt := xeq (kp_i K51 4 rfl)
              have r61 := mf_5 J51
              have u62 : (ps_i s51 1131 5).toInt = (ps_i s20 1131 5).toInt := xeq (kp_i K51 5 rfl)
              have r63 := mf_5 J20
              have u64 : (ps_i s20 1131 5).toInt = (ps_i s14 1131 5).toInt := xeq (kp_i K20 5 rfl)
              have r65 := mf_5 J14
              have u66 : (ps_i s14 1131 5).toInt = (ps_i s 1131 5).toInt := xeq (kp_i K14 5 rfl)
              have u67 : (ps_i s51 1131 30).toInt = (ps_i s20 1131 30).toInt := xeq (kp_i K51 30 rfl)
              have u68 : (ps_i s20 1131 30).toInt = (ps_i s14 1131 30).toInt := xeq (kp_i K20 30 rfl)
              have u69 : (ps_i s14 1131 30).toInt = (ps_i s 1131 30).toInt := xeq (kp_i K14 30 rfl)
              have r70 := mf_31 J51
              have u71 : (ps_i s51 1131 31).toInt = (ps_i s20 1131 31).toInt := xeq (kp_i K51 31 rfl)
              have r72 := mf_31 J20
              have u73 : (ps_i s20 1131 31).toInt = (ps_i s14 1131 31).toInt := xeq (kp_i K20 31 rfl)
              have r74 := mf_31 J14
              have u75 : (ps_i s14 1131 31).toInt = ((ps_i s 1131 31) + x5).toInt := xeq (kp_i K14 31 rfl)
              exact k _ J55 K56 (show (ps_i s51 1131 8).toInt ≤ (ps_i s51 1131 4).toInt from by omega) (show 1 ≤ (ps_i s51 1131 5).toInt ∨ ((ps_i s51 1131 29).toInt ≤ 13 ∧ 0 ≤ (ps_i s51 1131 30).toInt ∧ (ps_i s51 1131 30).toInt ≤ 5 ∧ (ps_i s51 1131 31).toInt ≤ 40 ∧ (ps_i s0 1131 31).toInt < (ps_i s51 1131 31).toInt) from by omega) (show (ps_i s0 1131 31).toInt ≤ (ps_i s51 1131 31).toInt from by omega) ((by first | (exfalso; omega) | exact Or.inr ⟨_, hR2, (by
      have n1 : (ps_i s51 1131 29).toInt = (ps_i s20 1131 29).toInt + 1 := by omega
      rcases i11 with z | z
      · refine RQ_c hH (by omega) (by omega) (kS_push (g := ps_a (ps_ua s51 1146 (Int32.toNatClampNeg ((ps_i s51 1131 29) - 1)) (x3 &&& 1)) 1145 (ps_i s20 1131 29).toInt.toNat) ?_) ?_ g4 (g6.trans (by rw [show x3 = 0 from x0 z.1]; decide)) (show (ps_i s51 1131 30).toInt = (ps_i s20 1131 30).toInt + (if x2.toInt.toNat = 4 ∨ x2.toInt.toNat = 5 then 1 else 0) from by rw [if_neg (by omega)]; omega) ⟨fun _ => by omega, fun _ => g7⟩ (fun i hi => ⟨(w44 i).trans (if_neg (by omega)), (w45 i).trans (if_neg (by omega)), g6l i hi, (w47 i).trans (if_neg (by omega))⟩) n1 (show (ps_i s51 1131 31).toInt = ((ps_i s20 1131 31).toInt - x5.toInt) + 1 from by omega) (show (ps_i (ps_ua s51 1146 (Int32.toNatClampNeg ((ps_i s51 1131 29) - 1)) (x3 &&& 1)) 1131 32).toInt = (ps_i s20 1131 32).toInt from u32) (fun _ => by omega)
        · rcases hwv with q | q | q | q
          · omega
          · exact Or.inl ⟨by omega, q.2.2⟩
          · rcases g5 with g | g
            · exact Or.inr (Or.inl ⟨by omega, by omega, q.2.2.2, g.2⟩)
            · exact Or.inr (Or.inr (Or.inl ⟨by omega, q.2.2.2, g.2⟩))
          · rcases g5 with g | g
            · omega
            · exact Or.inr (Or.inr (Or.inr ⟨by omega, by omega, q.2.2.1, g.2⟩))
        · omega
      · exact RQ_not hH (by omega) (by omega) (by omega) (by rcases hwv with q | q | q | q; exact g4.trans q.2; omega; omega; omega) (by rcases g5 with g | g; exact g.2; omega) (by rw [g6, show x3 = 1 from xO1 z.1]; decide) (show (ps_i s51 1131 30).toInt = (ps_i s20 1131 30).toInt from by omega) g7 (fun i hi => ⟨(w44 i).trans (if_neg (by omega)), (w45 i).trans (if_neg (by omega)), g6l i hi, (w47 i).trans (if_neg (by omega))⟩) n1 (show (ps_i s51 1131 31).toInt = ((ps_i s20 1131 31).toInt - x5.toInt) + 2 from by omega) (show (ps_i (ps_ua s51 1146 (Int32.toNatClampNeg ((ps_i s51 1131 29) - 1)) (x3 &&& 1)) 1131 32).toInt = (ps_i s20 1131 32).toInt from u32))⟩)) (hO)
            · have f76 : (6 : Int) ≤ x2.toInt := xle h45
              have r77 := mf_29 J20
              have u78 : (ps_i s20 1131 29).toInt = (ps_i s14 1131 29).toInt := xeq (kp_i K20 29 rfl)
              have r79 := mf_29 J14
              have u80 : (ps_i s14 1131 29).toInt = (ps_i s 1131 29).toInt := xeq (kp_i K14 29 rfl)
              refine ms_211 J20 (show (ps_i s20 1131 29).toInt ≤ 14 from by omega) (fun s81 J81 K81 p81_0 p81_1 p81_2 p81_3 p81_4 => ?_)
              have K82 := kpt K21 K81 rfl rfl
              have KC := K81
              have hS2 : Sg (ps_a s81 1135) (ps_a s81 1136) (ps_a s81 1138) (ps_a s81 1139) (ps_i s81 1131 22).toInt σ := by rw [show ps_a s81 1135 = ps_a s20 1135 from (K81.2 1135 rfl).1, show ps_a s81 1136 = ps_a s20 1136 from (K81.2 1136 rfl).1, show ps_a s81 1138 = ps_a s20 1138 from (K81.2 1138 rfl).1, show ps_a s81 1139 = ps_a s20 1139 from (K81.2 1139 rfl).1, show ps_i s81 1131 22 = ps_i s20 1131 22 from kp_i K81 22 rfl]; exact hS2
              have hR2 : Rw (ps_a s81 1134) x1.toInt (l ++ [x2.toInt.toNat]) := by rw [show ps_a s81 1134 = ps_a s20 1134 from (K81.2 1134 rfl).1]; exact hR2
              have hO : ∀ i : Nat, (i : Int) < x1.toInt ∨ x1.toInt + 41 ≤ (i : Int) → ps_a s81 1134 i = ps_a s0 1134 i := by rw [show ps_a s81 1134 = ps_a s20 1134 from (K81.2 1134 rfl).1]; exact hO
              have p81_0' : (ps_i s81 1131 29).toInt = (ps_i s20 1131 29).toInt + 1 := p81_0
              have r83 := mf_29 J81
              have w44 : _ := p81_1
              have w45 : _ := p81_2
              have w46 : _ := p81_3
              have w47 : _ := p81_4
              have u30 := xeq (kp_i KC 30 rfl)
              have u31 := xeq (kp_i KC 31 rfl)
              have u32 := xeq (kp_i KC 32 rfl)
              have g5 : (x2.toInt < 6 ∧ ps_a s81 1145 (ps_i s20 1131 29).toInt.toNat = 0) ∨ (6 ≤ x2.toInt ∧ ps_a s81 1145 (ps_i s20 1131 29).toInt.toNat ≠ 0) := by first | exact Or.inl ⟨by omega, ((w45 _).trans (if_pos rfl)).trans (by decide)⟩ | exact Or.inr ⟨by omega, by rw [(w45 _).trans (if_pos rfl)]; decide⟩
              have g7 : ps_a s81 1147 (ps_i s20 1131 29).toInt.toNat = 0 := ((w47 _).trans (if_pos rfl)).trans (by decide)
              have g4 := congrArg Int32.toInt ((w44 (ps_i s20 1131 29).toInt.toNat).trans (if_pos rfl))
              have a84 : ((ps_i s81 1131 29) - 1).toInt = (ps_i s81 1131 29).toInt - (1 : Int) := xIs (show -2147483648 ≤ (ps_i s81 1131 29).toInt - (1 : Int) from by omega) (show (ps_i s81 1131 29).toInt - (1 : Int) < 2147483648 from by omega)
              have e9 : Int32.toNatClampNeg ((ps_i s81 1131 29) - 1) = (ps_i s20 1131 29).toInt.toNat := nx (show ((ps_i s81 1131 29) - 1).toInt = (ps_i s20 1131 29).toInt from by omega)
              refine ps_nd_i (show pm_in ((ps_i s81 1131 29) - 1) 16 = true from xgi (show 0 ≤ ((ps_i s81 1131 29) - 1).toInt from by omega) (show ((ps_i s81 1131 29) - 1).toInt < 16 from by omega)) ?_
              have J85 := mwa_n 1146 (i := (Int32.toNatClampNeg ((ps_i s81 1131 29) - 1))) (v := (x3 &&& 1)) J81 rfl (by decide)
              have K86 := kpa' K82 (r := 1146) (i := (Int32.toNatClampNeg ((ps_i s81 1131 29) - 1))) (v := (x3 &&& 1)) rfl
              have g6 : ps_a (ps_ua s81 1146 (Int32.toNatClampNeg ((ps_i s81 1131 29) - 1)) (x3 &&& 1)) 1146 (ps_i s20 1131 29).toInt.toNat = (x3 &&& 1) := by rw [← e9]; exact ua_eq
              have g6l : ∀ i, i < (ps_i s20 1131 29).toInt.toNat → ps_a (ps_ua s81 1146 (Int32.toNatClampNeg ((ps_i s81 1131 29) - 1)) (x3 &&& 1)) 1146 i = ps_a s20 1146 i := fun i hi => (ua_ne (by omega)).trans ((w46 i).trans (if_neg (by omega)))
              have r87 := mf_8 J81
              have u88 : (ps_i s81 1131 8).toInt = (ps_i s20 1131 8).toInt := xeq (kp_i K81 8 rfl)
              have r89 := mf_4 J81
              have u90 : (ps_i s81 1131 4).toInt = (ps_i s20 1131 4).toInt := xeq (kp_i K81 4 rfl)
              have r91 := mf_5 J81
              have u92 : (ps_i s81 1131 5).toInt = (ps_i s20 1131 5).toInt := xeq (kp_i K81 5 rfl)
              have r93 := mf_5 J20
              have u94 : (ps_i s20 1131 5).toInt = (ps_i s14 1131 5).toInt := xeq (kp_i K20 5 rfl)
              have r95 := mf_5 J14
              have u96 : (ps_i s14 1131 5).toInt = (ps_i s 1131 5).toInt := xeq (kp_i K14 5 rfl)
              have u97 : (ps_i s81 1131 30).toInt = (ps_i s20 1131 30).toInt := xeq (kp_i K81 30 rfl)
              have u98 : (ps_i s20 1131 30).toInt = (ps_i s14 1131 30).toInt := xeq (kp_i K20 30 rfl)
              have u99 : (ps_i s14 1131 30).toInt = (ps_i s 1131 30).toInt := xeq (kp_i K14 30 rfl)
              have r100 := mf_31 J81
              have u101 : (ps_i s81 1131 31).toInt = (ps_i s20 1131 31).toInt := xeq (kp_i K81 31 rfl)
              have r102 := mf_31 J20
              have u103 : (ps_i s20 1131 31).toInt = (ps_i s14 1131 31).toInt := xeq (kp_i K20 31 rfl)
              have r104 := mf_31 J14
              have u105 : (ps_i s14 1131 31).toInt = ((ps_i s 1131 31) + x5).toInt := xeq (kp_i K14 31 rfl)
              exact k _ J85 K86 (show (ps_i s81 1131 8).toInt ≤ (ps_i s81 1131 4).toInt from by omega) (show 1 ≤ (ps_i s81 1131 5).toInt ∨ ((ps_i s81 1131 29).toInt ≤ 13 ∧ 0 ≤ (ps_i s81 1131 30).toInt ∧ (ps_i s81 1131 30).toInt ≤ 5 ∧ (ps_i s81 1131 31).toInt ≤ 40 ∧ (ps_i s0 1131 31).toInt < (ps_i s81 1131 31).toInt) from by omega) (show (ps_i s0 1131 31).toInt ≤ (ps_i s81 1131 31).toInt from by omega) ((by first | (exfalso; omega) | exact Or.inr ⟨_, hR2, (by
      have n1 : (ps_i s81 1131 29).toInt = (ps_i s20 1131 29).toInt + 1 := by omega
      rcases i11 with z | z
      · refine RQ_c hH (by omega) (by omega) (kS_push (g := ps_a (ps_ua s81 1146 (Int32.toNatClampNeg ((ps_i s81 1131 29) - 1)) (x3 &&& 1)) 1145 (ps_i s20 1131 29).toInt.toNat) ?_) ?_ g4 (g6.trans (by rw [show x3 = 0 from x0 z.1]; decide)) (show (ps_i s81 1131 30).toInt = (ps_i s20 1131 30).toInt + (if x2.toInt.toNat = 4 ∨ x2.toInt.toNat = 5 then 1 else 0) from by rw [if_neg (by omega)]; omega) ⟨fun _ => by omega, fun _ => g7⟩ (fun i hi => ⟨(w44 i).trans (if_neg (by omega)), (w45 i).trans (if_neg (by omega)), g6l i hi, (w47 i).trans (if_neg (by omega))⟩) n1 (show (ps_i s81 1131 31).toInt = ((ps_i s20 1131 31).toInt - x5.toInt) + 1 from by omega) (show (ps_i (ps_ua s81 1146 (Int32.toNatClampNeg ((ps_i s81 1131 29) - 1)) (x3 &&& 1)) 1131 32).toInt = (ps_i s20 1131 32).toInt from u32) (fun _ => by omega)
        · rcases hwv with q | q | q | q
          · omega
          · exact Or.inl ⟨by omega, q.2.2⟩
          · rcases g5 with g | g
            · exact Or.inr (Or.inl ⟨by omega, by omega, q.2.2.2, g.2⟩)
            · exact Or.inr (Or.inr (Or.inl ⟨by omega, q.2.2.2, g.2⟩))
          · rcases g5 with g | g
            · omega
            · exact Or.inr (Or.inr (Or.inr ⟨by omega, by omega, q.2.2.1, g.2⟩))
        · omega
      · exact RQ_not hH (by omega) (by omega) (by omega) (by rcases hwv with q | q | q | q; exact g4.trans q.2; omega; omega; omega) (by rcases g5 with g | g; exact g.2; omega) (by rw [g6, show x3 = 1 from xO1 z.1]; decide) (show (ps_i s81 1131 30).toInt = (ps_i s20 1131 30).toInt from by omega) g7 (fun i hi => ⟨(w44 i).trans (if_neg (by omega)), (w45 i).trans (if_neg (by omega)), g6l i hi, (w47 i).trans (if_neg (by omega))⟩) n1 (show (ps_i s81 1131 31).toInt = ((ps_i s20 1131 31).toInt - x5.toInt) + 2 from by omega) (show (ps_i (ps_ua s81 1146 (Int32.toNatClampNeg ((ps_i s81 1131 29) - 1)) (x3 &&& 1)) 1131 32).toInt = (ps_i s20 1131 32).toInt from u32))⟩)) (hO)
          · have f106 : x2.toInt < (10 : Int) := xlt h31
            have hwv : (x3.toInt = 1 ∧ ((2 : Int32)).toInt = 1) ∨ (x3.toInt = 0 ∧ x2.toInt = 0 ∧ ((2 : Int32)).toInt = 0) ∨ (x3.toInt = 0 ∧ x2.toInt ≠ 0 ∧ x2.toInt < 10 ∧ ((2 : Int32)).toInt = 2) ∨ (x3.toInt = 0 ∧ 10 ≤ x2.toInt ∧ ((2 : Int32)).toInt = σ.2.1 (x2.toInt.toNat - 10) ∧ σ.2.1 (x2.toInt.toNat - 10) ≤ 2) := by first | exact Or.inl ⟨by omega, by decide⟩ | exact Or.inr (Or.inl ⟨by omega, by omega, by decide⟩) | exact Or.inr (Or.inr (Or.inl ⟨by omega, by omega, by omega, by decide⟩)) | exact Or.inr (Or.inr (Or.inr ⟨by omega, by omega, Sg_r hS2 (by omega) (by omega)⟩))
            refine And.intro (fun h107 => ?_) (fun h107 => ?_)
            · have f108 : x2.toInt < (6 : Int) := xlt h107
              have r109 := mf_29 J20
              have u110 : (ps_i s20 1131 29).toInt = (ps_i s14 1131 29).toInt := xeq (kp_i K20 29 rfl)
              have r111 := mf_29 J14
              have u112 : (ps_i s14 1131 29).toInt = (ps_i s 1131 29).toInt := xeq (kp_i K14 29 rfl)
              refine ms_211 J20 (show (ps_i s20 1131 29).toInt ≤ 14 from by omega) (fun s113 J113 K113 p113_0 p113_1 p113_2 p113_3 p113_4 => ?_)
              have K114 := kpt K21 K113 rfl rfl
              have KC := K113
              have hS2 : Sg (ps_a s113 1135) (ps_a s113 1136) (ps_a s113 1138) (ps_a s113 1139) (ps_i s113 1131 22).toInt σ := by rw [show ps_a s113 1135 = ps_a s20 1135 from (K113.2 1135 rfl).1, show ps_a s113 1136 = ps_a s20 1136 from (K113.2 1136 rfl).1, show ps_a s113 1138 = ps_a s20 1138 from (K113.2 1138 rfl).1, show ps_a s113 1139 = ps_a s20 1139 from (K113.2 1139 rfl).1, show ps_i s113 1131 22 = ps_i s20 1131 22 from kp_i K113 22 rfl]; exact hS2
              have hR2 : Rw (ps_a s113 1134) x1.toInt (l ++ [x2.toInt.toNat]) := by rw [show ps_a s113 1134 = ps_a s20 1134 from (K113.2 1134 rfl).1]; exact hR2
              have hO : ∀ i : Nat, (i : Int) < x1.toInt ∨ x1.toInt + 41 ≤ (i : Int) → ps_a s113 1134 i = ps_a s0 1134 i := by rw [show ps_a s113 1134 = ps_a s20 1134 from (K113.2 1134 rfl).1]; exact hO
              have p113_0' : (ps_i s113 1131 29).toInt = (ps_i s20 1131 29).toInt + 1 := p113_0
              have r115 := mf_29 J113
              have w44 : _ := p113_1
              have w45 : _ := p113_2
              have w46 : _ := p113_3
              have w47 : _ := p113_4
              have u30 := xeq (kp_i KC 30 rfl)
              have u31 := xeq (kp_i KC 31 rfl)
              have u32 := xeq (kp_i KC 32 rfl)
              have g5 : (x2.toInt < 6 ∧ ps_a s113 1145 (ps_i s20 1131 29).toInt.toNat = 0) ∨ (6 ≤ x2.toInt ∧ ps_a s113 1145 (ps_i s20 1131 29).toInt.toNat ≠ 0) := by first | exact Or.inl ⟨by omega, ((w45 _).trans (if_pos rfl)).trans (by decide)⟩ | exact Or.inr ⟨by omega, by rw [(w45 _).trans (if_pos rfl)]; decide⟩
              have g7 : ps_a s113 1147 (ps_i s20 1131 29).toInt.toNat = 0 := ((w47 _).trans (if_pos rfl)).trans (by decide)
              have g4 := congrArg Int32.toInt ((w44 (ps_i s20 1131 29).toInt.toNat).trans (if_pos rfl))
              have a116 : ((ps_i s113 1131 29) - 1).toInt = (ps_i s113 1131 29).toInt - (1 : Int) := xIs (show -2147483648 ≤ (ps_i s113 1131 29).toInt - (1 : Int) from by omega) (show (ps_i s113 1131 29).toInt - (1 : Int) < 2147483648 from by omega)
              have e9 : Int32.toNatClampNeg ((ps_i s113 1131 29) - 1) = (ps_i s20 1131 29).toInt.toNat := nx (show ((ps_i s113 1131 29) - 1).toInt = (ps_i s20 1131 29).toInt from by omega)
              refine ps_nd_i (show pm_in ((ps_i s113 1131 29) - 1) 16 = true from xgi (show 0 ≤ ((ps_i s113 1131 29) - 1).toInt from by omega) (show ((ps_i s113 1131 29) - 1).toInt < 16 from by omega)) ?_
              have J117 := mwa_n 1146 (i := (Int32.toNatClampNeg ((ps_i s113 1131 29) - 1))) (v := (x3 &&& 1)) J113 rfl (by decide)
              have K118 := kpa' K114 (r := 1146) (i := (Int32.toNatClampNeg ((ps_i s113 1131 29) - 1))) (v := (x3 &&& 1)) rfl
              have g6 : ps_a (ps_ua s113 1146 (Int32.toNatClampNeg ((ps_i s113 1131 29) - 1)) (x3 &&& 1)) 1146 (ps_i s20 1131 29).toInt.toNat = (x3 &&& 1) := by rw [← e9]; exact ua_eq
              have g6l : ∀ i, i < (ps_i s20 1131 29).toInt.toNat → ps_a (ps_ua s113 1146 (Int32.toNatClampNeg ((ps_i s113 1131 29) - 1)) (x3 &&& 1)) 1146 i = ps_a s20 1146 i := fun i hi => (ua_ne (by omega)).trans ((w46 i).trans (if_neg (by omega)))
              have r119 := mf_8 J113
              have u120 : (ps_i s113 1131 8).toInt = (ps_i s20 1131 8).toInt := xeq (kp_i K113 8 rfl)
              have r121 := mf_4 J113
              have u122 : (ps_i s113 1131 4).toInt = (ps_i s20 1131 4).toInt := xeq (kp_i K113 4 rfl)
              have r123 := mf_5 J113
              have u124 : (ps_i s113 1131 5).toInt = (ps_i s20 1131 5).toInt := xeq (kp_i K113 5 rfl)
              have r125 := mf_5 J20
              have u126 : (ps_i s20 1131 5).toInt = (ps_i s14 1131 5).toInt := xeq (kp_i K20 5 rfl)
              have r127 := mf_5 J14
              have u128 : (ps_i s14 1131 5).toInt = (ps_i s 1131 5).toInt := xeq (kp_i K14 5 rfl)
              have u129 : (ps_i s113 1131 30).toInt = (ps_i s20 1131 30).toInt := xeq (kp_i K113 30 rfl)
              have u130 : (ps_i s20 1131 30).toInt = (ps_i s14 1131 30).toInt := xeq (kp_i K20 30 rfl)
              have u131 : (ps_i s14 1131 30).toInt = (ps_i s 1131 30).toInt := xeq (kp_i K14 30 rfl)
              have r132 := mf_31 J113
              have u133 : (ps_i s113 1131 31).toInt = (ps_i s20 1131 31).toInt := xeq (kp_i K113 31 rfl)
              have r134 := mf_31 J20
              have u135 : (ps_i s20 1131 31).toInt = (ps_i s14 1131 31).toInt := xeq (kp_i K20 31 rfl)
              have r136 := mf_31 J14
              have u137 : (ps_i s14 1131 31).toInt = ((ps_i s 1131 31) + x5).toInt := xeq (kp_i K14 31 rfl)
              exact k _ J117 K118 (show (ps_i s113 1131 8).toInt ≤ (ps_i s113 1131 4).toInt from by omega) (show 1 ≤ (ps_i s113 1131 5).toInt ∨ ((ps_i s113 1131 29).toInt ≤ 13 ∧ 0 ≤ (ps_i s113 1131 30).toInt ∧ (ps_i s113 1131 30).toInt ≤ 5 ∧ (ps_i s113 1131 31).toInt ≤ 40 ∧ (ps_i s0 1131 31).toInt < (ps_i s113 1131 31).toInt) from by omega) (show (ps_i s0 1131 31).toInt ≤ (ps_i s113 1131 31).toInt from by omega) ((by first | (exfalso; omega) | exact Or.inr ⟨_, hR2, (by
      have n1 : (ps_i s113 1131 29).toInt = (ps_i s20 1131 29).toInt + 1 := by omega
      rcases i11 with z | z
      · refine RQ_c hH (by omega) (by omega) (kS_push (g := ps_a (ps_ua s113 1146 (Int32.toNatClampNeg ((ps_i s113 1131 29) - 1)) (x3 &&& 1)) 1145 (ps_i s20 1131 29).toInt.toNat) ?_) ?_ g4 (g6.trans (by rw [show x3 = 0 from x0 z.1]; decide)) (show (ps_i s113 1131 30).toInt = (ps_i s20 1131 30).toInt + (if x2.toInt.toNat = 4 ∨ x2.toInt.toNat = 5 then 1 else 0) from by rw [if_neg (by omega)]; omega) ⟨fun _ => by omega, fun _ => g7⟩ (fun i hi => ⟨(w44 i).trans (if_neg (by omega)), (w45 i).trans (if_neg (by omega)), g6l i hi, (w47 i).trans (if_neg (by omega))⟩) n1 (show (ps_i s113 1131 31).toInt = ((ps_i s20 1131 31).toInt - x5.toInt) + 1 from by omega) (show (ps_i (ps_ua s113 1146 (Int32.toNatClampNeg ((ps_i s113 1131 29) - 1)) (x3 &&& 1)) 1131 32).toInt = (ps_i s20 1131 32).toInt from u32) (fun _ => by omega)
        · rcases hwv with q | q | q | q
          · omega
          · exact Or.inl ⟨by omega, q.2.2⟩
          · rcases g5 with g | g
            · exact Or.inr (Or.inl ⟨by omega, by omega, q.2.2.2, g.2⟩)
            · exact Or.inr (Or.inr (Or.inl ⟨by omega, q.2.2.2, g.2⟩))
          · rcases g5 with g | g
            · omega
            · exact Or.inr (Or.inr (Or.inr ⟨by omega, by omega, q.2.2.1, g.2⟩))
        · omega
      · exact RQ_not hH (by omega) (by omega) (by omega) (by rcases hwv with q | q | q | q; exact g4.trans q.2; omega; omega; omega) (by rcases g5 with g | g; exact g.2; omega) (by rw [g6, show x3 = 1 from xO1 z.1]; decide) (show (ps_i s113 1131 30).toInt = (ps_i s20 1131 30).toInt from by omega) g7 (fun i hi => ⟨(w44 i).trans (if_neg (by omega)), (w45 i).trans (if_neg (by omega)), g6l i hi, (w47 i).trans (if_neg (by omega))⟩) n1 (show (ps_i s113 1131 31).toInt = ((ps_i s20 1131 31).toInt - x5.toInt) + 2 from by omega) (show (ps_i (ps_ua s113 1146 (Int32.toNatClampNeg ((ps_i s113 1131 29) - 1)) (x3 &&& 1)) 1131 32).toInt = (ps_i s20 1131 32).toInt from u32))⟩)) (hO)
            · have f138 : (6 : Int) ≤ x2.toInt := xle h107
              have r139 := mf_29 J20
              have u140 : (ps_i s20 1131 29).toInt = (ps_i s14 1131 29).toInt := xeq (kp_i K20 29 rfl)
              have r141 := mf_29 J14
              have u142 : (ps_i s14 1131 29).toInt = (ps_i s 1131 29).toInt := xeq (kp_i K14 29 rfl)
              refine ms_211 J20 (show (ps_i s20 1131 29).toInt ≤ 14 from by omega) (fun s143 J143 K143 p143_0 p143_1 p143_2 p143_3 p143_4 => ?_)
              have K144 := kpt K21 K143 rfl rfl
              have KC := K143
              have hS2 : Sg (ps_a s143 1135) (ps_a s143 1136) (ps_a s143 1138) (ps_a s143 1139) (ps_i s143 1131 22).toInt σ := by rw [show ps_a s143 1135 = ps_a s20 1135 from (K143.2 1135 rfl).1, show ps_a s143 1136 = ps_a s20 1136 from (K143.2 1136 rfl).1, show ps_a s143 1138 = ps_a s20 1138 from (K143.2 1138 rfl).1, show ps_a s143 1139 = ps_a s20 1139 from (K143.2 1139 rfl).1, show ps_i s143 1131 22 = ps_i s20 1131 22 from kp_i K143 22 rfl]; exact hS2
              have hR2 : Rw (ps_a s143 1134) x1.toInt (l ++ [x2.toInt.toNat]) := by rw [show ps_a s143 1134 = ps_a s20 1134 from (K143.2 1134 rfl).1]; exact hR2
              have hO : ∀ i : Nat, (i : Int) < x1.toInt ∨ x1.toInt + 41 ≤ (i : Int) → ps_a s143 1134 i = ps_a s0 1134 i := by rw [show ps_a s143 1134 = ps_a s20 1134 from (K143.2 1134 rfl).1]; exact hO
              have p143_0' : (ps_i s143 1131 29).toInt = (ps_i s20 1131 29).toInt + 1 := p143_0
              have r145 := mf_29 J143
              have w44 : _ := p143_1
              have w45 : _ := p143_2
              have w46 : _ := p143_3
              have w47 : _ := p143_4
              have u30 := xeq (kp_i KC 30 rfl)
              have u31 := xeq (kp_i KC 31 rfl)
              have u32 := xeq (kp_i KC 32 rfl)
              have g5 : (x2.toInt < 6 ∧ ps_a s143 1145 (ps_i s20 1131 29).toInt.toNat = 0) ∨ (6 ≤ x2.toInt ∧ ps_a s143 1145 (ps_i s20 1131 29).toInt.toNat ≠ 0) := by first | exact Or.inl ⟨by omega, ((w45 _).trans (if_pos rfl)).trans (by decide)⟩ | exact Or.inr ⟨by omega, by rw [(w45 _).trans (if_pos rfl)]; decide⟩
              have g7 : ps_a s143 1147 (ps_i s20 1131 29).toInt.toNat = 0 := ((w47 _).trans (if_pos rfl)).trans (by decide)
              have g4 := congrArg Int32.toInt ((w44 (ps_i s20 1131 29).toInt.toNat).trans (if_pos rfl))
              have a146 : ((ps_i s143 1131 29) - 1).toInt = (ps_i s143 1131 29).toInt - (1 : Int) := xIs (show -2147483648 ≤ (ps_i s143 1131 29).toInt - (1 : Int) from by omega) (show (ps_i s143 1131 29).toInt - (1 : Int) < 2147483648 from by omega)
              have e9 : Int32.toNatClampNeg ((ps_i s143 1131 29) - 1) = (ps_i s20 1131 29).toInt.toNat := nx (show ((ps_i s143 1131 29) - 1).toInt = (ps_i s20 1131 29).toInt from by omega)
              refine ps_nd_i (show pm_in ((ps_i s143 1131 29) - 1) 16 = true from xgi (show 0 ≤ ((ps_i s143 1131 29) - 1).toInt from by omega) (show ((ps_i s143 1131 29) - 1).toInt < 16 from by omega)) ?_
              have J147 := mwa_n 1146 (i := (Int32.toNatClampNeg ((ps_i s143 1131 29) - 1))) (v := (x3 &&& 1)) J143 rfl (by decide)
              have K148 := kpa' K144 (r := 1146) (i := (Int32.toNatClampNeg ((ps_i s143 1131 29) - 1))) (v := (x3 &&& 1)) rfl
              have g6 : ps_a (ps_ua s143 1146 (Int32.toNatClampNeg ((ps_i s143 1131 29) - 1)) (x3 &&& 1)) 1146 (ps_i s20 1131 29).toInt.toNat = (x3 &&& 1) := by rw [← e9]; exact ua_eq
              have g6l : ∀ i, i < (ps_i s20 1131 29).toInt.toNat → ps_a (ps_ua s143 1146 (Int32.toNatClampNeg ((ps_i s143 1131 29) - 1)) (x3 &&& 1)) 1146 i = ps_a s20 1146 i := fun i hi => (ua_ne (by omega)).trans ((w46 i).trans (if_neg (by omega)))
              have r149 := mf_8 J143
              have u150 : (ps_i s143 1131 8).toInt = (ps_i s20 1131 8).toInt := xeq (kp_i K143 8 rfl)
              have r151 := mf_4 J143
              have u152 : (ps_i s143 1131 4).toInt = (ps_i s20 1131 4).toInt := xeq (kp_i K143 4 rfl)
              have r153 := mf_5 J143
              have u154 : (ps_i s143 1131 5).toInt = (ps_i s20 1131 5).toInt := xeq (kp_i K143 5 rfl)
              have r155 := mf_5 J20
              have u156 : (ps_i s20 1131 5).toInt = (ps_i s14 1131 5).toInt := xeq (kp_i K20 5 rfl)
              have r157 := mf_5 J14
              have u158 : (ps_i s14 1131 5).toInt = (ps_i s 1131 5).toInt := xeq (kp_i K14 5 rfl)
              have u159 : (ps_i s143 1131 30).toInt = (ps_i s20 1131 30).toInt := xeq (kp_i K143 30 rfl)
              have u160 : (ps_i s20 1131 30).toInt = (ps_i s14 1131 30).toInt := xeq (kp_i K20 30 rfl)
              have u161 : (ps_i s14 1131 30).toInt = (ps_i s 1131 30).toInt := xeq (kp_i K14 30 rfl)
              have r162 := mf_31 J143
              have u163 : (ps_i s143 1131 31).toInt = (ps_i s20 1131 31).toInt := xeq (kp_i K143 31 rfl)
              have r164 := mf_31 J20
              have u165 : (ps_i s20 1131 31).toInt = (ps_i s14 1131 31).toInt := xeq (kp_i K20 31 rfl)
              have r166 := mf_31 J14
              have u167 : (ps_i s14 1131 31).toInt = ((ps_i s 1131 31) + x5).toInt := xeq (kp_i K14 31 rfl)
              exact k _ J147 K148 (show (ps_i s143 1131 8).toInt ≤ (ps_i s143 1131 4).toInt from by omega) (show 1 ≤ (ps_i s143 1131 5).toInt ∨ ((ps_i s143 1131 29).toInt ≤ 13 ∧ 0 ≤ (ps_i s143 1131 30).toInt ∧ (ps_i s143 1131 30).toInt ≤ 5 ∧ (ps_i s143 1131 31).toInt ≤ 40 ∧ (ps_i s0 1131 31).toInt < (ps_i s143 1131 31).toInt) from by omega) (show (ps_i s0 1131 31).toInt ≤ (ps_i s143 1131 31).toInt from by omega) ((by first | (exfalso; omega) | exact Or.inr ⟨_, hR2, (by
      have n1 : (ps_i s143 1131 29).toInt = (ps_i s20 1131 29).toInt + 1 := by omega
      rcases i11 with z | z
      · refine RQ_c hH (by omega) (by omega) (kS_push (g := ps_a (ps_ua s143 1146 (Int32.toNatClampNeg ((ps_i s143 1131 29) - 1)) (x3 &&& 1)) 1145 (ps_i s20 1131 29).toInt.toNat) ?_) ?_ g4 (g6.trans (by rw [show x3 = 0 from x0 z.1]; decide)) (show (ps_i s143 1131 30).toInt = (ps_i s20 1131 30).toInt + (if x2.toInt.toNat = 4 ∨ x2.toInt.toNat = 5 then 1 else 0) from by rw [if_neg (by omega)]; omega) ⟨fun _ => by omega, fun _ => g7⟩ (fun i hi => ⟨(w44 i).trans (if_neg (by omega)), (w45 i).trans (if_neg (by omega)), g6l i hi, (w47 i).trans (if_neg (by omega))⟩) n1 (show (ps_i s143 1131 31).toInt = ((ps_i s20 1131 31).toInt - x5.toInt) + 1 from by omega) (show (ps_i (ps_ua s143 1146 (Int32.toNatClampNeg ((ps_i s143 1131 29) - 1)) (x3 &&& 1)) 1131 32).toInt = (ps_i s20 1131 32).toInt from u32) (fun _ => by omega)
        · rcases hwv with q | q | q | q
          · omega
          · exact Or.inl ⟨by omega, q.2.2⟩
          · rcases g5 with g | g
            · exact Or.inr (Or.inl ⟨by omega, by omega, q.2.2.2, g.2⟩)
            · exact Or.inr (Or.inr (Or.inl ⟨by omega, q.2.2.2, g.2⟩))
          · rcases g5 with g | g
            · omega
            · exact Or.inr (Or.inr (Or.inr ⟨by omega, by omega, q.2.2.1, g.2⟩))
        · omega
      · exact RQ_not hH (by omega) (by omega) (by omega) (by rcases hwv with q | q | q | q; exact g4.trans q.2; omega; omega; omega) (by rcases g5 with g | g; exact g.2; omega) (by rw [g6, show x3 = 1 from xO1 z.1]; decide) (show (ps_i s143 1131 30).toInt = (ps_i s20 1131 30).toInt from by omega) g7 (fun i hi => ⟨(w44 i).trans (if_neg (by omega)), (w45 i).trans (if_neg (by omega)), g6l i hi, (w47 i).trans (if_neg (by omega))⟩) n1 (show (ps_i s143 1131 31).toInt = ((ps_i s20 1131 31).toInt - x5.toInt) + 2 from by omega) (show (ps_i (ps_ua s143 1146 (Int32.toNatClampNeg ((ps_i s143 1131 29) - 1)) (x3 &&& 1)) 1131 32).toInt = (ps_i s20 1131 32).toInt from u32))⟩)) (hO)
        · have f168 : x2.toInt = (0 : Int) := xeq h29
          have hwv : (x3.toInt = 1 ∧ ((0 : Int32)).toInt = 1) ∨ (x3.toInt = 0 ∧ x2.toInt = 0 ∧ ((0 : Int32)).toInt = 0) ∨ (x3.toInt = 0 ∧ x2.toInt ≠ 0 ∧ x2.toInt < 10 ∧ ((0 : Int32)).toInt = 2) ∨ (x3.toInt = 0 ∧ 10 ≤ x2.toInt ∧ ((0 : Int32)).toInt = σ.2.1 (x2.toInt.toNat - 10) ∧ σ.2.1 (x2.toInt.toNat - 10) ≤ 2) := by first | exact Or.inl ⟨by omega, by decide⟩ | exact Or.inr (Or.inl ⟨by omega, by omega, by decide⟩) | exact Or.inr (Or.inr (Or.inl ⟨by omega, by omega, by omega, by decide⟩)) | exact Or.inr (Or.inr (Or.inr ⟨by omega, by omega, Sg_r hS2 (by omega) (by omega)⟩))
          refine And.intro (fun h169 => ?_) (fun h169 => ?_)
          · have f170 : x2.toInt < (6 : Int) := xlt h169
            have r171 := mf_29 J20
            have u172 : (ps_i s20 1131 29).toInt = (ps_i s14 1131 29).toInt := xeq (kp_i K20 29 rfl)
            have r173 := mf_29 J14
            have u174 : (ps_i s14 1131 29).toInt = (ps_i s 1131 29).toInt := xeq (kp_i K14 29 rfl)
            refine ms_211 J20 (show (ps_i s20 1131 29).toInt ≤ 14 from by omega) (fun s175 J175 K175 p175_0 p175_1 p175_2 p175_3 p175_4 => ?_)
            have K176 := kpt K21 K175 rfl rfl
            have KC := K175
            have hS2 : Sg (ps_a s175 1135) (ps_a s175 1136) (ps_a s175 1138) (ps_a s175 1139) (ps_i s175 1131 22).toInt σ := by rw [show ps_a s175 1135 = ps_a s20 1135 from (K175.2 1135 rfl).1, show ps_a s175 1136 = ps_a s20 1136 from (K175.2 1136 rfl).1, show ps_a s175 1138 = ps_a s20 1138 from (K175.2 1138 rfl).1, show ps_a s175 1139 = ps_a s20 1139 from (K175.2 1139 rfl).1, show ps_i s175 1131 22 = ps_i s20 1131 22 from kp_i K175 22 rfl]; exact hS2
            have hR2 : Rw (ps_a s175 1134) x1.toInt (l ++ [x2.toInt.toNat]) := by rw [show ps_a s175 1134 = ps_a s20 1134 from (K175.2 1134 rfl).1]; exact hR2
            have hO : ∀ i : Nat, (i : Int) < x1.toInt ∨ x1.toInt + 41 ≤ (i : Int) → ps_a s175 1134 i = ps_a s0 1134 i := by rw [show ps_a s175 1134 = ps_a s20 1134 from (K175.2 1134 rfl).1]; exact hO
            have p175_0' : (ps_i s175 1131 29).toInt = (ps_i s20 1131 29).toInt + 1 := p175_0
            have r177 := mf_29 J175
            have w44 : _ := p175_1
            have w45 : _ := p175_2
            have w46 : _ := p175_3
            have w47 : _ := p175_4
            have u30 := xeq (kp_i KC 30 rfl)
            have u31 := xeq (kp_i KC 31 rfl)
            have u32 := xeq (kp_i KC 32 rfl)
            have g5 : (x2.toInt < 6 ∧ ps_a s175 1145 (ps_i s20 1131 29).toInt.toNat = 0) ∨ (6 ≤ x2.toInt ∧ ps_a s175 1145 (ps_i s20 1131 29).toInt.toNat ≠ 0) := by first | exact Or.inl ⟨by omega, ((w45 _).trans (if_pos rfl)).trans (by decide)⟩ | exact Or.inr ⟨by omega, by rw [(w45 _).trans (if_pos rfl)]; decide⟩
            have g7 : ps_a s175 1147 (ps_i s20 1131 29).toInt.toNat = 0 := ((w47 _).trans (if_pos rfl)).trans (by decide)
            have g4 := congrArg Int32.toInt ((w44 (ps_i s20 1131 29).toInt.toNat).trans (if_pos rfl))
            have a178 : ((ps_i s175 1131 29) - 1).toInt = (ps_i s175 1131 29).toInt - (1 : Int) := xIs (show -2147483648 ≤ (ps_i s175 1131 29).toInt - (1 : Int) from by omega) (show (ps_i s175 1131 29).toInt - (1 : Int) < 2147483648 from by omega)
            have e9 : Int32.toNatClampNeg ((ps_i s175 1131 29) - 1) = (ps_i s20 1131 29).toInt.toNat := nx (show ((ps_i s175 1131 29) - 1).toInt = (ps_i s20 1131 29).toInt from by omega)
            refine ps_nd_i (show pm_in ((ps_i s175 1131 29) - 1) 16 = true from xgi (show 0 ≤ ((ps_i s175 1131 29) - 1).toInt from by omega) (show ((ps_i s175 1131 29) - 1).toInt < 16 from by omega)) ?_
            have J179 := mwa_n 1146 (i := (Int32.toNatClampNeg ((ps_i s175 1131 29) - 1))) (v := (x3 &&& 1)) J175 rfl (by decide)
            have K180 := kpa' K176 (r := 1146) (i := (Int32.toNatClampNeg ((ps_i s175 1131 29) - 1))) (v := (x3 &&& 1)) rfl
            have g6 : ps_a (ps_ua s175 1146 (Int32.toNatClampNeg ((ps_i s175 1131 29) - 1)) (x3 &&& 1)) 1146 (ps_i s20 1131 29).toInt.toNat = (x3 &&& 1) := by rw [← e9]; exact ua_eq
            have g6l : ∀ i, i < (ps_i s20 1131 29).toInt.toNat → ps_a (ps_ua s175 1146 (Int32.toNatClampNeg ((ps_i s175 1131 29) - 1)) (x3 &&& 1)) 1146 i = ps_a s20 1146 i := fun i hi => (ua_ne (by omega)).trans ((w46 i).trans (if_neg (by omega)))
            have r181 := mf_8 J175
            have u182 : (ps_i s175 1131 8).toInt = (ps_i s20 1131 8).toInt := xeq (kp_i K175 8 rfl)
            have r183 := mf_4 J175
            have u184 : (ps_i s175 1131 4).toInt = (ps_i s20 1131 4).toInt := xeq (kp_i K175 4 rfl)
            have r185 := mf_5 J175
            have u186 : (ps_i s175 1131 5).toInt = (ps_i s20 1131 5).toInt := xeq (kp_i K175 5 rfl)
            have r187 := mf_5 J20
            have u188 : (ps_i s20 1131 5).toInt = (ps_i s14 1131 5).toInt := xeq (kp_i K20 5 rfl)
            have r189 := mf_5 J14
            have u190 : (ps_i s14 1131 5).toInt = (ps_i s 1131 5).toInt := xeq (kp_i K14 5 rfl)
            have u191 : (ps_i s175 1131 30).toInt = (ps_i s20 1131 30).toInt := xeq (kp_i K175 30 rfl)
            have u192 : (ps_i s20 1131 30).toInt = (ps_i s14 1131 30).toInt := xeq (kp_i K20 30 rfl)
            have u193 : (ps_i s14 1131 30).toInt = (ps_i s 1131 30).toInt := xeq (kp_i K14 30 rfl)
            have r194 := mf_31 J175
            have u195 : (ps_i s175 1131 31).toInt = (ps_i s20 1131 31).toInt := xeq (kp_i K175 31 rfl)
            have r196 := mf_31 J20
            have u197 : (ps_i s20 1131 31).toInt = (ps_i s14 1131 31).toInt := xeq (kp_i K20 31 rfl)
            have r198 := mf_31 J14
            have u199 : (ps_i s14 1131 31).toInt = ((ps_i s 1131 31) + x5).toInt := xeq (kp_i K14 31 rfl)
            exact k _ J179 K180 (show (ps_i s175 1131 8).toInt ≤ (ps_i s175 1131 4).toInt from by omega) (show 1 ≤ (ps_i s175 1131 5).toInt ∨ ((ps_i s175 1131 29).toInt ≤ 13 ∧ 0 ≤ (ps_i s175 1131 30).toInt ∧ (ps_i s175 1131 30).toInt ≤ 5 ∧ (ps_i s175 1131 31).toInt ≤ 40 ∧ (ps_i s0 1131 31).toInt < (ps_i s175 1131 31).toInt) from by omega) (show (ps_i s0 1131 31).toInt ≤ (ps_i s175 1131 31).toInt from by omega) ((by first | (exfalso; omega) | exact Or.inr ⟨_, hR2, (by
      have n1 : (ps_i s175 1131 29).toInt = (ps_i s20 1131 29).toInt + 1 := by omega
      rcases i11 with z | z
      · refine RQ_c hH (by omega) (by omega) (kS_push (g := ps_a (ps_ua s175 1146 (Int32.toNatClampNeg ((ps_i s175 1131 29) - 1)) (x3 &&& 1)) 1145 (ps_i s20 1131 29).toInt.toNat) ?_) ?_ g4 (g6.trans (by rw [show x3 = 0 from x0 z.1]; decide)) (show (ps_i s175 1131 30).toInt = (ps_i s20 1131 30).toInt + (if x2.toInt.toNat = 4 ∨ x2.toInt.toNat = 5 then 1 else 0) from by rw [if_neg (by omega)]; omega) ⟨fun _ => by omega, fun _ => g7⟩ (fun i hi => ⟨(w44 i).trans (if_neg (by omega)), (w45 i).trans (if_neg (by omega)), g6l i hi, (w47 i).trans (if_neg (by omega))⟩) n1 (show (ps_i s175 1131 31).toInt = ((ps_i s20 1131 31).toInt - x5.toInt) + 1 from by omega) (show (ps_i (ps_ua s175 1146 (Int32.toNatClampNeg ((ps_i s175 1131 29) - 1)) (x3 &&& 1)) 1131 32).toInt = (ps_i s20 1131 32).toInt from u32) (fun _ => by omega)
        · rcases hwv with q | q | q | q
          · omega
          · exact Or.inl ⟨by omega, q.2.2⟩
          · rcases g5 with g | g
            · exact Or.inr (Or.inl ⟨by omega, by omega, q.2.2.2, g.2⟩)
            · exact Or.inr (Or.inr (Or.inl ⟨by omega, q.2.2.2, g.2⟩))
          · rcases g5 with g | g
            · omega
            · exact Or.inr (Or.inr (Or.inr ⟨by omega, by omega, q.2.2.1, g.2⟩))
        · omega
      · exact RQ_not hH (by omega) (by omega) (by omega) (by rcases hwv with q | q | q | q; exact g4.trans q.2; omega; omega; omega) (by rcases g5 with g | g; exact g.2; omega) (by rw [g6, show x3 = 1 from xO1 z.1]; decide) (show (ps_i s175 1131 30).toInt = (ps_i s20 1131 30).toInt from by omega) g7 (fun i hi => ⟨(w44 i).trans (if_neg (by omega)), (w45 i).trans (if_neg (by omega)), g6l i hi, (w47 i).trans (if_neg (by omega))⟩) n1 (show (ps_i s175 1131 31).toInt = ((ps_i s20 1131 31).toInt - x5.toInt) + 2 from by omega) (show (ps_i (ps_ua s175 1146 (Int32.toNatClampNeg ((ps_i s175 1131 29) - 1)) (x3 &&& 1)) 1131 32).toInt = (ps_i s20 1131 32).toInt from u32))⟩)) (hO)
          · have f200 : (6 : Int) ≤ x2.toInt := xle h169
            have r201 := mf_29 J20
            have u202 : (ps_i s20 1131 29).toInt = (ps_i s14 1131 29).toInt := xeq (kp_i K20 29 rfl)
            have r203 := mf_29 J14
            have u204 : (ps_i s14 1131 29).toInt = (ps_i s 1131 29).toInt := xeq (kp_i K14 29 rfl)
            refine ms_211 J20 (show (ps_i s20 1131 29).toInt ≤ 14 from by omega) (fun s205 J205 K205 p205_0 p205_1 p205_2 p205_3 p205_4 => ?_)
            have K206 := kpt K21 K205 rfl rfl
            have KC := K205
            have hS2 : Sg (ps_a s205 1135) (ps_a s205 1136) (ps_a s205 1138) (ps_a s205 1139) (ps_i s205 1131 22).toInt σ := by rw [show ps_a s205 1135 = ps_a s20 1135 from (K205.2 1135 rfl).1, show ps_a s205 1136 = ps_a s20 1136 from (K205.2 1136 rfl).1, show ps_a s205 1138 = ps_a s20 1138 from (K205.2 1138 rfl).1, show ps_a s205 1139 = ps_a s20 1139 from (K205.2 1139 rfl).1, show ps_i s205 1131 22 = ps_i s20 1131 22 from kp_i K205 22 rfl]; exact hS2
            have hR2 : Rw (ps_a s205 1134) x1.toInt (l ++ [x2.toInt.toNat]) := by rw [show ps_a s205 1134 = ps_a s20 1134 from (K205.2 1134 rfl).1]; exact hR2
            have hO : ∀ i : Nat, (i : Int) < x1.toInt ∨ x1.toInt + 41 ≤ (i : Int) → ps_a s205 1134 i = ps_a s0 1134 i := by rw [show ps_a s205 1134 = ps_a s20 1134 from (K205.2 1134 rfl).1]; exact hO
            have p205_0' : (ps_i s205 1131 29).toInt = (ps_i s20 1131 29).toInt + 1 := p205_0
            have r207 := mf_29 J205
            have w44 : _ := p205_1
            have w45 : _ := p205_2
            have w46 : _ := p205_3
            have w47 : _ := p205_4
            have u30 := xeq (kp_i KC 30 rfl)
            have u31 := xeq (kp_i KC 31 rfl)
            have u32 := xeq (kp_i KC 32 rfl)
            have g5 : (x2.toInt < 6 ∧ ps_a s205 1145 (ps_i s20 1131 29).toInt.toNat = 0) ∨ (6 ≤ x2.toInt ∧ ps_a s205 1145 (ps_i s20 1131 29).toInt.toNat ≠ 0) := by first | exact Or.inl ⟨by omega, ((w45 _).trans (if_pos rfl)).trans (by decide)⟩ | exact Or.inr ⟨by omega, by rw [(w45 _).trans (if_pos rfl)]; decide⟩
            have g7 : ps_a s205 1147 (ps_i s20 1131 29).toInt.toNat = 0 := ((w47 _).trans (if_pos rfl)).trans (by decide)
            have g4 := congrArg Int32.toInt ((w44 (ps_i s20 1131 29).toInt.toNat).trans (if_pos rfl))
            have a208 : ((ps_i s205 1131 29) - 1).toInt = (ps_i s205 1131 29).toInt - (1 : Int) := xIs (show -2147483648 ≤ (ps_i s205 1131 29).toInt - (1 : Int) from by omega) (show (ps_i s205 1131 29).toInt - (1 : Int) < 2147483648 from by omega)
            have e9 : Int32.toNatClampNeg ((ps_i s205 1131 29) - 1) = (ps_i s20 1131 29).toInt.toNat := nx (show ((ps_i s205 1131 29) - 1).toInt = (ps_i s20 1131 29).toInt from by omega)
            refine ps_nd_i (show pm_in ((ps_i s205 1131 29) - 1) 16 = true from xgi (show 0 ≤ ((ps_i s205 1131 29) - 1).toInt from by omega) (show ((ps_i s205 1131 29) - 1).toInt < 16 from by omega)) ?_
            have J209 := mwa_n 1146 (i := (Int32.toNatClampNeg ((ps_i s205 1131 29) - 1))) (v := (x3 &&& 1)) J205 rfl (by decide)
            have K210 := kpa' K206 (r := 1146) (i := (Int32.toNatClampNeg ((ps_i s205 1131 29) - 1))) (v := (x3 &&& 1)) rfl
            have g6 : ps_a (ps_ua s205 1146 (Int32.toNatClampNeg ((ps_i s205 1131 29) - 1)) (x3 &&& 1)) 1146 (ps_i s20 1131 29).toInt.toNat = (x3 &&& 1) := by rw [← e9]; exact ua_eq
            have g6l : ∀ i, i < (ps_i s20 1131 29).toInt.toNat → ps_a (ps_ua s205 1146 (Int32.toNatClampNeg ((ps_i s205 1131 29) - 1)) (x3 &&& 1)) 1146 i = ps_a s20 1146 i := fun i hi => (ua_ne (by omega)).trans ((w46 i).trans (if_neg (by omega)))
            have r211 := mf_8 J205
            have u212 : (ps_i s205 1131 8).toInt = (ps_i s20 1131 8).toInt := xeq (kp_i K205 8 rfl)
            have r213 := mf_4 J205
            have u214 : (ps_i s205 1131 4).toInt = (ps_i s20 1131 4).toInt := xeq (kp_i K205 4 rfl)
            have r215 := mf_5 J205
            have u216 : (ps_i s205 1131 5).toInt = (ps_i s20 1131 5).toInt := xeq (kp_i K205 5 rfl)
            have r217 := mf_5 J20
            have u218 : (ps_i s20 1131 5).toInt = (ps_i s14 1131 5).toInt := xeq (kp_i K20 5 rfl)
            have r219 := mf_5 J14
            have u220 : (ps_i s14 1131 5).toInt = (ps_i s 1131 5).toInt := xeq (kp_i K14 5 rfl)
            have u221 : (ps_i s205 1131 30).toInt = (ps_i s20 1131 30).toInt := xeq (kp_i K205 30 rfl)
            have u222 : (ps_i s20 1131 30).toInt = (ps_i s14 1131 30).toInt := xeq (kp_i K20 30 rfl)
            have u223 : (ps_i s14 1131 30).toInt = (ps_i s 1131 30).toInt := xeq (kp_i K14 30 rfl)
            have r224 := mf_31 J205
            have u225 : (ps_i s205 1131 31).toInt = (ps_i s20 1131 31).toInt := xeq (kp_i K205 31 rfl)
            have r226 := mf_31 J20
            have u227 : (ps_i s20 1131 31).toInt = (ps_i s14 1131 31).toInt := xeq (kp_i K20 31 rfl)
            have r228 := mf_31 J14
            have u229 : (ps_i s14 1131 31).toInt = ((ps_i s 1131 31) + x5).toInt := xeq (kp_i K14 31 rfl)
            exact k _ J209 K210 (show (ps_i s205 1131 8).toInt ≤ (ps_i s205 1131 4).toInt from by omega) (show 1 ≤ (ps_i s205 1131 5).toInt ∨ ((ps_i s205 1131 29).toInt ≤ 13 ∧ 0 ≤ (ps_i s205 1131 30).toInt ∧ (ps_i s205 1131 30).toInt ≤ 5 ∧ (ps_i s205 1131 31).toInt ≤ 40 ∧ (ps_i s0 1131 31).toInt < (ps_i s205 1131 31).toInt) from by omega) (show (ps_i s0 1131 31).toInt ≤ (ps_i s205 1131 31).toInt from by omega) ((by first | (exfalso; omega) | exact Or.inr ⟨_, hR2, (by
      have n1 : (ps_i s205 1131 29).toInt = (ps_i s20 1131 29).toInt + 1 := by omega
      rcases i11 with z | z
      · refine RQ_c hH (by omega) (by omega) (kS_push (g := ps_a (ps_ua s205 1146 (Int32.toNatClampNeg ((ps_i s205 1131 29) - 1)) (x3 &&& 1)) 1145 (ps_i s20 1131 29).toInt.toNat) ?_) ?_ g4 (g6.trans (by rw [show x3 = 0 from x0 z.1]; decide)) (show (ps_i s205 1131 30).toInt = (ps_i s20 1131 30).toInt + (if x2.toInt.toNat = 4 ∨ x2.toInt.toNat = 5 then 1 else 0) from by rw [if_neg (by omega)]; omega) ⟨fun _ => by omega, fun _ => g7⟩ (fun i hi => ⟨(w44 i).trans (if_neg (by omega)), (w45 i).trans (if_neg (by omega)), g6l i hi, (w47 i).trans (if_neg (by omega))⟩) n1 (show (ps_i s205 1131 31).toInt = ((ps_i s20 1131 31).toInt - x5.toInt) + 1 from by omega) (show (ps_i (ps_ua s205 1146 (Int32.toNatClampNeg ((ps_i s205 1131 29) - 1)) (x3 &&& 1)) 1131 32).toInt = (ps_i s20 1131 32).toInt from u32) (fun _ => by omega)
        · rcases hwv with q | q | q | q
          · omega
          · exact Or.inl ⟨by omega, q.2.2⟩
          · rcases g5 with g | g
            · exact Or.inr (Or.inl ⟨by omega, by omega, q.2.2.2, g.2⟩)
            · exact Or.inr (Or.inr (Or.inl ⟨by omega, q.2.2.2, g.2⟩))
          · rcases g5 with g | g
            · omega
            · exact Or.inr (Or.inr (Or.inr ⟨by omega, by omega, q.2.2.1, g.2⟩))
        · omega
      · exact RQ_not hH (by omega) (by omega) (by omega) (by rcases hwv with q | q | q | q; exact g4.trans q.2; omega; omega; omega) (by rcases g5 with g | g; exact g.2; omega) (by rw [g6, show x3 = 1 from xO1 z.1]; decide) (show (ps_i s205 1131 30).toInt = (ps_i s20 1131 30).toInt from by omega) g7 (fun i hi => ⟨(w44 i).trans (if_neg (by omega)), (w45 i).trans (if_neg (by omega)), g6l i hi, (w47 i).trans (if_neg (by omega))⟩) n1 (show (ps_i s205 1131 31).toInt = ((ps_i s20 1131 31).toInt - x5.toInt) + 2 from by omega) (show (ps_i (ps_ua s205 1146 (Int32.toNatClampNeg ((ps_i s205 1131 29) - 1)) (x3 &&& 1)) 1131 32).toInt = (ps_i s20 1131 32).toInt from u32))⟩)) (hO)
      · have f230 : x3.toInt ≠ (0 : Int) := xne h27
        have hwv : (x3.toInt = 1 ∧ ((1 : Int32)).toInt = 1) ∨ (x3.toInt = 0 ∧ x2.toInt = 0 ∧ ((1 : Int32)).toInt = 0) ∨ (x3.toInt = 0 ∧ x2.toInt ≠ 0 ∧ x2.toInt < 10 ∧ ((1 : Int32)).toInt = 2) ∨ (x3.toInt = 0 ∧ 10 ≤ x2.toInt ∧ ((1 : Int32)).toInt = σ.2.1 (x2.toInt.toNat - 10) ∧ σ.2.1 (x2.toInt.toNat - 10) ≤ 2) := by first | exact Or.inl ⟨by omega, by decide⟩ | exact Or.inr (Or.inl ⟨by omega, by omega, by decide⟩) | exact Or.inr (Or.inr (Or.inl ⟨by omega, by omega, by omega, by decide⟩)) | exact Or.inr (Or.inr (Or.inr ⟨by omega, by omega, Sg_r hS2 (by omega) (by omega)⟩))
        refine And.intro (fun h231 => ?_) (fun h231 => ?_)
        · have f232 : x2.toInt < (6 : Int) := xlt h231
          have r233 := mf_29 J20
          have u234 : (ps_i s20 1131 29).toInt = (ps_i s14 1131 29).toInt := xeq (kp_i K20 29 rfl)
          have r235 := mf_29 J14
          have u236 : (ps_i s14 1131 29).toInt = (ps_i s 1131 29).toInt := xeq (kp_i K14 29 rfl)
          refine ms_211 J20 (show (ps_i s20 1131 29).toInt ≤ 14 from by omega) (fun s237 J237 K237 p237_0 p237_1 p237_2 p237_3 p237_4 => ?_)
          have K238 := kpt K21 K237 rfl rfl
          have KC := K237
          have hS2 : Sg (ps_a s237 1135) (ps_a s237 1136) (ps_a s237 1138) (ps_a s237 1139) (ps_i s237 1131 22).toInt σ := by rw [show ps_a s237 1135 = ps_a s20 1135 from (K237.2 1135 rfl).1, show ps_a s237 1136 = ps_a s20 1136 from (K237.2 1136 rfl).1, show ps_a s237 1138 = ps_a s20 1138 from (K237.2 1138 rfl).1, show ps_a s237 1139 = ps_a s20 1139 from (K237.2 1139 rfl).1, show ps_i s237 1131 22 = ps_i s20 1131 22 from kp_i K237 22 rfl]; exact hS2
          have hR2 : Rw (ps_a s237 1134) x1.toInt (l ++ [x2.toInt.toNat]) := by rw [show ps_a s237 1134 = ps_a s20 1134 from (K237.2 1134 rfl).1]; exact hR2
          have hO : ∀ i : Nat, (i : Int) < x1.toInt ∨ x1.toInt + 41 ≤ (i : Int) → ps_a s237 1134 i = ps_a s0 1134 i := by rw [show ps_a s237 1134 = ps_a s20 1134 from (K237.2 1134 rfl).1]; exact hO
          have p237_0' : (ps_i s237 1131 29).toInt = (ps_i s20 1131 29).toInt + 1 := p237_0
          have r239 := mf_29 J237
          have w44 : _ := p237_1
          have w45 : _ := p237_2
          have w46 : _ := p237_3
          have w47 : _ := p237_4
          have u30 := xeq (kp_i KC 30 rfl)
          have u31 := xeq (kp_i KC 31 rfl)
          have u32 := xeq (kp_i KC 32 rfl)
          have g5 : (x2.toInt < 6 ∧ ps_a s237 1145 (ps_i s20 1131 29).toInt.toNat = 0) ∨ (6 ≤ x2.toInt ∧ ps_a s237 1145 (ps_i s20 1131 29).toInt.toNat ≠ 0) := by first | exact Or.inl ⟨by omega, ((w45 _).trans (if_pos rfl)).trans (by decide)⟩ | exact Or.inr ⟨by omega, by rw [(w45 _).trans (if_pos rfl)]; decide⟩
          have g7 : ps_a s237 1147 (ps_i s20 1131 29).toInt.toNat = 0 := ((w47 _).trans (if_pos rfl)).trans (by decide)
          have g4 := congrArg Int32.toInt ((w44 (ps_i s20 1131 29).toInt.toNat).trans (if_pos rfl))
          have a240 : ((ps_i s237 1131 29) - 1).toInt = (ps_i s237 1131 29).toInt - (1 : Int) := xIs (show -2147483648 ≤ (ps_i s237 1131 29).toInt - (1 : Int) from by omega) (show (ps_i s237 1131 29).toInt - (1 : Int) < 2147483648 from by omega)
          have e9 : Int32.toNatClampNeg ((ps_i s237 1131 29) - 1) = (ps_i s20 1131 29).toInt.toNat := nx (show ((ps_i s237 1131 29) - 1).toInt = (ps_i s20 1131 29).toInt from by omega)
          refine ps_nd_i (show pm_in ((ps_i s237 1131 29) - 1) 16 = true from xgi (show 0 ≤ ((ps_i s237 1131 29) - 1).toInt from by omega) (show ((ps_i s237 1131 29) - 1).toInt < 16 from by omega)) ?_
          have J241 := mwa_n 1146 (i := (Int32.toNatClampNeg ((ps_i s237 1131 29) - 1))) (v := (x3 &&& 1)) J237 rfl (by decide)
          have K242 := kpa' K238 (r := 1146) (i := (Int32.toNatClampNeg ((ps_i s237 1131 29) - 1))) (v := (x3 &&& 1)) rfl
          have g6 : ps_a (ps_ua s237 1146 (Int32.toNatClampNeg ((ps_i s237 1131 29) - 1)) (x3 &&& 1)) 1146 (ps_i s20 1131 29).toInt.toNat = (x3 &&& 1) := by rw [← e9]; exact ua_eq
          have g6l : ∀ i, i < (ps_i s20 1131 29).toInt.toNat → ps_a (ps_ua s237 1146 (Int32.toNatClampNeg ((ps_i s237 1131 29) - 1)) (x3 &&& 1)) 1146 i = ps_a s20 1146 i := fun i hi => (ua_ne (by omega)).trans ((w46 i).trans (if_neg (by omega)))
          have r243 := mf_8 J237
          have u244 : (ps_i s237 1131 8).toInt = (ps_i s20 1131 8).toInt := xeq (kp_i K237 8 rfl)
          have r245 := mf_4 J237
          have u246 : (ps_i s237 1131 4).toInt = (ps_i s20 1131 4).toInt := xeq (kp_i K237 4 rfl)
          have r247 := mf_5 J237
          have u248 : (ps_i s237 1131 5).toInt = (ps_i s20 1131 5).toInt := xeq (kp_i K237 5 rfl)
          have r249 := mf_5 J20
          have u250 : (ps_i s20 1131 5).toInt = (ps_i s14 1131 5).toInt := xeq (kp_i K20 5 rfl)
          have r251 := mf_5 J14
          have u252 : (ps_i s14 1131 5).toInt = (ps_i s 1131 5).toInt := xeq (kp_i K14 5 rfl)
          have u253 : (ps_i s237 1131 30).toInt = (ps_i s20 1131 30).toInt := xeq (kp_i K237 30 rfl)
          have u254 : (ps_i s20 1131 30).toInt = (ps_i s14 1131 30).toInt := xeq (kp_i K20 30 rfl)
          have u255 : (ps_i s14 1131 30).toInt = (ps_i s 1131 30).toInt := xeq (kp_i K14 30 rfl)
          have r256 := mf_31 J237
          have u257 : (ps_i s237 1131 31).toInt = (ps_i s20 1131 31).toInt := xeq (kp_i K237 31 rfl)
          have r258 := mf_31 J20
          have u259 : (ps_i s20 1131 31).toInt = (ps_i s14 1131 31).toInt := xeq (kp_i K20 31 rfl)
          have r260 := mf_31 J14
          have u261 : (ps_i s14 1131 31).toInt = ((ps_i s 1131 31) + x5).toInt := xeq (kp_i K14 31 rfl)
          exact k _ J241 K242 (show (ps_i s237 1131 8).toInt ≤ (ps_i s237 1131 4).toInt from by omega) (show 1 ≤ (ps_i s237 1131 5).toInt ∨ ((ps_i s237 1131 29).toInt ≤ 13 ∧ 0 ≤ (ps_i s237 1131 30).toInt ∧ (ps_i s237 1131 30).toInt ≤ 5 ∧ (ps_i s237 1131 31).toInt ≤ 40 ∧ (ps_i s0 1131 31).toInt < (ps_i s237 1131 31).toInt) from by omega) (show (ps_i s0 1131 31).toInt ≤ (ps_i s237 1131 31).toInt from by omega) ((by first | (exfalso; omega) | exact Or.inr ⟨_, hR2, (by
      have n1 : (ps_i s237 1131 29).toInt = (ps_i s20 1131 29).toInt + 1 := by omega
      rcases i11 with z | z
      · refine RQ_c hH (by omega) (by omega) (kS_push (g := ps_a (ps_ua s237 1146 (Int32.toNatClampNeg ((ps_i s237 1131 29) - 1)) (x3 &&& 1)) 1145 (ps_i s20 1131 29).toInt.toNat) ?_) ?_ g4 (g6.trans (by rw [show x3 = 0 from x0 z.1]; decide)) (show (ps_i s237 1131 30).toInt = (ps_i s20 1131 30).toInt + (if x2.toInt.toNat = 4 ∨ x2.toInt.toNat = 5 then 1 else 0) from by rw [if_neg (by omega)]; omega) ⟨fun _ => by omega, fun _ => g7⟩ (fun i hi => ⟨(w44 i).trans (if_neg (by omega)), (w45 i).trans (if_neg (by omega)), g6l i hi, (w47 i).trans (if_neg (by omega))⟩) n1 (show (ps_i s237 1131 31).toInt = ((ps_i s20 1131 31).toInt - x5.toInt) + 1 from by omega) (show (ps_i (ps_ua s237 1146 (Int32.toNatClampNeg ((ps_i s237 1131 29) - 1)) (x3 &&& 1)) 1131 32).toInt = (ps_i s20 1131 32).toInt from u32) (fun _ => by omega)
        · rcases hwv with q | q | q | q
          · omega
          · exact Or.inl ⟨by omega, q.2.2⟩
          · rcases g5 with g | g
            · exact Or.inr (Or.inl ⟨by omega, by omega, q.2.2.2, g.2⟩)
            · exact Or.inr (Or.inr (Or.inl ⟨by omega, q.2.2.2, g.2⟩))
          · rcases g5 with g | g
            · omega
            · exact Or.inr (Or.inr (Or.inr ⟨by omega, by omega, q.2.2.1, g.2⟩))
        · omega
      · exact RQ_not hH (by omega) (by omega) (by omega) (by rcases hwv with q | q | q | q; exact g4.trans q.2; omega; omega; omega) (by rcases g5 with g | g; exact g.2; omega) (by rw [g6, show x3 = 1 from xO1 z.1]; decide) (show (ps_i s237 1131 30).toInt = (ps_i s20 1131 30).toInt from by omega) g7 (fun i hi => ⟨(w44 i).trans (if_neg (by omega)), (w45 i).trans (if_neg (by omega)), g6l i hi, (w47 i).trans (if_neg (by omega))⟩) n1 (show (ps_i s237 1131 31).toInt = ((ps_i s20 1131 31).toInt - x5.toInt) + 2 from by omega) (show (ps_i (ps_ua s237 1146 (Int32.toNatClampNeg ((ps_i s237 1131 29) - 1)) (x3 &&& 1)) 1131 32).toInt = (ps_i s20 1131 32).toInt from u32))⟩)) (hO)
        · have f262 : (6 : Int) ≤ x2.toInt := xle h231
          have r263 := mf_29 J20
          have u264 : (ps_i s20 1131 29).toInt = (ps_i s14 1131 29).toInt := xeq (kp_i K20 29 rfl)
          have r265 := mf_29 J14
          have u266 : (ps_i s14 1131 29).toInt = (ps_i s 1131 29).toInt := xeq (kp_i K14 29 rfl)
          refine ms_211 J20 (show (ps_i s20 1131 29).toInt ≤ 14 from by omega) (fun s267 J267 K267 p267_0 p267_1 p267_2 p267_3 p267_4 => ?_)
          have K268 := kpt K21 K267 rfl rfl
          have KC := K267
          have hS2 : Sg (ps_a s267 1135) (ps_a s267 1136) (ps_a s267 1138) (ps_a s267 1139) (ps_i s267 1131 22).toInt σ := by rw [show ps_a s267 1135 = ps_a s20 1135 from (K267.2 1135 rfl).1, show ps_a s267 1136 = ps_a s20 1136 from (K267.2 1136 rfl).1, show ps_a s267 1138 = ps_a s20 1138 from (K267.2 1138 rfl).1, show ps_a s267 1139 = ps_a s20 1139 from (K267.2 1139 rfl).1, show ps_i s267 1131 22 = ps_i s20 1131 22 from kp_i K267 22 rfl]; exact hS2
          have hR2 : Rw (ps_a s267 1134) x1.toInt (l ++ [x2.toInt.toNat]) := by rw [show ps_a s267 1134 = ps_a s20 1134 from (K267.2 1134 rfl).1]; exact hR2
          have hO : ∀ i : Nat, (i : Int) < x1.toInt ∨ x1.toInt + 41 ≤ (i : Int) → ps_a s267 1134 i = ps_a s0 1134 i := by rw [show ps_a s267 1134 = ps_a s20 1134 from (K267.2 1134 rfl).1]; exact hO
          have p267_0' : (ps_i s267 1131 29).toInt = (ps_i s20 1131 29).toInt + 1 := p267_0
          have r269 := mf_29 J267
          have w44 : _ := p267_1
          have w45 : _ := p267_2
          have w46 : _ := p267_3
          have w47 : _ := p267_4
          have u30 := xeq (kp_i KC 30 rfl)
          have u31 := xeq (kp_i KC 31 rfl)
          have u32 := xeq (kp_i KC 32 rfl)
          have g5 : (x2.toInt < 6 ∧ ps_a s267 1145 (ps_i s20 1131 29).toInt.toNat = 0) ∨ (6 ≤ x2.toInt ∧ ps_a s267 1145 (ps_i s20 1131 29).toInt.toNat ≠ 0) := by first | exact Or.inl ⟨by omega, ((w45 _).trans (if_pos rfl)).trans (by decide)⟩ | exact Or.inr ⟨by omega, by rw [(w45 _).trans (if_pos rfl)]; decide⟩
          have g7 : ps_a s267 1147 (ps_i s20 1131 29).toInt.toNat = 0 := ((w47 _).trans (if_pos rfl)).trans (by decide)
          have g4 := congrArg Int32.toInt ((w44 (ps_i s20 1131 29).toInt.toNat).trans (if_pos rfl))
          have a270 : ((ps_i s267 1131 29) - 1).toInt = (ps_i s267 1131 29).toInt - (1 : Int) := xIs (show -2147483648 ≤ (ps_i s267 1131 29).toInt - (1 : Int) from by omega) (show (ps_i s267 1131 29).toInt - (1 : Int) < 2147483648 from by omega)
          have e9 : Int32.toNatClampNeg ((ps_i s267 1131 29) - 1) = (ps_i s20 1131 29).toInt.toNat := nx (show ((ps_i s267 1131 29) - 1).toInt = (ps_i s20 1131 29).toInt from by omega)
          refine ps_nd_i (show pm_in ((ps_i s267 1131 29) - 1) 16 = true from xgi (show 0 ≤ ((ps_i s267 1131 29) - 1).toInt from by omega) (show ((ps_i s267 1131 29) - 1).toInt < 16 from by omega)) ?_
          have J271 := mwa_n 1146 (i := (Int32.toNatClampNeg ((ps_i s267 1131 29) - 1))) (v := (x3 &&& 1)) J267 rfl (by decide)
          have K272 := kpa' K268 (r := 1146) (i := (Int32.toNatClampNeg ((ps_i s267 1131 29) - 1))) (v := (x3 &&& 1)) rfl
          have g6 : ps_a (ps_ua s267 1146 (Int32.toNatClampNeg ((ps_i s267 1131 29) - 1)) (x3 &&& 1)) 1146 (ps_i s20 1131 29).toInt.toNat = (x3 &&& 1) := by rw [← e9]; exact ua_eq
          have g6l : ∀ i, i < (ps_i s20 1131 29).toInt.toNat → ps_a (ps_ua s267 1146 (Int32.toNatClampNeg ((ps_i s267 1131 29) - 1)) (x3 &&& 1)) 1146 i = ps_a s20 1146 i := fun i hi => (ua_ne (by omega)).trans ((w46 i).trans (if_neg (by omega)))
          have r273 := mf_8 J267
          have u274 : (ps_i s267 1131 8).toInt = (ps_i s20 1131 8).toInt := xeq (kp_i K267 8 rfl)
          have r275 := mf_4 J267
          have u276 : (ps_i s267 1131 4).toInt = (ps_i s20 1131 4).toInt := xeq (kp_i K267 4 rfl)
          have r277 := mf_5 J267
          have u278 : (ps_i s267 1131 5).toInt = (ps_i s20 1131 5).toInt := xeq (kp_i K267 5 rfl)
          have r279 := mf_5 J20
          have u280 : (ps_i s20 1131 5).toInt = (ps_i s14 1131 5).toInt := xeq (kp_i K20 5 rfl)
          have r281 := mf_5 J14
          have u282 : (ps_i s14 1131 5).toInt = (ps_i s 1131 5).toInt := xeq (kp_i K14 5 rfl)
          have u283 : (ps_i s267 1131 30).toInt = (ps_i s20 1131 30).toInt := xeq (kp_i K267 30 rfl)
          have u284 : (ps_i s20 1131 30).toInt = (ps_i s14 1131 30).toInt := xeq (kp_i K20 30 rfl)
          have u285 : (ps_i s14 1131 30).toInt = (ps_i s 1131 30).toInt := xeq (kp_i K14 30 rfl)
          have r286 := mf_31 J267
          have u287 : (ps_i s267 1131 31).toInt = (ps_i s20 1131 31).toInt := xeq (kp_i K267 31 rfl)
          have r288 := mf_31 J20
          have u289 : (ps_i s20 1131 31).toInt = (ps_i s14 1131 31).toInt := xeq (kp_i K20 31 rfl)
          have r290 := mf_31 J14
          have u291 : (ps_i s14 1131 31).toInt = ((ps_i s 1131 31) + x5).toInt := xeq (kp_i K14 31 rfl)
          exact k _ J271 K272 (show (ps_i s267 1131 8).toInt ≤ (ps_i s267 1131 4).toInt from by omega) (show 1 ≤ (ps_i s267 1131 5).toInt ∨ ((ps_i s267 1131 29).toInt ≤ 13 ∧ 0 ≤ (ps_i s267 1131 30).toInt ∧ (ps_i s267 1131 30).toInt ≤ 5 ∧ (ps_i s267 1131 31).toInt ≤ 40 ∧ (ps_i s0 1131 31).toInt < (ps_i s267 1131 31).toInt) from by omega) (show (ps_i s0 1131 31).toInt ≤ (ps_i s267 1131 31).toInt from by omega) ((by first | (exfalso; omega) | exact Or.inr ⟨_, hR2, (by
      have n1 : (ps_i s267 1131 29).toInt = (ps_i s20 1131 29).toInt + 1 := by omega
      rcases i11 with z | z
      · refine RQ_c hH (by omega) (by omega) (kS_push (g := ps_a (ps_ua s267 1146 (Int32.toNatClampNeg ((ps_i s267 1131 29) - 1)) (x3 &&& 1)) 1145 (ps_i s20 1131 29).toInt.toNat) ?_) ?_ g4 (g6.trans (by rw [show x3 = 0 from x0 z.1]; decide)) (show (ps_i s267 1131 30).toInt = (ps_i s20 1131 30).toInt + (if x2.toInt.toNat = 4 ∨ x2.toInt.toNat = 5 then 1 else 0) from by rw [if_neg (by omega)]; omega) ⟨fun _ => by omega, fun _ => g7⟩ (fun i hi => ⟨(w44 i).trans (if_neg (by omega)), (w45 i).trans (if_neg (by omega)), g6l i hi, (w47 i).trans (if_neg (by omega))⟩) n1 (show (ps_i s267 1131 31).toInt = ((ps_i s20 1131 31).toInt - x5.toInt) + 1 from by omega) (show (ps_i (ps_ua s267 1146 (Int32.toNatClampNeg ((ps_i s267 1131 29) - 1)) (x3 &&& 1)) 1131 32).toInt = (ps_i s20 1131 32).toInt from u32) (fun _ => by omega)
        · rcases hwv with q | q | q | q
          · omega
          · exact Or.inl ⟨by omega, q.2.2⟩
          · rcases g5 with g | g
            · exact Or.inr (Or.inl ⟨by omega, by omega, q.2.2.2, g.2⟩)
            · exact Or.inr (Or.inr (Or.inl ⟨by omega, q.2.2.2, g.2⟩))
          · rcases g5 with g | g
            · omega
            · exact Or.inr (Or.inr (Or.inr ⟨by omega, by omega, q.2.2.1, g.2⟩))
        · omega
      · exact RQ_not hH (by omega) (by omega) (by omega) (by rcases hwv with q | q | q | q; exact g4.trans q.2; omega; omega; omega) (by rcases g5 with g | g; exact g.2; omega) (by rw [g6, show x3 = 1 from xO1 z.1]; decide) (show (ps_i s267 1131 30).toInt = (ps_i s20 1131 30).toInt from by omega) g7 (fun i hi => ⟨(w44 i).trans (if_neg (by omega)), (w45 i).trans (if_neg (by omega)), g6l i hi, (w47 i).trans (if_neg (by omega))⟩) n1 (show (ps_i s267 1131 31).toInt = ((ps_i s20 1131 31).toInt - x5.toInt) + 2 from by omega) (show (ps_i (ps_ua s267 1146 (Int32.toNatClampNeg ((ps_i s267 1131 29) - 1)) (x3 &&& 1)) 1131 32).toInt = (ps_i s20 1131 32).toInt from u32))⟩)) (hO)
    · have f292 : x4.toInt ≠ (0 : Int) := xne h25
      refine ms_208 J20  (fun v293 b293 => ?_)
      refine And.intro (fun h294 => ?_) (fun h294 => ?_)
      · have f295 : v293.toInt ≠ (0 : Int) := xne h294
        have r296 := mf_29 J20
        have u297 : (ps_i s20 1131 29).toInt = (ps_i s14 1131 29).toInt := xeq (kp_i K20 29 rfl)
        have r298 := mf_29 J14
        have u299 : (ps_i s14 1131 29).toInt = (ps_i s 1131 29).toInt := xeq (kp_i K14 29 rfl)
        have u300 : (ps_i s20 1131 30).toInt = (ps_i s14 1131 30).toInt := xeq (kp_i K20 30 rfl)
        have u301 : (ps_i s14 1131 30).toInt = (ps_i s 1131 30).toInt := xeq (kp_i K14 30 rfl)
        have r302 := mf_31 J20
        have u303 : (ps_i s20 1131 31).toInt = (ps_i s14 1131 31).toInt := xeq (kp_i K20 31 rfl)
        have r304 := mf_31 J14
        have u305 : (ps_i s14 1131 31).toInt = ((ps_i s 1131 31) + x5).toInt := xeq (kp_i K14 31 rfl)
        exact ms_214_133 (x1 := x1) (σ := σ) (l := l) (b := b) k  x2.toInt.toNat _ J20 K21 hS2 (hR2) (RH_cnt hH (by omega)) ((by omega)) hO (show (ps_i s20 1131 8).toInt ≤ (ps_i s20 1131 4).toInt from by omega) (show (ps_i s20 1131 29).toInt ≤ 12 from by omega) (show 0 ≤ (ps_i s20 1131 30).toInt from by omega) (show (ps_i s20 1131 30).toInt ≤ 4 from by omega) (show (ps_i s20 1131 31).toInt ≤ 40 from by omega) (show (ps_i s0 1131 31).toInt < (ps_i s20 1131 31).toInt from by omega)
      · have f306 : v293.toInt = (0 : Int) := xeq h294
        refine ms_196 J20  (fun s307 J307 K307 p307_0 => ?_)
        have K308 := kpt K21 K307 rfl rfl
        have KC := K307
        have hS2 : Sg (ps_a s307 1135) (ps_a s307 1136) (ps_a s307 1138) (ps_a s307 1139) (ps_i s307 1131 22).toInt σ := by rw [show ps_a s307 1135 = ps_a s20 1135 from (K307.2 1135 rfl).1, show ps_a s307 1136 = ps_a s20 1136 from (K307.2 1136 rfl).1, show ps_a s307 1138 = ps_a s20 1138 from (K307.2 1138 rfl).1, show ps_a s307 1139 = ps_a s20 1139 from (K307.2 1139 rfl).1, show ps_i s307 1131 22 = ps_i s20 1131 22 from kp_i K307 22 rfl]; exact hS2
        have hH : RH σ (ps_a s307 1144) (ps_a s307 1145) (ps_a s307 1146) (ps_a s307 1147) (ps_i s307 1131 29).toInt (ps_i s307 1131 30).toInt ((ps_i s307 1131 31).toInt - x5.toInt) (ps_i s307 1131 32).toInt (l) b true := by rw [show ps_a s307 1144 = ps_a s20 1144 from (K307.2 1144 rfl).1, show ps_a s307 1145 = ps_a s20 1145 from (K307.2 1145 rfl).1, show ps_a s307 1146 = ps_a s20 1146 from (K307.2 1146 rfl).1, show ps_a s307 1147 = ps_a s20 1147 from (K307.2 1147 rfl).1, show ps_i s307 1131 29 = ps_i s20 1131 29 from kp_i K307 29 rfl, show ps_i s307 1131 30 = ps_i s20 1131 30 from kp_i K307 30 rfl, show ps_i s307 1131 31 = ps_i s20 1131 31 from kp_i K307 31 rfl, show ps_i s307 1131 32 = ps_i s20 1131 32 from kp_i K307 32 rfl]; exact hH
        have hR2 : Rw (ps_a s307 1134) x1.toInt (l ++ [x2.toInt.toNat]) := by rw [show ps_a s307 1134 = ps_a s20 1134 from (K307.2 1134 rfl).1]; exact hR2
        have hO : ∀ i : Nat, (i : Int) < x1.toInt ∨ x1.toInt + 41 ≤ (i : Int) → ps_a s307 1134 i = ps_a s0 1134 i := by rw [show ps_a s307 1134 = ps_a s20 1134 from (K307.2 1134 rfl).1]; exact hO
        have p307_0' : 1 ≤ (ps_i s307 1131 5).toInt := p307_0
        have r309 := mf_5 J307
        have r310 := mf_8 J307
        have u311 : (ps_i s307 1131 8).toInt = (ps_i s20 1131 8).toInt := xeq (kp_i K307 8 rfl)
        have r312 := mf_4 J307
        have u313 : (ps_i s307 1131 4).toInt = (ps_i s20 1131 4).toInt := xeq (kp_i K307 4 rfl)
        have r314 := mf_29 J307
        have u315 : (ps_i s307 1131 29).toInt = (ps_i s20 1131 29).toInt := xeq (kp_i K307 29 rfl)
        have r316 := mf_29 J20
        have u317 : (ps_i s20 1131 29).toInt = (ps_i s14 1131 29).toInt := xeq (kp_i K20 29 rfl)
        have r318 := mf_29 J14
        have u319 : (ps_i s14 1131 29).toInt = (ps_i s 1131 29).toInt := xeq (kp_i K14 29 rfl)
        have u320 : (ps_i s307 1131 30).toInt = (ps_i s20 1131 30).toInt := xeq (kp_i K307 30 rfl)
        have u321 : (ps_i s20 1131 30).toInt = (ps_i s14 1131 30).toInt := xeq (kp_i K20 30 rfl)
        have u322 : (ps_i s14 1131 30).toInt = (ps_i s 1131 30).toInt := xeq (kp_i K14 30 rfl)
        have r323 := mf_31 J307
        have u324 : (ps_i s307 1131 31).toInt = (ps_i s20 1131 31).toInt := xeq (kp_i K307 31 rfl)
        have r325 := mf_31 J20
        have u326 : (ps_i s20 1131 31).toInt = (ps_i s14 1131 31).toInt := xeq (kp_i K20 31 rfl)
        have r327 := mf_31 J14
        have u328 : (ps_i s14 1131 31).toInt = ((ps_i s 1131 31) + x5).toInt := xeq (kp_i K14 31 rfl)
        exact ms_214_133 (x1 := x1) (σ := σ) (l := l) (b := b) k  x2.toInt.toNat _ J307 K308 hS2 (hR2) (RH_cnt hH (by omega)) ((by omega)) hO (show (ps_i s307 1131 8).toInt ≤ (ps_i s307 1131 4).toInt from by omega) (show (ps_i s307 1131 29).toInt ≤ 12 from by omega) (show 0 ≤ (ps_i s307 1131 30).toInt from by omega) (show (ps_i s307 1131 30).toInt ≤ 4 from by omega) (show (ps_i s307 1131 31).toInt ≤ 40 from by omega) (show (ps_i s0 1131 31).toInt < (ps_i s307 1131 31).toInt from by omega)
  · have f329 : v8.toInt = (0 : Int) := xeq h9
    exact k _ J K (show (ps_i s 1131 8).toInt ≤ (ps_i s 1131 4).toInt from by omega) (show 1 ≤ (ps_i s 1131 5).toInt ∨ ((ps_i s 1131 29).toInt ≤ 13 ∧ 0 ≤ (ps_i s 1131 30).toInt ∧ (ps_i s 1131 30).toInt ≤ 5 ∧ (ps_i s 1131 31).toInt ≤ 40 ∧ (ps_i s0 1131 31).toInt < (ps_i s 1131 31).toInt) from by omega) (show (ps_i s0 1131 31).toInt ≤ (ps_i s 1131 31).toInt from by omega) (Or.inl (show 1 ≤ (ps_i s 1131 5).toInt from by omega)) (hO)

theorem ms_214_84 {x : Nat → Nat → Nat} {t : Int32} {d : Nat} {s0 : ps_S} {σ : mSig} {l : List Nat} {b : Bool} {x1 : Int32} {Q : Option Value → ps_S → Prop} (k : ∀ (s' : ps_S), mJ x t s' → kp [1134, 1144, 1145, 1146, 1147, 1148] [5, 6, 7, 8, 9, 10, 11, 29, 30, 31] s0 s' → ((ps_i s' 1131 8).toInt ≤ (ps_i s' 1131 4).toInt) → (1 ≤ (ps_i s' 1131 5).toInt ∨ ((ps_i s' 1131 29).toInt ≤ 13 ∧ 0 ≤ (ps_i s' 1131 30).toInt ∧ (ps_i s' 1131 30).toInt ≤ 5 ∧ (ps_i s' 1131 31).toInt ≤ 40 ∧ (ps_i s0 1131 31).toInt < (ps_i s' 1131 31).toInt)) → ((ps_i s0 1131 31).toInt ≤ (ps_i s' 1131 31).toInt) → (1 ≤ (ps_i s' 1131 5).toInt ∨ ∃ l2, Rw (ps_a s' 1134) x1.toInt l2 ∧ RQ σ (ps_a s' 1144) (ps_a s' 1145) (ps_a s' 1146) (ps_a s' 1147) (ps_i s' 1131 29).toInt (ps_i s' 1131 30).toInt (ps_i s' 1131 31).toInt (ps_i s' 1131 32).toInt l2 b) → (∀ i : Nat, (i : Int) < x1.toInt ∨ x1.toInt + 41 ≤ (i : Int) → ps_a s' 1134 i = ps_a s0 1134 i) → Q none s') (x2 : Int32) (x3 : Int32) (x4 : Int32) (x5 : Int32) (s : ps_S) (J : mJ x t s) (K : kp [1134, 1144, 1145, 1146, 1147, 1148] [5, 6, 7, 8, 9, 10, 11, 29, 30, 31] s0 s) (hS2 : Sg (ps_a s 1135) (ps_a s 1136) (ps_a s 1138) (ps_a s 1139) (ps_i s 1131 22).toInt σ) (hR : Rw (ps_a s 1134) x1.toInt (l)) (hH0 : RH σ (ps_a s 1144) (ps_a s 1145) (ps_a s 1146) (ps_a s 1147) (ps_i s 1131 29).toInt (ps_i s 1131 30).toInt (ps_i s 1131 31).toInt (ps_i s 1131 32).toInt (l) b true) (hO : ∀ i : Nat, (i : Int) < x1.toInt ∨ x1.toInt + 41 ≤ (i : Int) → ps_a s 1134 i = ps_a s0 1134 i) (i4 : (ps_i s 1131 8).toInt ≤ (ps_i s 1131 4).toInt) (i5 : (ps_i s 1131 29).toInt ≤ 13) (i6 : 0 ≤ (ps_i s 1131 30).toInt) (i7 : (ps_i s 1131 30).toInt ≤ 5) (i8 : (ps_i s 1131 31).toInt ≤ 40) (i9 : (ps_i s 1131 31).toInt = (ps_i s0 1131 31).toInt) (i10 : x2.toInt = -1 ∨ (0 ≤ x2.toInt ∧ x2.toInt ≤ 6) ∨ (10 ≤ x2.toInt ∧ x2.toInt < 10 + (ps_a s 1135 (Int32.toNatClampNeg (ps_i s 1131 22))).toInt)) (i11 : (x3.toInt = 0 ∧ x5.toInt = 1) ∨ (x3.toInt = 1 ∧ x2.toInt = 3 ∧ x5.toInt = 2)) (i12 : (x4.toInt = 1 ∧ (x2.toInt = 4 ∨ x2.toInt = 5)) ∨ (x4.toInt = 0 ∧ x2.toInt ≠ 4 ∧ x2.toInt ≠ 5)) (i13 : (ps_i s 1131 5).toInt = 0) : ps_At (d + 2) 214 84 [(0, .ref 1131), (1, .int x1), (2, .int x2), (3, .int x3), (4, .int x4), (5, .int x5)] [] s Q := by
  have r1 := mf_8 J
  have r2 := mf_4 J
  have r3 := mf_29 J
  have r4 := mf_31 J
  have r5 := mf_22 J
  have r6 : 0 ≤ (ps_a s 1135 (Int32.toNatClampNeg (ps_i s 1131 22))).toInt ∧ (ps_a s 1135 (Int32.toNatClampNeg (ps_i s 1131 22))).toInt ≤ 6 := ma_1135 (i := (ps_i s 1131 22)) J (show 0 ≤ (ps_i s 1131 22).toInt from by omega) (show (ps_i s 1131 22).toInt < 2 from by omega)
  have r7 := mf_5 J
  refine pg_214_84 (d := d + 1) ?_
  refine ms_196 J  (fun s8 J8 K8 p8_0 => ?_)
  have K9 := kpt K K8 rfl rfl
  have KC := K8
  have hS2 : Sg (ps_a s8 1135) (ps_a s8 1136) (ps_a s8 1138) (ps_a s8 1139) (ps_i s8 1131 22).toInt σ := by rw [show ps_a s8 1135 = ps_a s 1135 from (K8.2 1135 rfl).1, show ps_a s8 1136 = ps_a s 1136 from (K8.2 1136 rfl).1, show ps_a s8 1138 = ps_a s 1138 from (K8.2 1138 rfl).1, show ps_a s8 1139 = ps_a s 1139 from (K8.2 1139 rfl).1, show ps_i s8 1131 22 = ps_i s 1131 22 from kp_i K8 22 rfl]; exact hS2
  have hR : Rw (ps_a s8 1134) x1.toInt (l) := by rw [show ps_a s8 1134 = ps_a s 1134 from (K8.2 1134 rfl).1]; exact hR
  have hH0 : RH σ (ps_a s8 1144) (ps_a s8 1145) (ps_a s8 1146) (ps_a s8 1147) (ps_i s8 1131 29).toInt (ps_i s8 1131 30).toInt (ps_i s8 1131 31).toInt (ps_i s8 1131 32).toInt (l) b true := by rw [show ps_a s8 1144 = ps_a s 1144 from (K8.2 1144 rfl).1, show ps_a s8 1145 = ps_a s 1145 from (K8.2 1145 rfl).1, show ps_a s8 1146 = ps_a s 1146 from (K8.2 1146 rfl).1, show ps_a s8 1147 = ps_a s 1147 from (K8.2 1147 rfl).1, show ps_i s8 1131 29 = ps_i s 1131 29 from kp_i K8 29 rfl, show ps_i s8 1131 30 = ps_i s 1131 30 from kp_i K8 30 rfl, show ps_i s8 1131 31 = ps_i s 1131 31 from kp_i K8 31 rfl, show ps_i s8 1131 32 = ps_i s 1131 32 from kp_i K8 32 rfl]; exact hH0
  have hO : ∀ i : Nat, (i : Int) < x1.toInt ∨ x1.toInt + 41 ≤ (i : Int) → ps_a s8 1134 i = ps_a s0 1134 i := by rw [show ps_a s8 1134 = ps_a s 1134 from (K8.2 1134 rfl).1]; exact hO
  have p8_0' : 1 ≤ (ps_i s8 1131 5).toInt := p8_0
  have r10 := mf_5 J8
  have r11 := mf_8 J8
  have u12 : (ps_i s8 1131 8).toInt = (ps_i s 1131 8).toInt := xeq (kp_i K8 8 rfl)
  have r13 := mf_4 J8
  have u14 : (ps_i s8 1131 4).toInt = (ps_i s 1131 4).toInt := xeq (kp_i K8 4 rfl)
  have r15 := mf_29 J8
  have u16 : (ps_i s8 1131 29).toInt = (ps_i s 1131 29).toInt := xeq (kp_i K8 29 rfl)
  have u17 : (ps_i s8 1131 30).toInt = (ps_i s 1131 30).toInt := xeq (kp_i K8 30 rfl)
  have r18 := mf_31 J8
  have u19 : (ps_i s8 1131 31).toInt = (ps_i s 1131 31).toInt := xeq (kp_i K8 31 rfl)
  have r20 := mf_22 J8
  have u21 : (ps_i s8 1131 22).toInt = (ps_i s 1131 22).toInt := xeq (kp_i K8 22 rfl)
  have r22 : 0 ≤ (ps_a s8 1135 (Int32.toNatClampNeg (ps_i s8 1131 22))).toInt ∧ (ps_a s8 1135 (Int32.toNatClampNeg (ps_i s8 1131 22))).toInt ≤ 6 := ma_1135 (i := (ps_i s8 1131 22)) J8 (show 0 ≤ (ps_i s8 1131 22).toInt from by omega) (show (ps_i s8 1131 22).toInt < 2 from by omega)
  have u23 : (ps_a s8 1135 (Int32.toNatClampNeg (ps_i s8 1131 22))).toInt = (ps_a s 1135 (Int32.toNatClampNeg (ps_i s8 1131 22))).toInt := xeq (kp_a K8 1135 rfl _)
  have r24 : 0 ≤ (ps_a s 1135 (Int32.toNatClampNeg (ps_i s8 1131 22))).toInt ∧ (ps_a s 1135 (Int32.toNatClampNeg (ps_i s8 1131 22))).toInt ≤ 6 := ma_1135 (i := (ps_i s8 1131 22)) J (show 0 ≤ (ps_i s8 1131 22).toInt from by omega) (show (ps_i s8 1131 22).toInt < 2 from by omega)
  exact ms_214_88 (x1 := x1) (σ := σ) (l := l) (b := b) k  x2 x3 x4 x5 _ J8 K9 hS2 hR hH0 hO (show (ps_i s8 1131 8).toInt ≤ (ps_i s8 1131 4).toInt from by omega) (show (ps_i s8 1131 29).toInt ≤ 13 from by omega) (show 0 ≤ (ps_i s8 1131 30).toInt from by omega) (show (ps_i s8 1131 30).toInt ≤ 5 from by omega) (show (ps_i s8 1131 31).toInt ≤ 40 from by omega) (show (ps_i s8 1131 31).toInt = (ps_i s0 1131 31).toInt from by omega) (show x2.toInt = -1 ∨ (0 ≤ x2.toInt ∧ x2.toInt ≤ 6) ∨ (10 ≤ x2.toInt ∧ x2.toInt < 10 + (ps_a s8 1135 (Int32.toNatClampNeg (ps_i s8 1131 22))).toInt) from by omega) (show (x3.toInt = 0 ∧ x5.toInt = 1) ∨ (x3.toInt = 1 ∧ x2.toInt = 3 ∧ x5.toInt = 2) from by omega) (show (x4.toInt = 1 ∧ (x2.toInt = 4 ∨ x2.toInt = 5)) ∨ (x4.toInt = 0 ∧ x2.toInt ≠ 4 ∧ x2.toInt ≠ 5) from by omega) (show 1 ≤ (ps_i s8 1131 5).toInt ∨ (0 ≤ x2.toInt ∧ (ps_i s8 1131 31).toInt + x5.toInt ≤ 40 ∧ (ps_i s8 1131 29).toInt + x5.toInt ≤ 13 ∧ (x4.toInt = 0 ∨ (ps_i s8 1131 30).toInt ≤ 4)) from by omega)

theorem ms_214_23 {x : Nat → Nat → Nat} {t : Int32} {d : Nat} {s0 : ps_S} {σ : mSig} {l : List Nat} {b : Bool} {x1 : Int32} {Q : Option Value → ps_S → Prop} (k : ∀ (s' : ps_S), mJ x t s' → kp [1134, 1144, 1145, 1146, 1147, 1148] [5, 6, 7, 8, 9, 10, 11, 29, 30, 31] s0 s' → ((ps_i s' 1131 8).toInt ≤ (ps_i s' 1131 4).toInt) → (1 ≤ (ps_i s' 1131 5).toInt ∨ ((ps_i s' 1131 29).toInt ≤ 13 ∧ 0 ≤ (ps_i s' 1131 30).toInt ∧ (ps_i s' 1131 30).toInt ≤ 5 ∧ (ps_i s' 1131 31).toInt ≤ 40 ∧ (ps_i s0 1131 31).toInt < (ps_i s' 1131 31).toInt)) → ((ps_i s0 1131 31).toInt ≤ (ps_i s' 1131 31).toInt) → (1 ≤ (ps_i s' 1131 5).toInt ∨ ∃ l2, Rw (ps_a s' 1134) x1.toInt l2 ∧ RQ σ (ps_a s' 1144) (ps_a s' 1145) (ps_a s' 1146) (ps_a s' 1147) (ps_i s' 1131 29).toInt (ps_i s' 1131 30).toInt (ps_i s' 1131 31).toInt (ps_i s' 1131 32).toInt l2 b) → (∀ i : Nat, (i : Int) < x1.toInt ∨ x1.toInt + 41 ≤ (i : Int) → ps_a s' 1134 i = ps_a s0 1134 i) → Q none s') (x2 : Int32) (x3 : Int32) (s : ps_S) (J : mJ x t s) (K : kp [1134, 1144, 1145, 1146, 1147, 1148] [5, 6, 7, 8, 9, 10, 11, 29, 30, 31] s0 s) (hS2 : Sg (ps_a s 1135) (ps_a s 1136) (ps_a s 1138) (ps_a s 1139) (ps_i s 1131 22).toInt σ) (hR : Rw (ps_a s 1134) x1.toInt (l)) (hH0 : RH σ (ps_a s 1144) (ps_a s 1145) (ps_a s 1146) (ps_a s 1147) (ps_i s 1131 29).toInt (ps_i s 1131 30).toInt (ps_i s 1131 31).toInt (ps_i s 1131 32).toInt (l) b true) (hO : ∀ i : Nat, (i : Int) < x1.toInt ∨ x1.toInt + 41 ≤ (i : Int) → ps_a s 1134 i = ps_a s0 1134 i) (i4 : (ps_i s 1131 8).toInt ≤ (ps_i s 1131 4).toInt) (i5 : (ps_i s 1131 29).toInt ≤ 13) (i6 : 0 ≤ (ps_i s 1131 30).toInt) (i7 : (ps_i s 1131 30).toInt ≤ 5) (i8 : (ps_i s 1131 31).toInt ≤ 40) (i9 : (ps_i s 1131 31).toInt = (ps_i s0 1131 31).toInt) (i10 : x2.toInt = -1 ∨ (0 ≤ x2.toInt ∧ x2.toInt ≤ 6) ∨ (10 ≤ x2.toInt ∧ x2.toInt < 10 + (ps_a s 1135 (Int32.toNatClampNeg (ps_i s 1131 22))).toInt)) (i11 : (ps_i s 1131 5).toInt = 0) (i12 : x2.toInt = 4 ∨ x2.toInt = 5) (i13 : x3.toInt = 0) : ps_At (d + 2) 214 23 [(0, .ref 1131), (1, .int x1), (2, .int x2), (3, .int x3)] [] s Q := by
  have r1 := mf_8 J
  have r2 := mf_4 J
  have r3 := mf_29 J
  have r4 := mf_31 J
  have r5 := mf_22 J
  have r6 : 0 ≤ (ps_a s 1135 (Int32.toNatClampNeg (ps_i s 1131 22))).toInt ∧ (ps_a s 1135 (Int32.toNatClampNeg (ps_i s 1131 22))).toInt ≤ 6 := ma_1135 (i := (ps_i s 1131 22)) J (show 0 ≤ (ps_i s 1131 22).toInt from by omega) (show (ps_i s 1131 22).toInt < 2 from by omega)
  have r7 := mf_5 J
  refine pg_214_23 (d := d + 1) ?_
  refine And.intro (fun h8 => ?_) (fun h8 => ?_)
  · have f9 : x3.toInt = (0 : Int) := xeq h8
    refine And.intro (fun h10 => ?_) (fun h10 => ?_)
    · have f11 : x2.toInt < (0 : Int) := xlt h10
      exact ms_214_84 (x1 := x1) (σ := σ) (l := l) (b := b) k  x2 x3 (1) (1) _ J K hS2 hR hH0 hO (show (ps_i s 1131 8).toInt ≤ (ps_i s 1131 4).toInt from by omega) (show (ps_i s 1131 29).toInt ≤ 13 from by omega) (show 0 ≤ (ps_i s 1131 30).toInt from by omega) (show (ps_i s 1131 30).toInt ≤ 5 from by omega) (show (ps_i s 1131 31).toInt ≤ 40 from by omega) (show (ps_i s 1131 31).toInt = (ps_i s0 1131 31).toInt from by omega) (show x2.toInt = -1 ∨ (0 ≤ x2.toInt ∧ x2.toInt ≤ 6) ∨ (10 ≤ x2.toInt ∧ x2.toInt < 10 + (ps_a s 1135 (Int32.toNatClampNeg (ps_i s 1131 22))).toInt) from by omega) (show (x3.toInt = 0 ∧ (1 : Int) = 1) ∨ (x3.toInt = 1 ∧ x2.toInt = 3 ∧ (1 : Int) = 2) from by omega) (show ((1 : Int) = 1 ∧ (x2.toInt = 4 ∨ x2.toInt = 5)) ∨ ((1 : Int) = 0 ∧ x2.toInt ≠ 4 ∧ x2.toInt ≠ 5) from by omega) (show (ps_i s 1131 5).toInt = 0 from by omega)
    · have f12 : (0 : Int) ≤ x2.toInt := xle h10
      have a13 : ((ps_i s 1131 31) + 1).toInt = (ps_i s 1131 31).toInt + (1 : Int) := xIa (show -2147483648 ≤ (ps_i s 1131 31).toInt + (1 : Int) from by omega) (show (ps_i s 1131 31).toInt + (1 : Int) < 2147483648 from by omega)
      refine And.intro (fun h14 => ?_) (fun h14 => ?_)
      · have f15 : (40 : Int) < ((ps_i s 1131 31) + 1).toInt := xlt h14
        exact ms_214_84 (x1 := x1) (σ := σ) (l := l) (b := b) k  x2 x3 (1) (1) _ J K hS2 hR hH0 hO (show (ps_i s 1131 8).toInt ≤ (ps_i s 1131 4).toInt from by omega) (show (ps_i s 1131 29).toInt ≤ 13 from by omega) (show 0 ≤ (ps_i s 1131 30).toInt from by omega) (show (ps_i s 1131 30).toInt ≤ 5 from by omega) (show (ps_i s 1131 31).toInt ≤ 40 from by omega) (show (ps_i s 1131 31).toInt = (ps_i s0 1131 31).toInt from by omega) (show x2.toInt = -1 ∨ (0 ≤ x2.toInt ∧ x2.toInt ≤ 6) ∨ (10 ≤ x2.toInt ∧ x2.toInt < 10 + (ps_a s 1135 (Int32.toNatClampNeg (ps_i s 1131 22))).toInt) from by omega) (show (x3.toInt = 0 ∧ (1 : Int) = 1) ∨ (x3.toInt = 1 ∧ x2.toInt = 3 ∧ (1 : Int) = 2) from by omega) (show ((1 : Int) = 1 ∧ (x2.toInt = 4 ∨ x2.toInt = 5)) ∨ ((1 : Int) = 0 ∧ x2.toInt ≠ 4 ∧ x2.toInt ≠ 5) from by omega) (show (ps_i s 1131 5).toInt = 0 from by omega)
      · have f16 : ((ps_i s 1131 31) + 1).toInt ≤ (40 : Int) := xle h14
        have a17 : ((ps_i s 1131 29) + 1).toInt = (ps_i s 1131 29).toInt + (1 : Int) := xIa (show -2147483648 ≤ (ps_i s 1131 29).toInt + (1 : Int) from by omega) (show (ps_i s 1131 29).toInt + (1 : Int) < 2147483648 from by omega)
        have a18 : (((ps_i s 1131 29) + 1) - 1).toInt = ((ps_i s 1131 29) + 1).toInt - (1 : Int) := xIs (show -2147483648 ≤ ((ps_i s 1131 29) + 1).toInt - (1 : Int) from by omega) (show ((ps_i s 1131 29) + 1).toInt - (1 : Int) < 2147483648 from by omega)
        refine And.intro (fun h19 => ?_) (fun h19 => ?_)
        · have f20 : (12 : Int) < (((ps_i s 1131 29) + 1) - 1).toInt := xlt h19
          exact ms_214_84 (x1 := x1) (σ := σ) (l := l) (b := b) k  x2 x3 (1) (1) _ J K hS2 hR hH0 hO (show (ps_i s 1131 8).toInt ≤ (ps_i s 1131 4).toInt from by omega) (show (ps_i s 1131 29).toInt ≤ 13 from by omega) (show 0 ≤ (ps_i s 1131 30).toInt from by omega) (show (ps_i s 1131 30).toInt ≤ 5 from by omega) (show (ps_i s 1131 31).toInt ≤ 40 from by omega) (show (ps_i s 1131 31).toInt = (ps_i s0 1131 31).toInt from by omega) (show x2.toInt = -1 ∨ (0 ≤ x2.toInt ∧ x2.toInt ≤ 6) ∨ (10 ≤ x2.toInt ∧ x2.toInt < 10 + (ps_a s 1135 (Int32.toNatClampNeg (ps_i s 1131 22))).toInt) from by omega) (show (x3.toInt = 0 ∧ (1 : Int) = 1) ∨ (x3.toInt = 1 ∧ x2.toInt = 3 ∧ (1 : Int) = 2) from by omega) (show ((1 : Int) = 1 ∧ (x2.toInt = 4 ∨ x2.toInt = 5)) ∨ ((1 : Int) = 0 ∧ x2.toInt ≠ 4 ∧ x2.toInt ≠ 5) from by omega) (show (ps_i s 1131 5).toInt = 0 from by omega)
        · have f21 : (((ps_i s 1131 29) + 1) - 1).toInt ≤ (12 : Int) := xle h19
          refine And.intro (fun h22 => ?_) (fun h22 => ?_)
          · exact absurd (show (1 : Int32) = (0 : Int32) from h22) (by decide)
          · have f23 : (1 : Int) ≠ (0 : Int) := xne h22
            refine And.intro (fun h24 => ?_) (fun h24 => ?_)
            · have f25 : (ps_i s 1131 30).toInt ≤ (4 : Int) := xle h24
              exact ms_214_88 (x1 := x1) (σ := σ) (l := l) (b := b) k  x2 x3 (1) (1) _ J K hS2 hR hH0 hO (show (ps_i s 1131 8).toInt ≤ (ps_i s 1131 4).toInt from by omega) (show (ps_i s 1131 29).toInt ≤ 13 from by omega) (show 0 ≤ (ps_i s 1131 30).toInt from by omega) (show (ps_i s 1131 30).toInt ≤ 5 from by omega) (show (ps_i s 1131 31).toInt ≤ 40 from by omega) (show (ps_i s 1131 31).toInt = (ps_i s0 1131 31).toInt from by omega) (show x2.toInt = -1 ∨ (0 ≤ x2.toInt ∧ x2.toInt ≤ 6) ∨ (10 ≤ x2.toInt ∧ x2.toInt < 10 + (ps_a s 1135 (Int32.toNatClampNeg (ps_i s 1131 22))).toInt) from by omega) (show (x3.toInt = 0 ∧ (1 : Int) = 1) ∨ (x3.toInt = 1 ∧ x2.toInt = 3 ∧ (1 : Int) = 2) from by omega) (show ((1 : Int) = 1 ∧ (x2.toInt = 4 ∨ x2.toInt = 5)) ∨ ((1 : Int) = 0 ∧ x2.toInt ≠ 4 ∧ x2.toInt ≠ 5) from by omega) (show 1 ≤ (ps_i s 1131 5).toInt ∨ (0 ≤ x2.toInt ∧ (ps_i s 1131 31).toInt + (1 : Int) ≤ 40 ∧ (ps_i s 1131 29).toInt + (1 : Int) ≤ 13 ∧ ((1 : Int) = 0 ∨ (ps_i s 1131 30).toInt ≤ 4)) from by omega)
            · have f26 : (4 : Int) < (ps_i s 1131 30).toInt := xlt h24
              exact ms_214_84 (x1 := x1) (σ := σ) (l := l) (b := b) k  x2 x3 (1) (1) _ J K hS2 hR hH0 hO (show (ps_i s 1131 8).toInt ≤ (ps_i s 1131 4).toInt from by omega) (show (ps_i s 1131 29).toInt ≤ 13 from by omega) (show 0 ≤ (ps_i s 1131 30).toInt from by omega) (show (ps_i s 1131 30).toInt ≤ 5 from by omega) (show (ps_i s 1131 31).toInt ≤ 40 from by omega) (show (ps_i s 1131 31).toInt = (ps_i s0 1131 31).toInt from by omega) (show x2.toInt = -1 ∨ (0 ≤ x2.toInt ∧ x2.toInt ≤ 6) ∨ (10 ≤ x2.toInt ∧ x2.toInt < 10 + (ps_a s 1135 (Int32.toNatClampNeg (ps_i s 1131 22))).toInt) from by omega) (show (x3.toInt = 0 ∧ (1 : Int) = 1) ∨ (x3.toInt = 1 ∧ x2.toInt = 3 ∧ (1 : Int) = 2) from by omega) (show ((1 : Int) = 1 ∧ (x2.toInt = 4 ∨ x2.toInt = 5)) ∨ ((1 : Int) = 0 ∧ x2.toInt ≠ 4 ∧ x2.toInt ≠ 5) from by omega) (show (ps_i s 1131 5).toInt = 0 from by omega)
  · have f27 : x3.toInt ≠ (0 : Int) := xne h8
    refine And.intro (fun h28 => ?_) (fun h28 => ?_)
    · have f29 : x2.toInt < (0 : Int) := xlt h28
      exact ms_214_84 (x1 := x1) (σ := σ) (l := l) (b := b) k  x2 x3 (1) (2) _ J K hS2 hR hH0 hO (show (ps_i s 1131 8).toInt ≤ (ps_i s 1131 4).toInt from by omega) (show (ps_i s 1131 29).toInt ≤ 13 from by omega) (show 0 ≤ (ps_i s 1131 30).toInt from by omega) (show (ps_i s 1131 30).toInt ≤ 5 from by omega) (show (ps_i s 1131 31).toInt ≤ 40 from by omega) (show (ps_i s 1131 31).toInt = (ps_i s0 1131 31).toInt from by omega) (show x2.toInt = -1 ∨ (0 ≤ x2.toInt ∧ x2.toInt ≤ 6) ∨ (10 ≤ x2.toInt ∧ x2.toInt < 10 + (ps_a s 1135 (Int32.toNatClampNeg (ps_i s 1131 22))).toInt) from by omega) (show (x3.toInt = 0 ∧ (2 : Int) = 1) ∨ (x3.toInt = 1 ∧ x2.toInt = 3 ∧ (2 : Int) = 2) from by omega) (show ((1 : Int) = 1 ∧ (x2.toInt = 4 ∨ x2.toInt = 5)) ∨ ((1 : Int) = 0 ∧ x2.toInt ≠ 4 ∧ x2.toInt ≠ 5) from by omega) (show (ps_i s 1131 5).toInt = 0 from by omega)
    · have f30 : (0 : Int) ≤ x2.toInt := xle h28
      have a31 : ((ps_i s 1131 31) + 2).toInt = (ps_i s 1131 31).toInt + (2 : Int) := xIa (show -2147483648 ≤ (ps_i s 1131 31).toInt + (2 : Int) from by omega) (show (ps_i s 1131 31).toInt + (2 : Int) < 2147483648 from by omega)
      refine And.intro (fun h32 => ?_) (fun h32 => ?_)
      · have f33 : (40 : Int) < ((ps_i s 1131 31) + 2).toInt := xlt h32
        exact ms_214_84 (x1 := x1) (σ := σ) (l := l) (b := b) k  x2 x3 (1) (2) _ J K hS2 hR hH0 hO (show (ps_i s 1131 8).toInt ≤ (ps_i s 1131 4).toInt from by omega) (show (ps_i s 1131 29).toInt ≤ 13 from by omega) (show 0 ≤ (ps_i s 1131 30).toInt from by omega) (show (ps_i s 1131 30).toInt ≤ 5 from by omega) (show (ps_i s 1131 31).toInt ≤ 40 from by omega) (show (ps_i s 1131 31).toInt = (ps_i s0 1131 31).toInt from by omega) (show x2.toInt = -1 ∨ (0 ≤ x2.toInt ∧ x2.toInt ≤ 6) ∨ (10 ≤ x2.toInt ∧ x2.toInt < 10 + (ps_a s 1135 (Int32.toNatClampNeg (ps_i s 1131 22))).toInt) from by omega) (show (x3.toInt = 0 ∧ (2 : Int) = 1) ∨ (x3.toInt = 1 ∧ x2.toInt = 3 ∧ (2 : Int) = 2) from by omega) (show ((1 : Int) = 1 ∧ (x2.toInt = 4 ∨ x2.toInt = 5)) ∨ ((1 : Int) = 0 ∧ x2.toInt ≠ 4 ∧ x2.toInt ≠ 5) from by omega) (show (ps_i s 1131 5).toInt = 0 from by omega)
      · have f34 : ((ps_i s 1131 31) + 2).toInt ≤ (40 : Int) := xle h32
        have a35 : ((ps_i s 1131 29) + 2).toInt = (ps_i s 1131 29).toInt + (2 : Int) := xIa (show -2147483648 ≤ (ps_i s 1131 29).toInt + (2 : Int) from by omega) (show (ps_i s 1131 29).toInt + (2 : Int) < 2147483648 from by omega)
        have a36 : (((ps_i s 1131 29) + 2) - 1).toInt = ((ps_i s 1131 29) + 2).toInt - (1 : Int) := xIs (show -2147483648 ≤ ((ps_i s 1131 29) + 2).toInt - (1 : Int) from by omega) (show ((ps_i s 1131 29) + 2).toInt - (1 : Int) < 2147483648 from by omega)
        refine And.intro (fun h37 => ?_) (fun h37 => ?_)
        · have f38 : (12 : Int) < (((ps_i s 1131 29) + 2) - 1).toInt := xlt h37
          exact ms_214_84 (x1 := x1) (σ := σ) (l := l) (b := b) k  x2 x3 (1) (2) _ J K hS2 hR hH0 hO (show (ps_i s 1131 8).toInt ≤ (ps_i s 1131 4).toInt from by omega) (show (ps_i s 1131 29).toInt ≤ 13 from by omega) (show 0 ≤ (ps_i s 1131 30).toInt from by omega) (show (ps_i s 1131 30).toInt ≤ 5 from by omega) (show (ps_i s 1131 31).toInt ≤ 40 from by omega) (show (ps_i s 1131 31).toInt = (ps_i s0 1131 31).toInt from by omega) (show x2.toInt = -1 ∨ (0 ≤ x2.toInt ∧ x2.toInt ≤ 6) ∨ (10 ≤ x2.toInt ∧ x2.toInt < 10 + (ps_a s 1135 (Int32.toNatClampNeg (ps_i s 1131 22))).toInt) from by omega) (show (x3.toInt = 0 ∧ (2 : Int) = 1) ∨ (x3.toInt = 1 ∧ x2.toInt = 3 ∧ (2 : Int) = 2) from by omega) (show ((1 : Int) = 1 ∧ (x2.toInt = 4 ∨ x2.toInt = 5)) ∨ ((1 : Int) = 0 ∧ x2.toInt ≠ 4 ∧ x2.toInt ≠ 5) from by omega) (show (ps_i s 1131 5).toInt = 0 from by omega)
        · have f39 : (((ps_i s 1131 29) + 2) - 1).toInt ≤ (12 : Int) := xle h37
          refine And.intro (fun h40 => ?_) (fun h40 => ?_)
          · exact absurd (show (1 : Int32) = (0 : Int32) from h40) (by decide)
          · have f41 : (1 : Int) ≠ (0 : Int) := xne h40
            refine And.intro (fun h42 => ?_) (fun h42 => ?_)
            · have f43 : (ps_i s 1131 30).toInt ≤ (4 : Int) := xle h42
              exact ms_214_88 (x1 := x1) (σ := σ) (l := l) (b := b) k  x2 x3 (1) (2) _ J K hS2 hR hH0 hO (show (ps_i s 1131 8).toInt ≤ (ps_i s 1131 4).toInt from by omega) (show (ps_i s 1131 29).toInt ≤ 13 from by omega) (show 0 ≤ (ps_i s 1131 30).toInt from by omega) (show (ps_i s 1131 30).toInt ≤ 5 from by omega) (show (ps_i s 1131 31).toInt ≤ 40 from by omega) (show (ps_i s 1131 31).toInt = (ps_i s0 1131 31).toInt from by omega) (show x2.toInt = -1 ∨ (0 ≤ x2.toInt ∧ x2.toInt ≤ 6) ∨ (10 ≤ x2.toInt ∧ x2.toInt < 10 + (ps_a s 1135 (Int32.toNatClampNeg (ps_i s 1131 22))).toInt) from by omega) (show (x3.toInt = 0 ∧ (2 : Int) = 1) ∨ (x3.toInt = 1 ∧ x2.toInt = 3 ∧ (2 : Int) = 2) from by omega) (show ((1 : Int) = 1 ∧ (x2.toInt = 4 ∨ x2.toInt = 5)) ∨ ((1 : Int) = 0 ∧ x2.toInt ≠ 4 ∧ x2.toInt ≠ 5) from by omega) (show 1 ≤ (ps_i s 1131 5).toInt ∨ (0 ≤ x2.toInt ∧ (ps_i s 1131 31).toInt + (2 : Int) ≤ 40 ∧ (ps_i s 1131 29).toInt + (2 : Int) ≤ 13 ∧ ((1 : Int) = 0 ∨ (ps_i s 1131 30).toInt ≤ 4)) from by omega)
            · have f44 : (4 : Int) < (ps_i s 1131 30).toInt := xlt h42
              exact ms_214_84 (x1 := x1) (σ := σ) (l := l) (b := b) k  x2 x3 (1) (2) _ J K hS2 hR hH0 hO (show (ps_i s 1131 8).toInt ≤ (ps_i s 1131 4).toInt from by omega) (show (ps_i s 1131 29).toInt ≤ 13 from by omega) (show 0 ≤ (ps_i s 1131 30).toInt from by omega) (show (ps_i s 1131 30).toInt ≤ 5 from by omega) (show (ps_i s 1131 31).toInt ≤ 40 from by omega) (show (ps_i s 1131 31).toInt = (ps_i s0 1131 31).toInt from by omega) (show x2.toInt = -1 ∨ (0 ≤ x2.toInt ∧ x2.toInt ≤ 6) ∨ (10 ≤ x2.toInt ∧ x2.toInt < 10 + (ps_a s 1135 (Int32.toNatClampNeg (ps_i s 1131 22))).toInt) from by omega) (show (x3.toInt = 0 ∧ (2 : Int) = 1) ∨ (x3.toInt = 1 ∧ x2.toInt = 3 ∧ (2 : Int) = 2) from by omega) (show ((1 : Int) = 1 ∧ (x2.toInt = 4 ∨ x2.toInt = 5)) ∨ ((1 : Int) = 0 ∧ x2.toInt ≠ 4 ∧ x2.toInt ≠ 5) from by omega) (show (ps_i s 1131 5).toInt = 0 from by omega)

theorem ms_214 {x : Nat → Nat → Nat} {t : Int32} {s : ps_S} {d : Nat} {x1 : Int32} {f : ps_S → Prop} (J : mJ x t s) {σ : mSig} {l : List Nat} {b : Bool} (hS2 : Sg (ps_a s 1135) (ps_a s 1136) (ps_a s 1138) (ps_a s 1139) (ps_i s 1131 22).toInt σ) (hR : Rw (ps_a s 1134) x1.toInt (l)) (hH0 : RH σ (ps_a s 1144) (ps_a s 1145) (ps_a s 1146) (ps_a s 1147) (ps_i s 1131 29).toInt (ps_i s 1131 30).toInt (ps_i s 1131 31).toInt (ps_i s 1131 32).toInt (l) b true) (q3 : (ps_i s 1131 8).toInt ≤ (ps_i s 1131 4).toInt) (q4 : (ps_i s 1131 5).toInt = 0) (q5 : (ps_i s 1131 29).toInt ≤ 13) (q6 : 0 ≤ (ps_i s 1131 30).toInt) (q7 : (ps_i s 1131 30).toInt ≤ 5) (q8 : (ps_i s 1131 31).toInt ≤ 40) (k : ∀ (s' : ps_S), mJ x t s' → kp [1134, 1144, 1145, 1146, 1147, 1148] [5, 6, 7, 8, 9, 10, 11, 29, 30, 31] s s' → ((ps_i s' 1131 8).toInt ≤ (ps_i s' 1131 4).toInt) → (1 ≤ (ps_i s' 1131 5).toInt ∨ ((ps_i s' 1131 29).toInt ≤ 13 ∧ 0 ≤ (ps_i s' 1131 30).toInt ∧ (ps_i s' 1131 30).toInt ≤ 5 ∧ (ps_i s' 1131 31).toInt ≤ 40 ∧ (ps_i s 1131 31).toInt < (ps_i s' 1131 31).toInt)) → ((ps_i s 1131 31).toInt ≤ (ps_i s' 1131 31).toInt) → (1 ≤ (ps_i s' 1131 5).toInt ∨ ∃ l2, Rw (ps_a s' 1134) x1.toInt l2 ∧ RQ σ (ps_a s' 1144) (ps_a s' 1145) (ps_a s' 1146) (ps_a s' 1147) (ps_i s' 1131 29).toInt (ps_i s' 1131 30).toInt (ps_i s' 1131 31).toInt (ps_i s' 1131 32).toInt l2 b) → (∀ i : Nat, (i : Int) < x1.toInt ∨ x1.toInt + 41 ≤ (i : Int) → ps_a s' 1134 i = ps_a s 1134 i) → f s') : ps_Cl (d + 2) 214 [.ref 1131, .int x1] s (ps_rV f) := by
  have r1 := mf_8 J
  have r2 := mf_4 J
  have r3 := mf_5 J
  have r4 := mf_29 J
  have r5 := mf_31 J
  have K : kp [1134, 1144, 1145, 1146, 1147, 1148] [5, 6, 7, 8, 9, 10, 11, 29, 30, 31] s s := kp_refl
  refine pg_214_0 (d := d + 1) ?_
  have hO : ∀ i : Nat, (i : Int) < x1.toInt ∨ x1.toInt + 41 ≤ (i : Int) → ps_a s 1134 i = ps_a s 1134 i := fun i _ => rfl
  refine ms_213 J  (fun v6 p6_0 p6_1 => ?_)
  have p6_0' : v6.toInt = -1 ∨ (0 ≤ v6.toInt ∧ v6.toInt ≤ 6) ∨ (10 ≤ v6.toInt ∧ v6.toInt < 10 + (ps_a s 1135 (Int32.toNatClampNeg (ps_i s 1131 22))).toInt) := p6_0
  have r7 := mf_22 J
  have r8 : 0 ≤ (ps_a s 1135 (Int32.toNatClampNeg (ps_i s 1131 22))).toInt ∧ (ps_a s 1135 (Int32.toNatClampNeg (ps_i s 1131 22))).toInt ≤ 6 := ma_1135 (i := (ps_i s 1131 22)) J (show 0 ≤ (ps_i s 1131 22).toInt from by omega) (show (ps_i s 1131 22).toInt < 2 from by omega)
  have hnot : _ := p6_1
  refine mx_195 J  (fun v9 p9_0 p9_1 p9_2 p9_3 b9 => ?_)
  have p9_0' : 0 ≤ v9.toInt := p9_0
  have p9_1' : v9.toInt ≤ 1 := p9_1
  have hw9 : _ := p9_2
  have hnn : (v9).toInt = 0 ∨ ((v9).toInt = 1 ∧ v6.toInt = 3) := by rcases hw9 with z | z; exact Or.inl z; exact Or.inr ⟨by omega, hnot z⟩
  refine And.intro (fun h10 => ?_) (fun h10 => ?_)
  · have f11 : v6.toInt = (4 : Int) := xeq h10
    exact ms_214_23 (x1 := x1) (σ := σ) (l := l) (b := b) k  v6 v9 _ J K hS2 hR hH0 hO (show (ps_i s 1131 8).toInt ≤ (ps_i s 1131 4).toInt from by omega) (show (ps_i s 1131 29).toInt ≤ 13 from by omega) (show 0 ≤ (ps_i s 1131 30).toInt from by omega) (show (ps_i s 1131 30).toInt ≤ 5 from by omega) (show (ps_i s 1131 31).toInt ≤ 40 from by omega) (show (ps_i s 1131 31).toInt = (ps_i s 1131 31).toInt from by omega) (show v6.toInt = -1 ∨ (0 ≤ v6.toInt ∧ v6.toInt ≤ 6) ∨ (10 ≤ v6.toInt ∧ v6.toInt < 10 + (ps_a s 1135 (Int32.toNatClampNeg (ps_i s 1131 22))).toInt) from by omega) (show (ps_i s 1131 5).toInt = 0 from by omega) (show v6.toInt = 4 ∨ v6.toInt = 5 from by omega) (show v9.toInt = 0 from by omega)
  · have f12 : v6.toInt ≠ (4 : Int) := xne h10
    refine And.intro (fun h13 => ?_) (fun h13 => ?_)
    · have f14 : v6.toInt ≠ (5 : Int) := xne h13
      refine And.intro (fun h15 => ?_) (fun h15 => ?_)
      · have f16 : v9.toInt = (0 : Int) := xeq h15
        refine And.intro (fun h17 => ?_) (fun h17 => ?_)
        · have f18 : v6.toInt < (0 : Int) := xlt h17
          exact ms_214_84 (x1 := x1) (σ := σ) (l := l) (b := b) k  v6 v9 (0) (1) _ J K hS2 hR hH0 hO (show (ps_i s 1131 8).toInt ≤ (ps_i s 1131 4).toInt from by omega) (show (ps_i s 1131 29).toInt ≤ 13 from by omega) (show 0 ≤ (ps_i s 1131 30).toInt from by omega) (show (ps_i s 1131 30).toInt ≤ 5 from by omega) (show (ps_i s 1131 31).toInt ≤ 40 from by omega) (show (ps_i s 1131 31).toInt = (ps_i s 1131 31).toInt from by omega) (show v6.toInt = -1 ∨ (0 ≤ v6.toInt ∧ v6.toInt ≤ 6) ∨ (10 ≤ v6.toInt ∧ v6.toInt < 10 + (ps_a s 1135 (Int32.toNatClampNeg (ps_i s 1131 22))).toInt) from by omega) (show (v9.toInt = 0 ∧ (1 : Int) = 1) ∨ (v9.toInt = 1 ∧ v6.toInt = 3 ∧ (1 : Int) = 2) from by omega) (show ((0 : Int) = 1 ∧ (v6.toInt = 4 ∨ v6.toInt = 5)) ∨ ((0 : Int) = 0 ∧ v6.toInt ≠ 4 ∧ v6.toInt ≠ 5) from by omega) (show (ps_i s 1131 5).toInt = 0 from by omega)
        · have f19 : (0 : Int) ≤ v6.toInt := xle h17
          have a20 : ((ps_i s 1131 31) + 1).toInt = (ps_i s 1131 31).toInt + (1 : Int) := xIa (show -2147483648 ≤ (ps_i s 1131 31).toInt + (1 : Int) from by omega) (show (ps_i s 1131 31).toInt + (1 : Int) < 2147483648 from by omega)
          refine And.intro (fun h21 => ?_) (fun h21 => ?_)
          · have f22 : (40 : Int) < ((ps_i s 1131 31) + 1).toInt := xlt h21
            exact ms_214_84 (x1 := x1) (σ := σ) (l := l) (b := b) k  v6 v9 (0) (1) _ J K hS2 hR hH0 hO (show (ps_i s 1131 8).toInt ≤ (ps_i s 1131 4).toInt from by omega) (show (ps_i s 1131 29).toInt ≤ 13 from by omega) (show 0 ≤ (ps_i s 1131 30).toInt from by omega) (show (ps_i s 1131 30).toInt ≤ 5 from by omega) (show (ps_i s 1131 31).toInt ≤ 40 from by omega) (show (ps_i s 1131 31).toInt = (ps_i s 1131 31).toInt from by omega) (show v6.toInt = -1 ∨ (0 ≤ v6.toInt ∧ v6.toInt ≤ 6) ∨ (10 ≤ v6.toInt ∧ v6.toInt < 10 + (ps_a s 1135 (Int32.toNatClampNeg (ps_i s 1131 22))).toInt) from by omega) (show (v9.toInt = 0 ∧ (1 : Int) = 1) ∨ (v9.toInt = 1 ∧ v6.toInt = 3 ∧ (1 : Int) = 2) from by omega) (show ((0 : Int) = 1 ∧ (v6.toInt = 4 ∨ v6.toInt = 5)) ∨ ((0 : Int) = 0 ∧ v6.toInt ≠ 4 ∧ v6.toInt ≠ 5) from by omega) (show (ps_i s 1131 5).toInt = 0 from by omega)
          · have f23 : ((ps_i s 1131 31) + 1).toInt ≤ (40 : Int) := xle h21
            have a24 : ((ps_i s 1131 29) + 1).toInt = (ps_i s 1131 29).toInt + (1 : Int) := xIa (show -2147483648 ≤ (ps_i s 1131 29).toInt + (1 : Int) from by omega) (show (ps_i s 1131 29).toInt + (1 : Int) < 2147483648 from by omega)
            have a25 : (((ps_i s 1131 29) + 1) - 1).toInt = ((ps_i s 1131 29) + 1).toInt - (1 : Int) := xIs (show -2147483648 ≤ ((ps_i s 1131 29) + 1).toInt - (1 : Int) from by omega) (show ((ps_i s 1131 29) + 1).toInt - (1 : Int) < 2147483648 from by omega)
            refine And.intro (fun h26 => ?_) (fun h26 => ?_)
            · have f27 : (12 : Int) < (((ps_i s 1131 29) + 1) - 1).toInt := xlt h26
              exact ms_214_84 (x1 := x1) (σ := σ) (l := l) (b := b) k  v6 v9 (0) (1) _ J K hS2 hR hH0 hO (show (ps_i s 1131 8).toInt ≤ (ps_i s 1131 4).toInt from by omega) (show (ps_i s 1131 29).toInt ≤ 13 from by omega) (show 0 ≤ (ps_i s 1131 30).toInt from by omega) (show (ps_i s 1131 30).toInt ≤ 5 from by omega) (show (ps_i s 1131 31).toInt ≤ 40 from by omega) (show (ps_i s 1131 31).toInt = (ps_i s 1131 31).toInt from by omega) (show v6.toInt = -1 ∨ (0 ≤ v6.toInt ∧ v6.toInt ≤ 6) ∨ (10 ≤ v6.toInt ∧ v6.toInt < 10 + (ps_a s 1135 (Int32.toNatClampNeg (ps_i s 1131 22))).toInt) from by omega) (show (v9.toInt = 0 ∧ (1 : Int) = 1) ∨ (v9.toInt = 1 ∧ v6.toInt = 3 ∧ (1 : Int) = 2) from by omega) (show ((0 : Int) = 1 ∧ (v6.toInt = 4 ∨ v6.toInt = 5)) ∨ ((0 : Int) = 0 ∧ v6.toInt ≠ 4 ∧ v6.toInt ≠ 5) from by omega) (show (ps_i s 1131 5).toInt = 0 from by omega)
            · have f28 : (((ps_i s 1131 29) + 1) - 1).toInt ≤ (12 : Int) := xle h26
              refine And.intro (fun h29 => ?_) (fun h29 => ?_)
              · exact ms_214_88 (x1 := x1) (σ := σ) (l := l) (b := b) k  v6 v9 (0) (1) _ J K hS2 hR hH0 hO (show (ps_i s 1131 8).toInt ≤ (ps_i s 1131 4).toInt from by omega) (show (ps_i s 1131 29).toInt ≤ 13 from by omega) (show 0 ≤ (ps_i s 1131 30).toInt from by omega) (show (ps_i s 1131 30).toInt ≤ 5 from by omega) (show (ps_i s 1131 31).toInt ≤ 40 from by omega) (show (ps_i s 1131 31).toInt = (ps_i s 1131 31).toInt from by omega) (show v6.toInt = -1 ∨ (0 ≤ v6.toInt ∧ v6.toInt ≤ 6) ∨ (10 ≤ v6.toInt ∧ v6.toInt < 10 + (ps_a s 1135 (Int32.toNatClampNeg (ps_i s 1131 22))).toInt) from by omega) (show (v9.toInt = 0 ∧ (1 : Int) = 1) ∨ (v9.toInt = 1 ∧ v6.toInt = 3 ∧ (1 : Int) = 2) from by omega) (show ((0 : Int) = 1 ∧ (v6.toInt = 4 ∨ v6.toInt = 5)) ∨ ((0 : Int) = 0 ∧ v6.toInt ≠ 4 ∧ v6.toInt ≠ 5) from by omega) (show 1 ≤ (ps_i s 1131 5).toInt ∨ (0 ≤ v6.toInt ∧ (ps_i s 1131 31).toInt + (1 : Int) ≤ 40 ∧ (ps_i s 1131 29).toInt + (1 : Int) ≤ 13 ∧ ((0 : Int) = 0 ∨ (ps_i s 1131 30).toInt ≤ 4)) from by omega)
              · exact absurd (show (0 : Int32) ≠ (0 : Int32) from h29) (by decide)
      · have f30 : v9.toInt ≠ (0 : Int) := xne h15
        refine And.intro (fun h31 => ?_) (fun h31 => ?_)
        · have f32 : v6.toInt < (0 : Int) := xlt h31
          exact ms_214_84 (x1 := x1) (σ := σ) (l := l) (b := b) k  v6 v9 (0) (2) _ J K hS2 hR hH0 hO (show (ps_i s 1131 8).toInt ≤ (ps_i s 1131 4).toInt from by omega) (show (ps_i s 1131 29).toInt ≤ 13 from by omega) (show 0 ≤ (ps_i s 1131 30).toInt from by omega) (show (ps_i s 1131 30).toInt ≤ 5 from by omega) (show (ps_i s 1131 31).toInt ≤ 40 from by omega) (show (ps_i s 1131 31).toInt = (ps_i s 1131 31).toInt from by omega) (show v6.toInt = -1 ∨ (0 ≤ v6.toInt ∧ v6.toInt ≤ 6) ∨ (10 ≤ v6.toInt ∧ v6.toInt < 10 + (ps_a s 1135 (Int32.toNatClampNeg (ps_i s 1131 22))).toInt) from by omega) (show (v9.toInt = 0 ∧ (2 : Int) = 1) ∨ (v9.toInt = 1 ∧ v6.toInt = 3 ∧ (2 : Int) = 2) from by omega) (show ((0 : Int) = 1 ∧ (v6.toInt = 4 ∨ v6.toInt = 5)) ∨ ((0 : Int) = 0 ∧ v6.toInt ≠ 4 ∧ v6.toInt ≠ 5) from by omega) (show (ps_i s 1131 5).toInt = 0 from by omega)
        · have f33 : (0 : Int) ≤ v6.toInt := xle h31
          have a34 : ((ps_i s 1131 31) + 2).toInt = (ps_i s 1131 31).toInt + (2 : Int) := xIa (show -2147483648 ≤ (ps_i s 1131 31).toInt + (2 : Int) from by omega) (show (ps_i s 1131 31).toInt + (2 : Int) < 2147483648 from by omega)
          refine And.intro (fun h35 => ?_) (fun h35 => ?_)
          · have f36 : (40 : Int) < ((ps_i s 1131 31) + 2).toInt := xlt h35
            exact ms_214_84 (x1 := x1) (σ := σ) (l := l) (b := b) k  v6 v9 (0) (2) _ J K hS2 hR hH0 hO (show (ps_i s 1131 8).toInt ≤ (ps_i s 1131 4).toInt from by omega) (show (ps_i s 1131 29).toInt ≤ 13 from by omega) (show 0 ≤ (ps_i s 1131 30).toInt from by omega) (show (ps_i s 1131 30).toInt ≤ 5 from by omega) (show (ps_i s 1131 31).toInt ≤ 40 from by omega) (show (ps_i s 1131 31).toInt = (ps_i s 1131 31).toInt from by omega) (show v6.toInt = -1 ∨ (0 ≤ v6.toInt ∧ v6.toInt ≤ 6) ∨ (10 ≤ v6.toInt ∧ v6.toInt < 10 + (ps_a s 1135 (Int32.toNatClampNeg (ps_i s 1131 22))).toInt) from by omega) (show (v9.toInt = 0 ∧ (2 : Int) = 1) ∨ (v9.toInt = 1 ∧ v6.toInt = 3 ∧ (2 : Int) = 2) from by omega) (show ((0 : Int) = 1 ∧ (v6.toInt = 4 ∨ v6.toInt = 5)) ∨ ((0 : Int) = 0 ∧ v6.toInt ≠ 4 ∧ v6.toInt ≠ 5) from by omega) (show (ps_i s 1131 5).toInt = 0 from by omega)
          · have f37 : ((ps_i s 1131 31) + 2).toInt ≤ (40 : Int) := xle h35
            have a38 : ((ps_i s 1131 29) + 2).toInt = (ps_i s 1131 29).toInt + (2 : Int) := xIa (show -2147483648 ≤ (ps_i s 1131 29).toInt + (2 : Int) from by omega) (show (ps_i s 1131 29).toInt + (2 : Int) < 2147483648 from by omega)
            have a39 : (((ps_i s 1131 29) + 2) - 1).toInt = ((ps_i s 1131 29) + 2).toInt - (1 : Int) := xIs (show -2147483648 ≤ ((ps_i s 1131 29) + 2).toInt - (1 : Int) from by omega) (show ((ps_i s 1131 29) + 2).toInt - (1 : Int) < 2147483648 from by omega)
            refine And.intro (fun h40 => ?_) (fun h40 => ?_)
            · have f41 : (12 : Int) < (((ps_i s 1131 29) + 2) - 1).toInt := xlt h40
              exact ms_214_84 (x1 := x1) (σ := σ) (l := l) (b := b) k  v6 v9 (0) (2) _ J K hS2 hR hH0 hO (show (ps_i s 1131 8).toInt ≤ (ps_i s 1131 4).toInt from by omega) (show (ps_i s 1131 29).toInt ≤ 13 from by omega) (show 0 ≤ (ps_i s 1131 30).toInt from by omega) (show (ps_i s 1131 30).toInt ≤ 5 from by omega) (show (ps_i s 1131 31).toInt ≤ 40 from by omega) (show (ps_i s 1131 31).toInt = (ps_i s 1131 31).toInt from by omega) (show v6.toInt = -1 ∨ (0 ≤ v6.toInt ∧ v6.toInt ≤ 6) ∨ (10 ≤ v6.toInt ∧ v6.toInt < 10 + (ps_a s 1135 (Int32.toNatClampNeg (ps_i s 1131 22))).toInt) from by omega) (show (v9.toInt = 0 ∧ (2 : Int) = 1) ∨ (v9.toInt = 1 ∧ v6.toInt = 3 ∧ (2 : Int) = 2) from by omega) (show ((0 : Int) = 1 ∧ (v6.toInt = 4 ∨ v6.toInt = 5)) ∨ ((0 : Int) = 0 ∧ v6.toInt ≠ 4 ∧ v6.toInt ≠ 5) from by omega) (show (ps_i s 1131 5).toInt = 0 from by omega)
            · have f42 : (((ps_i s 1131 29) + 2) - 1).toInt ≤ (12 : Int) := xle h40
              refine And.intro (fun h43 => ?_) (fun h43 => ?_)
              · exact ms_214_88 (x1 := x1) (σ := σ) (l := l) (b := b) k  v6 v9 (0) (2) _ J K hS2 hR hH0 hO (show (ps_i s 1131 8).toInt ≤ (ps_i s 1131 4).toInt from by omega) (show (ps_i s 1131 29).toInt ≤ 13 from by omega) (show 0 ≤ (ps_i s 1131 30).toInt from by omega) (show (ps_i s 1131 30).toInt ≤ 5 from by omega) (show (ps_i s 1131 31).toInt ≤ 40 from by omega) (show (ps_i s 1131 31).toInt = (ps_i s 1131 31).toInt from by omega) (show v6.toInt = -1 ∨ (0 ≤ v6.toInt ∧ v6.toInt ≤ 6) ∨ (10 ≤ v6.toInt ∧ v6.toInt < 10 + (ps_a s 1135 (Int32.toNatClampNeg (ps_i s 1131 22))).toInt) from by omega) (show (v9.toInt = 0 ∧ (2 : Int) = 1) ∨ (v9.toInt = 1 ∧ v6.toInt = 3 ∧ (2 : Int) = 2) from by omega) (show ((0 : Int) = 1 ∧ (v6.toInt = 4 ∨ v6.toInt = 5)) ∨ ((0 : Int) = 0 ∧ v6.toInt ≠ 4 ∧ v6.toInt ≠ 5) from by omega) (show 1 ≤ (ps_i s 1131 5).toInt ∨ (0 ≤ v6.toInt ∧ (ps_i s 1131 31).toInt + (2 : Int) ≤ 40 ∧ (ps_i s 1131 29).toInt + (2 : Int) ≤ 13 ∧ ((0 : Int) = 0 ∨ (ps_i s 1131 30).toInt ≤ 4)) from by omega)
              · exact absurd (show (0 : Int32) ≠ (0 : Int32) from h43) (by decide)
    · have f44 : v6.toInt = (5 : Int) := xeq h13
      exact ms_214_23 (x1 := x1) (σ := σ) (l := l) (b := b) k  v6 v9 _ J K hS2 hR hH0 hO (show (ps_i s 1131 8).toInt ≤ (ps_i s 1131 4).toInt from by omega) (show (ps_i s 1131 29).toInt ≤ 13 from by omega) (show 0 ≤ (ps_i s 1131 30).toInt from by omega) (show (ps_i s 1131 30).toInt ≤ 5 from by omega) (show (ps_i s 1131 31).toInt ≤ 40 from by omega) (show (ps_i s 1131 31).toInt = (ps_i s 1131 31).toInt from by omega) (show v6.toInt = -1 ∨ (0 ≤ v6.toInt ∧ v6.toInt ≤ 6) ∨ (10 ≤ v6.toInt ∧ v6.toInt < 10 + (ps_a s 1135 (Int32.toNatClampNeg (ps_i s 1131 22))).toInt) from by omega) (show (ps_i s 1131 5).toInt = 0 from by omega) (show v6.toInt = 4 ∨ v6.toInt = 5 from by omega) (show v9.toInt = 0 from by omega)
