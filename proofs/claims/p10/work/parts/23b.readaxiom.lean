set_option maxRecDepth 100000
-- ProofBenchModel.readAxiom(I)V
theorem pg_239_0 {d : Nat} {x1 : Int32} {s : ps_S} {Q : Option Value → ps_S → Prop} (h :
  ((ps_i s 1131 9) = 2 →
    ps_Cl d 205 [.ref 1131] s (ps_rI (fun v1 s1 =>
      (0 ≤ v1 →
        ps_At (d + 1) 239 32 [(0, .ref 1131), (1, .int x1)] [] s1 Q) ∧
      (v1 < 0 →
        ps_Cl d 191 [.ref 1131, .int 6, .int (ps_i s1 1131 7)] s1 (ps_rV (fun s2 =>
          ps_At (d + 1) 239 32 [(0, .ref 1131), (1, .int x1)] [] s2 Q)))))) ∧
  ((ps_i s 1131 9) ≠ 2 →
    ps_Cl d 196 [.ref 1131] s (ps_rV (fun s3 =>
      ps_At (d + 1) 239 32 [(0, .ref 1131), (1, .int x1)] [] s3 Q)))) : ps_At (d + 1) 239 0 [(0, .ref 1131), (1, .int x1)] [] s Q :=
  ps_wp_at (stops := [(32, [0, 1])]) (n := 17) h rfl

theorem pg_239_32 {d : Nat} {x1 : Int32} {s : ps_S} {Q : Option Value → ps_S → Prop} (h :
  ps_Cl d 205 [.ref 1131] s (ps_rI (fun v1 s1 =>
    ps_nd (pm_in x1 40) (ps_Cl d 192 [.ref 1131] (ps_ua s1 1153 (Int32.toNatClampNeg x1) v1) (ps_rI (fun v2 s2 =>
      (v2 = 0 →
        Q none s2) ∧
      (v2 ≠ 0 →
        ps_Cl d 194 [.ref 1131] s2 (ps_rV (fun s3 =>
          Q none s3))))))))) : ps_At (d + 1) 239 32 [(0, .ref 1131), (1, .int x1)] [] s Q :=
  ps_wp_at (stops := [(32, [0, 1])]) (n := 15) h rfl

theorem ms_239_32 {x : Nat → Nat → Nat} {t : Int32} {d : Nat} {s0 : ps_S} {x1 : Int32} {Q : Option Value → ps_S → Prop} (k : ∀ (s' : ps_S), mJ x t s' → kp [1153] [5, 6, 7, 8, 9, 10, 11] s0 s' → ((ps_i s' 1131 8).toInt ≤ (ps_i s' 1131 4).toInt) → (1 ≤ (ps_i s' 1131 5).toInt ∨ (0 ≤ (ps_a s' 1153 (Int32.toNatClampNeg x1)).toInt ∧ (ps_a s' 1153 (Int32.toNatClampNeg x1)).toInt < (ps_a s' 1137 (Int32.toNatClampNeg (ps_i s' 1131 22))).toInt)) → (∀ j : Nat, j ≠ x1.toInt.toNat → ps_a s' 1153 j = ps_a s0 1153 j) → Q none s') (s : ps_S) (J : mJ x t s) (K : kp [1153] [5, 6, 7, 8, 9, 10, 11] s0 s) (i0 : (ps_i s 1131 8).toInt ≤ (ps_i s 1131 4).toInt) (i1 : 0 ≤ x1.toInt) (i2 : x1.toInt < 40) (i3 : 1 ≤ (ps_i s 1131 5).toInt ∨ (∃ z : Int32, 0 ≤ z.toInt ∧ z.toInt < (ps_a s 1137 (Int32.toNatClampNeg (ps_i s 1131 22))).toInt ∧ ((ps_i s 1131 9).toInt = 2 ∧ (lg_cmp (ps_b s 1142 (Int32.toNatClampNeg (((8 : Int32) * (ps_i s 1131 22)) + z))) (ps_j s 1131 11)).toInt = 0))) (h53 : ∀ j : Nat, ps_a s 1153 j = ps_a s0 1153 j) : ps_At (d + 2) 239 32 [(0, .ref 1131), (1, .int x1)] [] s Q := by
  have r1 := mf_8 J
  have r2 := mf_4 J
  refine pg_239_32 (d := d + 1) ?_
  refine mx_205 J  (fun v3 p3_0 p3_1 p3_2 p3_3 => ?_)
  have p3_0' : -1 ≤ v3.toInt := p3_0
  have p3_1' : v3.toInt < (ps_a s 1137 (Int32.toNatClampNeg (ps_i s 1131 22))).toInt := p3_1
  have r4 := mf_22 J
  have r5 : 0 ≤ (ps_a s 1137 (Int32.toNatClampNeg (ps_i s 1131 22))).toInt ∧ (ps_a s 1137 (Int32.toNatClampNeg (ps_i s 1131 22))).toInt ≤ 8 := ma_1137 (i := (ps_i s 1131 22)) J (show 0 ≤ (ps_i s 1131 22).toInt from by omega) (show (ps_i s 1131 22).toInt < 2 from by omega)
  have hz : _ := p3_3
  have hv0 : 1 ≤ (ps_i s 1131 5).toInt ∨ 0 ≤ (v3).toInt := by rcases i3 with z | ⟨z, z1, z2, z3⟩; exact Or.inl z; exact Or.inr (by rcases Int.lt_or_le (v3).toInt 0 with q | q; exact absurd z3 (hz (by omega) z z1 z2); exact q)
  refine ps_nd_i (show pm_in x1 40 = true from xgi (show 0 ≤ x1.toInt from by omega) (show x1.toInt < 40 from by omega)) ?_
  have J6 := mwa_1153 (i := (Int32.toNatClampNeg x1)) (v := v3) J (show -1 ≤ v3.toInt from by omega) (show v3.toInt ≤ 9999 from by omega)
  have K7 := kpa' K (r := 1153) (i := (Int32.toNatClampNeg x1)) (v := v3) rfl
  have h53p : ∀ j : Nat, j ≠ x1.toInt.toNat → ps_a (ps_ua s 1153 (Int32.toNatClampNeg x1) v3) 1153 j = ps_a s0 1153 j := fun j hj => (ua_ne hj).trans (h53 j)
  refine ms_192 J6  (fun v8 p8_0 b8 => ?_)
  have p8_0' : (v8.toInt = 0 ∧ 1 ≤ (ps_i s 1131 5).toInt) ∨ (v8.toInt = 1 ∧ (ps_i s 1131 5).toInt = 0) := p8_0
  have r9 := mf_5 J
  refine And.intro (fun h10 => ?_) (fun h10 => ?_)
  · have f11 : v8.toInt = (0 : Int) := xeq h10
    have w12 : (ps_a (ps_ua s 1153 (Int32.toNatClampNeg x1) v3) 1153 (Int32.toNatClampNeg x1)).toInt = v3.toInt := xeq ua_eq
    have r13 : -1 ≤ (ps_a (ps_ua s 1153 (Int32.toNatClampNeg x1) v3) 1153 (Int32.toNatClampNeg x1)).toInt ∧ (ps_a (ps_ua s 1153 (Int32.toNatClampNeg x1) v3) 1153 (Int32.toNatClampNeg x1)).toInt ≤ 9999 := ma_1153 (i := x1) J6 (show 0 ≤ x1.toInt from by omega) (show x1.toInt < 40 from by omega)
    exact k _ J6 K7 (show (ps_i s 1131 8).toInt ≤ (ps_i s 1131 4).toInt from by omega) (show 1 ≤ (ps_i s 1131 5).toInt ∨ (0 ≤ (ps_a (ps_ua s 1153 (Int32.toNatClampNeg x1) v3) 1153 (Int32.toNatClampNeg x1)).toInt ∧ (ps_a (ps_ua s 1153 (Int32.toNatClampNeg x1) v3) 1153 (Int32.toNatClampNeg x1)).toInt < (ps_a s 1137 (Int32.toNatClampNeg (ps_i s 1131 22))).toInt) from by first | omega | (have e22 : ps_i (ps_ua s 1153 (Int32.toNatClampNeg x1) v3) 1131 22 = ps_i s 1131 22 := kp_i KC 22 rfl; have e23 : (ps_a (ps_ua s 1153 (Int32.toNatClampNeg x1) v3) 1137 (Int32.toNatClampNeg (ps_i (ps_ua s 1153 (Int32.toNatClampNeg x1) v3) 1131 22))).toInt = (ps_a s 1137 (Int32.toNatClampNeg (ps_i s 1131 22))).toInt := (by rw [show ps_a (ps_ua s 1153 (Int32.toNatClampNeg x1) v3) 1137 = ps_a s 1137 from (KC.2 1137 rfl).1, e22]); omega)) h53p
  · have f14 : v8.toInt ≠ (0 : Int) := xne h10
    refine ms_194 J6 (show (ps_i s 1131 8).toInt ≤ (ps_i s 1131 4).toInt from by omega) (fun s15 J15 K15 p15_0 => ?_)
    have K16 := kpt K7 K15 rfl rfl
    have KC := K15
    have h53p : ∀ j : Nat, j ≠ x1.toInt.toNat → ps_a s15 1153 j = ps_a s0 1153 j := by rw [show ps_a s15 1153 = ps_a (ps_ua s 1153 (Int32.toNatClampNeg x1) v3) 1153 from (K15.2 1153 rfl).1]; exact h53p
    have p15_0' : (ps_i s15 1131 8).toInt ≤ (ps_i s15 1131 4).toInt := p15_0
    have r17 := mf_8 J15
    have r18 := mf_4 J15
    have u19 : (ps_i s15 1131 4).toInt = (ps_i s 1131 4).toInt := xeq (kp_i K15 4 rfl)
    have r20 := mf_5 J15
    have u21 : (ps_i s15 1131 5).toInt = (ps_i s 1131 5).toInt := xeq (kp_i K15 5 rfl)
    have r22 : -1 ≤ (ps_a s15 1153 (Int32.toNatClampNeg x1)).toInt ∧ (ps_a s15 1153 (Int32.toNatClampNeg x1)).toInt ≤ 9999 := ma_1153 (i := x1) J15 (show 0 ≤ x1.toInt from by omega) (show x1.toInt < 40 from by omega)
    have u23 : (ps_a s15 1153 (Int32.toNatClampNeg x1)).toInt = (ps_a (ps_ua s 1153 (Int32.toNatClampNeg x1) v3) 1153 (Int32.toNatClampNeg x1)).toInt := xeq (kp_a K15 1153 rfl _)
    have w24 : (ps_a (ps_ua s 1153 (Int32.toNatClampNeg x1) v3) 1153 (Int32.toNatClampNeg x1)).toInt = v3.toInt := xeq ua_eq
    have r25 := mf_22 J15
    have u26 : (ps_i s15 1131 22).toInt = (ps_i s 1131 22).toInt := xeq (kp_i K15 22 rfl)
    have r27 : 0 ≤ (ps_a s15 1137 (Int32.toNatClampNeg (ps_i s15 1131 22))).toInt ∧ (ps_a s15 1137 (Int32.toNatClampNeg (ps_i s15 1131 22))).toInt ≤ 8 := ma_1137 (i := (ps_i s15 1131 22)) J15 (show 0 ≤ (ps_i s15 1131 22).toInt from by omega) (show (ps_i s15 1131 22).toInt < 2 from by omega)
    have u28 : (ps_a s15 1137 (Int32.toNatClampNeg (ps_i s15 1131 22))).toInt = (ps_a s 1137 (Int32.toNatClampNeg (ps_i s15 1131 22))).toInt := xeq (kp_a K15 1137 rfl _)
    have r29 : 0 ≤ (ps_a s 1137 (Int32.toNatClampNeg (ps_i s15 1131 22))).toInt ∧ (ps_a s 1137 (Int32.toNatClampNeg (ps_i s15 1131 22))).toInt ≤ 8 := ma_1137 (i := (ps_i s15 1131 22)) J (show 0 ≤ (ps_i s15 1131 22).toInt from by omega) (show (ps_i s15 1131 22).toInt < 2 from by omega)
    exact k _ J15 K16 (show (ps_i s15 1131 8).toInt ≤ (ps_i s15 1131 4).toInt from by omega) (show 1 ≤ (ps_i s15 1131 5).toInt ∨ (0 ≤ (ps_a s15 1153 (Int32.toNatClampNeg x1)).toInt ∧ (ps_a s15 1153 (Int32.toNatClampNeg x1)).toInt < (ps_a s15 1137 (Int32.toNatClampNeg (ps_i s15 1131 22))).toInt) from by first | omega | (have e22 : ps_i s15 1131 22 = ps_i s 1131 22 := kp_i KC 22 rfl; have e23 : (ps_a s15 1137 (Int32.toNatClampNeg (ps_i s15 1131 22))).toInt = (ps_a s 1137 (Int32.toNatClampNeg (ps_i s 1131 22))).toInt := (by rw [show ps_a s15 1137 = ps_a s 1137 from (KC.2 1137 rfl).1, e22]); omega)) h53p

theorem ms_239 {x : Nat → Nat → Nat} {t : Int32} {s : ps_S} {d : Nat} {x1 : Int32} {f : ps_S → Prop} (J : mJ x t s) (q0 : (ps_i s 1131 8).toInt ≤ (ps_i s 1131 4).toInt) (q1 : 0 ≤ x1.toInt) (q2 : x1.toInt < 40) (q3 : (ps_i s 1131 5).toInt = 0) (k : ∀ (s' : ps_S), mJ x t s' → kp [1153] [5, 6, 7, 8, 9, 10, 11] s s' → ((ps_i s' 1131 8).toInt ≤ (ps_i s' 1131 4).toInt) → (1 ≤ (ps_i s' 1131 5).toInt ∨ (0 ≤ (ps_a s' 1153 (Int32.toNatClampNeg x1)).toInt ∧ (ps_a s' 1153 (Int32.toNatClampNeg x1)).toInt < (ps_a s' 1137 (Int32.toNatClampNeg (ps_i s' 1131 22))).toInt)) → (∀ j : Nat, j ≠ x1.toInt.toNat → ps_a s' 1153 j = ps_a s 1153 j) → f s') : ps_Cl (d + 2) 239 [.ref 1131, .int x1] s (ps_rV f) := by
  have r1 := mf_8 J
  have r2 := mf_4 J
  have r3 := mf_5 J
  have K : kp [1153] [5, 6, 7, 8, 9, 10, 11] s s := kp_refl
  refine pg_239_0 (d := d + 1) ?_
  have h53 : ∀ j : Nat, ps_a s 1153 j = ps_a s 1153 j := fun _ => rfl
  have r4 := mf_9 J
  refine And.intro (fun h5 => ?_) (fun h5 => ?_)
  · have f6 : (ps_i s 1131 9).toInt = (2 : Int) := xeq h5
    refine mx_205 J  (fun v7 p7_0 p7_1 p7_2 p7_3 => ?_)
    have p7_0' : -1 ≤ v7.toInt := p7_0
    have p7_1' : v7.toInt < (ps_a s 1137 (Int32.toNatClampNeg (ps_i s 1131 22))).toInt := p7_1
    have r8 := mf_22 J
    have r9 : 0 ≤ (ps_a s 1137 (Int32.toNatClampNeg (ps_i s 1131 22))).toInt ∧ (ps_a s 1137 (Int32.toNatClampNeg (ps_i s 1131 22))).toInt ≤ 8 := ma_1137 (i := (ps_i s 1131 22)) J (show 0 ≤ (ps_i s 1131 22).toInt from by omega) (show (ps_i s 1131 22).toInt < 2 from by omega)
    have hz : _ := p7_2
    refine And.intro (fun h10 => ?_) (fun h10 => ?_)
    · have f11 : (0 : Int) ≤ v7.toInt := xle h10
      exact ms_239_32 (x1 := x1) k   _ J K (show (ps_i s 1131 8).toInt ≤ (ps_i s 1131 4).toInt from by omega) (show 0 ≤ x1.toInt from by omega) (show x1.toInt < 40 from by omega) ((by first | exact Or.inl (show 1 ≤ (ps_i s 1131 5).toInt from by omega) | (refine Or.inr ⟨_, ?_, ?_, hz (by omega)⟩ <;> omega))) h53
    · have f12 : v7.toInt < (0 : Int) := xlt h10
      have r13 := mf_7 J
      refine ms_191 J (show 1 ≤ (6 : Int) from by omega) (show (6 : Int) ≤ 6 from by omega) (fun s14 J14 K14 p14_0 => ?_)
      have K15 := kpt K K14 rfl rfl
      have KC := K14
      have h53 : ∀ j : Nat, ps_a s14 1153 j = ps_a s 1153 j := by rw [show ps_a s14 1153 = ps_a s 1153 from (K14.2 1153 rfl).1]; exact h53
      have p14_0' : 1 ≤ (ps_i s14 1131 5).toInt := p14_0
      have r16 := mf_5 J14
      have r17 := mf_8 J14
      have u18 : (ps_i s14 1131 8).toInt = (ps_i s 1131 8).toInt := xeq (kp_i K14 8 rfl)
      have r19 := mf_4 J14
      have u20 : (ps_i s14 1131 4).toInt = (ps_i s 1131 4).toInt := xeq (kp_i K14 4 rfl)
      exact ms_239_32 (x1 := x1) k   _ J14 K15 (show (ps_i s14 1131 8).toInt ≤ (ps_i s14 1131 4).toInt from by omega) (show 0 ≤ x1.toInt from by omega) (show x1.toInt < 40 from by omega) ((by first | exact Or.inl (show 1 ≤ (ps_i s14 1131 5).toInt from by omega) | (refine Or.inr ⟨_, ?_, ?_, hz (by omega)⟩ <;> omega))) h53
  · have f21 : (ps_i s 1131 9).toInt ≠ (2 : Int) := xne h5
    refine ms_196 J  (fun s22 J22 K22 p22_0 => ?_)
    have K23 := kpt K K22 rfl rfl
    have KC := K22
    have h53 : ∀ j : Nat, ps_a s22 1153 j = ps_a s 1153 j := by rw [show ps_a s22 1153 = ps_a s 1153 from (K22.2 1153 rfl).1]; exact h53
    have p22_0' : 1 ≤ (ps_i s22 1131 5).toInt := p22_0
    have r24 := mf_5 J22
    have r25 := mf_8 J22
    have u26 : (ps_i s22 1131 8).toInt = (ps_i s 1131 8).toInt := xeq (kp_i K22 8 rfl)
    have r27 := mf_4 J22
    have u28 : (ps_i s22 1131 4).toInt = (ps_i s 1131 4).toInt := xeq (kp_i K22 4 rfl)
    exact ms_239_32 (x1 := x1) k   _ J22 K23 (show (ps_i s22 1131 8).toInt ≤ (ps_i s22 1131 4).toInt from by omega) (show 0 ≤ x1.toInt from by omega) (show x1.toInt < 40 from by omega) ((by first | exact Or.inl (show 1 ≤ (ps_i s22 1131 5).toInt from by omega) | (refine Or.inr ⟨_, ?_, ?_, hz (by omega)⟩ <;> omega))) h53
