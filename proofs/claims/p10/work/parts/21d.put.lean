set_option maxRecDepth 100000
-- ProofBenchModel.putIn(III)V
theorem pg_231_0 {d : Nat} {x1 : Int32} {x2 : Int32} {x3 : Int32} {s : ps_S} {Q : Option Value → ps_S → Prop} (h :
  ps_At (d + 1) 231 6 [(0, .ref 1131), (1, .int x1), (2, .int x2), (3, .int x3), (4, .int 0), (5, .int 1)] [] s Q) : ps_At (d + 1) 231 0 [(0, .ref 1131), (1, .int x1), (2, .int x2), (3, .int x3)] [] s Q :=
  ps_wp_at (stops := [(6, [0, 1, 2, 3, 4, 5]), (16, [0, 1, 2, 3, 4, 5]), (41, [0, 1, 2, 3, 4, 5]), (89, [0, 1, 2, 3, 4, 5, 6]), (101, [0, 1, 2, 3, 4, 5])]) (n := 6) h rfl

theorem pg_231_6 {d : Nat} {x1 : Int32} {x2 : Int32} {x3 : Int32} {x4 : Int32} {x5 : Int32} {s : ps_S} {Q : Option Value → ps_S → Prop} (h :
  ps_Cl d 219 [.ref 1131, .int x1] s (ps_rI (fun v1 s1 =>
    (v1 ≤ x5 →
      Q none s1) ∧
    (x5 < v1 →
      ps_At (d + 1) 231 16 [(0, .ref 1131), (1, .int x1), (2, .int x2), (3, .int x3), (4, .int x4), (5, .int x5)] [] s1 Q)))) : ps_At (d + 1) 231 6 [(0, .ref 1131), (1, .int x1), (2, .int x2), (3, .int x3), (4, .int x4), (5, .int x5)] [] s Q :=
  ps_wp_at (stops := [(6, [0, 1, 2, 3, 4, 5]), (16, [0, 1, 2, 3, 4, 5]), (41, [0, 1, 2, 3, 4, 5]), (89, [0, 1, 2, 3, 4, 5, 6]), (101, [0, 1, 2, 3, 4, 5])]) (n := 8) h rfl

theorem pg_231_16 {d : Nat} {x1 : Int32} {x2 : Int32} {x3 : Int32} {x4 : Int32} {x5 : Int32} {s : ps_S} {Q : Option Value → ps_S → Prop} (h :
  (x4 ≤ 0 →
    ps_At (d + 1) 231 41 [(0, .ref 1131), (1, .int x1), (2, .int x2), (3, .int x3), (4, .int x4), (5, .int x5)] [] s Q) ∧
  (0 < x4 →
    ps_nd (pm_in (x4 - 1) 260) ((x5 < (ps_a s 1150 (Int32.toNatClampNeg (x4 - 1))) →
      ps_At (d + 1) 231 41 [(0, .ref 1131), (1, .int x1), (2, .int x2), (3, .int x3), (4, .int x4), (5, .int x5)] [] s Q) ∧
    ((ps_a s 1150 (Int32.toNatClampNeg (x4 - 1))) ≤ x5 →
      ps_At (d + 1) 231 16 [(0, .ref 1131), (1, .int x1), (2, .int x2), (3, .int x3), (4, .int (x4 + (Int32.ofInt (-1)))), (5, .int x5)] [] s Q)))) : ps_At (d + 1) 231 16 [(0, .ref 1131), (1, .int x1), (2, .int x2), (3, .int x3), (4, .int x4), (5, .int x5)] [] s Q :=
  ps_wp_at (stops := [(6, [0, 1, 2, 3, 4, 5]), (16, [0, 1, 2, 3, 4, 5]), (41, [0, 1, 2, 3, 4, 5]), (89, [0, 1, 2, 3, 4, 5, 6]), (101, [0, 1, 2, 3, 4, 5])]) (n := 14) h rfl

theorem pg_231_41 {d : Nat} {x1 : Int32} {x2 : Int32} {x3 : Int32} {x4 : Int32} {x5 : Int32} {s : ps_S} {Q : Option Value → ps_S → Prop} (h :
  ps_Cl d 220 [.ref 1131, .int x1, .int x5] s (ps_rI (fun v1 s1 =>
    (v1 ≠ ((40 : Int32) + x4) →
      ps_Cl d 225 [.ref 1131, .int v1] s1 (ps_rV (fun s2 =>
        ps_At (d + 1) 231 89 [(0, .ref 1131), (1, .int x1), (2, .int x2), (3, .int x3), (4, .int x4), (5, .int x5), (6, .int v1)] [] s2 Q))) ∧
    (v1 = ((40 : Int32) + x4) →
      (x2 < 0 →
        ps_Cl d 225 [.ref 1131, .int ((60 : Int32) + x3)] s1 (ps_rV (fun s3 =>
          ps_At (d + 1) 231 89 [(0, .ref 1131), (1, .int x1), (2, .int x2), (3, .int x3), (4, .int x4), (5, .int x5), (6, .int v1)] [] s3 Q))) ∧
      (0 ≤ x2 →
        ps_Cl d 227 [.ref 1131, .int x2] s1 (ps_rV (fun s4 =>
          ps_At (d + 1) 231 89 [(0, .ref 1131), (1, .int x1), (2, .int x2), (3, .int x3), (4, .int x4), (5, .int x5), (6, .int v1)] [] s4 Q))))))) : ps_At (d + 1) 231 41 [(0, .ref 1131), (1, .int x1), (2, .int x2), (3, .int x3), (4, .int x4), (5, .int x5)] [] s Q :=
  ps_wp_at (stops := [(6, [0, 1, 2, 3, 4, 5]), (16, [0, 1, 2, 3, 4, 5]), (41, [0, 1, 2, 3, 4, 5]), (89, [0, 1, 2, 3, 4, 5, 6]), (101, [0, 1, 2, 3, 4, 5])]) (n := 27) h rfl

theorem pg_231_89 {d : Nat} {x1 : Int32} {x2 : Int32} {x3 : Int32} {x4 : Int32} {x5 : Int32} {x6 : Int32} {s : ps_S} {Q : Option Value → ps_S → Prop} (h :
  (x6 = 4 →
    ps_At (d + 1) 231 101 [(0, .ref 1131), (1, .int x1), (2, .int x2), (3, .int x3), (4, .int x4), (5, .int x5)] [] s Q) ∧
  (x6 ≠ 4 →
    (x6 ≠ 5 →
      ps_At (d + 1) 231 6 [(0, .ref 1131), (1, .int x1), (2, .int x2), (3, .int x3), (4, .int x4), (5, .int (x5 + 1))] [] s Q) ∧
    (x6 = 5 →
      ps_At (d + 1) 231 101 [(0, .ref 1131), (1, .int x1), (2, .int x2), (3, .int x3), (4, .int x4), (5, .int x5)] [] s Q))) : ps_At (d + 1) 231 89 [(0, .ref 1131), (1, .int x1), (2, .int x2), (3, .int x3), (4, .int x4), (5, .int x5), (6, .int x6)] [] s Q :=
  ps_wp_at (stops := [(6, [0, 1, 2, 3, 4, 5]), (16, [0, 1, 2, 3, 4, 5]), (41, [0, 1, 2, 3, 4, 5]), (89, [0, 1, 2, 3, 4, 5, 6]), (101, [0, 1, 2, 3, 4, 5])]) (n := 10) h rfl

theorem pg_231_101 {d : Nat} {x1 : Int32} {x2 : Int32} {x3 : Int32} {x4 : Int32} {x5 : Int32} {s : ps_S} {Q : Option Value → ps_S → Prop} (h :
  ps_Cl d 221 [.ref 1131, .int x1, .int x5] s (ps_rI (fun v1 s1 =>
    ps_nd (pm_in x4 260) (ps_At (d + 1) 231 6 [(0, .ref 1131), (1, .int x1), (2, .int x2), (3, .int x3), (4, .int (x4 + 1)), (5, .int (x5 + 1))] [] (ps_ua s1 1150 (Int32.toNatClampNeg x4) v1) Q)))) : ps_At (d + 1) 231 101 [(0, .ref 1131), (1, .int x1), (2, .int x2), (3, .int x3), (4, .int x4), (5, .int x5)] [] s Q :=
  ps_wp_at (stops := [(6, [0, 1, 2, 3, 4, 5]), (16, [0, 1, 2, 3, 4, 5]), (41, [0, 1, 2, 3, 4, 5]), (89, [0, 1, 2, 3, 4, 5, 6]), (101, [0, 1, 2, 3, 4, 5])]) (n := 13) h rfl

theorem ms_231_101 {x : Nat → Nat → Nat} {t : Int32} {d : Nat} {s0 : ps_S} {σ : mSig} {c0 : Nat} {body_k ml : List Nat} {Wb_k : List Bool} {x1 : Int32} {x2 : Int32} {x3 : Int32} {Q : Option Value → ps_S → Prop} (k : ∀ (s' : ps_S), mJ x t s' → kp [1149, 1150] [34] s0 s' → (∃ m : List Nat, m.length ≤ 1600 ∧ rp σ body_k m ∧ Md (ps_a s' 1149) (ps_i s' 1131 34).toInt (ml ++ m)) → Q none s') (n6 : Nat) (KH6 : ∀ (x4 : Int32) (x5 : Int32) (b1_k : List Nat) (b2_k : List Nat) (W_k : List Bool) (m1_k : List Nat) (s : ps_S), (mJ x t s) → (kp [1149, 1150] [34] s0 s) → (Sg (ps_a s 1135) (ps_a s 1136) (ps_a s 1138) (ps_a s 1139) (ps_i s 1131 21).toInt σ) → (Rw (ps_a s 1134) x1.toInt (c0 :: body_k)) → ((x2.toInt < 0 ∧ 0 ≤ x3.toInt ∧ x3.toInt ≤ 11) ∨ (0 ≤ x2.toInt ∧ ∃ tl_k : List Nat, Rw (ps_a s 1134) x2.toInt tl_k ∧ ws σ tl_k [false])) → (ml.length ≤ 1000) → (0 ≤ x4.toInt) → (x4.toInt < x5.toInt) → (x5.toInt ≤ 40) → (x5.toInt = (1 + b1_k.length : Int)) → (body_k = b1_k ++ b2_k) → (ws σ b2_k W_k) → (rp σ b1_k m1_k) → (m1_k.length ≤ 40 * b1_k.length) → (Md (ps_a s 1149) (ps_i s 1131 34).toInt (ml ++ m1_k)) → (41 - x5.toInt ≤ (n6 : Int) - 1) → ps_At (d + 3) 231 6 [(0, .ref 1131), (1, .int x1), (2, .int x2), (3, .int x3), (4, .int x4), (5, .int x5)] [] s Q) (x4 : Int32) (x5 : Int32) (b1_k : List Nat) (c : Nat) (b3_k : List Nat) (W_k : List Bool) (m2_k : List Nat) (s : ps_S) (J : mJ x t s) (K : kp [1149, 1150] [34] s0 s) (hS : Sg (ps_a s 1135) (ps_a s 1136) (ps_a s 1138) (ps_a s 1139) (ps_i s 1131 21).toInt σ) (hR : Rw (ps_a s 1134) x1.toInt (c0 :: body_k)) (hT : (x2.toInt < 0 ∧ 0 ≤ x3.toInt ∧ x3.toInt ≤ 11) ∨ (0 ≤ x2.toInt ∧ ∃ tl_k : List Nat, Rw (ps_a s 1134) x2.toInt tl_k ∧ ws σ tl_k [false])) (i3_k : ml.length ≤ 1000) (i4_k : 0 ≤ x4.toInt) (i5_k : x4.toInt < x5.toInt) (i6_k : x5.toInt ≤ 40) (i7_k : x5.toInt = (1 + b1_k.length : Int)) (i8_k : body_k = b1_k ++ c :: b3_k) (i9_k : ws σ (c :: b3_k) W_k) (i10_k : rp σ (b1_k ++ [c]) m2_k) (i11_k : m2_k.length ≤ 40 * (b1_k.length + 1)) (i12_k : Md (ps_a s 1149) (ps_i s 1131 34).toInt (ml ++ m2_k)) (hm6 : 41 - x5.toInt ≤ (n6 : Int)) : ps_At (d + 3) 231 101 [(0, .ref 1131), (1, .int x1), (2, .int x2), (3, .int x3), (4, .int x4), (5, .int x5)] [] s Q := by
  refine pg_231_101 (d := d + 2) ?_
  obtain ⟨hr1, hr2, hr3, hr4, hr5, hr6⟩ := id hR
  have hr1 : x1.toInt % 41 = 0 := hr1
  have hr2 : 0 ≤ x1.toInt := hr2
  have hr3 : x1.toInt < 27306 := hr3
  have i7_k : x5.toInt = (1 + b1_k.length : Int) := i7_k
  have hl_k : (body_k.length : Int) = b1_k.length + (b3_k.length + 1) := by rw [i8_k, llen, llenc]
  have hr4 : body_k.length + 1 ≤ 40 := hr4
  obtain ⟨bb_k, W2_k, rfl⟩ := ws_W i9_k
  obtain ⟨ks_k, hk_k, hw_k⟩ := ws_hd i9_k
  obtain ⟨p, q, hpq_k, hp1, hp2⟩ := ws_split (W1 := [bb_k]) (W2 := W2_k) i9_k
  refine ms_221 J hS ((show Rw (ps_a s 1134) (x1).toInt ((c0 :: b1_k) ++ (p ++ q)) from by rw [← hpq_k]; have z_k := hR; rw [i8_k] at z_k; exact z_k)) ((i7_k.trans (by rw [llenc]; omega))) (hp1) (fun v1 p1_0 => ?_)
  refine ps_nd_i (show pm_in x4 260 = true from xgi (show 0 ≤ x4.toInt from by omega) (show x4.toInt < 260 from by omega)) ?_
  have J2 := mwa_n 1150 (i := (Int32.toNatClampNeg x4)) (v := v1) J rfl (by decide)
  have K3 := kpa' K (r := 1150) (i := (Int32.toNatClampNeg x4)) (v := v1) rfl
  have a4_k : (x4 + 1).toInt = x4.toInt + (1 : Int) := xIa (show -2147483648 ≤ x4.toInt + (1 : Int) from by omega) (show x4.toInt + (1 : Int) < 2147483648 from by omega)
  have a5_k : (x5 + 1).toInt = x5.toInt + (1 : Int) := xIa (show -2147483648 ≤ x5.toInt + (1 : Int) from by omega) (show x5.toInt + (1 : Int) < 2147483648 from by omega)
  exact KH6 (x4 + 1) (x5 + 1) (b1_k ++ [c]) b3_k (ks_k ++ W2_k) m2_k _ J2 K3 hS hR hT (by assumption) (show 0 ≤ (x4 + 1).toInt from by omega) (show (x4 + 1).toInt < (x5 + 1).toInt from by omega) (show (x5 + 1).toInt ≤ 40 from by omega) ((show ((x5 + 1)).toInt = (1 + (b1_k ++ [c]).length : Int) from by rw [l1c]; omega)) (i8_k.trans (lcat b1_k c b3_k)) (hw_k) (by assumption) ((by rw [List.length_append]; exact i11_k)) (by assumption) (show 41 - (x5 + 1).toInt ≤ (n6 : Int) - 1 from by omega)

theorem ms_231_89 {x : Nat → Nat → Nat} {t : Int32} {d : Nat} {s0 : ps_S} {σ : mSig} {c0 : Nat} {body_k ml : List Nat} {Wb_k : List Bool} {x1 : Int32} {x2 : Int32} {x3 : Int32} {Q : Option Value → ps_S → Prop} (k : ∀ (s' : ps_S), mJ x t s' → kp [1149, 1150] [34] s0 s' → (∃ m : List Nat, m.length ≤ 1600 ∧ rp σ body_k m ∧ Md (ps_a s' 1149) (ps_i s' 1131 34).toInt (ml ++ m)) → Q none s') (n6 : Nat) (KH6 : ∀ (x4 : Int32) (x5 : Int32) (b1_k : List Nat) (b2_k : List Nat) (W_k : List Bool) (m1_k : List Nat) (s : ps_S), (mJ x t s) → (kp [1149, 1150] [34] s0 s) → (Sg (ps_a s 1135) (ps_a s 1136) (ps_a s 1138) (ps_a s 1139) (ps_i s 1131 21).toInt σ) → (Rw (ps_a s 1134) x1.toInt (c0 :: body_k)) → ((x2.toInt < 0 ∧ 0 ≤ x3.toInt ∧ x3.toInt ≤ 11) ∨ (0 ≤ x2.toInt ∧ ∃ tl_k : List Nat, Rw (ps_a s 1134) x2.toInt tl_k ∧ ws σ tl_k [false])) → (ml.length ≤ 1000) → (0 ≤ x4.toInt) → (x4.toInt < x5.toInt) → (x5.toInt ≤ 40) → (x5.toInt = (1 + b1_k.length : Int)) → (body_k = b1_k ++ b2_k) → (ws σ b2_k W_k) → (rp σ b1_k m1_k) → (m1_k.length ≤ 40 * b1_k.length) → (Md (ps_a s 1149) (ps_i s 1131 34).toInt (ml ++ m1_k)) → (41 - x5.toInt ≤ (n6 : Int) - 1) → ps_At (d + 3) 231 6 [(0, .ref 1131), (1, .int x1), (2, .int x2), (3, .int x3), (4, .int x4), (5, .int x5)] [] s Q) (x4 : Int32) (x5 : Int32) (x6 : Int32) (b1_k : List Nat) (c : Nat) (b3_k : List Nat) (W_k : List Bool) (m2_k : List Nat) (s : ps_S) (J : mJ x t s) (K : kp [1149, 1150] [34] s0 s) (hS : Sg (ps_a s 1135) (ps_a s 1136) (ps_a s 1138) (ps_a s 1139) (ps_i s 1131 21).toInt σ) (hR : Rw (ps_a s 1134) x1.toInt (c0 :: body_k)) (hT : (x2.toInt < 0 ∧ 0 ≤ x3.toInt ∧ x3.toInt ≤ 11) ∨ (0 ≤ x2.toInt ∧ ∃ tl_k : List Nat, Rw (ps_a s 1134) x2.toInt tl_k ∧ ws σ tl_k [false])) (i3_k : ml.length ≤ 1000) (i4_k : 0 ≤ x4.toInt) (i5_k : x4.toInt < x5.toInt) (i6_k : x5.toInt ≤ 40) (i7_k : x5.toInt = (1 + b1_k.length : Int)) (i8_k : body_k = b1_k ++ c :: b3_k) (i9_k : ws σ (c :: b3_k) W_k) (i10_k : rp σ (b1_k ++ [c]) m2_k) (i11_k : m2_k.length ≤ 40 * (b1_k.length + 1)) (i12_k : Md (ps_a s 1149) (ps_i s 1131 34).toInt (ml ++ m2_k)) (i13_k : x6.toInt = (c : Int)) (hm6 : 41 - x5.toInt ≤ (n6 : Int)) : ps_At (d + 3) 231 89 [(0, .ref 1131), (1, .int x1), (2, .int x2), (3, .int x3), (4, .int x4), (5, .int x5), (6, .int x6)] [] s Q := by
  refine pg_231_89 (d := d + 2) ?_
  obtain ⟨hr1, hr2, hr3, hr4, hr5, hr6⟩ := id hR
  have hr1 : x1.toInt % 41 = 0 := hr1
  have hr2 : 0 ≤ x1.toInt := hr2
  have hr3 : x1.toInt < 27306 := hr3
  have i7_k : x5.toInt = (1 + b1_k.length : Int) := i7_k
  have hl_k : (body_k.length : Int) = b1_k.length + (b3_k.length + 1) := by rw [i8_k, llen, llenc]
  have hr4 : body_k.length + 1 ≤ 40 := hr4
  obtain ⟨bb_k, W2_k, rfl⟩ := ws_W i9_k
  obtain ⟨ks_k, hk_k, hw_k⟩ := ws_hd i9_k
  refine And.intro (fun h1_k => ?_) (fun h1_k => ?_)
  · have f2_k : x6.toInt = (4 : Int) := xeq h1_k
    exact ms_231_101 (x1 := x1) (x2 := x2) (x3 := x3) (σ := σ) (c0 := c0) (body_k := body_k) (ml := ml) (Wb_k := Wb_k) k n6 KH6 x4 x5 b1_k c b3_k (bb_k :: W2_k) m2_k _ J K hS hR hT (by assumption) (show 0 ≤ x4.toInt from by omega) (show x4.toInt < x5.toInt from by omega) (show x5.toInt ≤ 40 from by omega) (by assumption) (by assumption) (by assumption) (by assumption) (by assumption) (by assumption) (show 41 - x5.toInt ≤ (n6 : Int) from by omega)
  · have f3_k : x6.toInt ≠ (4 : Int) := xne h1_k
    refine And.intro (fun h4_k => ?_) (fun h4_k => ?_)
    · have f5_k : x6.toInt ≠ (5 : Int) := xne h4_k
      have a6_k : (x5 + 1).toInt = x5.toInt + (1 : Int) := xIa (show -2147483648 ≤ x5.toInt + (1 : Int) from by omega) (show x5.toInt + (1 : Int) < 2147483648 from by omega)
      exact KH6 x4 (x5 + 1) (b1_k ++ [c]) b3_k (ks_k ++ W2_k) m2_k _ J K hS hR hT (by assumption) (show 0 ≤ x4.toInt from by omega) (show x4.toInt < (x5 + 1).toInt from by omega) (show (x5 + 1).toInt ≤ 40 from by omega) ((show ((x5 + 1)).toInt = (1 + (b1_k ++ [c]).length : Int) from by rw [l1c]; omega)) (i8_k.trans (lcat b1_k c b3_k)) (hw_k) (by assumption) ((by rw [List.length_append]; exact i11_k)) (by assumption) (show 41 - (x5 + 1).toInt ≤ (n6 : Int) - 1 from by omega)
    · have f7_k : x6.toInt = (5 : Int) := xeq h4_k
      exact ms_231_101 (x1 := x1) (x2 := x2) (x3 := x3) (σ := σ) (c0 := c0) (body_k := body_k) (ml := ml) (Wb_k := Wb_k) k n6 KH6 x4 x5 b1_k c b3_k (bb_k :: W2_k) m2_k _ J K hS hR hT (by assumption) (show 0 ≤ x4.toInt from by omega) (show x4.toInt < x5.toInt from by omega) (show x5.toInt ≤ 40 from by omega) (by assumption) (by assumption) (by assumption) (by assumption) (by assumption) (by assumption) (show 41 - x5.toInt ≤ (n6 : Int) from by omega)

theorem ms_231_41 {x : Nat → Nat → Nat} {t : Int32} {d : Nat} {s0 : ps_S} {σ : mSig} {c0 : Nat} {body_k ml : List Nat} {Wb_k : List Bool} {x1 : Int32} {x2 : Int32} {x3 : Int32} {Q : Option Value → ps_S → Prop} (k : ∀ (s' : ps_S), mJ x t s' → kp [1149, 1150] [34] s0 s' → (∃ m : List Nat, m.length ≤ 1600 ∧ rp σ body_k m ∧ Md (ps_a s' 1149) (ps_i s' 1131 34).toInt (ml ++ m)) → Q none s') (n6 : Nat) (KH6 : ∀ (x4 : Int32) (x5 : Int32) (b1_k : List Nat) (b2_k : List Nat) (W_k : List Bool) (m1_k : List Nat) (s : ps_S), (mJ x t s) → (kp [1149, 1150] [34] s0 s) → (Sg (ps_a s 1135) (ps_a s 1136) (ps_a s 1138) (ps_a s 1139) (ps_i s 1131 21).toInt σ) → (Rw (ps_a s 1134) x1.toInt (c0 :: body_k)) → ((x2.toInt < 0 ∧ 0 ≤ x3.toInt ∧ x3.toInt ≤ 11) ∨ (0 ≤ x2.toInt ∧ ∃ tl_k : List Nat, Rw (ps_a s 1134) x2.toInt tl_k ∧ ws σ tl_k [false])) → (ml.length ≤ 1000) → (0 ≤ x4.toInt) → (x4.toInt < x5.toInt) → (x5.toInt ≤ 40) → (x5.toInt = (1 + b1_k.length : Int)) → (body_k = b1_k ++ b2_k) → (ws σ b2_k W_k) → (rp σ b1_k m1_k) → (m1_k.length ≤ 40 * b1_k.length) → (Md (ps_a s 1149) (ps_i s 1131 34).toInt (ml ++ m1_k)) → (41 - x5.toInt ≤ (n6 : Int) - 1) → ps_At (d + 3) 231 6 [(0, .ref 1131), (1, .int x1), (2, .int x2), (3, .int x3), (4, .int x4), (5, .int x5)] [] s Q) (x4 : Int32) (x5 : Int32) (b1_k : List Nat) (c : Nat) (b3_k : List Nat) (W_k : List Bool) (m1_k : List Nat) (s : ps_S) (J : mJ x t s) (K : kp [1149, 1150] [34] s0 s) (hS : Sg (ps_a s 1135) (ps_a s 1136) (ps_a s 1138) (ps_a s 1139) (ps_i s 1131 21).toInt σ) (hR : Rw (ps_a s 1134) x1.toInt (c0 :: body_k)) (hT : (x2.toInt < 0 ∧ 0 ≤ x3.toInt ∧ x3.toInt ≤ 11) ∨ (0 ≤ x2.toInt ∧ ∃ tl_k : List Nat, Rw (ps_a s 1134) x2.toInt tl_k ∧ ws σ tl_k [false])) (i3_k : ml.length ≤ 1000) (i4_k : 0 ≤ x4.toInt) (i5_k : x4.toInt < x5.toInt) (i6_k : x5.toInt ≤ 40) (i7_k : x5.toInt = (1 + b1_k.length : Int)) (i8_k : body_k = b1_k ++ c :: b3_k) (i9_k : ws σ (c :: b3_k) W_k) (i10_k : rp σ b1_k m1_k) (i11_k : m1_k.length ≤ 40 * b1_k.length) (i12_k : Md (ps_a s 1149) (ps_i s 1131 34).toInt (ml ++ m1_k)) (hm6 : 41 - x5.toInt ≤ (n6 : Int)) : ps_At (d + 3) 231 41 [(0, .ref 1131), (1, .int x1), (2, .int x2), (3, .int x3), (4, .int x4), (5, .int x5)] [] s Q := by
  refine pg_231_41 (d := d + 2) ?_
  obtain ⟨hr1, hr2, hr3, hr4, hr5, hr6⟩ := id hR
  have hr1 : x1.toInt % 41 = 0 := hr1
  have hr2 : 0 ≤ x1.toInt := hr2
  have hr3 : x1.toInt < 27306 := hr3
  have i7_k : x5.toInt = (1 + b1_k.length : Int) := i7_k
  have hl_k : (body_k.length : Int) = b1_k.length + (b3_k.length + 1) := by rw [i8_k, llen, llenc]
  have hr4 : body_k.length + 1 ≤ 40 := hr4
  have hp_k : (ps_a s 1134 (Int32.toNatClampNeg ((x1 + 1) + x5))).toInt = (c : Int) := Rw_p (l1 := c0 :: b1_k) (l2 := b3_k) hR (by rw [i8_k]; rfl) (i7_k.trans (by rw [llenc]; omega))
  have hc_k : c < 72 := ws_72 (Sg_σ hS) i9_k c List.mem_cons_self
  have hml_k : (ml ++ m1_k).length = ml.length + m1_k.length := List.length_append
  have h34_k := i12_k.1
  refine pg_220_0 ?_
  have a1_k : (x1 + 1).toInt = x1.toInt + (1 : Int) := xIa (show -2147483648 ≤ x1.toInt + (1 : Int) from by omega) (show x1.toInt + (1 : Int) < 2147483648 from by omega)
  have a2_k : ((x1 + 1) + x5).toInt = (x1 + 1).toInt + x5.toInt := xIa (show -2147483648 ≤ (x1 + 1).toInt + x5.toInt from by omega) (show (x1 + 1).toInt + x5.toInt < 2147483648 from by omega)
  refine ps_nd_i (show pm_in ((x1 + 1) + x5) 27400 = true from xgi (show 0 ≤ ((x1 + 1) + x5).toInt from by omega) (show ((x1 + 1) + x5).toInt < 27400 from by omega)) ?_
  have r3_k : ((x1 + 1) + x5).toInt % 41 = 0 → ((x1 + 1) + x5).toInt < 27306 → 0 ≤ (ps_a s 1134 (Int32.toNatClampNeg ((x1 + 1) + x5))).toInt ∧ (ps_a s 1134 (Int32.toNatClampNeg ((x1 + 1) + x5))).toInt ≤ 40 := fun z1_k z2_k => mp_row (i := ((x1 + 1) + x5)) J z1_k (show 0 ≤ ((x1 + 1) + x5).toInt from by omega) z2_k
  have a4_k : ((40 : Int32) + x4).toInt = (40 : Int) + x4.toInt := xIa (show -2147483648 ≤ (40 : Int) + x4.toInt from by omega) (show (40 : Int) + x4.toInt < 2147483648 from by omega)
  refine And.intro (fun h5_k => ?_) (fun h5_k => ?_)
  · have f6_k : (ps_a s 1134 (Int32.toNatClampNeg ((x1 + 1) + x5))).toInt ≠ ((40 : Int32) + x4).toInt := xne h5_k
    refine pg_225_0 ?_
    have r7_k := mf_34 J
    refine And.intro (fun h8_k => ?_) (fun h8_k => ?_)
    · have f9_k : (260 : Int) ≤ (ps_i s 1131 34).toInt := xle h8_k
      have a10_k : ((ps_i s 1131 34) + 1).toInt = (ps_i s 1131 34).toInt + (1 : Int) := xIa (show -2147483648 ≤ (ps_i s 1131 34).toInt + (1 : Int) from by omega) (show (ps_i s 1131 34).toInt + (1 : Int) < 2147483648 from by omega)
      have J11 := mwi_34 (v := ((ps_i s 1131 34) + 1)) J (show 0 ≤ ((ps_i s 1131 34) + 1).toInt from by omega) (show ((ps_i s 1131 34) + 1).toInt ≤ 100000 from by omega)
      have K12 := kpi K (q := 34) (v := ((ps_i s 1131 34) + 1)) rfl
      exact ms_231_89 (x1 := x1) (x2 := x2) (x3 := x3) (σ := σ) (c0 := c0) (body_k := body_k) (ml := ml) (Wb_k := Wb_k) k n6 KH6 x4 x5 (ps_a s 1134 (Int32.toNatClampNeg ((x1 + 1) + x5))) b1_k c b3_k W_k (m1_k ++ [c]) _ J11 K12 hS hR hT (by assumption) (show 0 ≤ x4.toInt from by omega) (show x4.toInt < x5.toInt from by omega) (show x5.toInt ≤ 40 from by omega) (by assumption) (by assumption) (by assumption) (rp_snoc i10_k (Or.inl rfl)) ((by rw [List.length_append]; show _ + 1 ≤ _; omega)) ((by rw [← List.append_assoc]; first | exact Md_make i12_k hp_k (by omega) | exact Md_make' i12_k (by omega) (by omega))) (hp_k) (show 41 - x5.toInt ≤ (n6 : Int) from by omega)
    · have f13_k : (ps_i s 1131 34).toInt < (260 : Int) := xlt h8_k
      refine ps_nd_i (show pm_in (ps_i s 1131 34) 260 = true from xgi (show 0 ≤ (ps_i s 1131 34).toInt from by omega) (show (ps_i s 1131 34).toInt < 260 from by omega)) ?_
      have J14 := mwa_n 1149 (i := (Int32.toNatClampNeg (ps_i s 1131 34))) (v := (ps_a s 1134 (Int32.toNatClampNeg ((x1 + 1) + x5)))) J rfl (by decide)
      have K15 := kpa' K (r := 1149) (i := (Int32.toNatClampNeg (ps_i s 1131 34))) (v := (ps_a s 1134 (Int32.toNatClampNeg ((x1 + 1) + x5)))) rfl
      have a16_k : ((ps_i s 1131 34) + 1).toInt = (ps_i s 1131 34).toInt + (1 : Int) := xIa (show -2147483648 ≤ (ps_i s 1131 34).toInt + (1 : Int) from by omega) (show (ps_i s 1131 34).toInt + (1 : Int) < 2147483648 from by omega)
      have J17 := mwi_34 (v := ((ps_i s 1131 34) + 1)) J14 (show 0 ≤ ((ps_i s 1131 34) + 1).toInt from by omega) (show ((ps_i s 1131 34) + 1).toInt ≤ 100000 from by omega)
      have K18 := kpi K15 (q := 34) (v := ((ps_i s 1131 34) + 1)) rfl
      exact ms_231_89 (x1 := x1) (x2 := x2) (x3 := x3) (σ := σ) (c0 := c0) (body_k := body_k) (ml := ml) (Wb_k := Wb_k) k n6 KH6 x4 x5 (ps_a s 1134 (Int32.toNatClampNeg ((x1 + 1) + x5))) b1_k c b3_k W_k (m1_k ++ [c]) _ J17 K18 hS hR hT (by assumption) (show 0 ≤ x4.toInt from by omega) (show x4.toInt < x5.toInt from by omega) (show x5.toInt ≤ 40 from by omega) (by assumption) (by assumption) (by assumption) (rp_snoc i10_k (Or.inl rfl)) ((by rw [List.length_append]; show _ + 1 ≤ _; omega)) ((by rw [← List.append_assoc]; first | exact Md_make i12_k hp_k (by omega) | exact Md_make' i12_k (by omega) (by omega))) (hp_k) (show 41 - x5.toInt ≤ (n6 : Int) from by omega)
  · have f19_k : (ps_a s 1134 (Int32.toNatClampNeg ((x1 + 1) + x5))).toInt = ((40 : Int32) + x4).toInt := xeq h5_k
    refine And.intro (fun h20_k => ?_) (fun h20_k => ?_)
    · have f21_k : x2.toInt < (0 : Int) := xlt h20_k
      have hx_k : 0 ≤ x3.toInt ∧ x3.toInt ≤ 11 := by rcases hT with z_k | z_k; exact z_k.2; omega
      have a22_k : ((60 : Int32) + x3).toInt = (60 : Int) + x3.toInt := xIa (show -2147483648 ≤ (60 : Int) + x3.toInt from by omega) (show (60 : Int) + x3.toInt < 2147483648 from by omega)
      refine pg_225_0 ?_
      have r23_k := mf_34 J
      refine And.intro (fun h24_k => ?_) (fun h24_k => ?_)
      · have f25_k : (260 : Int) ≤ (ps_i s 1131 34).toInt := xle h24_k
        have a26_k : ((ps_i s 1131 34) + 1).toInt = (ps_i s 1131 34).toInt + (1 : Int) := xIa (show -2147483648 ≤ (ps_i s 1131 34).toInt + (1 : Int) from by omega) (show (ps_i s 1131 34).toInt + (1 : Int) < 2147483648 from by omega)
        have J27 := mwi_34 (v := ((ps_i s 1131 34) + 1)) J (show 0 ≤ ((ps_i s 1131 34) + 1).toInt from by omega) (show ((ps_i s 1131 34) + 1).toInt ≤ 100000 from by omega)
        have K28 := kpi K (q := 34) (v := ((ps_i s 1131 34) + 1)) rfl
        exact ms_231_89 (x1 := x1) (x2 := x2) (x3 := x3) (σ := σ) (c0 := c0) (body_k := body_k) (ml := ml) (Wb_k := Wb_k) k n6 KH6 x4 x5 (ps_a s 1134 (Int32.toNatClampNeg ((x1 + 1) + x5))) b1_k c b3_k W_k (m1_k ++ [60 + x3.toInt.toNat]) _ J27 K28 hS hR hT (by assumption) (show 0 ≤ x4.toInt from by omega) (show x4.toInt < x5.toInt from by omega) (show x5.toInt ≤ 40 from by omega) (by assumption) (by assumption) (by assumption) (rp_snoc i10_k (Or.inr ⟨by omega, hc_k, ws_1 (Sg_σ hS) (by omega) (by omega)⟩)) ((by rw [List.length_append]; show _ + 1 ≤ _; omega)) ((by rw [← List.append_assoc]; first | exact Md_make i12_k (by omega) (by omega) | exact Md_make' i12_k (by omega) (by omega))) (hp_k) (show 41 - x5.toInt ≤ (n6 : Int) from by omega)
      · have f29_k : (ps_i s 1131 34).toInt < (260 : Int) := xlt h24_k
        refine ps_nd_i (show pm_in (ps_i s 1131 34) 260 = true from xgi (show 0 ≤ (ps_i s 1131 34).toInt from by omega) (show (ps_i s 1131 34).toInt < 260 from by omega)) ?_
        have J30 := mwa_n 1149 (i := (Int32.toNatClampNeg (ps_i s 1131 34))) (v := ((60 : Int32) + x3)) J rfl (by decide)
        have K31 := kpa' K (r := 1149) (i := (Int32.toNatClampNeg (ps_i s 1131 34))) (v := ((60 : Int32) + x3)) rfl
        have a32_k : ((ps_i s 1131 34) + 1).toInt = (ps_i s 1131 34).toInt + (1 : Int) := xIa (show -2147483648 ≤ (ps_i s 1131 34).toInt + (1 : Int) from by omega) (show (ps_i s 1131 34).toInt + (1 : Int) < 2147483648 from by omega)
        have J33 := mwi_34 (v := ((ps_i s 1131 34) + 1)) J30 (show 0 ≤ ((ps_i s 1131 34) + 1).toInt from by omega) (show ((ps_i s 1131 34) + 1).toInt ≤ 100000 from by omega)
        have K34 := kpi K31 (q := 34) (v := ((ps_i s 1131 34) + 1)) rfl
        exact ms_231_89 (x1 := x1) (x2 := x2) (x3 := x3) (σ := σ) (c0 := c0) (body_k := body_k) (ml := ml) (Wb_k := Wb_k) k n6 KH6 x4 x5 (ps_a s 1134 (Int32.toNatClampNeg ((x1 + 1) + x5))) b1_k c b3_k W_k (m1_k ++ [60 + x3.toInt.toNat]) _ J33 K34 hS hR hT (by assumption) (show 0 ≤ x4.toInt from by omega) (show x4.toInt < x5.toInt from by omega) (show x5.toInt ≤ 40 from by omega) (by assumption) (by assumption) (by assumption) (rp_snoc i10_k (Or.inr ⟨by omega, hc_k, ws_1 (Sg_σ hS) (by omega) (by omega)⟩)) ((by rw [List.length_append]; show _ + 1 ≤ _; omega)) ((by rw [← List.append_assoc]; first | exact Md_make i12_k (by omega) (by omega) | exact Md_make' i12_k (by omega) (by omega))) (hp_k) (show 41 - x5.toInt ≤ (n6 : Int) from by omega)
    · have f35_k : (0 : Int) ≤ x2.toInt := xle h20_k
      obtain ⟨tl_k, hT1_k, hT2_k⟩ : ∃ tl_k : List Nat, Rw (ps_a s 1134) (x2).toInt tl_k ∧ ws σ tl_k [false] := by rcases hT with z_k | z_k; omega; exact z_k.2
      have htl_k := hT1_k.2.2.2.1
      refine ms_227 J (hT1_k) (i12_k) ((by omega)) (fun s36 J36 K36 p36_0 => ?_)
      have K37 := kpt K K36 rfl rfl
      have hS : Sg (ps_a s36 1135) (ps_a s36 1136) (ps_a s36 1138) (ps_a s36 1139) (ps_i s36 1131 21).toInt σ := by rw [show ps_a s36 1135 = ps_a s 1135 from (K36.2 1135 rfl).1, show ps_a s36 1136 = ps_a s 1136 from (K36.2 1136 rfl).1, show ps_a s36 1138 = ps_a s 1138 from (K36.2 1138 rfl).1, show ps_a s36 1139 = ps_a s 1139 from (K36.2 1139 rfl).1, show ps_i s36 1131 21 = ps_i s 1131 21 from kp_i K36 21 rfl]; exact hS
      have hR : Rw (ps_a s36 1134) x1.toInt (c0 :: body_k) := by rw [show ps_a s36 1134 = ps_a s 1134 from (K36.2 1134 rfl).1]; exact hR
      have hT : (x2.toInt < 0 ∧ 0 ≤ x3.toInt ∧ x3.toInt ≤ 11) ∨ (0 ≤ x2.toInt ∧ ∃ tl_k : List Nat, Rw (ps_a s36 1134) x2.toInt tl_k ∧ ws σ tl_k [false]) := by rw [show ps_a s36 1134 = ps_a s 1134 from (K36.2 1134 rfl).1]; exact hT
      have hM2 : Md (ps_a s36 1149) (ps_i s36 1131 34).toInt ((ml ++ m1_k) ++ tl_k) := p36_0
      exact ms_231_89 (x1 := x1) (x2 := x2) (x3 := x3) (σ := σ) (c0 := c0) (body_k := body_k) (ml := ml) (Wb_k := Wb_k) k n6 KH6 x4 x5 (ps_a s 1134 (Int32.toNatClampNeg ((x1 + 1) + x5))) b1_k c b3_k W_k (m1_k ++ tl_k) _ J36 K37 hS hR hT (by assumption) (show 0 ≤ x4.toInt from by omega) (show x4.toInt < x5.toInt from by omega) (show x5.toInt ≤ 40 from by omega) (by assumption) (by assumption) (by assumption) (rp_snoc i10_k (Or.inr ⟨by omega, hc_k, hT2_k⟩)) ((by rw [List.length_append]; omega)) ((by rw [← List.append_assoc]; exact hM2)) (hp_k) (show 41 - x5.toInt ≤ (n6 : Int) from by omega)

theorem ms_231_16 {x : Nat → Nat → Nat} {t : Int32} {d : Nat} {s0 : ps_S} {σ : mSig} {c0 : Nat} {body_k ml : List Nat} {Wb_k : List Bool} {x1 : Int32} {x2 : Int32} {x3 : Int32} {Q : Option Value → ps_S → Prop} (k : ∀ (s' : ps_S), mJ x t s' → kp [1149, 1150] [34] s0 s' → (∃ m : List Nat, m.length ≤ 1600 ∧ rp σ body_k m ∧ Md (ps_a s' 1149) (ps_i s' 1131 34).toInt (ml ++ m)) → Q none s') (n6 : Nat) (KH6 : ∀ (x4 : Int32) (x5 : Int32) (b1_k : List Nat) (b2_k : List Nat) (W_k : List Bool) (m1_k : List Nat) (s : ps_S), (mJ x t s) → (kp [1149, 1150] [34] s0 s) → (Sg (ps_a s 1135) (ps_a s 1136) (ps_a s 1138) (ps_a s 1139) (ps_i s 1131 21).toInt σ) → (Rw (ps_a s 1134) x1.toInt (c0 :: body_k)) → ((x2.toInt < 0 ∧ 0 ≤ x3.toInt ∧ x3.toInt ≤ 11) ∨ (0 ≤ x2.toInt ∧ ∃ tl_k : List Nat, Rw (ps_a s 1134) x2.toInt tl_k ∧ ws σ tl_k [false])) → (ml.length ≤ 1000) → (0 ≤ x4.toInt) → (x4.toInt < x5.toInt) → (x5.toInt ≤ 40) → (x5.toInt = (1 + b1_k.length : Int)) → (body_k = b1_k ++ b2_k) → (ws σ b2_k W_k) → (rp σ b1_k m1_k) → (m1_k.length ≤ 40 * b1_k.length) → (Md (ps_a s 1149) (ps_i s 1131 34).toInt (ml ++ m1_k)) → (41 - x5.toInt ≤ (n6 : Int) - 1) → ps_At (d + 3) 231 6 [(0, .ref 1131), (1, .int x1), (2, .int x2), (3, .int x3), (4, .int x4), (5, .int x5)] [] s Q) : ∀ (n : Nat) (x4 : Int32) (x5 : Int32) (b1_k : List Nat) (c : Nat) (b3_k : List Nat) (W_k : List Bool) (m1_k : List Nat) (s : ps_S), (mJ x t s) → (kp [1149, 1150] [34] s0 s) → (Sg (ps_a s 1135) (ps_a s 1136) (ps_a s 1138) (ps_a s 1139) (ps_i s 1131 21).toInt σ) → (Rw (ps_a s 1134) x1.toInt (c0 :: body_k)) → ((x2.toInt < 0 ∧ 0 ≤ x3.toInt ∧ x3.toInt ≤ 11) ∨ (0 ≤ x2.toInt ∧ ∃ tl_k : List Nat, Rw (ps_a s 1134) x2.toInt tl_k ∧ ws σ tl_k [false])) → (ml.length ≤ 1000) → (0 ≤ x4.toInt) → (x4.toInt < x5.toInt) → (x5.toInt ≤ 40) → (x5.toInt = (1 + b1_k.length : Int)) → (body_k = b1_k ++ c :: b3_k) → (ws σ (c :: b3_k) W_k) → (rp σ b1_k m1_k) → (m1_k.length ≤ 40 * b1_k.length) → (Md (ps_a s 1149) (ps_i s 1131 34).toInt (ml ++ m1_k)) → (41 - x5.toInt ≤ (n6 : Int)) → x4.toInt ≤ (n : Int) → ps_At (d + 3) 231 16 [(0, .ref 1131), (1, .int x1), (2, .int x2), (3, .int x3), (4, .int x4), (5, .int x5)] [] s Q := by
  refine xstr (fun n ih => ?_)
  intro x4 x5 b1_k c b3_k W_k m1_k s J K hS hR hT i3_k i4_k i5_k i6_k i7_k i8_k i9_k i10_k i11_k i12_k hm6 hm
  refine pg_231_16 (d := d + 2) ?_
  obtain ⟨hr1, hr2, hr3, hr4, hr5, hr6⟩ := id hR
  have hr1 : x1.toInt % 41 = 0 := hr1
  have hr2 : 0 ≤ x1.toInt := hr2
  have hr3 : x1.toInt < 27306 := hr3
  have i7_k : x5.toInt = (1 + b1_k.length : Int) := i7_k
  have hl_k : (body_k.length : Int) = b1_k.length + (b3_k.length + 1) := by rw [i8_k, llen, llenc]
  have hr4 : body_k.length + 1 ≤ 40 := hr4
  refine And.intro (fun h1_k => ?_) (fun h1_k => ?_)
  · have f2_k : x4.toInt ≤ (0 : Int) := xle h1_k
    exact ms_231_41 (x1 := x1) (x2 := x2) (x3 := x3) (σ := σ) (c0 := c0) (body_k := body_k) (ml := ml) (Wb_k := Wb_k) k n6 KH6 x4 x5 b1_k c b3_k W_k m1_k _ J K hS hR hT (by assumption) (show 0 ≤ x4.toInt from by omega) (show x4.toInt < x5.toInt from by omega) (show x5.toInt ≤ 40 from by omega) (by assumption) (by assumption) (by assumption) (by assumption) (by assumption) (by assumption) (show 41 - x5.toInt ≤ (n6 : Int) from by omega)
  · have f3_k : (0 : Int) < x4.toInt := xlt h1_k
    have a4_k : (x4 - 1).toInt = x4.toInt - (1 : Int) := xIs (show -2147483648 ≤ x4.toInt - (1 : Int) from by omega) (show x4.toInt - (1 : Int) < 2147483648 from by omega)
    refine ps_nd_i (show pm_in (x4 - 1) 260 = true from xgi (show 0 ≤ (x4 - 1).toInt from by omega) (show (x4 - 1).toInt < 260 from by omega)) ?_
    refine And.intro (fun h5_k => ?_) (fun h5_k => ?_)
    · have f6_k : x5.toInt < (ps_a s 1150 (Int32.toNatClampNeg (x4 - 1))).toInt := xlt h5_k
      exact ms_231_41 (x1 := x1) (x2 := x2) (x3 := x3) (σ := σ) (c0 := c0) (body_k := body_k) (ml := ml) (Wb_k := Wb_k) k n6 KH6 x4 x5 b1_k c b3_k W_k m1_k _ J K hS hR hT (by assumption) (show 0 ≤ x4.toInt from by omega) (show x4.toInt < x5.toInt from by omega) (show x5.toInt ≤ 40 from by omega) (by assumption) (by assumption) (by assumption) (by assumption) (by assumption) (by assumption) (show 41 - x5.toInt ≤ (n6 : Int) from by omega)
    · have f7_k : (ps_a s 1150 (Int32.toNatClampNeg (x4 - 1))).toInt ≤ x5.toInt := xle h5_k
      generalize hx9 : (x4 + (Int32.ofInt (-1))) = xd8
      have a10_k : xd8.toInt = x4.toInt + (-1) := by rw [← hx9]; exact xdec (show -2147483648 < x4.toInt from by omega)
      clear hx9
      exact ih (n - 1) (show n - 1 < n from by omega) xd8 x5 b1_k c b3_k W_k m1_k _ J K hS hR hT (by assumption) (show 0 ≤ xd8.toInt from by omega) (show xd8.toInt < x5.toInt from by omega) (show x5.toInt ≤ 40 from by omega) (by assumption) (by assumption) (by assumption) (by assumption) (by assumption) (by assumption) (show 41 - x5.toInt ≤ (n6 : Int) from by omega) (show xd8.toInt ≤ ((n - 1 : Nat) : Int) from by omega)

theorem ms_231_6 {x : Nat → Nat → Nat} {t : Int32} {d : Nat} {s0 : ps_S} {σ : mSig} {c0 : Nat} {body_k ml : List Nat} {Wb_k : List Bool} {x1 : Int32} {x2 : Int32} {x3 : Int32} {Q : Option Value → ps_S → Prop} (k : ∀ (s' : ps_S), mJ x t s' → kp [1149, 1150] [34] s0 s' → (∃ m : List Nat, m.length ≤ 1600 ∧ rp σ body_k m ∧ Md (ps_a s' 1149) (ps_i s' 1131 34).toInt (ml ++ m)) → Q none s') : ∀ (n : Nat) (x4 : Int32) (x5 : Int32) (b1_k : List Nat) (b2_k : List Nat) (W_k : List Bool) (m1_k : List Nat) (s : ps_S), (mJ x t s) → (kp [1149, 1150] [34] s0 s) → (Sg (ps_a s 1135) (ps_a s 1136) (ps_a s 1138) (ps_a s 1139) (ps_i s 1131 21).toInt σ) → (Rw (ps_a s 1134) x1.toInt (c0 :: body_k)) → ((x2.toInt < 0 ∧ 0 ≤ x3.toInt ∧ x3.toInt ≤ 11) ∨ (0 ≤ x2.toInt ∧ ∃ tl_k : List Nat, Rw (ps_a s 1134) x2.toInt tl_k ∧ ws σ tl_k [false])) → (ml.length ≤ 1000) → (0 ≤ x4.toInt) → (x4.toInt < x5.toInt) → (x5.toInt ≤ 40) → (x5.toInt = (1 + b1_k.length : Int)) → (body_k = b1_k ++ b2_k) → (ws σ b2_k W_k) → (rp σ b1_k m1_k) → (m1_k.length ≤ 40 * b1_k.length) → (Md (ps_a s 1149) (ps_i s 1131 34).toInt (ml ++ m1_k)) → 41 - x5.toInt ≤ (n : Int) → ps_At (d + 3) 231 6 [(0, .ref 1131), (1, .int x1), (2, .int x2), (3, .int x3), (4, .int x4), (5, .int x5)] [] s Q := by
  refine xstr (fun n ih => ?_)
  intro x4 x5 b1_k b2_k W_k m1_k s J K hS hR hT i3_k i4_k i5_k i6_k i7_k i8_k i9_k i10_k i11_k i12_k hm
  refine pg_231_6 (d := d + 2) ?_
  obtain ⟨hr1, hr2, hr3, hr4, hr5, hr6⟩ := id hR
  have hr1 : x1.toInt % 41 = 0 := hr1
  have hr2 : 0 ≤ x1.toInt := hr2
  have hr3 : x1.toInt < 27306 := hr3
  have i7_k : x5.toInt = (1 + b1_k.length : Int) := i7_k
  have hl_k : (body_k.length : Int) = b1_k.length + b2_k.length := by rw [i8_k]; exact llen
  have hr4 : body_k.length + 1 ≤ 40 := hr4
  have hn_k : (ps_a s 1134 (Int32.toNatClampNeg x1)).toInt = ((body_k.length + 1 : Nat) : Int) := Rw_n hR
  refine pg_219_0 ?_
  refine ps_nd_i (show pm_in x1 27400 = true from xgi (show 0 ≤ x1.toInt from by omega) (show x1.toInt < 27400 from by omega)) ?_
  have r1_k : x1.toInt % 41 = 0 → x1.toInt < 27306 → 0 ≤ (ps_a s 1134 (Int32.toNatClampNeg x1)).toInt ∧ (ps_a s 1134 (Int32.toNatClampNeg x1)).toInt ≤ 40 := fun z1_k z2_k => mp_row (i := x1) J z1_k (show 0 ≤ x1.toInt from by omega) z2_k
  refine And.intro (fun h2_k => ?_) (fun h2_k => ?_)
  · have f3_k : (ps_a s 1134 (Int32.toNatClampNeg x1)).toInt ≤ x5.toInt := xle h2_k
    have e0_k := lnil (W := b2_k) (by omega)
    subst e0_k
    rw [List.append_nil] at i8_k
    subst i8_k
    exact k _ J K (⟨m1_k, by omega, i10_k, i12_k⟩)
  · have f4_k : x5.toInt < (ps_a s 1134 (Int32.toNatClampNeg x1)).toInt := xlt h2_k
    obtain ⟨c, b3_k, rfl⟩ := lpos (W := b2_k) (by omega)
    exact ms_231_16 (x1 := x1) (x2 := x2) (x3 := x3) (σ := σ) (c0 := c0) (body_k := body_k) (ml := ml) (Wb_k := Wb_k) k n (fun x4z x5z b1z b2z Wz m1z sz Jz Kz i0z i1z i2z i3z i4z i5z i6z i7z i8z i9z i10z i11z i12z hm => ih (n - 1) (show n - 1 < n from by omega) x4z x5z b1z b2z Wz m1z sz Jz Kz i0z i1z i2z i3z i4z i5z i6z i7z i8z i9z i10z i11z i12z (show _ ≤ ((n - 1 : Nat) : Int) from by omega)) (x4.toInt).toNat x4 x5 b1_k c b3_k W_k m1_k _ J K hS hR hT (by assumption) (show 0 ≤ x4.toInt from by omega) (show x4.toInt < x5.toInt from by omega) (show x5.toInt ≤ 40 from by omega) (by assumption) (by assumption) (by assumption) (by assumption) (by assumption) (by assumption) (show 41 - x5.toInt ≤ ((n : Nat) : Int) from by omega) (show x4.toInt ≤ (((x4.toInt).toNat : Nat) : Int) from by omega)

theorem ms_231 {x : Nat → Nat → Nat} {t : Int32} {s : ps_S} {d : Nat} {x1 : Int32} {x2 : Int32} {x3 : Int32} {f : ps_S → Prop} (J : mJ x t s) {σ : mSig} {c0 : Nat} {body_k ml : List Nat} {Wb_k : List Bool} (hS : Sg (ps_a s 1135) (ps_a s 1136) (ps_a s 1138) (ps_a s 1139) (ps_i s 1131 21).toInt σ) (hR : Rw (ps_a s 1134) x1.toInt (c0 :: body_k)) (hT : (x2.toInt < 0 ∧ 0 ≤ x3.toInt ∧ x3.toInt ≤ 11) ∨ (0 ≤ x2.toInt ∧ ∃ tl_k : List Nat, Rw (ps_a s 1134) x2.toInt tl_k ∧ ws σ tl_k [false])) (q3_k : Md (ps_a s 1149) (ps_i s 1131 34).toInt (ml)) (q4_k : ml.length ≤ 1000) (q5_k : ws σ body_k Wb_k) (k : ∀ (s' : ps_S), mJ x t s' → kp [1149, 1150] [34] s s' → (∃ m : List Nat, m.length ≤ 1600 ∧ rp σ body_k m ∧ Md (ps_a s' 1149) (ps_i s' 1131 34).toInt (ml ++ m)) → f s') : ps_Cl (d + 3) 231 [.ref 1131, .int x1, .int x2, .int x3] s (ps_rV f) := by
  have K : kp [1149, 1150] [34] s s := kp_refl
  refine pg_231_0 (d := d + 2) ?_
  obtain ⟨hr1, hr2, hr3, hr4, hr5, hr6⟩ := id hR
  have hr1 : x1.toInt % 41 = 0 := hr1
  have hr2 : 0 ≤ x1.toInt := hr2
  have hr3 : x1.toInt < 27306 := hr3
  exact ms_231_6 (x1 := x1) (x2 := x2) (x3 := x3) (σ := σ) (c0 := c0) (body_k := body_k) (ml := ml) (Wb_k := Wb_k) k  (41 - (1 : Int)).toNat (0) (1) [] body_k Wb_k [] _ J K hS hR hT (q4_k) (show 0 ≤ (0 : Int) from by omega) (show (0 : Int) < (1 : Int) from by omega) (show (1 : Int) ≤ 40 from by omega) (rfl) (rfl) (q5_k) (rfl) (Nat.le_refl _) ((by rw [List.append_nil]; exact q3_k)) (show 41 - (1 : Int) ≤ (((41 - (1 : Int)).toNat : Nat) : Int) from by omega)
