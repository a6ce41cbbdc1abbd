set_option maxRecDepth 100000
theorem ms_232_86 {x : Nat → Nat → Nat} {t : Int32} {d : Nat} {s0 : ps_S} {σ : mSig} {l ml : List Nat} {Wb_k : List Bool} {x1 : Int32} {x2 : Int32} {Q : Option Value → ps_S → Prop} (k : ∀ (s' : ps_S), mJ x t s' → kp [1149, 1150] [34] s0 s' → (∃ m : List Nat, m.length ≤ 40 ∧ rp σ l m ∧ Md (ps_a s' 1149) (ps_i s' 1131 34).toInt ((ml ++ [4]) ++ m)) → Q none s') (n10 : Nat) (KH10 : ∀ (x3 : Int32) (x4 : Int32) (b1_k : List Nat) (b2_k : List Nat) (W_k : List Bool) (m1_k : List Nat) (s : ps_S), (mJ x t s) → (kp [1149, 1150] [34] s0 s) → (Sg (ps_a s 1135) (ps_a s 1136) (ps_a s 1138) (ps_a s 1139) (ps_i s 1131 21).toInt σ) → (Rw (ps_a s 1134) x1.toInt l) → (ml.length ≤ 1000) → (qn l ≤ 29) → (0 ≤ x2.toInt) → (x2.toInt ≤ 11) → (0 ≤ x3.toInt) → (x3.toInt ≤ (qn b1_k : Int)) → (x4.toInt = (b1_k.length : Int)) → (l = b1_k ++ b2_k) → (ws σ b2_k W_k) → (rp σ b1_k m1_k) → (m1_k.length = b1_k.length) → (Md (ps_a s 1149) (ps_i s 1131 34).toInt ((ml ++ [4]) ++ m1_k)) → (41 - x4.toInt ≤ (n10 : Int) - 1) → ps_At (d + 2) 232 10 [(0, .ref 1131), (1, .int x1), (2, .int x2), (3, .int x3), (4, .int x4)] [] s Q) (x3 : Int32) (x4 : Int32) (b1_k : List Nat) (c : Nat) (b3_k : List Nat) (W_k : List Bool) (m2_k : List Nat) (s : ps_S) (J : mJ x t s) (K : kp [1149, 1150] [34] s0 s) (hS : Sg (ps_a s 1135) (ps_a s 1136) (ps_a s 1138) (ps_a s 1139) (ps_i s 1131 21).toInt σ) (hR : Rw (ps_a s 1134) x1.toInt l) (i2_k : ml.length ≤ 1000) (i3_k : qn l ≤ 29) (i4_k : 0 ≤ x2.toInt) (i5_k : x2.toInt ≤ 11) (i6_k : 0 ≤ x3.toInt) (i7_k : x3.toInt ≤ (qn b1_k : Int)) (i8_k : x4.toInt = (b1_k.length : Int)) (i9_k : l = b1_k ++ c :: b3_k) (i10_k : ws σ (c :: b3_k) W_k) (i11_k : rp σ (b1_k ++ [c]) m2_k) (i12_k : m2_k.length = b1_k.length + 1) (i13_k : Md (ps_a s 1149) (ps_i s 1131 34).toInt ((ml ++ [4]) ++ m2_k)) (i14_k : c = 4 ∨ c = 5) (hm10 : 41 - x4.toInt ≤ (n10 : Int)) : ps_At (d + 2) 232 86 [(0, .ref 1131), (1, .int x1), (2, .int x2), (3, .int x3), (4, .int x4)] [] s Q := by
  refine pg_232_86 (d := d + 1) ?_
  obtain ⟨hr1, hr2, hr3, hr4, hr5, hr6⟩ := id hR
  have hr1 : x1.toInt % 41 = 0 := hr1
  have hr2 : 0 ≤ x1.toInt := hr2
  have hr3 : x1.toInt < 27306 := hr3
  have i7_k : x3.toInt ≤ (qn b1_k : Int) := i7_k
  have i8_k : x4.toInt = (b1_k.length : Int) := i8_k
  have hl_k : (l.length : Int) = b1_k.length + (b3_k.length + 1) := by rw [i9_k, llen, llenc]
  have hq_k : qn l = qn b1_k + ((if c = 4 ∨ c = 5 then 1 else 0) + qn b3_k) := by rw [i9_k, qn_app]; rfl
  have hq2_k : qn (b1_k ++ [c]) = qn b1_k + (if c = 4 ∨ c = 5 then 1 else 0) := by rw [qn_app]; rfl
  obtain ⟨bb_k, W2_k, rfl⟩ := ws_W i10_k
  obtain ⟨ks_k, hk_k, hw_k⟩ := ws_hd i10_k
  obtain ⟨p, q, hpq_k, hp1, hp2⟩ := ws_split (W1 := [bb_k]) (W2 := W2_k) i10_k
  refine ms_221 J hS ((show Rw (ps_a s 1134) (x1).toInt (b1_k ++ (p ++ q)) from by rw [← hpq_k]; rw [← i9_k]; exact hR)) (i8_k) (hp1) (fun v1 p1_0 => ?_)
  refine ps_nd_i (show pm_in x3 260 = true from xgi (show 0 ≤ x3.toInt from by omega) (show x3.toInt < 260 from by omega)) ?_
  have J2 := mwa_n 1150 (i := (Int32.toNatClampNeg x3)) (v := v1) J rfl (by decide)
  have K3 := kpa' K (r := 1150) (i := (Int32.toNatClampNeg x3)) (v := v1) rfl
  have a4_k : (x3 + 1).toInt = x3.toInt + (1 : Int) := xIa (show -2147483648 ≤ x3.toInt + (1 : Int) from by omega) (show x3.toInt + (1 : Int) < 2147483648 from by omega)
  have a5_k : (x4 + 1).toInt = x4.toInt + (1 : Int) := xIa (show -2147483648 ≤ x4.toInt + (1 : Int) from by omega) (show x4.toInt + (1 : Int) < 2147483648 from by omega)
  exact KH10 (x3 + 1) (x4 + 1) (b1_k ++ [c]) b3_k (ks_k ++ W2_k) m2_k _ J2 K3 hS hR (by assumption) (by assumption) (show 0 ≤ x2.toInt from by omega) (show x2.toInt ≤ 11 from by omega) (show 0 ≤ (x3 + 1).toInt from by omega) ((show ((x3 + 1)).toInt ≤ (qn (b1_k ++ [c]) : Int) from by rw [hq2_k, if_pos i14_k]; omega)) ((show ((x4 + 1)).toInt = ((b1_k ++ [c]).length : Int) from by rw [l1c]; omega)) (i9_k.trans (lcat b1_k c b3_k)) (hw_k) (by assumption) ((by rw [List.length_append]; exact i12_k)) (by assumption) (show 41 - (x4 + 1).toInt ≤ (n10 : Int) - 1 from by omega)

