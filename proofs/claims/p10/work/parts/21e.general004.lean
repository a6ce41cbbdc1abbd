set_option maxRecDepth 100000
theorem ms_232_43 {x : Nat → Nat → Nat} {t : Int32} {d : Nat} {s0 : ps_S} {σ : mSig} {l ml : List Nat} {Wb_k : List Bool} {x1 : Int32} {x2 : Int32} {Q : Option Value → ps_S → Prop} (k : ∀ (s' : ps_S), mJ x t s' → kp [1149, 1150] [34] s0 s' → (∃ m : List Nat, m.length ≤ 40 ∧ rp σ l m ∧ Md (ps_a s' 1149) (ps_i s' 1131 34).toInt ((ml ++ [4]) ++ m)) → Q none s') (n10 : Nat) (KH10 : ∀ (x3 : Int32) (x4 : Int32) (b1_k : List Nat) (b2_k : List Nat) (W_k : List Bool) (m1_k : List Nat) (s : ps_S), (mJ x t s) → (kp [1149, 1150] [34] s0 s) → (Sg (ps_a s 1135) (ps_a s 1136) (ps_a s 1138) (ps_a s 1139) (ps_i s 1131 21).toInt σ) → (Rw (ps_a s 1134) x1.toInt l) → (ml.length ≤ 1000) → (qn l ≤ 29) → (0 ≤ x2.toInt) → (x2.toInt ≤ 11) → (0 ≤ x3.toInt) → (x3.toInt ≤ (qn b1_k : Int)) → (x4.toInt = (b1_k.length : Int)) → (l = b1_k ++ b2_k) → (ws σ b2_k W_k) → (rp σ b1_k m1_k) → (m1_k.length = b1_k.length) → (Md (ps_a s 1149) (ps_i s 1131 34).toInt ((ml ++ [4]) ++ m1_k)) → (41 - x4.toInt ≤ (n10 : Int) - 1) → ps_At (d + 2) 232 10 [(0, .ref 1131), (1, .int x1), (2, .int x2), (3, .int x3), (4, .int x4)] [] s Q) (x3 : Int32) (x4 : Int32) (b1_k : List Nat) (c : Nat) (b3_k : List Nat) (W_k : List Bool) (m1_k : List Nat) (s : ps_S) (J : mJ x t s) (K : kp [1149, 1150] [34] s0 s) (hS : Sg (ps_a s 1135) (ps_a s 1136) (ps_a s 1138) (ps_a s 1139) (ps_i s 1131 21).toInt σ) (hR : Rw (ps_a s 1134) x1.toInt l) (i2_k : ml.length ≤ 1000) (i3_k : qn l ≤ 29) (i4_k : 0 ≤ x2.toInt) (i5_k : x2.toInt ≤ 11) (i6_k : 0 ≤ x3.toInt) (i7_k : x3.toInt ≤ (qn b1_k : Int)) (i8_k : x4.toInt = (b1_k.length : Int)) (i9_k : l = b1_k ++ c :: b3_k) (i10_k : ws σ (c :: b3_k) W_k) (i11_k : rp σ b1_k m1_k) (i12_k : m1_k.length = b1_k.length) (i13_k : Md (ps_a s 1149) (ps_i s 1131 34).toInt ((ml ++ [4]) ++ m1_k)) (hm10 : 41 - x4.toInt ≤ (n10 : Int)) : ps_At (d + 2) 232 43 [(0, .ref 1131), (1, .int x1), (2, .int x2), (3, .int x3), (4, .int x4)] [] s Q := by
  refine pg_232_43 (d := d + 1) ?_
  obtain ⟨hr1, hr2, hr3, hr4, hr5, hr6⟩ := id hR
  have hr1 : x1.toInt % 41 = 0 := hr1
  have hr2 : 0 ≤ x1.toInt := hr2
  have hr3 : x1.toInt < 27306 := hr3
  have i7_k : x3.toInt ≤ (qn b1_k : Int) := i7_k
  have i8_k : x4.toInt = (b1_k.length : Int) := i8_k
  have hl_k : (l.length : Int) = b1_k.length + (b3_k.length + 1) := by rw [i9_k, llen, llenc]
  have hq_k : qn l = qn b1_k + ((if c = 4 ∨ c = 5 then 1 else 0) + qn b3_k) := by rw [i9_k, qn_app]; rfl
  have hq2_k : qn (b1_k ++ [c]) = qn b1_k + (if c = 4 ∨ c = 5 then 1 else 0) := by rw [qn_app]; rfl
  obtain ⟨bb_k, W2_k, rfl⟩ := ws_W i10_k
  obtain ⟨ks_k, hk_k, hw_k⟩ := ws_hd i10_k
  have hp_k : (ps_a s 1134 (Int32.toNatClampNeg ((x1 + 1) + x4))).toInt = (c : Int) := Rw_p (l1 := b1_k) (l2 := b3_k) hR i9_k i8_k
  have hc_k : c < 72 := ws_72 (Sg_σ hS) i10_k c List.mem_cons_self
  have hml_k : ((ml ++ [4]) ++ m1_k).length = ml.length + 1 + m1_k.length := by rw [List.length_append, List.length_append]; rfl
  have h34_k := i13_k.1
  refine pg_220_0 ?_
  have a1_k : (x1 + 1).toInt = x1.toInt + (1 : Int) := xIa (show -2147483648 ≤ x1.toInt + (1 : Int) from by omega) (show x1.toInt + (1 : Int) < 2147483648 from by omega)
  have a2_k : ((x1 + 1) + x4).toInt = (x1 + 1).toInt + x4.toInt := xIa (show -2147483648 ≤ (x1 + 1).toInt + x4.toInt from by omega) (show (x1 + 1).toInt + x4.toInt < 2147483648 from by omega)
  refine ps_nd_i (show pm_in ((x1 + 1) + x4) 27400 = true from xgi (show 0 ≤ ((x1 + 1) + x4).toInt from by omega) (show ((x1 + 1) + x4).toInt < 27400 from by omega)) ?_
  have r3_k : ((x1 + 1) + x4).toInt % 41 = 0 → ((x1 + 1) + x4).toInt < 27306 → 0 ≤ (ps_a s 1134 (Int32.toNatClampNeg ((x1 + 1) + x4))).toInt ∧ (ps_a s 1134 (Int32.toNatClampNeg ((x1 + 1) + x4))).toInt ≤ 40 := fun z1_k z2_k => mp_row (i := ((x1 + 1) + x4)) J z1_k (show 0 ≤ ((x1 + 1) + x4).toInt from by omega) z2_k
  have a4_k : ((60 : Int32) + x2).toInt = (60 : Int) + x2.toInt := xIa (show -2147483648 ≤ (60 : Int) + x2.toInt from by omega) (show (60 : Int) + x2.toInt < 2147483648 from by omega)
  refine And.intro (fun h5_k => ?_) (fun h5_k => ?_)
  · have f6_k : (ps_a s 1134 (Int32.toNatClampNeg ((x1 + 1) + x4))).toInt ≠ ((60 : Int32) + x2).toInt := xne h5_k
    obtain ⟨cc_k, hcc_k, hcr_k⟩ : ∃ cc_k : Nat, ((ps_a s 1134 (Int32.toNatClampNeg ((x1 + 1) + x4)))).toInt = (cc_k : Int) ∧ ([cc_k] = [c] ∨ (40 ≤ c ∧ c < 72 ∧ ws σ [cc_k] [false])) := by first | exact ⟨c, hp_k, Or.inl rfl⟩ | exact ⟨40 + x3.toInt.toNat, by omega, Or.inr ⟨by omega, hc_k, ws_1 (Sg_σ hS) (by omega) (by omega)⟩⟩
    refine pg_225_0 ?_
    have r7_k := mf_34 J
    refine And.intro (fun h8_k => ?_) (fun h8_k => ?_)
    · have f9_k : (260 : Int) ≤ (ps_i s 1131 34).toInt := xle h8_k
      have a10_k : ((ps_i s 1131 34) + 1).toInt = (ps_i s 1131 34).toInt + (1 : Int) := xIa (show -2147483648 ≤ (ps_i s 1131 34).toInt + (1 : Int) from by omega) (show (ps_i s 1131 34).toInt + (1 : Int) < 2147483648 from by omega)
      have J11 := mwi_34 (v := ((ps_i s 1131 34) + 1)) J (show 0 ≤ ((ps_i s 1131 34) + 1).toInt from by omega) (show ((ps_i s 1131 34) + 1).toInt ≤ 100000 from by omega)
      have K12 := kpi K (q := 34) (v := ((ps_i s 1131 34) + 1)) rfl
      refine And.intro (fun h13_k => ?_) (fun h13_k => ?_)
      · have f14_k : (ps_a s 1134 (Int32.toNatClampNeg ((x1 + 1) + x4))).toInt = (4 : Int) := xeq h13_k
        exact ms_232_86 (x1 := x1) (x2 := x2) (σ := σ) (l := l) (ml := ml) (Wb_k := Wb_k) k n10 KH10 x3 x4 b1_k c b3_k (bb_k :: W2_k) (m1_k ++ [cc_k]) _ J11 K12 hS hR (by assumption) (by assumption) (show 0 ≤ x2.toInt from by omega) (show x2.toInt ≤ 11 from by omega) (show 0 ≤ x3.toInt from by omega) (by assumption) (by assumption) (by assumption) (by assumption) (rp_snoc i11_k hcr_k) ((by rw [List.length_append]; show _ + 1 = _; omega)) ((by rw [← List.append_assoc]; first | exact Md_make i13_k hcc_k (by omega) | exact Md_make' i13_k (by omega) (by omega))) ((by omega)) (show 41 - x4.toInt ≤ (n10 : Int) from by omega)
      · have f15_k : (ps_a s 1134 (Int32.toNatClampNeg ((x1 + 1) + x4))).toInt ≠ (4 : Int) := xne h13_k
        refine And.intro (fun h16_k => ?_) (fun h16_k => ?_)
        · have f17_k : (ps_a s 1134 (Int32.toNatClampNeg ((x1 + 1) + x4))).toInt ≠ (5 : Int) := xne h16_k
          have a18_k : (x4 + 1).toInt = x4.toInt + (1 : Int) := xIa (show -2147483648 ≤ x4.toInt + (1 : Int) from by omega) (show x4.toInt + (1 : Int) < 2147483648 from by omega)
          exact KH10 x3 (x4 + 1) (b1_k ++ [c]) b3_k (ks_k ++ W2_k) (m1_k ++ [cc_k]) _ J11 K12 hS hR (by assumption) (by assumption) (show 0 ≤ x2.toInt from by omega) (show x2.toInt ≤ 11 from by omega) (show 0 ≤ x3.toInt from by omega) ((show x3.toInt ≤ (qn (b1_k ++ [c]) : Int) from by rw [hq2_k]; split <;> omega)) ((show ((x4 + 1)).toInt = ((b1_k ++ [c]).length : Int) from by rw [l1c]; omega)) (i9_k.trans (lcat b1_k c b3_k)) (hw_k) (rp_snoc i11_k hcr_k) ((by rw [List.length_append, List.length_append]; show _ + 1 = _ + 1; omega)) ((by rw [← List.append_assoc]; first | exact Md_make i13_k hcc_k (by omega) | exact Md_make' i13_k (by omega) (by omega))) (show 41 - (x4 + 1).toInt ≤ (n10 : Int) - 1 from by omega)
        · have f19_k : (ps_a s 1134 (Int32.toNatClampNeg ((x1 + 1) + x4))).toInt = (5 : Int) := xeq h16_k
          exact ms_232_86 (x1 := x1) (x2 := x2) (σ := σ) (l := l) (ml := ml) (Wb_k := Wb_k) k n10 KH10 x3 x4 b1_k c b3_k (bb_k :: W2_k) (m1_k ++ [cc_k]) _ J11 K12 hS hR (by assumption) (by assumption) (show 0 ≤ x2.toInt from by omega) (show x2.toInt ≤ 11 from by omega) (show 0 ≤ x3.toInt from by omega) (by assumption) (by assumption) (by assumption) (by assumption) (rp_snoc i11_k hcr_k) ((by rw [List.length_append]; show _ + 1 = _; omega)) ((by rw [← List.append_assoc]; first | exact Md_make i13_k hcc_k (by omega) | exact Md_make' i13_k (by omega) (by omega))) ((by omega)) (show 41 - x4.toInt ≤ (n10 : Int) from by omega)
    · have f20_k : (ps_i s 1131 34).toInt < (260 : Int) := xlt h8_k
      refine ps_nd_i (show pm_in (ps_i s 1131 34) 260 = true from xgi (show 0 ≤ (ps_i s 1131 34).toInt from by omega) (show (ps_i s 1131 34).toInt < 260 from by omega)) ?_
      have J21 := mwa_n 1149 (i := (Int32.toNatClampNeg (ps_i s 1131 34))) (v := (ps_a s 1134 (Int32.toNatClampNeg ((x1 + 1) + x4)))) J rfl (by decide)
      have K22 := kpa' K (r := 1149) (i := (Int32.toNatClampNeg (ps_i s 1131 34))) (v := (ps_a s 1134 (Int32.toNatClampNeg ((x1 + 1) + x4)))) rfl
      have a23_k : ((ps_i s 1131 34) + 1).toInt = (ps_i s 1131 34).toInt + (1 : Int) := xIa (show -2147483648 ≤ (ps_i s 1131 34).toInt + (1 : Int) from by omega) (show (ps_i s 1131 34).toInt + (1 : Int) < 2147483648 from by omega)
      have J24 := mwi_34 (v := ((ps_i s 1131 34) + 1)) J21 (show 0 ≤ ((ps_i s 1131 34) + 1).toInt from by omega) (show ((ps_i s 1131 34) + 1).toInt ≤ 100000 from by omega)
      have K25 := kpi K22 (q := 34) (v := ((ps_i s 1131 34) + 1)) rfl
      refine And.intro (fun h26_k => ?_) (fun h26_k => ?_)
      · have f27_k : (ps_a s 1134 (Int32.toNatClampNeg ((x1 + 1) + x4))).toInt = (4 : Int) := xeq h26_k
        exact ms_232_86 (x1 := x1) (x2 := x2) (σ := σ) (l := l) (ml := ml) (Wb_k := Wb_k) k n10 KH10 x3 x4 b1_k c b3_k (bb_k :: W2_k) (m1_k ++ [cc_k]) _ J24 K25 hS hR (by assumption) (by assumption) (show 0 ≤ x2.toInt from by omega) (show x2.toInt ≤ 11 from by omega) (show 0 ≤ x3.toInt from by omega) (by assumption) (by assumption) (by assumption) (by assumption) (rp_snoc i11_k hcr_k) ((by rw [List.length_append]; show _ + 1 = _; omega)) ((by rw [← List.append_assoc]; first | exact Md_make i13_k hcc_k (by omega) | exact Md_make' i13_k (by omega) (by omega))) ((by omega)) (show 41 - x4.toInt ≤ (n10 : Int) from by omega)
      · have f28_k : (ps_a s 1134 (Int32.toNatClampNeg ((x1 + 1) + x4))).toInt ≠ (4 : Int) := xne h26_k
        refine And.intro (fun h29_k => ?_) (fun h29_k => ?_)
        · have f30_k : (ps_a s 1134 (Int32.toNatClampNeg ((x1 + 1) + x4))).toInt ≠ (5 : Int) := xne h29_k
          have a31_k : (x4 + 1).toInt = x4.toInt + (1 : Int) := xIa (show -2147483648 ≤ x4.toInt + (1 : Int) from by omega) (show x4.toInt + (1 : Int) < 2147483648 from by omega)
          exact KH10 x3 (x4 + 1) (b1_k ++ [c]) b3_k (ks_k ++ W2_k) (m1_k ++ [cc_k]) _ J24 K25 hS hR (by assumption) (by assumption) (show 0 ≤ x2.toInt from by omega) (show x2.toInt ≤ 11 from by omega) (show 0 ≤ x3.toInt from by omega) ((show x3.toInt ≤ (qn (b1_k ++ [c]) : Int) from by rw [hq2_k]; split <;> omega)) ((show ((x4 + 1)).toInt = ((b1_k ++ [c]).length : Int) from by rw [l1c]; omega)) (i9_k.trans (lcat b1_k c b3_k)) (hw_k) (rp_snoc i11_k hcr_k) ((by rw [List.length_append, List.length_append]; show _ + 1 = _ + 1; omega)) ((by rw [← List.append_assoc]; first | exact Md_make i13_k hcc_k (by omega) | exact Md_make' i13_k (by omega) (by omega))) (show 41 - (x4 + 1).toInt ≤ (n10 : Int) - 1 from by omega)
        · have f32_k : (ps_a s 1134 (Int32.toNatClampNeg ((x1 + 1) + x4))).toInt = (5 : Int) := xeq h29_k
          exact ms_232_86 (x1 := x1) (x2 := x2) (σ := σ) (l := l) (ml := ml) (Wb_k := Wb_k) k n10 KH10 x3 x4 b1_k c b3_k (bb_k :: W2_k) (m1_k ++ [cc_k]) _ J24 K25 hS hR (by assumption) (by assumption) (show 0 ≤ x2.toInt from by omega) (show x2.toInt ≤ 11 from by omega) (show 0 ≤ x3.toInt from by omega) (by assumption) (by assumption) (by assumption) (by assumption) (rp_snoc i11_k hcr_k) ((by rw [List.length_append]; show _ + 1 = _; omega)) ((by rw [← List.append_assoc]; first | exact Md_make i13_k hcc_k (by omega) | exact Md_make' i13_k (by omega) (by omega))) ((by omega)) (show 41 - x4.toInt ≤ (n10 : Int) from by omega)
  · have f33_k : (ps_a s 1134 (Int32.toNatClampNeg ((x1 + 1) + x4))).toInt = ((60 : Int32) + x2).toInt := xeq h5_k
    have a34_k : ((40 : Int32) + x3).toInt = (40 : Int) + x3.toInt := xIa (show -2147483648 ≤ (40 : Int) + x3.toInt from by omega) (show (40 : Int) + x3.toInt < 2147483648 from by omega)
    obtain ⟨cc_k, hcc_k, hcr_k⟩ : ∃ cc_k : Nat, (((40 : Int32) + x3)).toInt = (cc_k : Int) ∧ ([cc_k] = [c] ∨ (40 ≤ c ∧ c < 72 ∧ ws σ [cc_k] [false])) := by first | exact ⟨c, hp_k, Or.inl rfl⟩ | exact ⟨40 + x3.toInt.toNat, by omega, Or.inr ⟨by omega, hc_k, ws_1 (Sg_σ hS) (by omega) (by omega)⟩⟩
    refine pg_225_0 ?_
    have r35_k := mf_34 J
    refine And.intro (fun h36_k => ?_) (fun h36_k => ?_)
    · have f37_k : (260 : Int) ≤ (ps_i s 1131 34).toInt := xle h36_k
      have a38_k : ((ps_i s 1131 34) + 1).toInt = (ps_i s 1131 34).toInt + (1 : Int) := xIa (show -2147483648 ≤ (ps_i s 1131 34).toInt + (1 : Int) from by omega) (show (ps_i s 1131 34).toInt + (1 : Int) < 2147483648 from by omega)
      have J39 := mwi_34 (v := ((ps_i s 1131 34) + 1)) J (show 0 ≤ ((ps_i s 1131 34) + 1).toInt from by omega) (show ((ps_i s 1131 34) + 1).toInt ≤ 100000 from by omega)
      have K40 := kpi K (q := 34) (v := ((ps_i s 1131 34) + 1)) rfl
      refine And.intro (fun h41_k => ?_) (fun h41_k => ?_)
      · have f42_k : (ps_a s 1134 (Int32.toNatClampNeg ((x1 + 1) + x4))).toInt = (4 : Int) := xeq h41_k
        exact ms_232_86 (x1 := x1) (x2 := x2) (σ := σ) (l := l) (ml := ml) (Wb_k := Wb_k) k n10 KH10 x3 x4 b1_k c b3_k (bb_k :: W2_k) (m1_k ++ [cc_k]) _ J39 K40 hS hR (by assumption) (by assumption) (show 0 ≤ x2.toInt from by omega) (show x2.toInt ≤ 11 from by omega) (show 0 ≤ x3.toInt from by omega) (by assumption) (by assumption) (by assumption) (by assumption) (rp_snoc i11_k hcr_k) ((by rw [List.length_append]; show _ + 1 = _; omega)) ((by rw [← List.append_assoc]; first | exact Md_make i13_k hcc_k (by omega) | exact Md_make' i13_k (by omega) (by omega))) ((by omega)) (show 41 - x4.toInt ≤ (n10 : Int) from by omega)
      · have f43_k : (ps_a s 1134 (Int32.toNatClampNeg ((x1 + 1) + x4))).toInt ≠ (4 : Int) := xne h41_k
        refine And.intro (fun h44_k => ?_) (fun h44_k => ?_)
        · have f45_k : (ps_a s 1134 (Int32.toNatClampNeg ((x1 + 1) + x4))).toInt ≠ (5 : Int) := xne h44_k
          have a46_k : (x4 + 1).toInt = x4.toInt + (1 : Int) := xIa (show -2147483648 ≤ x4.toInt + (1 : Int) from by omega) (show x4.toInt + (1 : Int) < 2147483648 from by omega)
          exact KH10 x3 (x4 + 1) (b1_k ++ [c]) b3_k (ks_k ++ W2_k) (m1_k ++ [cc_k]) _ J39 K40 hS hR (by assumption) (by assumption) (show 0 ≤ x2.toInt from by omega) (show x2.toInt ≤ 11 from by omega) (show 0 ≤ x3.toInt from by omega) ((show x3.toInt ≤ (qn (b1_k ++ [c]) : Int) from by rw [hq2_k]; split <;> omega)) ((show ((x4 + 1)).toInt = ((b1_k ++ [c]).length : Int) from by rw [l1c]; omega)) (i9_k.trans (lcat b1_k c b3_k)) (hw_k) (rp_snoc i11_k hcr_k) ((by rw [List.length_append, List.length_append]; show _ + 1 = _ + 1; omega)) ((by rw [← List.append_assoc]; first | exact Md_make i13_k hcc_k (by omega) | exact Md_make' i13_k (by omega) (by omega))) (show 41 - (x4 + 1).toInt ≤ (n10 : Int) - 1 from by omega)
        · have f47_k : (ps_a s 1134 (Int32.toNatClampNeg ((x1 + 1) + x4))).toInt = (5 : Int) := xeq h44_k
          exact ms_232_86 (x1 := x1) (x2 := x2) (σ := σ) (l := l) (ml := ml) (Wb_k := Wb_k) k n10 KH10 x3 x4 b1_k c b3_k (bb_k :: W2_k) (m1_k ++ [cc_k]) _ J39 K40 hS hR (by assumption) (by assumption) (show 0 ≤ x2.toInt from by omega) (show x2.toInt ≤ 11 from by omega) (show 0 ≤ x3.toInt from by omega) (by assumption) (by assumption) (by assumption) (by assumption) (rp_snoc i11_k hcr_k) ((by rw [List.length_append]; show _ + 1 = _; omega)) ((by rw [← List.append_assoc]; first | exact Md_make i13_k hcc_k (by omega) | exact Md_make' i13_k (by omega) (by omega))) ((by omega)) (show 41 - x4.toInt ≤ (n10 : Int) from by omega)
    · have f48_k : (ps_i s 1131 34).toInt < (260 : Int) := xlt h36_k
      refine ps_nd_i (show pm_in (ps_i s 1131 34) 260 = true from xgi (show 0 ≤ (ps_i s 1131 34).toInt from by omega) (show (ps_i s 1131 34).toInt < 260 from by omega)) ?_
      have J49 := mwa_n 1149 (i := (Int32.toNatClampNeg (ps_i s 1131 34))) (v := ((40 : Int32) + x3)) J rfl (by decide)
      have K50 := kpa' K (r := 1149) (i := (Int32.toNatClampNeg (ps_i s 1131 34))) (v := ((40 : Int32) + x3)) rfl
      have a51_k : ((ps_i s 1131 34) + 1).toInt = (ps_i s 1131 34).toInt + (1 : Int) := xIa (show -2147483648 ≤ (ps_i s 1131 34).toInt + (1 : Int) from by omega) (show (ps_i s 1131 34).toInt + (1 : Int) < 2147483648 from by omega)
      have J52 := mwi_34 (v := ((ps_i s 1131 34) + 1)) J49 (show 0 ≤ ((ps_i s 1131 34) + 1).toInt from by omega) (show ((ps_i s 1131 34) + 1).toInt ≤ 100000 from by omega)
      have K53 := kpi K50 (q := 34) (v := ((ps_i s 1131 34) + 1)) rfl
      refine And.intro (fun h54_k => ?_) (fun h54_k => ?_)
      · have f55_k : (ps_a s 1134 (Int32.toNatClampNeg ((x1 + 1) + x4))).toInt = (4 : Int) := xeq h54_k
        exact ms_232_86 (x1 := x1) (x2 := x2) (σ := σ) (l := l) (ml := ml) (Wb_k := Wb_k) k n10 KH10 x3 x4 b1_k c b3_k (bb_k :: W2_k) (m1_k ++ [cc_k]) _ J52 K53 hS hR (by assumption) (by assumption) (show 0 ≤ x2.toInt from by omega) (show x2.toInt ≤ 11 from by omega) (show 0 ≤ x3.toInt from by omega) (by assumption) (by assumption) (by assumption) (by assumption) (rp_snoc i11_k hcr_k) ((by rw [List.length_append]; show _ + 1 = _; omega)) ((by rw [← List.append_assoc]; first | exact Md_make i13_k hcc_k (by omega) | exact Md_make' i13_k (by omega) (by omega))) ((by omega)) (show 41 - x4.toInt ≤ (n10 : Int) from by omega)
      · have f56_k : (ps_a s 1134 (Int32.toNatClampNeg ((x1 + 1) + x4))).toInt ≠ (4 : Int) := xne h54_k
        refine And.intro (fun h57_k => ?_) (fun h57_k => ?_)
        · have f58_k : (ps_a s 1134 (Int32.toNatClampNeg ((x1 + 1) + x4))).toInt ≠ (5 : Int) := xne h57_k
          have a59_k : (x4 + 1).toInt = x4.toInt + (1 : Int) := xIa (show -2147483648 ≤ x4.toInt + (1 : Int) from by omega) (show x4.toInt + (1 : Int) < 2147483648 from by omega)
          exact KH10 x3 (x4 + 1) (b1_k ++ [c]) b3_k (ks_k ++ W2_k) (m1_k ++ [cc_k]) _ J52 K53 hS hR (by assumption) (by assumption) (show 0 ≤ x2.toInt from by omega) (show x2.toInt ≤ 11 from by omega) (show 0 ≤ x3.toInt from by omega) ((show x3.toInt ≤ (qn (b1_k ++ [c]) : Int) from by rw [hq2_k]; split <;> omega)) ((show ((x4 + 1)).toInt = ((b1_k ++ [c]).length : Int) from by rw [l1c]; omega)) (i9_k.trans (lcat b1_k c b3_k)) (hw_k) (rp_snoc i11_k hcr_k) ((by rw [List.length_append, List.length_append]; show _ + 1 = _ + 1; omega)) ((by rw [← List.append_assoc]; first | exact Md_make i13_k hcc_k (by omega) | exact Md_make' i13_k (by omega) (by omega))) (show 41 - (x4 + 1).toInt ≤ (n10 : Int) - 1 from by omega)
        · have f60_k : (ps_a s 1134 (Int32.toNatClampNeg ((x1 + 1) + x4))).toInt = (5 : Int) := xeq h57_k
          exact ms_232_86 (x1 := x1) (x2 := x2) (σ := σ) (l := l) (ml := ml) (Wb_k := Wb_k) k n10 KH10 x3 x4 b1_k c b3_k (bb_k :: W2_k) (m1_k ++ [cc_k]) _ J52 K53 hS hR (by assumption) (by assumption) (show 0 ≤ x2.toInt from by omega) (show x2.toInt ≤ 11 from by omega) (show 0 ≤ x3.toInt from by omega) (by assumption) (by assumption) (by assumption) (by assumption) (rp_snoc i11_k hcr_k) ((by rw [List.length_append]; show _ + 1 = _; omega)) ((by rw [← List.append_assoc]; first | exact Md_make i13_k hcc_k (by omega) | exact Md_make' i13_k (by omega) (by omega))) ((by omega)) (show 41 - x4.toInt ≤ (n10 : Int) from by omega)

