set_option maxRecDepth 100000
theorem ms_252_253 {x : Nat → Nat → Nat} {t : Int32} {d : Nat} {s0 : ps_S} {σ : mSig} {x1 : Int32} {Q : Option Value → ps_S → Prop} (k : ∀ (s' : ps_S), mJ x t s' → kp [1134, 1149, 1150, 1151, 1157, 1158, 1159, 1160] [34, 50, 51] s0 s' → (PSt σ (ps_a s' 1134) (ps_a s' 1157) x1.toInt) → ((ps_i s' 1131 50).toInt ≤ 0 → PSt σ (ps_a s' 1134) (ps_a s' 1157) (x1.toInt + 1)) → (∀ k : Nat, 21320 ≤ k → ps_a s' 1134 k = ps_a s0 1134 k) → Q none s') (s : ps_S) (J : mJ x t s) (K : kp [1134, 1149, 1150, 1151, 1157, 1158, 1159, 1160] [34, 50, 51] s0 s) (hA : As σ (ps_a s 1134) x1.toInt (ps_i s 1131 51).toInt) (hO : OutB (ps_a s0 1134) (ps_a s 1134) x1.toInt) (hP : PSt σ (ps_a s 1134) (ps_a s 1157) x1.toInt) (i3_k : 0 ≤ x1.toInt) (i4_k : x1.toInt < 40) (i5_k : (ps_i s 1131 51).toInt ≤ 36) (i6_k : 1 ≤ (ps_i s 1131 50).toInt ∨ ((ps_i s 1131 51).toInt ≤ 12 ∧ ∃ ml, Md (ps_a s 1149) (ps_i s 1131 34).toInt ml ∧ ml.length ≤ 40 ∧ wf σ 5 ml [(true, 0)])) : ps_At (d + 6) 252 253 [(0, .ref 1131), (1, .int x1)] [] s Q := by
  have r1_k := mf_51 J
  refine pg_252_253 (d := d + 5) ?_
  have r2_k := mf_50 J
  refine And.intro (fun h3_k => ?_) (fun h3_k => ?_)
  · have f4_k : (ps_i s 1131 50).toInt ≤ (0 : Int) := xle h3_k
    obtain ⟨h12_k, ml, hm1, hm2, hm3⟩ := i6_k.resolve_left (by omega)
    have ex_k : Int32.toNatClampNeg x1 = x1.toInt.toNat := rfl
    refine pg_242_0 ?_
    have a5_k : ((41 : Int32) * x1).toInt = (41 : Int) * x1.toInt := xIm (show -2147483648 ≤ (41 : Int) * x1.toInt from by omega) (show (41 : Int) * x1.toInt < 2147483648 from by omega)
    have a6_k : ((0 : Int32) + ((41 : Int32) * x1)).toInt = (0 : Int) + ((41 : Int32) * x1).toInt := xIa (show -2147483648 ≤ (0 : Int) + ((41 : Int32) * x1).toInt from by omega) (show (0 : Int) + ((41 : Int32) * x1).toInt < 2147483648 from by omega)
    refine ms_229 J (hm1) (show ((0 : Int32) + ((41 : Int32) * x1)).toInt % 41 = 0 from by omega) (show 0 ≤ ((0 : Int32) + ((41 : Int32) * x1)).toInt from by omega) (show ((0 : Int32) + ((41 : Int32) * x1)).toInt < 27306 from by omega) (hm2) (fun s7 J7 K7 p7_0 p7_1 => ?_)
    have K8 := kpt K K7 rfl rfl
    have KC := K7
    have hr : _ := p7_0
    have hu : _ := p7_1
    have r9_k := mf_51 J7
    have u10 : (ps_i s7 1131 51).toInt = (ps_i s 1131 51).toInt := xeq (kp_i K7 51 rfl)
    refine ps_nd_i (show pm_in x1 41 = true from xgi (show 0 ≤ x1.toInt from by omega) (show x1.toInt < 41 from by omega)) ?_
    have J11 := mwa_1157 (i := (Int32.toNatClampNeg x1)) (v := (ps_i s7 1131 51)) J7 (show 0 ≤ (ps_i s7 1131 51).toInt from by omega) (show (ps_i s7 1131 51).toInt ≤ 12 from by omega)
    have K12 := kpa' K8 (r := 1157) (i := (Int32.toNatClampNeg x1)) (v := (ps_i s7 1131 51)) rfl
    have PU : PSt σ (ps_a (ps_ua s7 1157 (Int32.toNatClampNeg x1) (ps_i s7 1131 51)) 1134) (ps_a (ps_ua s7 1157 (Int32.toNatClampNeg x1) (ps_i s7 1131 51)) 1157) (x1.toInt + 1) := PSt_up hP (by omega) (by omega) hA (by have z_k := hr; rw [show ((0 : Int32) + ((41 : Int32) * x1)).toInt = 41 * x1.toInt from by omega] at z_k; exact z_k) hm3 (fun k hk_k => hu k (by omega)) (fun j hj => (ua_ne (by omega)).trans (congrFun (KC.2 1157 rfl).1 j)) (by rw [show ps_a (ps_ua s7 1157 (Int32.toNatClampNeg x1) (ps_i s7 1131 51)) 1157 x1.toInt.toNat = _ from ua_eq]; exact xeq (kp_i KC 51 rfl))
    exact k _ J11 K12 ((PSt_le PU (by omega))) (fun _ => PU) (fun k hk_k => (hu k (by omega)).trans (hO k (by omega)))
  · have f13_k : (0 : Int) < (ps_i s 1131 50).toInt := xlt h3_k
    exact k _ J K hP (fun z_k => absurd z_k (show ¬ ((ps_i s 1131 50).toInt ≤ 0) from by omega)) (fun k hk_k => hO k (by omega))

