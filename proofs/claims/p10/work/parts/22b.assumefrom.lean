set_option maxRecDepth 100000
-- ProofBenchModel.assumeFrom(IIZ)V
theorem pg_249_0 {d : Nat} {x1 : Int32} {x2 : Int32} {x3 : Int32} {s : ps_S} {Q : Option Value → ps_S → Prop} (h :
  ps_At (d + 1) 249 3 [(0, .ref 1131), (1, .int x1), (2, .int x2), (3, .int x3), (4, .int 0)] [] s Q) : ps_At (d + 1) 249 0 [(0, .ref 1131), (1, .int x1), (2, .int x2), (3, .int x3)] [] s Q :=
  ps_wp_at (stops := [(3, [0, 1, 2, 3, 4]), (31, [0, 1, 2, 3, 4])]) (n := 4) h rfl

theorem pg_249_3 {d : Nat} {x1 : Int32} {x2 : Int32} {x3 : Int32} {x4 : Int32} {s : ps_S} {Q : Option Value → ps_S → Prop} (h :
  ps_nd (pm_in x2 41) (((ps_a s 1157 (Int32.toNatClampNeg x2)) ≤ x4 →
    Q none s) ∧
  (x4 < (ps_a s 1157 (Int32.toNatClampNeg x2)) →
    (x3 = 0 →
      ps_At (d + 1) 249 31 [(0, .ref 1131), (1, .int x1), (2, .int x2), (3, .int x3), (4, .int x4)] [] s Q) ∧
    (x3 ≠ 0 →
      ps_Cl d 243 [.int x2, .int x4] s (ps_rI (fun v1 s1 =>
        ps_Cl d 230 [.ref 1131, .int v1] s1 (ps_rI (fun v2 s2 =>
          (v2 ≠ 0 →
            ps_At (d + 1) 249 3 [(0, .ref 1131), (1, .int x1), (2, .int x2), (3, .int x3), (4, .int (x4 + 1))] [] s2 Q) ∧
          (v2 = 0 →
            ps_At (d + 1) 249 31 [(0, .ref 1131), (1, .int x1), (2, .int x2), (3, .int x3), (4, .int x4)] [] s2 Q))))))))) : ps_At (d + 1) 249 3 [(0, .ref 1131), (1, .int x1), (2, .int x2), (3, .int x3), (4, .int x4)] [] s Q :=
  ps_wp_at (stops := [(3, [0, 1, 2, 3, 4]), (31, [0, 1, 2, 3, 4])]) (n := 19) h rfl

theorem pg_249_31 {d : Nat} {x1 : Int32} {x2 : Int32} {x3 : Int32} {x4 : Int32} {s : ps_S} {Q : Option Value → ps_S → Prop} (h :
  ps_Cl d 243 [.int x2, .int x4] s (ps_rI (fun v1 s1 =>
    ps_Cl d 248 [.ref 1131, .int x1, .int v1] s1 (ps_rV (fun s2 =>
      ps_At (d + 1) 249 3 [(0, .ref 1131), (1, .int x1), (2, .int x2), (3, .int x3), (4, .int (x4 + 1))] [] s2 Q))))) : ps_At (d + 1) 249 31 [(0, .ref 1131), (1, .int x1), (2, .int x2), (3, .int x3), (4, .int x4)] [] s Q :=
  ps_wp_at (stops := [(3, [0, 1, 2, 3, 4]), (31, [0, 1, 2, 3, 4])]) (n := 10) h rfl

theorem ms_249_31 {x : Nat → Nat → Nat} {t : Int32} {d : Nat} {s0 : ps_S} {σ : mSig} {x1 : Int32} {x2 : Int32} {x3 : Int32} {Q : Option Value → ps_S → Prop} (k : ∀ (s' : ps_S), mJ x t s' → kp [1134] [51] s0 s' → (As σ (ps_a s' 1134) x1.toInt (ps_i s' 1131 51).toInt) → (OutB (ps_a s0 1134) (ps_a s' 1134) x1.toInt) → ((ps_i s0 1131 51).toInt ≤ (ps_i s' 1131 51).toInt) → ((ps_i s' 1131 51).toInt ≤ (ps_i s0 1131 51).toInt + 12) → Q none s') (n3 : Nat) (KH3 : ∀ (x4 : Int32) (s : ps_S), (mJ x t s) → (kp [1134] [51] s0 s) → (As σ (ps_a s 1134) x1.toInt (ps_i s 1131 51).toInt) → (PSt σ (ps_a s 1134) (ps_a s 1157) x1.toInt) → (0 ≤ x1.toInt) → (x1.toInt < 40) → (0 ≤ x2.toInt) → (x2.toInt < x1.toInt) → ((ps_i s0 1131 51).toInt ≤ 800) → (0 ≤ x4.toInt) → (x4.toInt ≤ 12) → ((ps_i s0 1131 51).toInt ≤ (ps_i s 1131 51).toInt) → ((ps_i s 1131 51).toInt ≤ (ps_i s0 1131 51).toInt + x4.toInt) → (OutB (ps_a s0 1134) (ps_a s 1134) x1.toInt) → (20 - x4.toInt ≤ (n3 : Int) - 1) → ps_At (d + 3) 249 3 [(0, .ref 1131), (1, .int x1), (2, .int x2), (3, .int x3), (4, .int x4)] [] s Q) (x4 : Int32) (s : ps_S) (J : mJ x t s) (K : kp [1134] [51] s0 s) (hA : As σ (ps_a s 1134) x1.toInt (ps_i s 1131 51).toInt) (hP : PSt σ (ps_a s 1134) (ps_a s 1157) x1.toInt) (i2 : 0 ≤ x1.toInt) (i3 : x1.toInt < 40) (i4 : 0 ≤ x2.toInt) (i5 : x2.toInt < x1.toInt) (i6 : (ps_i s0 1131 51).toInt ≤ 800) (i7 : 0 ≤ x4.toInt) (i8 : x4.toInt < 12) (i9 : x4.toInt < (ps_a s 1157 (Int32.toNatClampNeg x2)).toInt) (i10 : (ps_i s0 1131 51).toInt ≤ (ps_i s 1131 51).toInt) (i11 : (ps_i s 1131 51).toInt ≤ (ps_i s0 1131 51).toInt + x4.toInt) (i12 : OutB (ps_a s0 1134) (ps_a s 1134) x1.toInt) (hm3 : 20 - x4.toInt ≤ (n3 : Int)) : ps_At (d + 3) 249 31 [(0, .ref 1131), (1, .int x1), (2, .int x2), (3, .int x3), (4, .int x4)] [] s Q := by
  have r1 : 0 ≤ (ps_a s 1157 (Int32.toNatClampNeg x2)).toInt ∧ (ps_a s 1157 (Int32.toNatClampNeg x2)).toInt ≤ 12 := ma_1157 (i := x2) J (show 0 ≤ x2.toInt from by omega) (show x2.toInt < 41 from by omega)
  have r2 := mf_51 J
  refine pg_249_31 (d := d + 2) ?_
  refine pg_243_0 ?_
  have a3 : ((12 : Int32) * x2).toInt = (12 : Int) * x2.toInt := xIm (show -2147483648 ≤ (12 : Int) * x2.toInt from by omega) (show (12 : Int) * x2.toInt < 2147483648 from by omega)
  have a4 : (((12 : Int32) * x2) + x4).toInt = ((12 : Int32) * x2).toInt + x4.toInt := xIa (show -2147483648 ≤ ((12 : Int32) * x2).toInt + x4.toInt from by omega) (show ((12 : Int32) * x2).toInt + x4.toInt < 2147483648 from by omega)
  have a5 : ((41 : Int32) * (((12 : Int32) * x2) + x4)).toInt = (41 : Int) * (((12 : Int32) * x2) + x4).toInt := xIm (show -2147483648 ≤ (41 : Int) * (((12 : Int32) * x2) + x4).toInt from by omega) (show (41 : Int) * (((12 : Int32) * x2) + x4).toInt < 2147483648 from by omega)
  have a6 : ((1640 : Int32) + ((41 : Int32) * (((12 : Int32) * x2) + x4))).toInt = (1640 : Int) + ((41 : Int32) * (((12 : Int32) * x2) + x4)).toInt := xIa (show -2147483648 ≤ (1640 : Int) + ((41 : Int32) * (((12 : Int32) * x2) + x4)).toInt from by omega) (show (1640 : Int) + ((41 : Int32) * (((12 : Int32) * x2) + x4)).toInt < 2147483648 from by omega)
  refine ms_248 J hA ((by rw [show ((1640 : Int32) + ((41 : Int32) * (((12 : Int32) * x2) + x4))).toInt = 1640 + 41 * (12 * ((x2.toInt.toNat : Nat) : Int) + ((x4.toInt.toNat : Nat) : Int)) from by omega]; exact (hP (x2.toInt).toNat (by omega)).2 (x4.toInt).toNat (by show ((x4.toInt.toNat : Nat) : Int) < (ps_a s 1157 (Int32.toNatClampNeg x2)).toInt; omega) (by omega))) (show 0 ≤ x1.toInt from by omega) (show x1.toInt < 40 from by omega) (show ((1640 : Int32) + ((41 : Int32) * (((12 : Int32) * x2) + x4))).toInt + 41 ≤ 1640 + 492 * x1.toInt ∨ 1640 + 492 * x1.toInt + 492 ≤ ((1640 : Int32) + ((41 : Int32) * (((12 : Int32) * x2) + x4))).toInt from by omega) (show (ps_i s 1131 51).toInt ≤ 900 from by omega) (fun s7 J7 K7 p7_0 p7_1 p7_2 p7_3 => ?_)
  have K8 := kpt K K7 rfl rfl
  have KC := K7
  have p7_2' : (ps_i s 1131 51).toInt ≤ (ps_i s7 1131 51).toInt := p7_2
  have r9 := mf_51 J7
  have p7_3' : (ps_i s7 1131 51).toInt ≤ (ps_i s 1131 51).toInt + 1 := p7_3
  have ho : _ := p7_1
  have a10 : (x4 + 1).toInt = x4.toInt + (1 : Int) := xIa (show -2147483648 ≤ x4.toInt + (1 : Int) from by omega) (show x4.toInt + (1 : Int) < 2147483648 from by omega)
  exact KH3 (x4 + 1) _ J7 K8 (by assumption) ((by rw [show ps_a s7 1157 = ps_a s 1157 from (KC.2 1157 rfl).1]; exact PSt_out hP ho (by omega))) (show 0 ≤ x1.toInt from by omega) (show x1.toInt < 40 from by omega) (show 0 ≤ x2.toInt from by omega) (show x2.toInt < x1.toInt from by omega) (show (ps_i s0 1131 51).toInt ≤ 800 from by omega) (show 0 ≤ (x4 + 1).toInt from by omega) (show (x4 + 1).toInt ≤ 12 from by omega) (show (ps_i s0 1131 51).toInt ≤ (ps_i s7 1131 51).toInt from by omega) (show (ps_i s7 1131 51).toInt ≤ (ps_i s0 1131 51).toInt + (x4 + 1).toInt from by omega) (OutB_tr i12 ho) (show 20 - (x4 + 1).toInt ≤ (n3 : Int) - 1 from by omega)

theorem ms_249_3 {x : Nat → Nat → Nat} {t : Int32} {d : Nat} {s0 : ps_S} {σ : mSig} {x1 : Int32} {x2 : Int32} {x3 : Int32} {Q : Option Value → ps_S → Prop} (k : ∀ (s' : ps_S), mJ x t s' → kp [1134] [51] s0 s' → (As σ (ps_a s' 1134) x1.toInt (ps_i s' 1131 51).toInt) → (OutB (ps_a s0 1134) (ps_a s' 1134) x1.toInt) → ((ps_i s0 1131 51).toInt ≤ (ps_i s' 1131 51).toInt) → ((ps_i s' 1131 51).toInt ≤ (ps_i s0 1131 51).toInt + 12) → Q none s') : ∀ (n : Nat) (x4 : Int32) (s : ps_S), (mJ x t s) → (kp [1134] [51] s0 s) → (As σ (ps_a s 1134) x1.toInt (ps_i s 1131 51).toInt) → (PSt σ (ps_a s 1134) (ps_a s 1157) x1.toInt) → (0 ≤ x1.toInt) → (x1.toInt < 40) → (0 ≤ x2.toInt) → (x2.toInt < x1.toInt) → ((ps_i s0 1131 51).toInt ≤ 800) → (0 ≤ x4.toInt) → (x4.toInt ≤ 12) → ((ps_i s0 1131 51).toInt ≤ (ps_i s 1131 51).toInt) → ((ps_i s 1131 51).toInt ≤ (ps_i s0 1131 51).toInt + x4.toInt) → (OutB (ps_a s0 1134) (ps_a s 1134) x1.toInt) → 20 - x4.toInt ≤ (n : Int) → ps_At (d + 3) 249 3 [(0, .ref 1131), (1, .int x1), (2, .int x2), (3, .int x3), (4, .int x4)] [] s Q := by
  refine xstr (fun n ih => ?_)
  intro x4 s J K hA hP i2 i3 i4 i5 i6 i7 i8 i9 i10 i11 hm
  have r1 := mf_51 J
  refine pg_249_3 (d := d + 2) ?_
  refine ps_nd_i (show pm_in x2 41 = true from xgi (show 0 ≤ x2.toInt from by omega) (show x2.toInt < 41 from by omega)) ?_
  have r2 : 0 ≤ (ps_a s 1157 (Int32.toNatClampNeg x2)).toInt ∧ (ps_a s 1157 (Int32.toNatClampNeg x2)).toInt ≤ 12 := ma_1157 (i := x2) J (show 0 ≤ x2.toInt from by omega) (show x2.toInt < 41 from by omega)
  refine And.intro (fun h3 => ?_) (fun h3 => ?_)
  · have f4 : (ps_a s 1157 (Int32.toNatClampNeg x2)).toInt ≤ x4.toInt := xle h3
    exact k _ J K hA (by assumption) (show (ps_i s0 1131 51).toInt ≤ (ps_i s 1131 51).toInt from by omega) (show (ps_i s 1131 51).toInt ≤ (ps_i s0 1131 51).toInt + 12 from by omega)
  · have f5 : x4.toInt < (ps_a s 1157 (Int32.toNatClampNeg x2)).toInt := xlt h3
    refine And.intro (fun h6 => ?_) (fun h6 => ?_)
    · have f7 : x3.toInt = (0 : Int) := xeq h6
      exact ms_249_31 (x1 := x1) (x2 := x2) (x3 := x3) (σ := σ) k n (fun x4z sz Jz Kz i0z i1z i2z i3z i4z i5z i6z i7z i8z i9z i10z i11z hm => ih (n - 1) (show n - 1 < n from by omega) x4z sz Jz Kz i0z i1z i2z i3z i4z i5z i6z i7z i8z i9z i10z i11z (show _ ≤ ((n - 1 : Nat) : Int) from by omega)) x4 _ J K hA hP (show 0 ≤ x1.toInt from by omega) (show x1.toInt < 40 from by omega) (show 0 ≤ x2.toInt from by omega) (show x2.toInt < x1.toInt from by omega) (show (ps_i s0 1131 51).toInt ≤ 800 from by omega) (show 0 ≤ x4.toInt from by omega) (show x4.toInt < 12 from by omega) (show x4.toInt < (ps_a s 1157 (Int32.toNatClampNeg x2)).toInt from by omega) (show (ps_i s0 1131 51).toInt ≤ (ps_i s 1131 51).toInt from by omega) (show (ps_i s 1131 51).toInt ≤ (ps_i s0 1131 51).toInt + x4.toInt from by omega) (by assumption) (show 20 - x4.toInt ≤ ((n : Nat) : Int) from by omega)
    · have f8 : x3.toInt ≠ (0 : Int) := xne h6
      refine pg_243_0 ?_
      have a9 : ((12 : Int32) * x2).toInt = (12 : Int) * x2.toInt := xIm (show -2147483648 ≤ (12 : Int) * x2.toInt from by omega) (show (12 : Int) * x2.toInt < 2147483648 from by omega)
      have a10 : (((12 : Int32) * x2) + x4).toInt = ((12 : Int32) * x2).toInt + x4.toInt := xIa (show -2147483648 ≤ ((12 : Int32) * x2).toInt + x4.toInt from by omega) (show ((12 : Int32) * x2).toInt + x4.toInt < 2147483648 from by omega)
      have a11 : ((41 : Int32) * (((12 : Int32) * x2) + x4)).toInt = (41 : Int) * (((12 : Int32) * x2) + x4).toInt := xIm (show -2147483648 ≤ (41 : Int) * (((12 : Int32) * x2) + x4).toInt from by omega) (show (41 : Int) * (((12 : Int32) * x2) + x4).toInt < 2147483648 from by omega)
      have a12 : ((1640 : Int32) + ((41 : Int32) * (((12 : Int32) * x2) + x4))).toInt = (1640 : Int) + ((41 : Int32) * (((12 : Int32) * x2) + x4)).toInt := xIa (show -2147483648 ≤ (1640 : Int) + ((41 : Int32) * (((12 : Int32) * x2) + x4)).toInt from by omega) (show (1640 : Int) + ((41 : Int32) * (((12 : Int32) * x2) + x4)).toInt < 2147483648 from by omega)
      refine ms_230 J (show ((1640 : Int32) + ((41 : Int32) * (((12 : Int32) * x2) + x4))).toInt % 41 = 0 from by omega) (show 0 ≤ ((1640 : Int32) + ((41 : Int32) * (((12 : Int32) * x2) + x4))).toInt from by omega) (show ((1640 : Int32) + ((41 : Int32) * (((12 : Int32) * x2) + x4))).toInt < 27306 from by omega) (fun v13 b13 => ?_)
      refine And.intro (fun h14 => ?_) (fun h14 => ?_)
      · have f15 : v13.toInt ≠ (0 : Int) := xne h14
        have a16 : (x4 + 1).toInt = x4.toInt + (1 : Int) := xIa (show -2147483648 ≤ x4.toInt + (1 : Int) from by omega) (show x4.toInt + (1 : Int) < 2147483648 from by omega)
        exact ih (n - 1) (show n - 1 < n from by omega) (x4 + 1) _ J K hA hP (show 0 ≤ x1.toInt from by omega) (show x1.toInt < 40 from by omega) (show 0 ≤ x2.toInt from by omega) (show x2.toInt < x1.toInt from by omega) (show (ps_i s0 1131 51).toInt ≤ 800 from by omega) (show 0 ≤ (x4 + 1).toInt from by omega) (show (x4 + 1).toInt ≤ 12 from by omega) (show (ps_i s0 1131 51).toInt ≤ (ps_i s 1131 51).toInt from by omega) (show (ps_i s 1131 51).toInt ≤ (ps_i s0 1131 51).toInt + (x4 + 1).toInt from by omega) (by assumption) (show 20 - (x4 + 1).toInt ≤ ((n - 1 : Nat) : Int) from by omega)
      · have f17 : v13.toInt = (0 : Int) := xeq h14
        exact ms_249_31 (x1 := x1) (x2 := x2) (x3 := x3) (σ := σ) k n (fun x4z sz Jz Kz i0z i1z i2z i3z i4z i5z i6z i7z i8z i9z i10z i11z hm => ih (n - 1) (show n - 1 < n from by omega) x4z sz Jz Kz i0z i1z i2z i3z i4z i5z i6z i7z i8z i9z i10z i11z (show _ ≤ ((n - 1 : Nat) : Int) from by omega)) x4 _ J K hA hP (show 0 ≤ x1.toInt from by omega) (show x1.toInt < 40 from by omega) (show 0 ≤ x2.toInt from by omega) (show x2.toInt < x1.toInt from by omega) (show (ps_i s0 1131 51).toInt ≤ 800 from by omega) (show 0 ≤ x4.toInt from by omega) (show x4.toInt < 12 from by omega) (show x4.toInt < (ps_a s 1157 (Int32.toNatClampNeg x2)).toInt from by omega) (show (ps_i s0 1131 51).toInt ≤ (ps_i s 1131 51).toInt from by omega) (show (ps_i s 1131 51).toInt ≤ (ps_i s0 1131 51).toInt + x4.toInt from by omega) (by assumption) (show 20 - x4.toInt ≤ ((n : Nat) : Int) from by omega)

theorem ms_249 {x : Nat → Nat → Nat} {t : Int32} {s : ps_S} {d : Nat} {x1 : Int32} {x2 : Int32} {x3 : Int32} {f : ps_S → Prop} (J : mJ x t s) {σ : mSig} (hA : As σ (ps_a s 1134) x1.toInt (ps_i s 1131 51).toInt) (hP : PSt σ (ps_a s 1134) (ps_a s 1157) x1.toInt) (q2 : 0 ≤ x1.toInt) (q3 : x1.toInt < 40) (q4 : 0 ≤ x2.toInt) (q5 : x2.toInt < x1.toInt) (q6 : (ps_i s 1131 51).toInt ≤ 800) (k : ∀ (s' : ps_S), mJ x t s' → kp [1134] [51] s s' → (As σ (ps_a s' 1134) x1.toInt (ps_i s' 1131 51).toInt) → (OutB (ps_a s 1134) (ps_a s' 1134) x1.toInt) → ((ps_i s 1131 51).toInt ≤ (ps_i s' 1131 51).toInt) → ((ps_i s' 1131 51).toInt ≤ (ps_i s 1131 51).toInt + 12) → f s') : ps_Cl (d + 3) 249 [.ref 1131, .int x1, .int x2, .int x3] s (ps_rV f) := by
  have r1 := mf_51 J
  have K : kp [1134] [51] s s := kp_refl
  refine pg_249_0 (d := d + 2) ?_
  exact ms_249_3 (x1 := x1) (x2 := x2) (x3 := x3) (σ := σ) k  (20 - (0 : Int)).toNat (0) _ J K hA hP (show 0 ≤ x1.toInt from by omega) (show x1.toInt < 40 from by omega) (show 0 ≤ x2.toInt from by omega) (show x2.toInt < x1.toInt from by omega) (show (ps_i s 1131 51).toInt ≤ 800 from by omega) (show 0 ≤ (0 : Int) from by omega) (show (0 : Int) ≤ 12 from by omega) (show (ps_i s 1131 51).toInt ≤ (ps_i s 1131 51).toInt from by omega) (show (ps_i s 1131 51).toInt ≤ (ps_i s 1131 51).toInt + (0 : Int) from by omega) (OutB_refl) (show 20 - (0 : Int) ≤ (((20 - (0 : Int)).toNat : Nat) : Int) from by omega)
