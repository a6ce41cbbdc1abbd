set_option maxRecDepth 100000
-- ProofBenchModel.doesHold(II)Z
theorem pg_299_0 {d : Nat} {x1 : Int32} {x2 : Int32} {s : ps_S} {Q : Option Value → ps_S → Prop} (h :
  ps_Cl d 298 [.ref 1131, .int x1] s (ps_rI (fun v1 s1 =>
    ps_Cl d 290 [.int x2, .int v1] s1 (ps_rI (fun v2 s2 =>
      ps_At (d + 1) 299 13 [(0, .ref 1131), (1, .int x1), (2, .int x2), (3, .int v2), (4, .int 0)] [] s2 Q))))) : ps_At (d + 1) 299 0 [(0, .ref 1131), (1, .int x1), (2, .int x2)] [] s Q :=
  ps_wp_at (stops := [(13, [0, 1, 2, 3, 4]), (26, [0, 1, 2, 3, 4, 5, 6])]) (n := 10) h rfl

theorem pg_299_13 {d : Nat} {x1 : Int32} {x2 : Int32} {x3 : Int32} {x4 : Int32} {s : ps_S} {Q : Option Value → ps_S → Prop} (h :
  (x3 ≤ x4 →
    Q (some (.int 1)) s) ∧
  (x4 < x3 →
    ps_At (d + 1) 299 26 [(0, .ref 1131), (1, .int x1), (2, .int x2), (3, .int x3), (4, .int x4), (5, .int x4), (6, .int 0)] [] s Q)) : ps_At (d + 1) 299 13 [(0, .ref 1131), (1, .int x1), (2, .int x2), (3, .int x3), (4, .int x4)] [] s Q :=
  ps_wp_at (stops := [(13, [0, 1, 2, 3, 4]), (26, [0, 1, 2, 3, 4, 5, 6])]) (n := 11) h rfl

theorem pg_299_26 {d : Nat} {x1 : Int32} {x2 : Int32} {x3 : Int32} {x4 : Int32} {x5 : Int32} {x6 : Int32} {s : ps_S} {Q : Option Value → ps_S → Prop} (h :
  (12 ≤ x6 →
    ps_Cl d 295 [.ref 1131, .int x1, .int x2] s (ps_rI (fun v1 s1 =>
      (v1 ≠ 0 →
        ps_At (d + 1) 299 13 [(0, .ref 1131), (1, .int x1), (2, .int x2), (3, .int x3), (4, .int (x4 + 1))] [] s1 Q) ∧
      (v1 = 0 →
        Q (some (.int 0)) s1)))) ∧
  (x6 < 12 →
    ps_Cl d 223 [.ref 1131, .int x1, .int x6] s (ps_rI (fun v2 s2 =>
      (v2 ≠ 0 →
        ps_nd (!decide (x2 = 0)) (ps_nd (pm_in x6 12) (ps_nd (!decide (x2 = 0)) (ps_At (d + 1) 299 26 [(0, .ref 1131), (1, .int x1), (2, .int x2), (3, .int x3), (4, .int x4), (5, .int (x5 / x2)), (6, .int (x6 + 1))] [] (ps_ua s2 1175 (Int32.toNatClampNeg x6) (x5 - (x5 / x2) * x2)) Q)))) ∧
      (v2 = 0 →
        ps_At (d + 1) 299 26 [(0, .ref 1131), (1, .int x1), (2, .int x2), (3, .int x3), (4, .int x4), (5, .int x5), (6, .int (x6 + 1))] [] s2 Q))))) : ps_At (d + 1) 299 26 [(0, .ref 1131), (1, .int x1), (2, .int x2), (3, .int x3), (4, .int x4), (5, .int x5), (6, .int x6)] [] s Q :=
  ps_wp_at (stops := [(13, [0, 1, 2, 3, 4]), (26, [0, 1, 2, 3, 4, 5, 6])]) (n := 35) h rfl

theorem ms_299_26 {x : Nat → Nat → Nat} {t : Int32} {d : Nat} {s0 : ps_S} {σ : mSig} {l : List Nat} {x1 : Int32} {x2 : Int32} {Q : Option Value → ps_S → Prop} (k : ∀ (v : Int32) (s' : ps_S), mJ x t s' → kp [1150, 1173, 1174, 1175] [] s0 s' → (∀ j : Nat, j < 12 → 0 ≤ (ps_a s' 1175 j).toInt ∧ (ps_a s' 1175 j).toInt ≤ 2) → v &&& 1 = v → Q (some (.int v)) s') (n13 : Nat) (KH13 : ∀ (x3 : Int32) (x4 : Int32) (s : ps_S), (mJ x t s) → (kp [1150, 1173, 1174, 1175] [] s0 s) → (Sg (ps_a s 1135) (ps_a s 1136) (ps_a s 1138) (ps_a s 1139) (ps_i s 1131 21).toInt σ) → (Rw (ps_a s 1134) x1.toInt l) → (wf σ 5 l [(true, 0)]) → (1 ≤ x2.toInt) → (x2.toInt ≤ 3) → (∀ j : Nat, j < 96 → 0 ≤ (ps_a s 1169 j).toInt ∧ (ps_a s 1169 j).toInt ≤ 2) → (∀ j : Nat, j < 12 → 0 ≤ (ps_a s 1175 j).toInt ∧ (ps_a s 1175 j).toInt ≤ 2) → (∀ f : Nat, (f : Int) < (σ.1.2 : Int) → (ps_a s 1172 f).toInt ≤ 87) → (0 ≤ x4.toInt) → (x3.toInt - x4.toInt ≤ (n13 : Int) - 1) → ps_At (d + 4) 299 13 [(0, .ref 1131), (1, .int x1), (2, .int x2), (3, .int x3), (4, .int x4)] [] s Q) : ∀ (n : Nat) (x3 : Int32) (x4 : Int32) (x5 : Int32) (x6 : Int32) (s : ps_S), (mJ x t s) → (kp [1150, 1173, 1174, 1175] [] s0 s) → (Sg (ps_a s 1135) (ps_a s 1136) (ps_a s 1138) (ps_a s 1139) (ps_i s 1131 21).toInt σ) → (Rw (ps_a s 1134) x1.toInt l) → (wf σ 5 l [(true, 0)]) → (1 ≤ x2.toInt) → (x2.toInt ≤ 3) → (∀ j : Nat, j < 96 → 0 ≤ (ps_a s 1169 j).toInt ∧ (ps_a s 1169 j).toInt ≤ 2) → (∀ j : Nat, j < 12 → 0 ≤ (ps_a s 1175 j).toInt ∧ (ps_a s 1175 j).toInt ≤ 2) → (∀ f : Nat, (f : Int) < (σ.1.2 : Int) → (ps_a s 1172 f).toInt ≤ 87) → (0 ≤ x4.toInt) → (x4.toInt < x3.toInt) → (0 ≤ x5.toInt) → (0 ≤ x6.toInt) → (x6.toInt ≤ 12) → (x3.toInt - x4.toInt ≤ (n13 : Int)) → 20 - x6.toInt ≤ (n : Int) → ps_At (d + 4) 299 26 [(0, .ref 1131), (1, .int x1), (2, .int x2), (3, .int x3), (4, .int x4), (5, .int x5), (6, .int x6)] [] s Q := by
  refine xstr (fun n ih => ?_)
  intro x3 x4 x5 x6 s J K hS hR i2 i3 i4 hDg hFt hFa i8 i9 i10 i11 i12 hm13 hm
  refine pg_299_26 (d := d + 3) ?_
  have hx3 := Int32.toInt_lt x3
  refine And.intro (fun h1 => ?_) (fun h1 => ?_)
  · have f2 : (12 : Int) ≤ x6.toInt := xle h1
    refine ms_295 J hS hR (i2) (show 1 ≤ x2.toInt from by omega) (show x2.toInt ≤ 3 from by omega) hDg hFt hFa (fun v3 s3 J3 K3 b3 => ?_)
    have K4 := kpt K K3 rfl rfl
    have hS : Sg (ps_a s3 1135) (ps_a s3 1136) (ps_a s3 1138) (ps_a s3 1139) (ps_i s3 1131 21).toInt σ := by rw [show ps_a s3 1135 = ps_a s 1135 from (K3.2 1135 rfl).1, show ps_a s3 1136 = ps_a s 1136 from (K3.2 1136 rfl).1, show ps_a s3 1138 = ps_a s 1138 from (K3.2 1138 rfl).1, show ps_a s3 1139 = ps_a s 1139 from (K3.2 1139 rfl).1, show ps_i s3 1131 21 = ps_i s 1131 21 from kp_i K3 21 rfl]; exact hS
    have hR : Rw (ps_a s3 1134) x1.toInt l := by rw [show ps_a s3 1134 = ps_a s 1134 from (K3.2 1134 rfl).1]; exact hR
    have hDg : ∀ j : Nat, j < 96 → 0 ≤ (ps_a s3 1169 j).toInt ∧ (ps_a s3 1169 j).toInt ≤ 2 := by rw [show ps_a s3 1169 = ps_a s 1169 from (K3.2 1169 rfl).1]; exact hDg
    have hFt : ∀ j : Nat, j < 12 → 0 ≤ (ps_a s3 1175 j).toInt ∧ (ps_a s3 1175 j).toInt ≤ 2 := by rw [show ps_a s3 1175 = ps_a s 1175 from (K3.2 1175 rfl).1]; exact hFt
    have hFa : ∀ f : Nat, (f : Int) < (σ.1.2 : Int) → (ps_a s3 1172 f).toInt ≤ 87 := by rw [show ps_a s3 1172 = ps_a s 1172 from (K3.2 1172 rfl).1]; exact hFa
    refine And.intro (fun h5 => ?_) (fun h5 => ?_)
    · have f6 : v3.toInt ≠ (0 : Int) := xne h5
      have a7 : (x4 + 1).toInt = x4.toInt + (1 : Int) := xIa (show -2147483648 ≤ x4.toInt + (1 : Int) from by omega) (show x4.toInt + (1 : Int) < 2147483648 from by omega)
      exact KH13 x3 (x4 + 1) _ J3 K4 hS hR (by assumption) (show 1 ≤ x2.toInt from by omega) (show x2.toInt ≤ 3 from by omega) hDg hFt hFa (show 0 ≤ (x4 + 1).toInt from by omega) (show x3.toInt - (x4 + 1).toInt ≤ (n13 : Int) - 1 from by omega)
    · have f8 : v3.toInt = (0 : Int) := xeq h5
      exact k (0 : Int32) _ J3 K4 hFt (by decide)
  · have f9 : x6.toInt < (12 : Int) := xlt h1
    refine ms_223 J hR (show 0 ≤ x6.toInt from by omega) (show x6.toInt ≤ 11 from by omega) (fun v10 p10_0 b10 => ?_)
    refine And.intro (fun h11 => ?_) (fun h11 => ?_)
    · have f12 : v10.toInt ≠ (0 : Int) := xne h11
      refine ps_nd_i (xnz (show x2.toInt ≠ 0 from by omega)) ?_
      have hmm : 0 ≤ ((x5 - (x5 / x2) * x2)).toInt ∧ ((x5 - (x5 / x2) * x2)).toInt ≤ 2 := xmod2 (by omega) (by omega) (by omega)
      refine ps_nd_i (show pm_in x6 12 = true from xgi (show 0 ≤ x6.toInt from by omega) (show x6.toInt < 12 from by omega)) ?_
      have J13 := mwa_n 1175 (i := (Int32.toNatClampNeg x6)) (v := (x5 - (x5 / x2) * x2)) J rfl (by decide)
      have K14 := kpa' K (r := 1175) (i := (Int32.toNatClampNeg x6)) (v := (x5 - (x5 / x2) * x2)) rfl
      have hFt : ∀ j : Nat, j < 12 → 0 ≤ (ps_a (ps_ua s 1175 (Int32.toNatClampNeg x6) (x5 - (x5 / x2) * x2)) 1175 j).toInt ∧ (ps_a (ps_ua s 1175 (Int32.toNatClampNeg x6) (x5 - (x5 / x2) * x2)) 1175 j).toInt ≤ 2 := Dg_put (i := Int32.toNatClampNeg x6) hFt (by rw [ua_eq]; exact hmm) (fun j hj => ua_ne hj)
      refine ps_nd_i (xnz (show x2.toInt ≠ 0 from by omega)) ?_
      have hd0 : 0 ≤ ((x5 / x2)).toInt := xdiv0 (by omega) (by omega)
      have a15 : (x6 + 1).toInt = x6.toInt + (1 : Int) := xIa (show -2147483648 ≤ x6.toInt + (1 : Int) from by omega) (show x6.toInt + (1 : Int) < 2147483648 from by omega)
      exact ih (n - 1) (show n - 1 < n from by omega) x3 x4 (x5 / x2) (x6 + 1) _ J13 K14 hS hR (by assumption) (show 1 ≤ x2.toInt from by omega) (show x2.toInt ≤ 3 from by omega) hDg hFt hFa (show 0 ≤ x4.toInt from by omega) (show x4.toInt < x3.toInt from by omega) (show 0 ≤ (x5 / x2).toInt from by omega) (show 0 ≤ (x6 + 1).toInt from by omega) (show (x6 + 1).toInt ≤ 12 from by omega) (show x3.toInt - x4.toInt ≤ (n13 : Int) from by omega) (show 20 - (x6 + 1).toInt ≤ ((n - 1 : Nat) : Int) from by omega)
    · have f16 : v10.toInt = (0 : Int) := xeq h11
      have a17 : (x6 + 1).toInt = x6.toInt + (1 : Int) := xIa (show -2147483648 ≤ x6.toInt + (1 : Int) from by omega) (show x6.toInt + (1 : Int) < 2147483648 from by omega)
      exact ih (n - 1) (show n - 1 < n from by omega) x3 x4 x5 (x6 + 1) _ J K hS hR (by assumption) (show 1 ≤ x2.toInt from by omega) (show x2.toInt ≤ 3 from by omega) hDg hFt hFa (show 0 ≤ x4.toInt from by omega) (show x4.toInt < x3.toInt from by omega) (show 0 ≤ x5.toInt from by omega) (show 0 ≤ (x6 + 1).toInt from by omega) (show (x6 + 1).toInt ≤ 12 from by omega) (show x3.toInt - x4.toInt ≤ (n13 : Int) from by omega) (show 20 - (x6 + 1).toInt ≤ ((n - 1 : Nat) : Int) from by omega)

theorem ms_299_13 {x : Nat → Nat → Nat} {t : Int32} {d : Nat} {s0 : ps_S} {σ : mSig} {l : List Nat} {x1 : Int32} {x2 : Int32} {Q : Option Value → ps_S → Prop} (k : ∀ (v : Int32) (s' : ps_S), mJ x t s' → kp [1150, 1173, 1174, 1175] [] s0 s' → (∀ j : Nat, j < 12 → 0 ≤ (ps_a s' 1175 j).toInt ∧ (ps_a s' 1175 j).toInt ≤ 2) → v &&& 1 = v → Q (some (.int v)) s') : ∀ (n : Nat) (x3 : Int32) (x4 : Int32) (s : ps_S), (mJ x t s) → (kp [1150, 1173, 1174, 1175] [] s0 s) → (Sg (ps_a s 1135) (ps_a s 1136) (ps_a s 1138) (ps_a s 1139) (ps_i s 1131 21).toInt σ) → (Rw (ps_a s 1134) x1.toInt l) → (wf σ 5 l [(true, 0)]) → (1 ≤ x2.toInt) → (x2.toInt ≤ 3) → (∀ j : Nat, j < 96 → 0 ≤ (ps_a s 1169 j).toInt ∧ (ps_a s 1169 j).toInt ≤ 2) → (∀ j : Nat, j < 12 → 0 ≤ (ps_a s 1175 j).toInt ∧ (ps_a s 1175 j).toInt ≤ 2) → (∀ f : Nat, (f : Int) < (σ.1.2 : Int) → (ps_a s 1172 f).toInt ≤ 87) → (0 ≤ x4.toInt) → x3.toInt - x4.toInt ≤ (n : Int) → ps_At (d + 4) 299 13 [(0, .ref 1131), (1, .int x1), (2, .int x2), (3, .int x3), (4, .int x4)] [] s Q := by
  refine xstr (fun n ih => ?_)
  intro x3 x4 s J K hS hR i2 i3 i4 hDg hFt hFa i8 hm
  refine pg_299_13 (d := d + 3) ?_
  refine And.intro (fun h1 => ?_) (fun h1 => ?_)
  · have f2 : x3.toInt ≤ x4.toInt := xle h1
    exact k (1 : Int32) _ J K hFt (by decide)
  · have f3 : x4.toInt < x3.toInt := xlt h1
    exact ms_299_26 (x1 := x1) (x2 := x2) (σ := σ) (l := l) k n (fun x3z x4z sz Jz Kz i0z i1z i2z i3z i4z i5z i6z i7z i8z hm => ih (n - 1) (show n - 1 < n from by omega) x3z x4z sz Jz Kz i0z i1z i2z i3z i4z i5z i6z i7z i8z (show _ ≤ ((n - 1 : Nat) : Int) from by omega)) (20 - (0 : Int)).toNat x3 x4 x4 (0) _ J K hS hR (by assumption) (show 1 ≤ x2.toInt from by omega) (show x2.toInt ≤ 3 from by omega) hDg hFt hFa (show 0 ≤ x4.toInt from by omega) (show x4.toInt < x3.toInt from by omega) (show 0 ≤ x4.toInt from by omega) (show 0 ≤ (0 : Int) from by omega) (show (0 : Int) ≤ 12 from by omega) (show x3.toInt - x4.toInt ≤ ((n : Nat) : Int) from by omega) (show 20 - (0 : Int) ≤ (((20 - (0 : Int)).toNat : Nat) : Int) from by omega)

theorem ms_299 {x : Nat → Nat → Nat} {t : Int32} {s : ps_S} {d : Nat} {x1 : Int32} {x2 : Int32} {f : Int32 → ps_S → Prop} (J : mJ x t s) {σ : mSig} {l : List Nat} (hS : Sg (ps_a s 1135) (ps_a s 1136) (ps_a s 1138) (ps_a s 1139) (ps_i s 1131 21).toInt σ) (hR : Rw (ps_a s 1134) x1.toInt l) (q2 : wf σ 5 l [(true, 0)]) (q3 : 1 ≤ x2.toInt) (q4 : x2.toInt ≤ 3) (hDg : ∀ j : Nat, j < 96 → 0 ≤ (ps_a s 1169 j).toInt ∧ (ps_a s 1169 j).toInt ≤ 2) (hFt : ∀ j : Nat, j < 12 → 0 ≤ (ps_a s 1175 j).toInt ∧ (ps_a s 1175 j).toInt ≤ 2) (hFa : ∀ f : Nat, (f : Int) < (σ.1.2 : Int) → (ps_a s 1172 f).toInt ≤ 87) (k : ∀ (v : Int32) (s' : ps_S), mJ x t s' → kp [1150, 1173, 1174, 1175] [] s s' → (∀ j : Nat, j < 12 → 0 ≤ (ps_a s' 1175 j).toInt ∧ (ps_a s' 1175 j).toInt ≤ 2) → v &&& 1 = v → f v s') : ps_Cl (d + 4) 299 [.ref 1131, .int x1, .int x2] s (ps_rI f) := by
  have K : kp [1150, 1173, 1174, 1175] [] s s := kp_refl
  refine pg_299_0 (d := d + 3) ?_
  refine ms_298 J hR (fun v1 p1_0 p1_1 => ?_)
  have p1_0' : 0 ≤ v1.toInt := p1_0
  have p1_1' : v1.toInt ≤ 12 := p1_1
  refine ms_290 J (show 1 ≤ x2.toInt from by omega) (show x2.toInt ≤ 3 from by omega) (show 0 ≤ v1.toInt from by omega) (show v1.toInt ≤ 19 from by omega) (fun v2 p2_0 => ?_)
  exact ms_299_13 (x1 := x1) (x2 := x2) (σ := σ) (l := l) k  (v2.toInt - (0 : Int)).toNat v2 (0) _ J K hS hR (q2) (show 1 ≤ x2.toInt from by omega) (show x2.toInt ≤ 3 from by omega) hDg hFt hFa (show 0 ≤ (0 : Int) from by omega) (show v2.toInt - (0 : Int) ≤ (((v2.toInt - (0 : Int)).toNat : Nat) : Int) from by omega)

-- ProofBenchModel.doAxiomsHold(I)Z
theorem pg_300_0 {d : Nat} {x1 : Int32} {s : ps_S} {Q : Option Value → ps_S → Prop} (h :
  ps_At (d + 1) 300 2 [(0, .ref 1131), (1, .int x1), (2, .int 0)] [] s Q) : ps_At (d + 1) 300 0 [(0, .ref 1131), (1, .int x1)] [] s Q :=
  ps_wp_at (stops := [(2, [0, 1, 2])]) (n := 4) h rfl

theorem pg_300_2 {d : Nat} {x1 : Int32} {x2 : Int32} {s : ps_S} {Q : Option Value → ps_S → Prop} (h :
  ps_nd (pm_in (ps_i s 1131 21) 2) (((ps_a s 1137 (Int32.toNatClampNeg (ps_i s 1131 21))) ≤ x2 →
    Q (some (.int 1)) s) ∧
  (x2 < (ps_a s 1137 (Int32.toNatClampNeg (ps_i s 1131 21))) →
    ps_Cl d 283 [.int (ps_i s 1131 21), .int x2] s (ps_rI (fun v1 s1 =>
      ps_Cl d 299 [.ref 1131, .int v1, .int x1] s1 (ps_rI (fun v2 s2 =>
        (v2 ≠ 0 →
          ps_At (d + 1) 300 2 [(0, .ref 1131), (1, .int x1), (2, .int (x2 + 1))] [] s2 Q) ∧
        (v2 = 0 →
          Q (some (.int 0)) s2)))))))) : ps_At (d + 1) 300 2 [(0, .ref 1131), (1, .int x1), (2, .int x2)] [] s Q :=
  ps_wp_at (stops := [(2, [0, 1, 2])]) (n := 23) h rfl

theorem ms_300_2 {x : Nat → Nat → Nat} {t : Int32} {d : Nat} {s0 : ps_S} {σ : mSig} {x1 : Int32} {Q : Option Value → ps_S → Prop} (k : ∀ (v : Int32) (s' : ps_S), mJ x t s' → kp [1150, 1173, 1174, 1175] [] s0 s' → (∀ j : Nat, j < 12 → 0 ≤ (ps_a s' 1175 j).toInt ∧ (ps_a s' 1175 j).toInt ≤ 2) → v &&& 1 = v → Q (some (.int v)) s') : ∀ (n : Nat) (x2 : Int32) (s : ps_S), (mJ x t s) → (kp [1150, 1173, 1174, 1175] [] s0 s) → (MI σ (ps_a s 1134) (ps_a s 1135) (ps_a s 1136) (ps_a s 1137) (ps_a s 1138) (ps_a s 1139) (ps_a s 1157) (ps_a s 1176) (ps_i s 1131 21).toInt (ps_i s 1131 47).toInt (ps_i s 1131 54).toInt) → (∀ j : Nat, j < 96 → 0 ≤ (ps_a s 1169 j).toInt ∧ (ps_a s 1169 j).toInt ≤ 2) → (∀ j : Nat, j < 12 → 0 ≤ (ps_a s 1175 j).toInt ∧ (ps_a s 1175 j).toInt ≤ 2) → (∀ f : Nat, (f : Int) < (σ.1.2 : Int) → (ps_a s 1172 f).toInt ≤ 87) → (0 ≤ x2.toInt) → (x2.toInt ≤ 8) → (1 ≤ x1.toInt) → (x1.toInt ≤ 3) → 20 - x2.toInt ≤ (n : Int) → ps_At (d + 5) 300 2 [(0, .ref 1131), (1, .int x1), (2, .int x2)] [] s Q := by
  refine xstr (fun n ih => ?_)
  intro x2 s J K hMI hDg hFt hFa i4 i5 i6 i7 hm
  refine pg_300_2 (d := d + 4) ?_
  have r1 := mf_21 J
  refine ps_nd_i (show pm_in (ps_i s 1131 21) 2 = true from xgi (show 0 ≤ (ps_i s 1131 21).toInt from by omega) (show (ps_i s 1131 21).toInt < 2 from by omega)) ?_
  have r2 : 0 ≤ (ps_a s 1137 (Int32.toNatClampNeg (ps_i s 1131 21))).toInt ∧ (ps_a s 1137 (Int32.toNatClampNeg (ps_i s 1131 21))).toInt ≤ 8 := ma_1137 (i := (ps_i s 1131 21)) J (show 0 ≤ (ps_i s 1131 21).toInt from by omega) (show (ps_i s 1131 21).toInt < 2 from by omega)
  refine And.intro (fun h3 => ?_) (fun h3 => ?_)
  · have f4 : (ps_a s 1137 (Int32.toNatClampNeg (ps_i s 1131 21))).toInt ≤ x2.toInt := xle h3
    exact k (1 : Int32) _ J K hFt (by decide)
  · have f5 : x2.toInt < (ps_a s 1137 (Int32.toNatClampNeg (ps_i s 1131 21))).toInt := xlt h3
    refine pg_283_0 ?_
    have a6 : ((8 : Int32) * (ps_i s 1131 21)).toInt = (8 : Int) * (ps_i s 1131 21).toInt := xIm (show -2147483648 ≤ (8 : Int) * (ps_i s 1131 21).toInt from by omega) (show (8 : Int) * (ps_i s 1131 21).toInt < 2147483648 from by omega)
    have a7 : (((8 : Int32) * (ps_i s 1131 21)) + x2).toInt = ((8 : Int32) * (ps_i s 1131 21)).toInt + x2.toInt := xIa (show -2147483648 ≤ ((8 : Int32) * (ps_i s 1131 21)).toInt + x2.toInt from by omega) (show ((8 : Int32) * (ps_i s 1131 21)).toInt + x2.toInt < 2147483648 from by omega)
    have a8 : ((41 : Int32) * (((8 : Int32) * (ps_i s 1131 21)) + x2)).toInt = (41 : Int) * (((8 : Int32) * (ps_i s 1131 21)) + x2).toInt := xIm (show -2147483648 ≤ (41 : Int) * (((8 : Int32) * (ps_i s 1131 21)) + x2).toInt from by omega) (show (41 : Int) * (((8 : Int32) * (ps_i s 1131 21)) + x2).toInt < 2147483648 from by omega)
    have a9 : ((21812 : Int32) + ((41 : Int32) * (((8 : Int32) * (ps_i s 1131 21)) + x2))).toInt = (21812 : Int) + ((41 : Int32) * (((8 : Int32) * (ps_i s 1131 21)) + x2)).toInt := xIa (show -2147483648 ≤ (21812 : Int) + ((41 : Int32) * (((8 : Int32) * (ps_i s 1131 21)) + x2)).toInt from by omega) (show (21812 : Int) + ((41 : Int32) * (((8 : Int32) * (ps_i s 1131 21)) + x2)).toInt < 2147483648 from by omega)
    obtain ⟨l, hl1, hl2, hl3⟩ := MI_ax (k := x2) hMI (by omega) (show x2.toInt < (ps_a s 1137 (Int32.toNatClampNeg (ps_i s 1131 21))).toInt from by omega) (by omega) rfl
    have hS := MI_S hMI
    refine ms_299 J (hS) ((by rw [show (((21812 : Int32) + ((41 : Int32) * (((8 : Int32) * (ps_i s 1131 21)) + x2)))).toInt = 21812 + 41 * (8 * (ps_i s 1131 21).toInt + x2.toInt) from by omega]; exact hl1)) (hl2) (show 1 ≤ x1.toInt from by omega) (show x1.toInt ≤ 3 from by omega) hDg hFt hFa (fun v10 s10 J10 K10 p10_0 b10 => ?_)
    have K11 := kpt K K10 rfl rfl
    have hMI : MI σ (ps_a s10 1134) (ps_a s10 1135) (ps_a s10 1136) (ps_a s10 1137) (ps_a s10 1138) (ps_a s10 1139) (ps_a s10 1157) (ps_a s10 1176) (ps_i s10 1131 21).toInt (ps_i s10 1131 47).toInt (ps_i s10 1131 54).toInt := by rw [show ps_a s10 1134 = ps_a s 1134 from (K10.2 1134 rfl).1, show ps_a s10 1135 = ps_a s 1135 from (K10.2 1135 rfl).1, show ps_a s10 1136 = ps_a s 1136 from (K10.2 1136 rfl).1, show ps_a s10 1137 = ps_a s 1137 from (K10.2 1137 rfl).1, show ps_a s10 1138 = ps_a s 1138 from (K10.2 1138 rfl).1, show ps_a s10 1139 = ps_a s 1139 from (K10.2 1139 rfl).1, show ps_a s10 1157 = ps_a s 1157 from (K10.2 1157 rfl).1, show ps_a s10 1176 = ps_a s 1176 from (K10.2 1176 rfl).1, show ps_i s10 1131 21 = ps_i s 1131 21 from kp_i K10 21 rfl, show ps_i s10 1131 47 = ps_i s 1131 47 from kp_i K10 47 rfl, show ps_i s10 1131 54 = ps_i s 1131 54 from kp_i K10 54 rfl]; exact hMI
    have hDg : ∀ j : Nat, j < 96 → 0 ≤ (ps_a s10 1169 j).toInt ∧ (ps_a s10 1169 j).toInt ≤ 2 := by rw [show ps_a s10 1169 = ps_a s 1169 from (K10.2 1169 rfl).1]; exact hDg
    have hFa : ∀ f : Nat, (f : Int) < (σ.1.2 : Int) → (ps_a s10 1172 f).toInt ≤ 87 := by rw [show ps_a s10 1172 = ps_a s 1172 from (K10.2 1172 rfl).1]; exact hFa
    have hFt : ∀ j : Nat, j < 12 → 0 ≤ (ps_a s10 1175 j).toInt ∧ (ps_a s10 1175 j).toInt ≤ 2 := p10_0
    refine And.intro (fun h12 => ?_) (fun h12 => ?_)
    · have f13 : v10.toInt ≠ (0 : Int) := xne h12
      have a14 : (x2 + 1).toInt = x2.toInt + (1 : Int) := xIa (show -2147483648 ≤ x2.toInt + (1 : Int) from by omega) (show x2.toInt + (1 : Int) < 2147483648 from by omega)
      exact ih (n - 1) (show n - 1 < n from by omega) (x2 + 1) _ J10 K11 hMI hDg hFt hFa (show 0 ≤ (x2 + 1).toInt from by omega) (show (x2 + 1).toInt ≤ 8 from by omega) (show 1 ≤ x1.toInt from by omega) (show x1.toInt ≤ 3 from by omega) (show 20 - (x2 + 1).toInt ≤ ((n - 1 : Nat) : Int) from by omega)
    · have f15 : v10.toInt = (0 : Int) := xeq h12
      exact k (0 : Int32) _ J10 K11 hFt (by decide)

theorem ms_300 {x : Nat → Nat → Nat} {t : Int32} {s : ps_S} {d : Nat} {x1 : Int32} {f : Int32 → ps_S → Prop} (J : mJ x t s) {σ : mSig} (hMI : MI σ (ps_a s 1134) (ps_a s 1135) (ps_a s 1136) (ps_a s 1137) (ps_a s 1138) (ps_a s 1139) (ps_a s 1157) (ps_a s 1176) (ps_i s 1131 21).toInt (ps_i s 1131 47).toInt (ps_i s 1131 54).toInt) (q1 : 1 ≤ x1.toInt) (q2 : x1.toInt ≤ 3) (hDg : ∀ j : Nat, j < 96 → 0 ≤ (ps_a s 1169 j).toInt ∧ (ps_a s 1169 j).toInt ≤ 2) (hFt : ∀ j : Nat, j < 12 → 0 ≤ (ps_a s 1175 j).toInt ∧ (ps_a s 1175 j).toInt ≤ 2) (hFa : ∀ f : Nat, (f : Int) < (σ.1.2 : Int) → (ps_a s 1172 f).toInt ≤ 87) (k : ∀ (v : Int32) (s' : ps_S), mJ x t s' → kp [1150, 1173, 1174, 1175] [] s s' → (∀ j : Nat, j < 12 → 0 ≤ (ps_a s' 1175 j).toInt ∧ (ps_a s' 1175 j).toInt ≤ 2) → v &&& 1 = v → f v s') : ps_Cl (d + 5) 300 [.ref 1131, .int x1] s (ps_rI f) := by
  have K : kp [1150, 1173, 1174, 1175] [] s s := kp_refl
  refine pg_300_0 (d := d + 4) ?_
  exact ms_300_2 (x1 := x1) (σ := σ) k  (20 - (0 : Int)).toNat (0) _ J K hMI hDg hFt hFa (show 0 ≤ (0 : Int) from by omega) (show (0 : Int) ≤ 8 from by omega) (show 1 ≤ x1.toInt from by omega) (show x1.toInt ≤ 3 from by omega) (show 20 - (0 : Int) ≤ (((20 - (0 : Int)).toNat : Nat) : Int) from by omega)

-- ProofBenchModel.models(I)I
theorem pg_301_0 {d : Nat} {x1 : Int32} {s : ps_S} {Q : Option Value → ps_S → Prop} (h :
  ps_Cl d 200 [.int x1, .int 1, .int 3] s (ps_rI (fun v1 s1 =>
    (v1 ≠ 0 →
      ps_Cl d 291 [.ref 1131, .int x1] s1 (ps_rI (fun v2 s2 =>
        (v2 ≤ 4096 →
          Q (some (.int v2)) s2) ∧
        (4096 < v2 →
          Q (some (.int (-2))) s2)))) ∧
    (v1 = 0 →
      Q (some (.int (-1))) s1)))) : ps_At (d + 1) 301 0 [(0, .ref 1131), (1, .int x1)] [] s Q :=
  ps_wp_at (stops := []) (n := 21) h rfl

theorem ms_301 {x : Nat → Nat → Nat} {t : Int32} {s : ps_S} {d : Nat} {x1 : Int32} {f : Int32 → ps_S → Prop} (J : mJ x t s) {σ : mSig} (hS : Sg (ps_a s 1135) (ps_a s 1136) (ps_a s 1138) (ps_a s 1139) (ps_i s 1131 21).toInt σ) (k : ∀ (v : Int32) (s' : ps_S), mJ x t s' → kp [1170, 1171, 1172] [73] s s' → (v.toInt ≤ 4096) → (v.toInt < 0 ∨ (1 ≤ x1.toInt ∧ x1.toInt ≤ 3)) → (0 ≤ v.toInt → (∀ j : Nat, (j : Int) < (ps_i s' 1131 73).toInt → 1 ≤ (ps_a s' 1170 j).toInt ∧ (ps_a s' 1170 j).toInt ≤ 3) ∧ (∀ f : Nat, (f : Int) < (σ.1.2 : Int) → (ps_a s' 1172 f).toInt ≤ 87)) → f v s') : ps_Cl (d + 2) 301 [.ref 1131, .int x1] s (ps_rI f) := by
  have K : kp [1170, 1171, 1172] [73] s s := kp_refl
  refine pg_301_0 (d := d + 1) ?_
  refine ms_200 J  (fun v1 p1_0 b1 => ?_)
  have p1_0' : v1.toInt = 0 ∨ ((1 : Int) ≤ x1.toInt ∧ x1.toInt ≤ (3 : Int)) := p1_0
  refine And.intro (fun h2 => ?_) (fun h2 => ?_)
  · have f3 : v1.toInt ≠ (0 : Int) := xne h2
    refine ms_291 J hS (show 1 ≤ x1.toInt from by omega) (show x1.toInt ≤ 3 from by omega) (fun v4 s4 J4 K4 p4_0 p4_1 p4_2 p4_3 => ?_)
    have K5 := kpt K K4 rfl rfl
    have hS : Sg (ps_a s4 1135) (ps_a s4 1136) (ps_a s4 1138) (ps_a s4 1139) (ps_i s4 1131 21).toInt σ := by rw [show ps_a s4 1135 = ps_a s 1135 from (K4.2 1135 rfl).1, show ps_a s4 1136 = ps_a s 1136 from (K4.2 1136 rfl).1, show ps_a s4 1138 = ps_a s 1138 from (K4.2 1138 rfl).1, show ps_a s4 1139 = ps_a s 1139 from (K4.2 1139 rfl).1, show ps_i s4 1131 21 = ps_i s 1131 21 from kp_i K4 21 rfl]; exact hS
    have p4_0' : 1 ≤ v4.toInt := p4_0
    have p4_1' : v4.toInt ≤ 12288 := p4_1
    have hBs : ∀ j : Nat, (j : Int) < (ps_i s4 1131 73).toInt → 1 ≤ (ps_a s4 1170 j).toInt ∧ (ps_a s4 1170 j).toInt ≤ 3 := p4_2
    have hFa : ∀ f : Nat, (f : Int) < (σ.1.2 : Int) → (ps_a s4 1172 f).toInt ≤ 87 := p4_3
    refine And.intro (fun h6 => ?_) (fun h6 => ?_)
    · have f7 : v4.toInt ≤ (4096 : Int) := xle h6
      exact k v4 _ J4 K5 (show v4.toInt ≤ 4096 from by omega) (show v4.toInt < 0 ∨ (1 ≤ x1.toInt ∧ x1.toInt ≤ 3) from by omega) ((by first | exact fun h => absurd h (by decide) | exact fun _ => ⟨hBs, hFa⟩))
    · have f8 : (4096 : Int) < v4.toInt := xlt h6
      exact k (-2 : Int32) _ J4 K5 (show (-2 : Int) ≤ 4096 from by omega) (show (-2 : Int) < 0 ∨ (1 ≤ x1.toInt ∧ x1.toInt ≤ 3) from by omega) ((by first | exact fun h => absurd h (by decide) | exact fun _ => ⟨hBs, hFa⟩))
  · have f9 : v1.toInt = (0 : Int) := xeq h2
    exact k (-1 : Int32) _ J K (show (-1 : Int) ≤ 4096 from by omega) (show (-1 : Int) < 0 ∨ (1 ≤ x1.toInt ∧ x1.toInt ≤ 3) from by omega) (fun h => absurd h (by decide))

-- ProofBenchModel.hold(I)I
theorem pg_302_0 {d : Nat} {x1 : Int32} {s : ps_S} {Q : Option Value → ps_S → Prop} (h :
  ps_Cl d 301 [.ref 1131, .int x1] s (ps_rI (fun v1 s1 =>
    ps_At (d + 1) 302 11 [(0, .ref 1131), (1, .int x1), (2, .int v1), (3, .int 0), (4, .int 0)] [] s1 Q))) : ps_At (d + 1) 302 0 [(0, .ref 1131), (1, .int x1)] [] s Q :=
  ps_wp_at (stops := [(11, [0, 1, 2, 3, 4])]) (n := 10) h rfl

theorem pg_302_11 {d : Nat} {x1 : Int32} {x2 : Int32} {x3 : Int32} {x4 : Int32} {s : ps_S} {Q : Option Value → ps_S → Prop} (h :
  (x2 ≤ x4 →
    (0 ≤ x2 →
      Q (some (.int x3)) s) ∧
    (x2 < 0 →
      Q (some (.int x2)) s)) ∧
  (x4 < x2 →
    ps_Cl d 293 [.ref 1131, .int x4] s (ps_rV (fun s1 =>
      ps_Cl d 300 [.ref 1131, .int x1] s1 (ps_rI (fun v2 s2 =>
        (v2 = 0 →
          ps_At (d + 1) 302 11 [(0, .ref 1131), (1, .int x1), (2, .int x2), (3, .int (x3 + 0)), (4, .int (x4 + 1))] [] s2 Q) ∧
        (v2 ≠ 0 →
          ps_At (d + 1) 302 11 [(0, .ref 1131), (1, .int x1), (2, .int x2), (3, .int (x3 + 1)), (4, .int (x4 + 1))] [] s2 Q))))))) : ps_At (d + 1) 302 11 [(0, .ref 1131), (1, .int x1), (2, .int x2), (3, .int x3), (4, .int x4)] [] s Q :=
  ps_wp_at (stops := [(11, [0, 1, 2, 3, 4])]) (n := 31) h rfl

theorem ms_302_11 {x : Nat → Nat → Nat} {t : Int32} {d : Nat} {s0 : ps_S} {σ : mSig} {x1 : Int32} {Q : Option Value → ps_S → Prop} (k : ∀ (v : Int32) (s' : ps_S), mJ x t s' → kp [1150, 1169, 1170, 1171, 1172, 1173, 1174, 1175] [73] s0 s' → (∀ j : Nat, j < 96 → 0 ≤ (ps_a s' 1169 j).toInt ∧ (ps_a s' 1169 j).toInt ≤ 2) → (∀ j : Nat, j < 12 → 0 ≤ (ps_a s' 1175 j).toInt ∧ (ps_a s' 1175 j).toInt ≤ 2) → Q (some (.int v)) s') : ∀ (n : Nat) (x2 : Int32) (x3 : Int32) (x4 : Int32) (s : ps_S), (mJ x t s) → (kp [1150, 1169, 1170, 1171, 1172, 1173, 1174, 1175] [73] s0 s) → (MI σ (ps_a s 1134) (ps_a s 1135) (ps_a s 1136) (ps_a s 1137) (ps_a s 1138) (ps_a s 1139) (ps_a s 1157) (ps_a s 1176) (ps_i s 1131 21).toInt (ps_i s 1131 47).toInt (ps_i s 1131 54).toInt) → (∀ j : Nat, j < 96 → 0 ≤ (ps_a s 1169 j).toInt ∧ (ps_a s 1169 j).toInt ≤ 2) → (∀ j : Nat, j < 12 → 0 ≤ (ps_a s 1175 j).toInt ∧ (ps_a s 1175 j).toInt ≤ 2) → (0 ≤ x2.toInt → (∀ j : Nat, (j : Int) < (ps_i s 1131 73).toInt → 1 ≤ (ps_a s 1170 j).toInt ∧ (ps_a s 1170 j).toInt ≤ 3) ∧ (∀ f : Nat, (f : Int) < (σ.1.2 : Int) → (ps_a s 1172 f).toInt ≤ 87)) → (x2.toInt < 0 ∨ (1 ≤ x1.toInt ∧ x1.toInt ≤ 3)) → (0 ≤ x4.toInt) → (0 ≤ x3.toInt) → (x3.toInt ≤ x4.toInt) → (x2.toInt ≤ 4096) → x2.toInt - x4.toInt ≤ (n : Int) → ps_At (d + 6) 302 11 [(0, .ref 1131), (1, .int x1), (2, .int x2), (3, .int x3), (4, .int x4)] [] s Q := by
  refine xstr (fun n ih => ?_)
  intro x2 x3 x4 s J K hMI hDg hFt hmo i4 i5 i6 i7 i8 hm
  refine pg_302_11 (d := d + 5) ?_
  refine And.intro (fun h1 => ?_) (fun h1 => ?_)
  · have f2 : x2.toInt ≤ x4.toInt := xle h1
    refine And.intro (fun h3 => ?_) (fun h3 => ?_)
    · have f4 : (0 : Int) ≤ x2.toInt := xle h3
      exact k x3 _ J K hDg hFt
    · have f5 : x2.toInt < (0 : Int) := xlt h3
      exact k x2 _ J K hDg hFt
  · have f6 : x4.toInt < x2.toInt := xlt h1
    obtain ⟨hBs, hFa⟩ := hmo (by omega)
    refine ms_293 J hBs hDg (show 0 ≤ x4.toInt from by omega) (fun s7 J7 K7 p7_0 => ?_)
    have K8 := kpt K K7 rfl rfl
    have hMI : MI σ (ps_a s7 1134) (ps_a s7 1135) (ps_a s7 1136) (ps_a s7 1137) (ps_a s7 1138) (ps_a s7 1139) (ps_a s7 1157) (ps_a s7 1176) (ps_i s7 1131 21).toInt (ps_i s7 1131 47).toInt (ps_i s7 1131 54).toInt := by rw [show ps_a s7 1134 = ps_a s 1134 from (K7.2 1134 rfl).1, show ps_a s7 1135 = ps_a s 1135 from (K7.2 1135 rfl).1, show ps_a s7 1136 = ps_a s 1136 from (K7.2 1136 rfl).1, show ps_a s7 1137 = ps_a s 1137 from (K7.2 1137 rfl).1, show ps_a s7 1138 = ps_a s 1138 from (K7.2 1138 rfl).1, show ps_a s7 1139 = ps_a s 1139 from (K7.2 1139 rfl).1, show ps_a s7 1157 = ps_a s 1157 from (K7.2 1157 rfl).1, show ps_a s7 1176 = ps_a s 1176 from (K7.2 1176 rfl).1, show ps_i s7 1131 21 = ps_i s 1131 21 from kp_i K7 21 rfl, show ps_i s7 1131 47 = ps_i s 1131 47 from kp_i K7 47 rfl, show ps_i s7 1131 54 = ps_i s 1131 54 from kp_i K7 54 rfl]; exact hMI
    have hFt : ∀ j : Nat, j < 12 → 0 ≤ (ps_a s7 1175 j).toInt ∧ (ps_a s7 1175 j).toInt ≤ 2 := by rw [show ps_a s7 1175 = ps_a s 1175 from (K7.2 1175 rfl).1]; exact hFt
    have hmo : 0 ≤ x2.toInt → (∀ j : Nat, (j : Int) < (ps_i s7 1131 73).toInt → 1 ≤ (ps_a s7 1170 j).toInt ∧ (ps_a s7 1170 j).toInt ≤ 3) ∧ (∀ f : Nat, (f : Int) < (σ.1.2 : Int) → (ps_a s7 1172 f).toInt ≤ 87) := by rw [show ps_a s7 1170 = ps_a s 1170 from (K7.2 1170 rfl).1, show ps_a s7 1172 = ps_a s 1172 from (K7.2 1172 rfl).1, show ps_i s7 1131 73 = ps_i s 1131 73 from kp_i K7 73 rfl]; exact hmo
    have hBs : ∀ j : Nat, (j : Int) < (ps_i s7 1131 73).toInt → 1 ≤ (ps_a s7 1170 j).toInt ∧ (ps_a s7 1170 j).toInt ≤ 3 := by rw [show ps_a s7 1170 = ps_a s 1170 from (K7.2 1170 rfl).1, show ps_i s7 1131 73 = ps_i s 1131 73 from kp_i K7 73 rfl]; exact hBs
    have hFa : ∀ f : Nat, (f : Int) < (σ.1.2 : Int) → (ps_a s7 1172 f).toInt ≤ 87 := by rw [show ps_a s7 1172 = ps_a s 1172 from (K7.2 1172 rfl).1]; exact hFa
    have hDg : ∀ j : Nat, j < 96 → 0 ≤ (ps_a s7 1169 j).toInt ∧ (ps_a s7 1169 j).toInt ≤ 2 := p7_0
    refine ms_300 J7 hMI (show 1 ≤ x1.toInt from by omega) (show x1.toInt ≤ 3 from by omega) hDg hFt hFa (fun v9 s9 J9 K9 p9_0 b9 => ?_)
    have K10 := kpt K8 K9 rfl rfl
    have hMI : MI σ (ps_a s9 1134) (ps_a s9 1135) (ps_a s9 1136) (ps_a s9 1137) (ps_a s9 1138) (ps_a s9 1139) (ps_a s9 1157) (ps_a s9 1176) (ps_i s9 1131 21).toInt (ps_i s9 1131 47).toInt (ps_i s9 1131 54).toInt := by rw [show ps_a s9 1134 = ps_a s7 1134 from (K9.2 1134 rfl).1, show ps_a s9 1135 = ps_a s7 1135 from (K9.2 1135 rfl).1, show ps_a s9 1136 = ps_a s7 1136 from (K9.2 1136 rfl).1, show ps_a s9 1137 = ps_a s7 1137 from (K9.2 1137 rfl).1, show ps_a s9 1138 = ps_a s7 1138 from (K9.2 1138 rfl).1, show ps_a s9 1139 = ps_a s7 1139 from (K9.2 1139 rfl).1, show ps_a s9 1157 = ps_a s7 1157 from (K9.2 1157 rfl).1, show ps_a s9 1176 = ps_a s7 1176 from (K9.2 1176 rfl).1, show ps_i s9 1131 21 = ps_i s7 1131 21 from kp_i K9 21 rfl, show ps_i s9 1131 47 = ps_i s7 1131 47 from kp_i K9 47 rfl, show ps_i s9 1131 54 = ps_i s7 1131 54 from kp_i K9 54 rfl]; exact hMI
    have hmo : 0 ≤ x2.toInt → (∀ j : Nat, (j : Int) < (ps_i s9 1131 73).toInt → 1 ≤ (ps_a s9 1170 j).toInt ∧ (ps_a s9 1170 j).toInt ≤ 3) ∧ (∀ f : Nat, (f : Int) < (σ.1.2 : Int) → (ps_a s9 1172 f).toInt ≤ 87) := by rw [show ps_a s9 1170 = ps_a s7 1170 from (K9.2 1170 rfl).1, show ps_a s9 1172 = ps_a s7 1172 from (K9.2 1172 rfl).1, show ps_i s9 1131 73 = ps_i s7 1131 73 from kp_i K9 73 rfl]; exact hmo
    have hBs : ∀ j : Nat, (j : Int) < (ps_i s9 1131 73).toInt → 1 ≤ (ps_a s9 1170 j).toInt ∧ (ps_a s9 1170 j).toInt ≤ 3 := by rw [show ps_a s9 1170 = ps_a s7 1170 from (K9.2 1170 rfl).1, show ps_i s9 1131 73 = ps_i s7 1131 73 from kp_i K9 73 rfl]; exact hBs
    have hFa : ∀ f : Nat, (f : Int) < (σ.1.2 : Int) → (ps_a s9 1172 f).toInt ≤ 87 := by rw [show ps_a s9 1172 = ps_a s7 1172 from (K9.2 1172 rfl).1]; exact hFa
    have hDg : ∀ j : Nat, j < 96 → 0 ≤ (ps_a s9 1169 j).toInt ∧ (ps_a s9 1169 j).toInt ≤ 2 := by rw [show ps_a s9 1169 = ps_a s7 1169 from (K9.2 1169 rfl).1]; exact hDg
    have hFt : ∀ j : Nat, j < 12 → 0 ≤ (ps_a s9 1175 j).toInt ∧ (ps_a s9 1175 j).toInt ≤ 2 := p9_0
    refine And.intro (fun h11 => ?_) (fun h11 => ?_)
    · have f12 : v9.toInt = (0 : Int) := xeq h11
      have a13 : (x3 + 0).toInt = x3.toInt + (0 : Int) := xIa (show -2147483648 ≤ x3.toInt + (0 : Int) from by omega) (show x3.toInt + (0 : Int) < 2147483648 from by omega)
      have a14 : (x4 + 1).toInt = x4.toInt + (1 : Int) := xIa (show -2147483648 ≤ x4.toInt + (1 : Int) from by omega) (show x4.toInt + (1 : Int) < 2147483648 from by omega)
      exact ih (n - 1) (show n - 1 < n from by omega) x2 (x3 + 0) (x4 + 1) _ J9 K10 hMI hDg hFt hmo (show x2.toInt < 0 ∨ (1 ≤ x1.toInt ∧ x1.toInt ≤ 3) from by omega) (show 0 ≤ (x4 + 1).toInt from by omega) (show 0 ≤ (x3 + 0).toInt from by omega) (show (x3 + 0).toInt ≤ (x4 + 1).toInt from by omega) (show x2.toInt ≤ 4096 from by omega) (show x2.toInt - (x4 + 1).toInt ≤ ((n - 1 : Nat) : Int) from by omega)
    · have f15 : v9.toInt ≠ (0 : Int) := xne h11
      have a16 : (x3 + 1).toInt = x3.toInt + (1 : Int) := xIa (show -2147483648 ≤ x3.toInt + (1 : Int) from by omega) (show x3.toInt + (1 : Int) < 2147483648 from by omega)
      have a17 : (x4 + 1).toInt = x4.toInt + (1 : Int) := xIa (show -2147483648 ≤ x4.toInt + (1 : Int) from by omega) (show x4.toInt + (1 : Int) < 2147483648 from by omega)
      exact ih (n - 1) (show n - 1 < n from by omega) x2 (x3 + 1) (x4 + 1) _ J9 K10 hMI hDg hFt hmo (show x2.toInt < 0 ∨ (1 ≤ x1.toInt ∧ x1.toInt ≤ 3) from by omega) (show 0 ≤ (x4 + 1).toInt from by omega) (show 0 ≤ (x3 + 1).toInt from by omega) (show (x3 + 1).toInt ≤ (x4 + 1).toInt from by omega) (show x2.toInt ≤ 4096 from by omega) (show x2.toInt - (x4 + 1).toInt ≤ ((n - 1 : Nat) : Int) from by omega)

theorem ms_302 {x : Nat → Nat → Nat} {t : Int32} {s : ps_S} {d : Nat} {x1 : Int32} {f : Int32 → ps_S → Prop} (J : mJ x t s) {σ : mSig} (hMI : MI σ (ps_a s 1134) (ps_a s 1135) (ps_a s 1136) (ps_a s 1137) (ps_a s 1138) (ps_a s 1139) (ps_a s 1157) (ps_a s 1176) (ps_i s 1131 21).toInt (ps_i s 1131 47).toInt (ps_i s 1131 54).toInt) (hDg : ∀ j : Nat, j < 96 → 0 ≤ (ps_a s 1169 j).toInt ∧ (ps_a s 1169 j).toInt ≤ 2) (hFt : ∀ j : Nat, j < 12 → 0 ≤ (ps_a s 1175 j).toInt ∧ (ps_a s 1175 j).toInt ≤ 2) (k : ∀ (v : Int32) (s' : ps_S), mJ x t s' → kp [1150, 1169, 1170, 1171, 1172, 1173, 1174, 1175] [73] s s' → (∀ j : Nat, j < 96 → 0 ≤ (ps_a s' 1169 j).toInt ∧ (ps_a s' 1169 j).toInt ≤ 2) → (∀ j : Nat, j < 12 → 0 ≤ (ps_a s' 1175 j).toInt ∧ (ps_a s' 1175 j).toInt ≤ 2) → f v s') : ps_Cl (d + 6) 302 [.ref 1131, .int x1] s (ps_rI f) := by
  have K : kp [1150, 1169, 1170, 1171, 1172, 1173, 1174, 1175] [73] s s := kp_refl
  refine pg_302_0 (d := d + 5) ?_
  have hS := MI_S hMI
  refine ms_301 J (hS) (fun v1 s1 J1 K1 p1_0 p1_1 p1_2 => ?_)
  have K2 := kpt K K1 rfl rfl
  have hMI : MI σ (ps_a s1 1134) (ps_a s1 1135) (ps_a s1 1136) (ps_a s1 1137) (ps_a s1 1138) (ps_a s1 1139) (ps_a s1 1157) (ps_a s1 1176) (ps_i s1 1131 21).toInt (ps_i s1 1131 47).toInt (ps_i s1 1131 54).toInt := by rw [show ps_a s1 1134 = ps_a s 1134 from (K1.2 1134 rfl).1, show ps_a s1 1135 = ps_a s 1135 from (K1.2 1135 rfl).1, show ps_a s1 1136 = ps_a s 1136 from (K1.2 1136 rfl).1, show ps_a s1 1137 = ps_a s 1137 from (K1.2 1137 rfl).1, show ps_a s1 1138 = ps_a s 1138 from (K1.2 1138 rfl).1, show ps_a s1 1139 = ps_a s 1139 from (K1.2 1139 rfl).1, show ps_a s1 1157 = ps_a s 1157 from (K1.2 1157 rfl).1, show ps_a s1 1176 = ps_a s 1176 from (K1.2 1176 rfl).1, show ps_i s1 1131 21 = ps_i s 1131 21 from kp_i K1 21 rfl, show ps_i s1 1131 47 = ps_i s 1131 47 from kp_i K1 47 rfl, show ps_i s1 1131 54 = ps_i s 1131 54 from kp_i K1 54 rfl]; exact hMI
  have hDg : ∀ j : Nat, j < 96 → 0 ≤ (ps_a s1 1169 j).toInt ∧ (ps_a s1 1169 j).toInt ≤ 2 := by rw [show ps_a s1 1169 = ps_a s 1169 from (K1.2 1169 rfl).1]; exact hDg
  have hFt : ∀ j : Nat, j < 12 → 0 ≤ (ps_a s1 1175 j).toInt ∧ (ps_a s1 1175 j).toInt ≤ 2 := by rw [show ps_a s1 1175 = ps_a s 1175 from (K1.2 1175 rfl).1]; exact hFt
  have p1_0' : v1.toInt ≤ 4096 := p1_0
  have p1_1' : v1.toInt < 0 ∨ (1 ≤ x1.toInt ∧ x1.toInt ≤ 3) := p1_1
  have hm0 : _ := p1_2
  exact ms_302_11 (x1 := x1) (σ := σ) k  (v1.toInt - (0 : Int)).toNat v1 (0) (0) _ J1 K2 hMI hDg hFt (hm0) (show v1.toInt < 0 ∨ (1 ≤ x1.toInt ∧ x1.toInt ≤ 3) from by omega) (show 0 ≤ (0 : Int) from by omega) (show 0 ≤ (0 : Int) from by omega) (show (0 : Int) ≤ (0 : Int) from by omega) (show v1.toInt ≤ 4096 from by omega) (show v1.toInt - (0 : Int) ≤ (((v1.toInt - (0 : Int)).toNat : Nat) : Int) from by omega)

-- ProofBenchModel.holds(II)I
theorem pg_303_0 {d : Nat} {x1 : Int32} {x2 : Int32} {s : ps_S} {Q : Option Value → ps_S → Prop} (h :
  ps_Cl d 200 [.int x1, .int 1, .int 3] s (ps_rI (fun v1 s1 =>
    (v1 = 0 →
      Q (some (.int (-1))) s1) ∧
    (v1 ≠ 0 →
      ps_Cl d 219 [.ref 1131, .int 25748] s1 (ps_rI (fun v2 s2 =>
        (v2 ≠ 0 →
          ps_Cl d 301 [.ref 1131, .int x1] s2 (ps_rI (fun v3 s3 =>
            (v3 < 0 →
              Q (some (.int (-2))) s3) ∧
            (0 ≤ v3 →
              ps_Cl d 298 [.ref 1131, .int 25748] s3 (ps_rI (fun v4 s4 =>
                (v4 ≤ 4 →
                  ps_Cl d 200 [.int x2, .int 0, .int (v3 - 1)] s4 (ps_rI (fun v5 s5 =>
                    (v5 ≠ 0 →
                      ps_Cl d 293 [.ref 1131, .int x2] s5 (ps_rV (fun s6 =>
                        ps_Cl d 299 [.ref 1131, .int 25748, .int x1] s6 (ps_rI (fun v7 s7 =>
                          (v7 = 0 →
                            Q (some (.int 0)) s7) ∧
                          (v7 ≠ 0 →
                            Q (some (.int 1)) s7)))))) ∧
                    (v5 = 0 →
                      Q (some (.int (-1))) s5)))) ∧
                (4 < v4 →
                  Q (some (.int (-2))) s4))))))) ∧
        (v2 = 0 →
          Q (some (.int (-1))) s2))))))) : ps_At (d + 1) 303 0 [(0, .ref 1131), (1, .int x1), (2, .int x2)] [] s Q :=
  ps_wp_at (stops := []) (n := 52) h rfl

theorem ms_303 {x : Nat → Nat → Nat} {t : Int32} {s : ps_S} {d : Nat} {x1 : Int32} {x2 : Int32} {f : Int32 → ps_S → Prop} (J : mJ x t s) {σ : mSig} (hMI : MI σ (ps_a s 1134) (ps_a s 1135) (ps_a s 1136) (ps_a s 1137) (ps_a s 1138) (ps_a s 1139) (ps_a s 1157) (ps_a s 1176) (ps_i s 1131 21).toInt (ps_i s 1131 47).toInt (ps_i s 1131 54).toInt) (hDg : ∀ j : Nat, j < 96 → 0 ≤ (ps_a s 1169 j).toInt ∧ (ps_a s 1169 j).toInt ≤ 2) (hFt : ∀ j : Nat, j < 12 → 0 ≤ (ps_a s 1175 j).toInt ∧ (ps_a s 1175 j).toInt ≤ 2) (k : ∀ (v : Int32) (s' : ps_S), mJ x t s' → kp [1150, 1169, 1170, 1171, 1172, 1173, 1174, 1175] [73] s s' → (∀ j : Nat, j < 96 → 0 ≤ (ps_a s' 1169 j).toInt ∧ (ps_a s' 1169 j).toInt ≤ 2) → (∀ j : Nat, j < 12 → 0 ≤ (ps_a s' 1175 j).toInt ∧ (ps_a s' 1175 j).toInt ≤ 2) → f v s') : ps_Cl (d + 5) 303 [.ref 1131, .int x1, .int x2] s (ps_rI f) := by
  have K : kp [1150, 1169, 1170, 1171, 1172, 1173, 1174, 1175] [73] s s := kp_refl
  refine pg_303_0 (d := d + 4) ?_
  refine ms_200 J  (fun v1 p1_0 b1 => ?_)
  have p1_0' : v1.toInt = 0 ∨ ((1 : Int) ≤ x1.toInt ∧ x1.toInt ≤ (3 : Int)) := p1_0
  refine And.intro (fun h2 => ?_) (fun h2 => ?_)
  · have f3 : v1.toInt = (0 : Int) := xeq h2
    exact k (-1 : Int32) _ J K hDg hFt
  · have f4 : v1.toInt ≠ (0 : Int) := xne h2
    refine pg_219_0 ?_
    refine ps_nd_i (show pm_in (25748 : Int32) 27400 = true from xgi (show 0 ≤ (25748 : Int) from by omega) (show (25748 : Int) < 27400 from by omega)) ?_
    have r5 : (25748 : Int) % 41 = 0 → (25748 : Int) < 27306 → 0 ≤ (ps_a s 1134 (Int32.toNatClampNeg (25748 : Int32))).toInt ∧ (ps_a s 1134 (Int32.toNatClampNeg (25748 : Int32))).toInt ≤ 40 := fun z1 z2 => mp_row (i := (25748 : Int32)) J z1 (show 0 ≤ (25748 : Int) from by omega) z2
    refine And.intro (fun h6 => ?_) (fun h6 => ?_)
    · have f7 : (ps_a s 1134 (Int32.toNatClampNeg (25748 : Int32))).toInt ≠ (0 : Int) := xne h6
      obtain ⟨l, hl1, hl2⟩ := hMI.2.2.2.2.1.resolve_left (fun z => absurd z (show ¬ ((ps_a s 1134 (Int32.toNatClampNeg (25748 : Int32))).toInt = 0) from by omega))
      have hS := MI_S hMI
      have hR : Rw (ps_a s 1134) (25748 : Int32).toInt l := by rw [show (25748 : Int32).toInt = 25748 from by decide]; exact hl1
      refine ms_301 J hS (fun v8 s8 J8 K8 p8_0 p8_1 p8_2 => ?_)
      have K9 := kpt K K8 rfl rfl
      have hMI : MI σ (ps_a s8 1134) (ps_a s8 1135) (ps_a s8 1136) (ps_a s8 1137) (ps_a s8 1138) (ps_a s8 1139) (ps_a s8 1157) (ps_a s8 1176) (ps_i s8 1131 21).toInt (ps_i s8 1131 47).toInt (ps_i s8 1131 54).toInt := by rw [show ps_a s8 1134 = ps_a s 1134 from (K8.2 1134 rfl).1, show ps_a s8 1135 = ps_a s 1135 from (K8.2 1135 rfl).1, show ps_a s8 1136 = ps_a s 1136 from (K8.2 1136 rfl).1, show ps_a s8 1137 = ps_a s 1137 from (K8.2 1137 rfl).1, show ps_a s8 1138 = ps_a s 1138 from (K8.2 1138 rfl).1, show ps_a s8 1139 = ps_a s 1139 from (K8.2 1139 rfl).1, show ps_a s8 1157 = ps_a s 1157 from (K8.2 1157 rfl).1, show ps_a s8 1176 = ps_a s 1176 from (K8.2 1176 rfl).1, show ps_i s8 1131 21 = ps_i s 1131 21 from kp_i K8 21 rfl, show ps_i s8 1131 47 = ps_i s 1131 47 from kp_i K8 47 rfl, show ps_i s8 1131 54 = ps_i s 1131 54 from kp_i K8 54 rfl]; exact hMI
      have hDg : ∀ j : Nat, j < 96 → 0 ≤ (ps_a s8 1169 j).toInt ∧ (ps_a s8 1169 j).toInt ≤ 2 := by rw [show ps_a s8 1169 = ps_a s 1169 from (K8.2 1169 rfl).1]; exact hDg
      have hFt : ∀ j : Nat, j < 12 → 0 ≤ (ps_a s8 1175 j).toInt ∧ (ps_a s8 1175 j).toInt ≤ 2 := by rw [show ps_a s8 1175 = ps_a s 1175 from (K8.2 1175 rfl).1]; exact hFt
      have hS : Sg (ps_a s8 1135) (ps_a s8 1136) (ps_a s8 1138) (ps_a s8 1139) (ps_i s8 1131 21).toInt σ := by rw [show ps_a s8 1135 = ps_a s 1135 from (K8.2 1135 rfl).1, show ps_a s8 1136 = ps_a s 1136 from (K8.2 1136 rfl).1, show ps_a s8 1138 = ps_a s 1138 from (K8.2 1138 rfl).1, show ps_a s8 1139 = ps_a s 1139 from (K8.2 1139 rfl).1, show ps_i s8 1131 21 = ps_i s 1131 21 from kp_i K8 21 rfl]; exact hS
      have hR : Rw (ps_a s8 1134) (25748 : Int32).toInt l := by rw [show ps_a s8 1134 = ps_a s 1134 from (K8.2 1134 rfl).1]; exact hR
      have p8_0' : v8.toInt ≤ 4096 := p8_0
      have p8_1' : v8.toInt < 0 ∨ (1 ≤ x1.toInt ∧ x1.toInt ≤ 3) := p8_1
      have hm0 : _ := p8_2
      refine And.intro (fun h10 => ?_) (fun h10 => ?_)
      · have f11 : v8.toInt < (0 : Int) := xlt h10
        exact k (-2 : Int32) _ J8 K9 hDg hFt
      · have f12 : (0 : Int) ≤ v8.toInt := xle h10
        refine ms_298 J8 hR (fun v13 p13_0 p13_1 => ?_)
        have p13_0' : 0 ≤ v13.toInt := p13_0
        have p13_1' : v13.toInt ≤ 12 := p13_1
        refine And.intro (fun h14 => ?_) (fun h14 => ?_)
        · have f15 : v13.toInt ≤ (4 : Int) := xle h14
          have a16 : (v8 - 1).toInt = v8.toInt - (1 : Int) := xIs (show -2147483648 ≤ v8.toInt - (1 : Int) from by omega) (show v8.toInt - (1 : Int) < 2147483648 from by omega)
          refine ms_200 J8  (fun v17 p17_0 b17 => ?_)
          have p17_0' : v17.toInt = 0 ∨ ((0 : Int) ≤ x2.toInt ∧ x2.toInt ≤ (v8 - 1).toInt) := p17_0
          refine And.intro (fun h18 => ?_) (fun h18 => ?_)
          · have f19 : v17.toInt ≠ (0 : Int) := xne h18
            obtain ⟨hBs, hFa⟩ := hm0 (by omega)
            refine ms_293 J8 hBs hDg (show 0 ≤ x2.toInt from by omega) (fun s20 J20 K20 p20_0 => ?_)
            have K21 := kpt K9 K20 rfl rfl
            have hMI : MI σ (ps_a s20 1134) (ps_a s20 1135) (ps_a s20 1136) (ps_a s20 1137) (ps_a s20 1138) (ps_a s20 1139) (ps_a s20 1157) (ps_a s20 1176) (ps_i s20 1131 21).toInt (ps_i s20 1131 47).toInt (ps_i s20 1131 54).toInt := by rw [show ps_a s20 1134 = ps_a s8 1134 from (K20.2 1134 rfl).1, show ps_a s20 1135 = ps_a s8 1135 from (K20.2 1135 rfl).1, show ps_a s20 1136 = ps_a s8 1136 from (K20.2 1136 rfl).1, show ps_a s20 1137 = ps_a s8 1137 from (K20.2 1137 rfl).1, show ps_a s20 1138 = ps_a s8 1138 from (K20.2 1138 rfl).1, show ps_a s20 1139 = ps_a s8 1139 from (K20.2 1139 rfl).1, show ps_a s20 1157 = ps_a s8 1157 from (K20.2 1157 rfl).1, show ps_a s20 1176 = ps_a s8 1176 from (K20.2 1176 rfl).1, show ps_i s20 1131 21 = ps_i s8 1131 21 from kp_i K20 21 rfl, show ps_i s20 1131 47 = ps_i s8 1131 47 from kp_i K20 47 rfl, show ps_i s20 1131 54 = ps_i s8 1131 54 from kp_i K20 54 rfl]; exact hMI
            have hFt : ∀ j : Nat, j < 12 → 0 ≤ (ps_a s20 1175 j).toInt ∧ (ps_a s20 1175 j).toInt ≤ 2 := by rw [show ps_a s20 1175 = ps_a s8 1175 from (K20.2 1175 rfl).1]; exact hFt
            have hS : Sg (ps_a s20 1135) (ps_a s20 1136) (ps_a s20 1138) (ps_a s20 1139) (ps_i s20 1131 21).toInt σ := by rw [show ps_a s20 1135 = ps_a s8 1135 from (K20.2 1135 rfl).1, show ps_a s20 1136 = ps_a s8 1136 from (K20.2 1136 rfl).1, show ps_a s20 1138 = ps_a s8 1138 from (K20.2 1138 rfl).1, show ps_a s20 1139 = ps_a s8 1139 from (K20.2 1139 rfl).1, show ps_i s20 1131 21 = ps_i s8 1131 21 from kp_i K20 21 rfl]; exact hS
            have hR : Rw (ps_a s20 1134) (25748 : Int32).toInt l := by rw [show ps_a s20 1134 = ps_a s8 1134 from (K20.2 1134 rfl).1]; exact hR
            have hBs : ∀ j : Nat, (j : Int) < (ps_i s20 1131 73).toInt → 1 ≤ (ps_a s20 1170 j).toInt ∧ (ps_a s20 1170 j).toInt ≤ 3 := by rw [show ps_a s20 1170 = ps_a s8 1170 from (K20.2 1170 rfl).1, show ps_i s20 1131 73 = ps_i s8 1131 73 from kp_i K20 73 rfl]; exact hBs
            have hFa : ∀ f : Nat, (f : Int) < (σ.1.2 : Int) → (ps_a s20 1172 f).toInt ≤ 87 := by rw [show ps_a s20 1172 = ps_a s8 1172 from (K20.2 1172 rfl).1]; exact hFa
            have hDg : ∀ j : Nat, j < 96 → 0 ≤ (ps_a s20 1169 j).toInt ∧ (ps_a s20 1169 j).toInt ≤ 2 := p20_0
            refine ms_299 J20 hS hR (hl2) (show 1 ≤ x1.toInt from by omega) (show x1.toInt ≤ 3 from by omega) hDg hFt hFa (fun v22 s22 J22 K22 p22_0 b22 => ?_)
            have K23 := kpt K21 K22 rfl rfl
            have hMI : MI σ (ps_a s22 1134) (ps_a s22 1135) (ps_a s22 1136) (ps_a s22 1137) (ps_a s22 1138) (ps_a s22 1139) (ps_a s22 1157) (ps_a s22 1176) (ps_i s22 1131 21).toInt (ps_i s22 1131 47).toInt (ps_i s22 1131 54).toInt := by rw [show ps_a s22 1134 = ps_a s20 1134 from (K22.2 1134 rfl).1, show ps_a s22 1135 = ps_a s20 1135 from (K22.2 1135 rfl).1, show ps_a s22 1136 = ps_a s20 1136 from (K22.2 1136 rfl).1, show ps_a s22 1137 = ps_a s20 1137 from (K22.2 1137 rfl).1, show ps_a s22 1138 = ps_a s20 1138 from (K22.2 1138 rfl).1, show ps_a s22 1139 = ps_a s20 1139 from (K22.2 1139 rfl).1, show ps_a s22 1157 = ps_a s20 1157 from (K22.2 1157 rfl).1, show ps_a s22 1176 = ps_a s20 1176 from (K22.2 1176 rfl).1, show ps_i s22 1131 21 = ps_i s20 1131 21 from kp_i K22 21 rfl, show ps_i s22 1131 47 = ps_i s20 1131 47 from kp_i K22 47 rfl, show ps_i s22 1131 54 = ps_i s20 1131 54 from kp_i K22 54 rfl]; exact hMI
            have hS : Sg (ps_a s22 1135) (ps_a s22 1136) (ps_a s22 1138) (ps_a s22 1139) (ps_i s22 1131 21).toInt σ := by rw [show ps_a s22 1135 = ps_a s20 1135 from (K22.2 1135 rfl).1, show ps_a s22 1136 = ps_a s20 1136 from (K22.2 1136 rfl).1, show ps_a s22 1138 = ps_a s20 1138 from (K22.2 1138 rfl).1, show ps_a s22 1139 = ps_a s20 1139 from (K22.2 1139 rfl).1, show ps_i s22 1131 21 = ps_i s20 1131 21 from kp_i K22 21 rfl]; exact hS
            have hR : Rw (ps_a s22 1134) (25748 : Int32).toInt l := by rw [show ps_a s22 1134 = ps_a s20 1134 from (K22.2 1134 rfl).1]; exact hR
            have hBs : ∀ j : Nat, (j : Int) < (ps_i s22 1131 73).toInt → 1 ≤ (ps_a s22 1170 j).toInt ∧ (ps_a s22 1170 j).toInt ≤ 3 := by rw [show ps_a s22 1170 = ps_a s20 1170 from (K22.2 1170 rfl).1, show ps_i s22 1131 73 = ps_i s20 1131 73 from kp_i K22 73 rfl]; exact hBs
            have hFa : ∀ f : Nat, (f : Int) < (σ.1.2 : Int) → (ps_a s22 1172 f).toInt ≤ 87 := by rw [show ps_a s22 1172 = ps_a s20 1172 from (K22.2 1172 rfl).1]; exact hFa
            have hDg : ∀ j : Nat, j < 96 → 0 ≤ (ps_a s22 1169 j).toInt ∧ (ps_a s22 1169 j).toInt ≤ 2 := by rw [show ps_a s22 1169 = ps_a s20 1169 from (K22.2 1169 rfl).1]; exact hDg
            have hFt : ∀ j : Nat, j < 12 → 0 ≤ (ps_a s22 1175 j).toInt ∧ (ps_a s22 1175 j).toInt ≤ 2 := p22_0
            refine And.intro (fun h24 => ?_) (fun h24 => ?_)
            · have f25 : v22.toInt = (0 : Int) := xeq h24
              exact k (0 : Int32) _ J22 K23 hDg hFt
            · have f26 : v22.toInt ≠ (0 : Int) := xne h24
              exact k (1 : Int32) _ J22 K23 hDg hFt
          · have f27 : v17.toInt = (0 : Int) := xeq h18
            exact k (-1 : Int32) _ J8 K9 hDg hFt
        · have f28 : (4 : Int) < v13.toInt := xlt h14
          exact k (-2 : Int32) _ J8 K9 hDg hFt
    · have f29 : (ps_a s 1134 (Int32.toNatClampNeg (25748 : Int32))).toInt = (0 : Int) := xeq h6
      exact k (-1 : Int32) _ J K hDg hFt

-- ProofBenchModel.counter(I)I
theorem pg_304_0 {d : Nat} {x1 : Int32} {s : ps_S} {Q : Option Value → ps_S → Prop} (h :
  ps_Cl d 200 [.int x1, .int 1, .int 3] s (ps_rI (fun v1 s1 =>
    (v1 = 0 →
      Q (some (.int (-1))) s1) ∧
    (v1 ≠ 0 →
      ps_Cl d 219 [.ref 1131, .int 25748] s1 (ps_rI (fun v2 s2 =>
        (v2 ≠ 0 →
          ps_Cl d 301 [.ref 1131, .int x1] s2 (ps_rI (fun v3 s3 =>
            (v3 < 0 →
              Q (some (.int (-2))) s3) ∧
            (0 ≤ v3 →
              ps_Cl d 298 [.ref 1131, .int 25748] s3 (ps_rI (fun v4 s4 =>
                (v4 ≤ 4 →
                  ps_At (d + 1) 304 47 [(0, .ref 1131), (1, .int x1), (2, .int v3), (3, .int 0)] [] s4 Q) ∧
                (4 < v4 →
                  Q (some (.int (-2))) s4))))))) ∧
        (v2 = 0 →
          Q (some (.int (-1))) s2))))))) : ps_At (d + 1) 304 0 [(0, .ref 1131), (1, .int x1)] [] s Q :=
  ps_wp_at (stops := [(47, [0, 1, 2, 3])]) (n := 32) h rfl

theorem pg_304_47 {d : Nat} {x1 : Int32} {x2 : Int32} {x3 : Int32} {s : ps_S} {Q : Option Value → ps_S → Prop} (h :
  (x2 ≤ x3 →
    Q (some (.int (-1))) s) ∧
  (x3 < x2 →
    ps_Cl d 293 [.ref 1131, .int x3] s (ps_rV (fun s1 =>
      ps_Cl d 300 [.ref 1131, .int x1] s1 (ps_rI (fun v2 s2 =>
        (v2 = 0 →
          ps_At (d + 1) 304 47 [(0, .ref 1131), (1, .int x1), (2, .int x2), (3, .int (x3 + 1))] [] s2 Q) ∧
        (v2 ≠ 0 →
          ps_Cl d 299 [.ref 1131, .int 25748, .int x1] s2 (ps_rI (fun v3 s3 =>
            (v3 ≠ 0 →
              ps_At (d + 1) 304 47 [(0, .ref 1131), (1, .int x1), (2, .int x2), (3, .int (x3 + 1))] [] s3 Q) ∧
            (v3 = 0 →
              Q (some (.int x3)) s3)))))))))) : ps_At (d + 1) 304 47 [(0, .ref 1131), (1, .int x1), (2, .int x2), (3, .int x3)] [] s Q :=
  ps_wp_at (stops := [(47, [0, 1, 2, 3])]) (n := 25) h rfl

theorem ms_304_47 {x : Nat → Nat → Nat} {t : Int32} {d : Nat} {s0 : ps_S} {σ : mSig} {x1 : Int32} {Q : Option Value → ps_S → Prop} (k : ∀ (v : Int32) (s' : ps_S), mJ x t s' → kp [1150, 1169, 1170, 1171, 1172, 1173, 1174, 1175] [73] s0 s' → (∀ j : Nat, j < 96 → 0 ≤ (ps_a s' 1169 j).toInt ∧ (ps_a s' 1169 j).toInt ≤ 2) → (∀ j : Nat, j < 12 → 0 ≤ (ps_a s' 1175 j).toInt ∧ (ps_a s' 1175 j).toInt ≤ 2) → Q (some (.int v)) s') : ∀ (n : Nat) (x2 : Int32) (x3 : Int32) (l : List Nat) (s : ps_S), (mJ x t s) → (kp [1150, 1169, 1170, 1171, 1172, 1173, 1174, 1175] [73] s0 s) → (MI σ (ps_a s 1134) (ps_a s 1135) (ps_a s 1136) (ps_a s 1137) (ps_a s 1138) (ps_a s 1139) (ps_a s 1157) (ps_a s 1176) (ps_i s 1131 21).toInt (ps_i s 1131 47).toInt (ps_i s 1131 54).toInt) → (∀ j : Nat, j < 96 → 0 ≤ (ps_a s 1169 j).toInt ∧ (ps_a s 1169 j).toInt ≤ 2) → (∀ j : Nat, j < 12 → 0 ≤ (ps_a s 1175 j).toInt ∧ (ps_a s 1175 j).toInt ≤ 2) → (0 ≤ x2.toInt → (∀ j : Nat, (j : Int) < (ps_i s 1131 73).toInt → 1 ≤ (ps_a s 1170 j).toInt ∧ (ps_a s 1170 j).toInt ≤ 3) ∧ (∀ f : Nat, (f : Int) < (σ.1.2 : Int) → (ps_a s 1172 f).toInt ≤ 87)) → (Rw (ps_a s 1134) (25748 : Int32).toInt l) → (wf σ 5 l [(true, 0)]) → (1 ≤ x1.toInt) → (x1.toInt ≤ 3) → (0 ≤ x3.toInt) → (Sg (ps_a s 1135) (ps_a s 1136) (ps_a s 1138) (ps_a s 1139) (ps_i s 1131 21).toInt σ) → x2.toInt - x3.toInt ≤ (n : Int) → ps_At (d + 6) 304 47 [(0, .ref 1131), (1, .int x1), (2, .int x2), (3, .int x3)] [] s Q := by
  refine xstr (fun n ih => ?_)
  intro x2 x3 l s J K hMI hDg hFt hmo hR i5 i6 i7 i8 hS hm
  refine pg_304_47 (d := d + 5) ?_
  have hx2 := Int32.toInt_lt x2
  refine And.intro (fun h1 => ?_) (fun h1 => ?_)
  · have f2 : x2.toInt ≤ x3.toInt := xle h1
    exact k (-1 : Int32) _ J K hDg hFt
  · have f3 : x3.toInt < x2.toInt := xlt h1
    obtain ⟨hBs, hFa⟩ := hmo (by omega)
    refine ms_293 J hBs hDg (show 0 ≤ x3.toInt from by omega) (fun s4 J4 K4 p4_0 => ?_)
    have K5 := kpt K K4 rfl rfl
    have hMI : MI σ (ps_a s4 1134) (ps_a s4 1135) (ps_a s4 1136) (ps_a s4 1137) (ps_a s4 1138) (ps_a s4 1139) (ps_a s4 1157) (ps_a s4 1176) (ps_i s4 1131 21).toInt (ps_i s4 1131 47).toInt (ps_i s4 1131 54).toInt := by rw [show ps_a s4 1134 = ps_a s 1134 from (K4.2 1134 rfl).1, show ps_a s4 1135 = ps_a s 1135 from (K4.2 1135 rfl).1, show ps_a s4 1136 = ps_a s 1136 from (K4.2 1136 rfl).1, show ps_a s4 1137 = ps_a s 1137 from (K4.2 1137 rfl).1, show ps_a s4 1138 = ps_a s 1138 from (K4.2 1138 rfl).1, show ps_a s4 1139 = ps_a s 1139 from (K4.2 1139 rfl).1, show ps_a s4 1157 = ps_a s 1157 from (K4.2 1157 rfl).1, show ps_a s4 1176 = ps_a s 1176 from (K4.2 1176 rfl).1, show ps_i s4 1131 21 = ps_i s 1131 21 from kp_i K4 21 rfl, show ps_i s4 1131 47 = ps_i s 1131 47 from kp_i K4 47 rfl, show ps_i s4 1131 54 = ps_i s 1131 54 from kp_i K4 54 rfl]; exact hMI
    have hFt : ∀ j : Nat, j < 12 → 0 ≤ (ps_a s4 1175 j).toInt ∧ (ps_a s4 1175 j).toInt ≤ 2 := by rw [show ps_a s4 1175 = ps_a s 1175 from (K4.2 1175 rfl).1]; exact hFt
    have hmo : 0 ≤ x2.toInt → (∀ j : Nat, (j : Int) < (ps_i s4 1131 73).toInt → 1 ≤ (ps_a s4 1170 j).toInt ∧ (ps_a s4 1170 j).toInt ≤ 3) ∧ (∀ f : Nat, (f : Int) < (σ.1.2 : Int) → (ps_a s4 1172 f).toInt ≤ 87) := by rw [show ps_a s4 1170 = ps_a s 1170 from (K4.2 1170 rfl).1, show ps_a s4 1172 = ps_a s 1172 from (K4.2 1172 rfl).1, show ps_i s4 1131 73 = ps_i s 1131 73 from kp_i K4 73 rfl]; exact hmo
    have hR : Rw (ps_a s4 1134) (25748 : Int32).toInt l := by rw [show ps_a s4 1134 = ps_a s 1134 from (K4.2 1134 rfl).1]; exact hR
    have hS : Sg (ps_a s4 1135) (ps_a s4 1136) (ps_a s4 1138) (ps_a s4 1139) (ps_i s4 1131 21).toInt σ := by rw [show ps_a s4 1135 = ps_a s 1135 from (K4.2 1135 rfl).1, show ps_a s4 1136 = ps_a s 1136 from (K4.2 1136 rfl).1, show ps_a s4 1138 = ps_a s 1138 from (K4.2 1138 rfl).1, show ps_a s4 1139 = ps_a s 1139 from (K4.2 1139 rfl).1, show ps_i s4 1131 21 = ps_i s 1131 21 from kp_i K4 21 rfl]; exact hS
    have hBs : ∀ j : Nat, (j : Int) < (ps_i s4 1131 73).toInt → 1 ≤ (ps_a s4 1170 j).toInt ∧ (ps_a s4 1170 j).toInt ≤ 3 := by rw [show ps_a s4 1170 = ps_a s 1170 from (K4.2 1170 rfl).1, show ps_i s4 1131 73 = ps_i s 1131 73 from kp_i K4 73 rfl]; exact hBs
    have hFa : ∀ f : Nat, (f : Int) < (σ.1.2 : Int) → (ps_a s4 1172 f).toInt ≤ 87 := by rw [show ps_a s4 1172 = ps_a s 1172 from (K4.2 1172 rfl).1]; exact hFa
    have hDg : ∀ j : Nat, j < 96 → 0 ≤ (ps_a s4 1169 j).toInt ∧ (ps_a s4 1169 j).toInt ≤ 2 := p4_0
    refine ms_300 J4 hMI (show 1 ≤ x1.toInt from by omega) (show x1.toInt ≤ 3 from by omega) hDg hFt hFa (fun v6 s6 J6 K6 p6_0 b6 => ?_)
    have K7 := kpt K5 K6 rfl rfl
    have hMI : MI σ (ps_a s6 1134) (ps_a s6 1135) (ps_a s6 1136) (ps_a s6 1137) (ps_a s6 1138) (ps_a s6 1139) (ps_a s6 1157) (ps_a s6 1176) (ps_i s6 1131 21).toInt (ps_i s6 1131 47).toInt (ps_i s6 1131 54).toInt := by rw [show ps_a s6 1134 = ps_a s4 1134 from (K6.2 1134 rfl).1, show ps_a s6 1135 = ps_a s4 1135 from (K6.2 1135 rfl).1, show ps_a s6 1136 = ps_a s4 1136 from (K6.2 1136 rfl).1, show ps_a s6 1137 = ps_a s4 1137 from (K6.2 1137 rfl).1, show ps_a s6 1138 = ps_a s4 1138 from (K6.2 1138 rfl).1, show ps_a s6 1139 = ps_a s4 1139 from (K6.2 1139 rfl).1, show ps_a s6 1157 = ps_a s4 1157 from (K6.2 1157 rfl).1, show ps_a s6 1176 = ps_a s4 1176 from (K6.2 1176 rfl).1, show ps_i s6 1131 21 = ps_i s4 1131 21 from kp_i K6 21 rfl, show ps_i s6 1131 47 = ps_i s4 1131 47 from kp_i K6 47 rfl, show ps_i s6 1131 54 = ps_i s4 1131 54 from kp_i K6 54 rfl]; exact hMI
    have hmo : 0 ≤ x2.toInt → (∀ j : Nat, (j : Int) < (ps_i s6 1131 73).toInt → 1 ≤ (ps_a s6 1170 j).toInt ∧ (ps_a s6 1170 j).toInt ≤ 3) ∧ (∀ f : Nat, (f : Int) < (σ.1.2 : Int) → (ps_a s6 1172 f).toInt ≤ 87) := by rw [show ps_a s6 1170 = ps_a s4 1170 from (K6.2 1170 rfl).1, show ps_a s6 1172 = ps_a s4 1172 from (K6.2 1172 rfl).1, show ps_i s6 1131 73 = ps_i s4 1131 73 from kp_i K6 73 rfl]; exact hmo
    have hR : Rw (ps_a s6 1134) (25748 : Int32).toInt l := by rw [show ps_a s6 1134 = ps_a s4 1134 from (K6.2 1134 rfl).1]; exact hR
    have hS : Sg (ps_a s6 1135) (ps_a s6 1136) (ps_a s6 1138) (ps_a s6 1139) (ps_i s6 1131 21).toInt σ := by rw [show ps_a s6 1135 = ps_a s4 1135 from (K6.2 1135 rfl).1, show ps_a s6 1136 = ps_a s4 1136 from (K6.2 1136 rfl).1, show ps_a s6 1138 = ps_a s4 1138 from (K6.2 1138 rfl).1, show ps_a s6 1139 = ps_a s4 1139 from (K6.2 1139 rfl).1, show ps_i s6 1131 21 = ps_i s4 1131 21 from kp_i K6 21 rfl]; exact hS
    have hBs : ∀ j : Nat, (j : Int) < (ps_i s6 1131 73).toInt → 1 ≤ (ps_a s6 1170 j).toInt ∧ (ps_a s6 1170 j).toInt ≤ 3 := by rw [show ps_a s6 1170 = ps_a s4 1170 from (K6.2 1170 rfl).1, show ps_i s6 1131 73 = ps_i s4 1131 73 from kp_i K6 73 rfl]; exact hBs
    have hFa : ∀ f : Nat, (f : Int) < (σ.1.2 : Int) → (ps_a s6 1172 f).toInt ≤ 87 := by rw [show ps_a s6 1172 = ps_a s4 1172 from (K6.2 1172 rfl).1]; exact hFa
    have hDg : ∀ j : Nat, j < 96 → 0 ≤ (ps_a s6 1169 j).toInt ∧ (ps_a s6 1169 j).toInt ≤ 2 := by rw [show ps_a s6 1169 = ps_a s4 1169 from (K6.2 1169 rfl).1]; exact hDg
    have hFt : ∀ j : Nat, j < 12 → 0 ≤ (ps_a s6 1175 j).toInt ∧ (ps_a s6 1175 j).toInt ≤ 2 := p6_0
    refine And.intro (fun h8 => ?_) (fun h8 => ?_)
    · have f9 : v6.toInt = (0 : Int) := xeq h8
      have a10 : (x3 + 1).toInt = x3.toInt + (1 : Int) := xIa (show -2147483648 ≤ x3.toInt + (1 : Int) from by omega) (show x3.toInt + (1 : Int) < 2147483648 from by omega)
      exact ih (n - 1) (show n - 1 < n from by omega) x2 (x3 + 1) l _ J6 K7 hMI hDg hFt hmo hR (by assumption) (show 1 ≤ x1.toInt from by omega) (show x1.toInt ≤ 3 from by omega) (show 0 ≤ (x3 + 1).toInt from by omega) hS (show x2.toInt - (x3 + 1).toInt ≤ ((n - 1 : Nat) : Int) from by omega)
    · have f11 : v6.toInt ≠ (0 : Int) := xne h8
      refine ms_299 J6 hS hR (i5) (show 1 ≤ x1.toInt from by omega) (show x1.toInt ≤ 3 from by omega) hDg hFt hFa (fun v12 s12 J12 K12 p12_0 b12 => ?_)
      have K13 := kpt K7 K12 rfl rfl
      have hMI : MI σ (ps_a s12 1134) (ps_a s12 1135) (ps_a s12 1136) (ps_a s12 1137) (ps_a s12 1138) (ps_a s12 1139) (ps_a s12 1157) (ps_a s12 1176) (ps_i s12 1131 21).toInt (ps_i s12 1131 47).toInt (ps_i s12 1131 54).toInt := by rw [show ps_a s12 1134 = ps_a s6 1134 from (K12.2 1134 rfl).1, show ps_a s12 1135 = ps_a s6 1135 from (K12.2 1135 rfl).1, show ps_a s12 1136 = ps_a s6 1136 from (K12.2 1136 rfl).1, show ps_a s12 1137 = ps_a s6 1137 from (K12.2 1137 rfl).1, show ps_a s12 1138 = ps_a s6 1138 from (K12.2 1138 rfl).1, show ps_a s12 1139 = ps_a s6 1139 from (K12.2 1139 rfl).1, show ps_a s12 1157 = ps_a s6 1157 from (K12.2 1157 rfl).1, show ps_a s12 1176 = ps_a s6 1176 from (K12.2 1176 rfl).1, show ps_i s12 1131 21 = ps_i s6 1131 21 from kp_i K12 21 rfl, show ps_i s12 1131 47 = ps_i s6 1131 47 from kp_i K12 47 rfl, show ps_i s12 1131 54 = ps_i s6 1131 54 from kp_i K12 54 rfl]; exact hMI
      have hmo : 0 ≤ x2.toInt → (∀ j : Nat, (j : Int) < (ps_i s12 1131 73).toInt → 1 ≤ (ps_a s12 1170 j).toInt ∧ (ps_a s12 1170 j).toInt ≤ 3) ∧ (∀ f : Nat, (f : Int) < (σ.1.2 : Int) → (ps_a s12 1172 f).toInt ≤ 87) := by rw [show ps_a s12 1170 = ps_a s6 1170 from (K12.2 1170 rfl).1, show ps_a s12 1172 = ps_a s6 1172 from (K12.2 1172 rfl).1, show ps_i s12 1131 73 = ps_i s6 1131 73 from kp_i K12 73 rfl]; exact hmo
      have hR : Rw (ps_a s12 1134) (25748 : Int32).toInt l := by rw [show ps_a s12 1134 = ps_a s6 1134 from (K12.2 1134 rfl).1]; exact hR
      have hS : Sg (ps_a s12 1135) (ps_a s12 1136) (ps_a s12 1138) (ps_a s12 1139) (ps_i s12 1131 21).toInt σ := by rw [show ps_a s12 1135 = ps_a s6 1135 from (K12.2 1135 rfl).1, show ps_a s12 1136 = ps_a s6 1136 from (K12.2 1136 rfl).1, show ps_a s12 1138 = ps_a s6 1138 from (K12.2 1138 rfl).1, show ps_a s12 1139 = ps_a s6 1139 from (K12.2 1139 rfl).1, show ps_i s12 1131 21 = ps_i s6 1131 21 from kp_i K12 21 rfl]; exact hS
      have hBs : ∀ j : Nat, (j : Int) < (ps_i s12 1131 73).toInt → 1 ≤ (ps_a s12 1170 j).toInt ∧ (ps_a s12 1170 j).toInt ≤ 3 := by rw [show ps_a s12 1170 = ps_a s6 1170 from (K12.2 1170 rfl).1, show ps_i s12 1131 73 = ps_i s6 1131 73 from kp_i K12 73 rfl]; exact hBs
      have hFa : ∀ f : Nat, (f : Int) < (σ.1.2 : Int) → (ps_a s12 1172 f).toInt ≤ 87 := by rw [show ps_a s12 1172 = ps_a s6 1172 from (K12.2 1172 rfl).1]; exact hFa
      have hDg : ∀ j : Nat, j < 96 → 0 ≤ (ps_a s12 1169 j).toInt ∧ (ps_a s12 1169 j).toInt ≤ 2 := by rw [show ps_a s12 1169 = ps_a s6 1169 from (K12.2 1169 rfl).1]; exact hDg
      have hFt : ∀ j : Nat, j < 12 → 0 ≤ (ps_a s12 1175 j).toInt ∧ (ps_a s12 1175 j).toInt ≤ 2 := p12_0
      refine And.intro (fun h14 => ?_) (fun h14 => ?_)
      · have f15 : v12.toInt ≠ (0 : Int) := xne h14
        have a16 : (x3 + 1).toInt = x3.toInt + (1 : Int) := xIa (show -2147483648 ≤ x3.toInt + (1 : Int) from by omega) (show x3.toInt + (1 : Int) < 2147483648 from by omega)
        exact ih (n - 1) (show n - 1 < n from by omega) x2 (x3 + 1) l _ J12 K13 hMI hDg hFt hmo hR (by assumption) (show 1 ≤ x1.toInt from by omega) (show x1.toInt ≤ 3 from by omega) (show 0 ≤ (x3 + 1).toInt from by omega) hS (show x2.toInt - (x3 + 1).toInt ≤ ((n - 1 : Nat) : Int) from by omega)
      · have f17 : v12.toInt = (0 : Int) := xeq h14
        exact k x3 _ J12 K13 hDg hFt

theorem ms_304 {x : Nat → Nat → Nat} {t : Int32} {s : ps_S} {d : Nat} {x1 : Int32} {f : Int32 → ps_S → Prop} (J : mJ x t s) {σ : mSig} (hMI : MI σ (ps_a s 1134) (ps_a s 1135) (ps_a s 1136) (ps_a s 1137) (ps_a s 1138) (ps_a s 1139) (ps_a s 1157) (ps_a s 1176) (ps_i s 1131 21).toInt (ps_i s 1131 47).toInt (ps_i s 1131 54).toInt) (hDg : ∀ j : Nat, j < 96 → 0 ≤ (ps_a s 1169 j).toInt ∧ (ps_a s 1169 j).toInt ≤ 2) (hFt : ∀ j : Nat, j < 12 → 0 ≤ (ps_a s 1175 j).toInt ∧ (ps_a s 1175 j).toInt ≤ 2) (k : ∀ (v : Int32) (s' : ps_S), mJ x t s' → kp [1150, 1169, 1170, 1171, 1172, 1173, 1174, 1175] [73] s s' → (∀ j : Nat, j < 96 → 0 ≤ (ps_a s' 1169 j).toInt ∧ (ps_a s' 1169 j).toInt ≤ 2) → (∀ j : Nat, j < 12 → 0 ≤ (ps_a s' 1175 j).toInt ∧ (ps_a s' 1175 j).toInt ≤ 2) → f v s') : ps_Cl (d + 6) 304 [.ref 1131, .int x1] s (ps_rI f) := by
  have K : kp [1150, 1169, 1170, 1171, 1172, 1173, 1174, 1175] [73] s s := kp_refl
  refine pg_304_0 (d := d + 5) ?_
  refine ms_200 J  (fun v1 p1_0 b1 => ?_)
  have p1_0' : v1.toInt = 0 ∨ ((1 : Int) ≤ x1.toInt ∧ x1.toInt ≤ (3 : Int)) := p1_0
  refine And.intro (fun h2 => ?_) (fun h2 => ?_)
  · have f3 : v1.toInt = (0 : Int) := xeq h2
    exact k (-1 : Int32) _ J K hDg hFt
  · have f4 : v1.toInt ≠ (0 : Int) := xne h2
    refine pg_219_0 ?_
    refine ps_nd_i (show pm_in (25748 : Int32) 27400 = true from xgi (show 0 ≤ (25748 : Int) from by omega) (show (25748 : Int) < 27400 from by omega)) ?_
    have r5 : (25748 : Int) % 41 = 0 → (25748 : Int) < 27306 → 0 ≤ (ps_a s 1134 (Int32.toNatClampNeg (25748 : Int32))).toInt ∧ (ps_a s 1134 (Int32.toNatClampNeg (25748 : Int32))).toInt ≤ 40 := fun z1 z2 => mp_row (i := (25748 : Int32)) J z1 (show 0 ≤ (25748 : Int) from by omega) z2
    refine And.intro (fun h6 => ?_) (fun h6 => ?_)
    · have f7 : (ps_a s 1134 (Int32.toNatClampNeg (25748 : Int32))).toInt ≠ (0 : Int) := xne h6
      obtain ⟨l, hl1, hl2⟩ := hMI.2.2.2.2.1.resolve_left (fun z => absurd z (show ¬ ((ps_a s 1134 (Int32.toNatClampNeg (25748 : Int32))).toInt = 0) from by omega))
      have hS := MI_S hMI
      have hR : Rw (ps_a s 1134) (25748 : Int32).toInt l := by rw [show (25748 : Int32).toInt = 25748 from by decide]; exact hl1
      refine ms_301 J hS (fun v8 s8 J8 K8 p8_0 p8_1 p8_2 => ?_)
      have K9 := kpt K K8 rfl rfl
      have hMI : MI σ (ps_a s8 1134) (ps_a s8 1135) (ps_a s8 1136) (ps_a s8 1137) (ps_a s8 1138) (ps_a s8 1139) (ps_a s8 1157) (ps_a s8 1176) (ps_i s8 1131 21).toInt (ps_i s8 1131 47).toInt (ps_i s8 1131 54).toInt := by rw [show ps_a s8 1134 = ps_a s 1134 from (K8.2 1134 rfl).1, show ps_a s8 1135 = ps_a s 1135 from (K8.2 1135 rfl).1, show ps_a s8 1136 = ps_a s 1136 from (K8.2 1136 rfl).1, show ps_a s8 1137 = ps_a s 1137 from (K8.2 1137 rfl).1, show ps_a s8 1138 = ps_a s 1138 from (K8.2 1138 rfl).1, show ps_a s8 1139 = ps_a s 1139 from (K8.2 1139 rfl).1, show ps_a s8 1157 = ps_a s 1157 from (K8.2 1157 rfl).1, show ps_a s8 1176 = ps_a s 1176 from (K8.2 1176 rfl).1, show ps_i s8 1131 21 = ps_i s 1131 21 from kp_i K8 21 rfl, show ps_i s8 1131 47 = ps_i s 1131 47 from kp_i K8 47 rfl, show ps_i s8 1131 54 = ps_i s 1131 54 from kp_i K8 54 rfl]; exact hMI
      have hDg : ∀ j : Nat, j < 96 → 0 ≤ (ps_a s8 1169 j).toInt ∧ (ps_a s8 1169 j).toInt ≤ 2 := by rw [show ps_a s8 1169 = ps_a s 1169 from (K8.2 1169 rfl).1]; exact hDg
      have hFt : ∀ j : Nat, j < 12 → 0 ≤ (ps_a s8 1175 j).toInt ∧ (ps_a s8 1175 j).toInt ≤ 2 := by rw [show ps_a s8 1175 = ps_a s 1175 from (K8.2 1175 rfl).1]; exact hFt
      have hS : Sg (ps_a s8 1135) (ps_a s8 1136) (ps_a s8 1138) (ps_a s8 1139) (ps_i s8 1131 21).toInt σ := by rw [show ps_a s8 1135 = ps_a s 1135 from (K8.2 1135 rfl).1, show ps_a s8 1136 = ps_a s 1136 from (K8.2 1136 rfl).1, show ps_a s8 1138 = ps_a s 1138 from (K8.2 1138 rfl).1, show ps_a s8 1139 = ps_a s 1139 from (K8.2 1139 rfl).1, show ps_i s8 1131 21 = ps_i s 1131 21 from kp_i K8 21 rfl]; exact hS
      have hR : Rw (ps_a s8 1134) (25748 : Int32).toInt l := by rw [show ps_a s8 1134 = ps_a s 1134 from (K8.2 1134 rfl).1]; exact hR
      have p8_0' : v8.toInt ≤ 4096 := p8_0
      have p8_1' : v8.toInt < 0 ∨ (1 ≤ x1.toInt ∧ x1.toInt ≤ 3) := p8_1
      have hm0 : _ := p8_2
      refine And.intro (fun h10 => ?_) (fun h10 => ?_)
      · have f11 : v8.toInt < (0 : Int) := xlt h10
        exact k (-2 : Int32) _ J8 K9 hDg hFt
      · have f12 : (0 : Int) ≤ v8.toInt := xle h10
        refine ms_298 J8 hR (fun v13 p13_0 p13_1 => ?_)
        have p13_0' : 0 ≤ v13.toInt := p13_0
        have p13_1' : v13.toInt ≤ 12 := p13_1
        refine And.intro (fun h14 => ?_) (fun h14 => ?_)
        · have f15 : v13.toInt ≤ (4 : Int) := xle h14
          exact ms_304_47 (x1 := x1) (σ := σ) k  (v8.toInt - (0 : Int)).toNat v8 (0) l _ J8 K9 hMI hDg hFt (hm0) hR (hl2) (show 1 ≤ x1.toInt from by omega) (show x1.toInt ≤ 3 from by omega) (show 0 ≤ (0 : Int) from by omega) hS (show v8.toInt - (0 : Int) ≤ (((v8.toInt - (0 : Int)).toNat : Nat) : Int) from by omega)
        · have f16 : (4 : Int) < v13.toInt := xlt h14
          exact k (-2 : Int32) _ J8 K9 hDg hFt
    · have f17 : (ps_a s 1134 (Int32.toNatClampNeg (25748 : Int32))).toInt = (0 : Int) := xeq h6
      exact k (-1 : Int32) _ J K hDg hFt
