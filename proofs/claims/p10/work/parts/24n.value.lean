set_option maxRecDepth 100000
-- ProofBenchModel.valueOf(IIIII)I
theorem pg_296_0 {d : Nat} {x1 : Int32} {x2 : Int32} {x3 : Int32} {x4 : Int32} {x5 : Int32} {s : ps_S} {Q : Option Value → ps_S → Prop} (h :
  (x2 ≠ 0 →
    ps_At (d + 1) 296 28 [(0, .ref 1131), (1, .int x1), (2, .int x2), (4, .int x4), (5, .int x5), (6, .int ((243 : Int32) * ((x3 + x2) - 2))), (7, .int ((243 : Int32) * (x3 - 1)))] [] s Q) ∧
  (x2 = 0 →
    ps_At (d + 1) 296 28 [(0, .ref 1131), (1, .int x1), (2, .int x2), (4, .int x4), (5, .int x5), (6, .int 0), (7, .int ((243 : Int32) * (x3 - 1)))] [] s Q)) : ps_At (d + 1) 296 0 [(0, .ref 1131), (1, .int x1), (2, .int x2), (3, .int x3), (4, .int x4), (5, .int x5)] [] s Q :=
  ps_wp_at (stops := [(28, [0, 1, 2, 4, 5, 6, 7]), (88, [0, 1, 2, 4, 5, 6, 7]), (127, [0, 1, 4, 5, 6]), (143, [0, 1, 2, 4, 5, 6, 7]), (178, [0, 1, 2, 4, 5, 6, 7]), (216, [0, 1, 2, 4, 5, 6, 7])]) (n := 27) h rfl

theorem pg_296_28 {d : Nat} {x1 : Int32} {x2 : Int32} {x4 : Int32} {x5 : Int32} {x6 : Int32} {x7 : Int32} {s : ps_S} {Q : Option Value → ps_S → Prop} (h :
  (x1 ≠ 0 →
    (x1 ≠ 1 →
      (x1 ≠ 2 →
        ps_At (d + 1) 296 88 [(0, .ref 1131), (1, .int x1), (2, .int x2), (4, .int x4), (5, .int x5), (6, .int x6), (7, .int x7)] [] s Q) ∧
      (x1 = 2 →
        ps_nd (pm_in (x6 + x4) 10206) (ps_nd (pm_in (x7 + x4) 10206) (Q (some (.int ((ps_a s 1174 (Int32.toNatClampNeg (x6 + x4))) ||| (ps_a s 1174 (Int32.toNatClampNeg (x7 + x4)))))) s)))) ∧
    (x1 = 1 →
      ps_nd (pm_in (x6 + x4) 10206) (ps_nd (pm_in (x7 + x4) 10206) (Q (some (.int ((ps_a s 1174 (Int32.toNatClampNeg (x6 + x4))) &&& (ps_a s 1174 (Int32.toNatClampNeg (x7 + x4)))))) s)))) ∧
  (x1 = 0 →
    Q (some (.int 0)) s)) : ps_At (d + 1) 296 28 [(0, .ref 1131), (1, .int x1), (2, .int x2), (4, .int x4), (5, .int x5), (6, .int x6), (7, .int x7)] [] s Q :=
  ps_wp_at (stops := [(28, [0, 1, 2, 4, 5, 6, 7]), (88, [0, 1, 2, 4, 5, 6, 7]), (127, [0, 1, 4, 5, 6]), (143, [0, 1, 2, 4, 5, 6, 7]), (178, [0, 1, 2, 4, 5, 6, 7]), (216, [0, 1, 2, 4, 5, 6, 7])]) (n := 40) h rfl

theorem pg_296_88 {d : Nat} {x1 : Int32} {x2 : Int32} {x4 : Int32} {x5 : Int32} {x6 : Int32} {x7 : Int32} {s : ps_S} {Q : Option Value → ps_S → Prop} (h :
  (x1 ≠ 3 →
    (x1 = 4 →
      ps_At (d + 1) 296 127 [(0, .ref 1131), (1, .int x1), (4, .int x4), (5, .int x5), (6, .int x6)] [] s Q) ∧
    (x1 ≠ 4 →
      (x1 ≠ 5 →
        ps_At (d + 1) 296 143 [(0, .ref 1131), (1, .int x1), (2, .int x2), (4, .int x4), (5, .int x5), (6, .int x6), (7, .int x7)] [] s Q) ∧
      (x1 = 5 →
        ps_At (d + 1) 296 127 [(0, .ref 1131), (1, .int x1), (4, .int x4), (5, .int x5), (6, .int x6)] [] s Q))) ∧
  (x1 = 3 →
    ps_nd (pm_in (x6 + x4) 10206) (ps_nd (pm_in (x7 + x4) 10206) (Q (some (.int (((1 : Int32) - (ps_a s 1174 (Int32.toNatClampNeg (x6 + x4)))) ||| (ps_a s 1174 (Int32.toNatClampNeg (x7 + x4)))))) s)))) : ps_At (d + 1) 296 88 [(0, .ref 1131), (1, .int x1), (2, .int x2), (4, .int x4), (5, .int x5), (6, .int x6), (7, .int x7)] [] s Q :=
  ps_wp_at (stops := [(28, [0, 1, 2, 4, 5, 6, 7]), (88, [0, 1, 2, 4, 5, 6, 7]), (127, [0, 1, 4, 5, 6]), (143, [0, 1, 2, 4, 5, 6, 7]), (178, [0, 1, 2, 4, 5, 6, 7]), (216, [0, 1, 2, 4, 5, 6, 7])]) (n := 27) h rfl

theorem pg_296_127 {d : Nat} {x1 : Int32} {x4 : Int32} {x5 : Int32} {x6 : Int32} {s : ps_S} {Q : Option Value → ps_S → Prop} (h :
  ps_Cl d 297 [.ref 1131, .int x1, .int (x6 + (x4 * x5)), .int x5] s (ps_rI (fun v1 s1 =>
    Q (some (.int v1)) s1))) : ps_At (d + 1) 296 127 [(0, .ref 1131), (1, .int x1), (4, .int x4), (5, .int x5), (6, .int x6)] [] s Q :=
  ps_wp_at (stops := [(28, [0, 1, 2, 4, 5, 6, 7]), (88, [0, 1, 2, 4, 5, 6, 7]), (127, [0, 1, 4, 5, 6]), (143, [0, 1, 2, 4, 5, 6, 7]), (178, [0, 1, 2, 4, 5, 6, 7]), (216, [0, 1, 2, 4, 5, 6, 7])]) (n := 12) h rfl

theorem pg_296_143 {d : Nat} {x1 : Int32} {x2 : Int32} {x4 : Int32} {x5 : Int32} {x6 : Int32} {x7 : Int32} {s : ps_S} {Q : Option Value → ps_S → Prop} (h :
  (x1 ≠ 6 →
    ps_At (d + 1) 296 178 [(0, .ref 1131), (1, .int x1), (2, .int x2), (4, .int x4), (5, .int x5), (6, .int x6), (7, .int x7)] [] s Q) ∧
  (x1 = 6 →
    ps_nd (pm_in (x6 + x4) 10206) (ps_nd (pm_in (x7 + x4) 10206) (((ps_a s 1174 (Int32.toNatClampNeg (x6 + x4))) ≠ (ps_a s 1174 (Int32.toNatClampNeg (x7 + x4))) →
      Q (some (.int 0)) s) ∧
    ((ps_a s 1174 (Int32.toNatClampNeg (x6 + x4))) = (ps_a s 1174 (Int32.toNatClampNeg (x7 + x4))) →
      Q (some (.int 1)) s))))) : ps_At (d + 1) 296 143 [(0, .ref 1131), (1, .int x1), (2, .int x2), (4, .int x4), (5, .int x5), (6, .int x6), (7, .int x7)] [] s Q :=
  ps_wp_at (stops := [(28, [0, 1, 2, 4, 5, 6, 7]), (88, [0, 1, 2, 4, 5, 6, 7]), (127, [0, 1, 4, 5, 6]), (143, [0, 1, 2, 4, 5, 6, 7]), (178, [0, 1, 2, 4, 5, 6, 7]), (216, [0, 1, 2, 4, 5, 6, 7])]) (n := 23) h rfl

theorem pg_296_178 {d : Nat} {x1 : Int32} {x2 : Int32} {x4 : Int32} {x5 : Int32} {x6 : Int32} {x7 : Int32} {s : ps_S} {Q : Option Value → ps_S → Prop} (h :
  (x1 < 60 →
    (x1 < 40 →
      ps_At (d + 1) 296 216 [(0, .ref 1131), (1, .int x1), (2, .int x2), (4, .int x4), (5, .int x5), (6, .int x6), (7, .int x7)] [] s Q) ∧
    (40 ≤ x1 →
      ps_Cl d 290 [.int x5, .int (x1 - 40)] s (ps_rI (fun v1 s1 =>
        ps_nd (!decide (v1 = 0)) (ps_nd (!decide (x5 = 0)) (Q (some (.int ((x4 / v1) - ((x4 / v1) / x5) * x5))) s1)))))) ∧
  (60 ≤ x1 →
    ps_nd (pm_in (x1 - 60) 12) (Q (some (.int (ps_a s 1175 (Int32.toNatClampNeg (x1 - 60))))) s))) : ps_At (d + 1) 296 178 [(0, .ref 1131), (1, .int x1), (2, .int x2), (4, .int x4), (5, .int x5), (6, .int x6), (7, .int x7)] [] s Q :=
  ps_wp_at (stops := [(28, [0, 1, 2, 4, 5, 6, 7]), (88, [0, 1, 2, 4, 5, 6, 7]), (127, [0, 1, 4, 5, 6]), (143, [0, 1, 2, 4, 5, 6, 7]), (178, [0, 1, 2, 4, 5, 6, 7]), (216, [0, 1, 2, 4, 5, 6, 7])]) (n := 25) h rfl

theorem pg_296_216 {d : Nat} {x1 : Int32} {x2 : Int32} {x4 : Int32} {x5 : Int32} {x6 : Int32} {x7 : Int32} {s : ps_S} {Q : Option Value → ps_S → Prop} (h :
  (x2 ≠ 0 →
    (x2 ≠ 1 →
      ps_nd (pm_in (x6 + x4) 10206) (ps_nd (pm_in (x7 + x4) 10206) ((20 ≤ x1 →
        ps_nd (pm_in (x1 - 20) 4) (ps_nd (pm_in ((ps_a s 1172 (Int32.toNatClampNeg (x1 - 20))) + (((ps_a s 1174 (Int32.toNatClampNeg (x6 + x4))) * x5) + (ps_a s 1174 (Int32.toNatClampNeg (x7 + x4))))) 96) (Q (some (.int (ps_a s 1169 (Int32.toNatClampNeg ((ps_a s 1172 (Int32.toNatClampNeg (x1 - 20))) + (((ps_a s 1174 (Int32.toNatClampNeg (x6 + x4))) * x5) + (ps_a s 1174 (Int32.toNatClampNeg (x7 + x4))))))))) s))) ∧
      (x1 < 20 →
        ps_nd (pm_in (x1 - 10) 6) (ps_nd (pm_in ((ps_a s 1171 (Int32.toNatClampNeg (x1 - 10))) + (((ps_a s 1174 (Int32.toNatClampNeg (x6 + x4))) * x5) + (ps_a s 1174 (Int32.toNatClampNeg (x7 + x4))))) 96) (Q (some (.int (ps_a s 1169 (Int32.toNatClampNeg ((ps_a s 1171 (Int32.toNatClampNeg (x1 - 10))) + (((ps_a s 1174 (Int32.toNatClampNeg (x6 + x4))) * x5) + (ps_a s 1174 (Int32.toNatClampNeg (x7 + x4))))))))) s)))))) ∧
    (x2 = 1 →
      ps_nd (pm_in (x6 + x4) 10206) ((20 ≤ x1 →
        ps_nd (pm_in (x1 - 20) 4) (ps_nd (pm_in ((ps_a s 1172 (Int32.toNatClampNeg (x1 - 20))) + (ps_a s 1174 (Int32.toNatClampNeg (x6 + x4)))) 96) (Q (some (.int (ps_a s 1169 (Int32.toNatClampNeg ((ps_a s 1172 (Int32.toNatClampNeg (x1 - 20))) + (ps_a s 1174 (Int32.toNatClampNeg (x6 + x4)))))))) s))) ∧
      (x1 < 20 →
        ps_nd (pm_in (x1 - 10) 6) (ps_nd (pm_in ((ps_a s 1171 (Int32.toNatClampNeg (x1 - 10))) + (ps_a s 1174 (Int32.toNatClampNeg (x6 + x4)))) 96) (Q (some (.int (ps_a s 1169 (Int32.toNatClampNeg ((ps_a s 1171 (Int32.toNatClampNeg (x1 - 10))) + (ps_a s 1174 (Int32.toNatClampNeg (x6 + x4)))))))) s)))))) ∧
  (x2 = 0 →
    (20 ≤ x1 →
      ps_nd (pm_in (x1 - 20) 4) (ps_nd (pm_in ((ps_a s 1172 (Int32.toNatClampNeg (x1 - 20))) + 0) 96) (Q (some (.int (ps_a s 1169 (Int32.toNatClampNeg ((ps_a s 1172 (Int32.toNatClampNeg (x1 - 20))) + 0))))) s))) ∧
    (x1 < 20 →
      ps_nd (pm_in (x1 - 10) 6) (ps_nd (pm_in ((ps_a s 1171 (Int32.toNatClampNeg (x1 - 10))) + 0) 96) (Q (some (.int (ps_a s 1169 (Int32.toNatClampNeg ((ps_a s 1171 (Int32.toNatClampNeg (x1 - 10))) + 0))))) s))))) : ps_At (d + 1) 296 216 [(0, .ref 1131), (1, .int x1), (2, .int x2), (4, .int x4), (5, .int x5), (6, .int x6), (7, .int x7)] [] s Q :=
  ps_wp_at (stops := [(28, [0, 1, 2, 4, 5, 6, 7]), (88, [0, 1, 2, 4, 5, 6, 7]), (127, [0, 1, 4, 5, 6]), (143, [0, 1, 2, 4, 5, 6, 7]), (178, [0, 1, 2, 4, 5, 6, 7]), (216, [0, 1, 2, 4, 5, 6, 7])]) (n := 112) h rfl

theorem ms_296_127 {x : Nat → Nat → Nat} {t : Int32} {d : Nat} {s : ps_S} {σ : mSig} {c : Nat} {b : Bool} {ks : List Bool} {x1 : Int32} {x2 : Int32} {x3 : Int32} {x4 : Int32} {x5 : Int32} {Q : Option Value → ps_S → Prop} (k : ∀ (v : Int32), (20 ≤ c → 0 ≤ v.toInt ∧ v.toInt ≤ 2) → Q (some (.int v)) s) (x6 : Int32) (J : mJ x t s) (i0 : x1.toInt = (c : Int)) (i1 : c = 4 ∨ c = 5) (i2 : 0 ≤ x6.toInt) (i3 : x6.toInt ≤ 9720) (i4 : 0 ≤ x4.toInt) (i5 : x4.toInt ≤ 242) (i6 : 1 ≤ x5.toInt) (i7 : x5.toInt ≤ 3) (i8 : x4.toInt * x5.toInt + x5.toInt ≤ 243) : ps_At (d + 1) 296 127 [(0, .ref 1131), (1, .int x1), (4, .int x4), (5, .int x5), (6, .int x6)] [] s Q := by
  refine pg_296_127 (d := d) ?_
  obtain ⟨hm1, hm2, hm3⟩ := mul33 (a := x4) (b := x5) ⟨by omega, by omega⟩ ⟨by omega, by omega⟩
  have a1 : (x6 + (x4 * x5)).toInt = x6.toInt + (x4 * x5).toInt := xIa (show -2147483648 ≤ x6.toInt + (x4 * x5).toInt from by omega) (show x6.toInt + (x4 * x5).toInt < 2147483648 from by omega)
  refine ms_297 J (show 0 ≤ (x6 + (x4 * x5)).toInt from by omega) (show 0 ≤ x5.toInt from by omega) (show x5.toInt ≤ 3 from by omega) (show (x6 + (x4 * x5)).toInt + x5.toInt ≤ 10206 from by omega) (fun v2 p2_0 p2_1 => ?_)
  have p2_0' : 0 ≤ v2.toInt := p2_0
  have p2_1' : v2.toInt ≤ 1 := p2_1
  exact k v2 (fun h => absurd h (by omega))

theorem ms_296_216 {x : Nat → Nat → Nat} {t : Int32} {d : Nat} {s : ps_S} {σ : mSig} {c : Nat} {b : Bool} {ks : List Bool} {x1 : Int32} {x2 : Int32} {x3 : Int32} {x4 : Int32} {x5 : Int32} {Q : Option Value → ps_S → Prop} (k : ∀ (v : Int32), (20 ≤ c → 0 ≤ v.toInt ∧ v.toInt ≤ 2) → Q (some (.int v)) s) (x6 : Int32) (x7 : Int32) (J : mJ x t s) (hS : Sg (ps_a s 1135) (ps_a s 1136) (ps_a s 1138) (ps_a s 1139) (ps_i s 1131 21).toInt σ) (hDg : ∀ j : Nat, j < 96 → 0 ≤ (ps_a s 1169 j).toInt ∧ (ps_a s 1169 j).toInt ≤ 2) (hFt : ∀ j : Nat, j < 12 → 0 ≤ (ps_a s 1175 j).toInt ∧ (ps_a s 1175 j).toInt ≤ 2) (hFa : ∀ f : Nat, (f : Int) < (σ.1.2 : Int) → (ps_a s 1172 f).toInt ≤ 87) (i4 : kS σ b c = some ks) (i5 : x1.toInt = (c : Int)) (i6 : x2.toInt = (ks.length : Int)) (i7 : 0 ≤ x6.toInt) (i8 : x6.toInt ≤ 9720) (i9 : 0 ≤ x7.toInt) (i10 : x7.toInt ≤ 9963) (i11 : 0 ≤ x4.toInt) (i12 : x4.toInt ≤ 242) (i13 : 1 ≤ x5.toInt) (i14 : x5.toInt ≤ 3) (i15 : c = 4 ∨ c = 5 → x4.toInt * x5.toInt + x5.toInt ≤ 243) (i16 : 10 ≤ c → ks.length ≠ 0 → 0 ≤ (ps_a s 1174 (x6.toInt + x4.toInt).toNat).toInt ∧ (ps_a s 1174 (x6.toInt + x4.toInt).toNat).toInt ≤ 2) (i17 : 10 ≤ c → ks.length = 2 → 0 ≤ (ps_a s 1174 (x7.toInt + x4.toInt).toNat).toInt ∧ (ps_a s 1174 (x7.toInt + x4.toInt).toNat).toInt ≤ 2) (i18 : x1.toInt ≠ 0) (i19 : x1.toInt ≠ 1) (i20 : x1.toInt ≠ 2) (i21 : x1.toInt ≠ 3) (i22 : x1.toInt ≠ 4) (i23 : x1.toInt ≠ 5) (i24 : x1.toInt ≠ 6) (i25 : x1.toInt < 40) : ps_At (d + 1) 296 216 [(0, .ref 1131), (1, .int x1), (2, .int x2), (4, .int x4), (5, .int x5), (6, .int x6), (7, .int x7)] [] s Q := by
  refine pg_296_216 (d := d) ?_
  have h72 := kS_72 (Sg_σ hS) i4
  have hks2 := kS_le hS i4
  have q5 : x1.toInt = (c : Int) := i5
  have q6 : x2.toInt = (ks.length : Int) := i6
  have hkn := kS_num i4
  obtain ⟨hb0, hb1, h5, hR6, h6, hF, h8, h9⟩ := id hS
  refine And.intro (fun h1 => ?_) (fun h1 => ?_)
  · have f2 : x2.toInt ≠ (0 : Int) := xne h1
    refine And.intro (fun h3 => ?_) (fun h3 => ?_)
    · have f4 : x2.toInt ≠ (1 : Int) := xne h3
      have a5 : (x6 + x4).toInt = x6.toInt + x4.toInt := xIa (show -2147483648 ≤ x6.toInt + x4.toInt from by omega) (show x6.toInt + x4.toInt < 2147483648 from by omega)
      have hi1 : Int32.toNatClampNeg ((x6 + x4)) = (x6.toInt + x4.toInt).toNat := nx (by omega)
      refine ps_nd_i (show pm_in (x6 + x4) 10206 = true from xgi (show 0 ≤ (x6 + x4).toInt from by omega) (show (x6 + x4).toInt < 10206 from by omega)) ?_
      have hr1 : 0 ≤ ((ps_a s 1174 (Int32.toNatClampNeg (x6 + x4)))).toInt ∧ ((ps_a s 1174 (Int32.toNatClampNeg (x6 + x4)))).toInt ≤ 2 := by rw [hi1]; exact i16 (by omega) (by omega)
      obtain ⟨hm1, hm2, hm3⟩ := mul33 (a := (ps_a s 1174 (Int32.toNatClampNeg (x6 + x4)))) (b := x5) ⟨by omega, by omega⟩ ⟨by omega, by omega⟩
      have a6 : (x7 + x4).toInt = x7.toInt + x4.toInt := xIa (show -2147483648 ≤ x7.toInt + x4.toInt from by omega) (show x7.toInt + x4.toInt < 2147483648 from by omega)
      have hi2 : Int32.toNatClampNeg ((x7 + x4)) = (x7.toInt + x4.toInt).toNat := nx (by omega)
      refine ps_nd_i (show pm_in (x7 + x4) 10206 = true from xgi (show 0 ≤ (x7 + x4).toInt from by omega) (show (x7 + x4).toInt < 10206 from by omega)) ?_
      have hr2 : 0 ≤ ((ps_a s 1174 (Int32.toNatClampNeg (x7 + x4)))).toInt ∧ ((ps_a s 1174 (Int32.toNatClampNeg (x7 + x4)))).toInt ≤ 2 := by rw [hi2]; exact i17 (by omega) (by omega)
      have a7 : (((ps_a s 1174 (Int32.toNatClampNeg (x6 + x4))) * x5) + (ps_a s 1174 (Int32.toNatClampNeg (x7 + x4)))).toInt = ((ps_a s 1174 (Int32.toNatClampNeg (x6 + x4))) * x5).toInt + (ps_a s 1174 (Int32.toNatClampNeg (x7 + x4))).toInt := xIa (show -2147483648 ≤ ((ps_a s 1174 (Int32.toNatClampNeg (x6 + x4))) * x5).toInt + (ps_a s 1174 (Int32.toNatClampNeg (x7 + x4))).toInt from by omega) (show ((ps_a s 1174 (Int32.toNatClampNeg (x6 + x4))) * x5).toInt + (ps_a s 1174 (Int32.toNatClampNeg (x7 + x4))).toInt < 2147483648 from by omega)
      refine And.intro (fun h8 => ?_) (fun h8 => ?_)
      · have f9 : (20 : Int) ≤ x1.toInt := xle h8
        have a10 : (x1 - 20).toInt = x1.toInt - (20 : Int) := xIs (show -2147483648 ≤ x1.toInt - (20 : Int) from by omega) (show x1.toInt - (20 : Int) < 2147483648 from by omega)
        have hfa : (ps_a s 1172 (Int32.toNatClampNeg ((x1 - 20)))).toInt ≤ 87 := by rw [nx (n := (c : Int) - 20) (by omega)]; exact hFa _ (by omega)
        refine ps_nd_i (show pm_in (x1 - 20) 4 = true from xgi (show 0 ≤ (x1 - 20).toInt from by omega) (show (x1 - 20).toInt < 4 from by omega)) ?_
        have r11 : 0 ≤ (ps_a s 1172 (Int32.toNatClampNeg (x1 - 20))).toInt ∧ (ps_a s 1172 (Int32.toNatClampNeg (x1 - 20))).toInt ≤ 90 := ma_1172 (i := (x1 - 20)) J (show 0 ≤ (x1 - 20).toInt from by omega) (show (x1 - 20).toInt < 4 from by omega)
        have a12 : ((ps_a s 1172 (Int32.toNatClampNeg (x1 - 20))) + (((ps_a s 1174 (Int32.toNatClampNeg (x6 + x4))) * x5) + (ps_a s 1174 (Int32.toNatClampNeg (x7 + x4))))).toInt = (ps_a s 1172 (Int32.toNatClampNeg (x1 - 20))).toInt + (((ps_a s 1174 (Int32.toNatClampNeg (x6 + x4))) * x5) + (ps_a s 1174 (Int32.toNatClampNeg (x7 + x4)))).toInt := xIa (show -2147483648 ≤ (ps_a s 1172 (Int32.toNatClampNeg (x1 - 20))).toInt + (((ps_a s 1174 (Int32.toNatClampNeg (x6 + x4))) * x5) + (ps_a s 1174 (Int32.toNatClampNeg (x7 + x4)))).toInt from by omega) (show (ps_a s 1172 (Int32.toNatClampNeg (x1 - 20))).toInt + (((ps_a s 1174 (Int32.toNatClampNeg (x6 + x4))) * x5) + (ps_a s 1174 (Int32.toNatClampNeg (x7 + x4)))).toInt < 2147483648 from by omega)
        have hix : Int32.toNatClampNeg (((ps_a s 1172 (Int32.toNatClampNeg (x1 - 20))) + (((ps_a s 1174 (Int32.toNatClampNeg (x6 + x4))) * x5) + (ps_a s 1174 (Int32.toNatClampNeg (x7 + x4)))))) < 96 := by rw [nx (n := (((ps_a s 1172 (Int32.toNatClampNeg (x1 - 20))) + (((ps_a s 1174 (Int32.toNatClampNeg (x6 + x4))) * x5) + (ps_a s 1174 (Int32.toNatClampNeg (x7 + x4)))))).toInt) rfl]; omega
        refine ps_nd_i (show pm_in ((ps_a s 1172 (Int32.toNatClampNeg (x1 - 20))) + (((ps_a s 1174 (Int32.toNatClampNeg (x6 + x4))) * x5) + (ps_a s 1174 (Int32.toNatClampNeg (x7 + x4))))) 96 = true from xgi (show 0 ≤ ((ps_a s 1172 (Int32.toNatClampNeg (x1 - 20))) + (((ps_a s 1174 (Int32.toNatClampNeg (x6 + x4))) * x5) + (ps_a s 1174 (Int32.toNatClampNeg (x7 + x4))))).toInt from by omega) (show ((ps_a s 1172 (Int32.toNatClampNeg (x1 - 20))) + (((ps_a s 1174 (Int32.toNatClampNeg (x6 + x4))) * x5) + (ps_a s 1174 (Int32.toNatClampNeg (x7 + x4))))).toInt < 96 from by omega)) ?_
        have hdd : 0 ≤ ((ps_a s 1169 (Int32.toNatClampNeg ((ps_a s 1172 (Int32.toNatClampNeg (x1 - 20))) + (((ps_a s 1174 (Int32.toNatClampNeg (x6 + x4))) * x5) + (ps_a s 1174 (Int32.toNatClampNeg (x7 + x4)))))))).toInt ∧ ((ps_a s 1169 (Int32.toNatClampNeg ((ps_a s 1172 (Int32.toNatClampNeg (x1 - 20))) + (((ps_a s 1174 (Int32.toNatClampNeg (x6 + x4))) * x5) + (ps_a s 1174 (Int32.toNatClampNeg (x7 + x4)))))))).toInt ≤ 2 := hDg _ hix
        exact k (ps_a s 1169 (Int32.toNatClampNeg ((ps_a s 1172 (Int32.toNatClampNeg (x1 - 20))) + (((ps_a s 1174 (Int32.toNatClampNeg (x6 + x4))) * x5) + (ps_a s 1174 (Int32.toNatClampNeg (x7 + x4))))))) (fun _ => hdd)
      · have f13 : x1.toInt < (20 : Int) := xlt h8
        have a14 : (x1 - 10).toInt = x1.toInt - (10 : Int) := xIs (show -2147483648 ≤ x1.toInt - (10 : Int) from by omega) (show x1.toInt - (10 : Int) < 2147483648 from by omega)
        refine ps_nd_i (show pm_in (x1 - 10) 6 = true from xgi (show 0 ≤ (x1 - 10).toInt from by omega) (show (x1 - 10).toInt < 6 from by omega)) ?_
        have r15 : 0 ≤ (ps_a s 1171 (Int32.toNatClampNeg (x1 - 10))).toInt ∧ (ps_a s 1171 (Int32.toNatClampNeg (x1 - 10))).toInt ≤ 54 := ma_1171 (i := (x1 - 10)) J (show 0 ≤ (x1 - 10).toInt from by omega) (show (x1 - 10).toInt < 6 from by omega)
        have a16 : ((ps_a s 1171 (Int32.toNatClampNeg (x1 - 10))) + (((ps_a s 1174 (Int32.toNatClampNeg (x6 + x4))) * x5) + (ps_a s 1174 (Int32.toNatClampNeg (x7 + x4))))).toInt = (ps_a s 1171 (Int32.toNatClampNeg (x1 - 10))).toInt + (((ps_a s 1174 (Int32.toNatClampNeg (x6 + x4))) * x5) + (ps_a s 1174 (Int32.toNatClampNeg (x7 + x4)))).toInt := xIa (show -2147483648 ≤ (ps_a s 1171 (Int32.toNatClampNeg (x1 - 10))).toInt + (((ps_a s 1174 (Int32.toNatClampNeg (x6 + x4))) * x5) + (ps_a s 1174 (Int32.toNatClampNeg (x7 + x4)))).toInt from by omega) (show (ps_a s 1171 (Int32.toNatClampNeg (x1 - 10))).toInt + (((ps_a s 1174 (Int32.toNatClampNeg (x6 + x4))) * x5) + (ps_a s 1174 (Int32.toNatClampNeg (x7 + x4)))).toInt < 2147483648 from by omega)
        have hix : Int32.toNatClampNeg (((ps_a s 1171 (Int32.toNatClampNeg (x1 - 10))) + (((ps_a s 1174 (Int32.toNatClampNeg (x6 + x4))) * x5) + (ps_a s 1174 (Int32.toNatClampNeg (x7 + x4)))))) < 96 := by rw [nx (n := (((ps_a s 1171 (Int32.toNatClampNeg (x1 - 10))) + (((ps_a s 1174 (Int32.toNatClampNeg (x6 + x4))) * x5) + (ps_a s 1174 (Int32.toNatClampNeg (x7 + x4)))))).toInt) rfl]; omega
        refine ps_nd_i (show pm_in ((ps_a s 1171 (Int32.toNatClampNeg (x1 - 10))) + (((ps_a s 1174 (Int32.toNatClampNeg (x6 + x4))) * x5) + (ps_a s 1174 (Int32.toNatClampNeg (x7 + x4))))) 96 = true from xgi (show 0 ≤ ((ps_a s 1171 (Int32.toNatClampNeg (x1 - 10))) + (((ps_a s 1174 (Int32.toNatClampNeg (x6 + x4))) * x5) + (ps_a s 1174 (Int32.toNatClampNeg (x7 + x4))))).toInt from by omega) (show ((ps_a s 1171 (Int32.toNatClampNeg (x1 - 10))) + (((ps_a s 1174 (Int32.toNatClampNeg (x6 + x4))) * x5) + (ps_a s 1174 (Int32.toNatClampNeg (x7 + x4))))).toInt < 96 from by omega)) ?_
        have hdd : 0 ≤ ((ps_a s 1169 (Int32.toNatClampNeg ((ps_a s 1171 (Int32.toNatClampNeg (x1 - 10))) + (((ps_a s 1174 (Int32.toNatClampNeg (x6 + x4))) * x5) + (ps_a s 1174 (Int32.toNatClampNeg (x7 + x4)))))))).toInt ∧ ((ps_a s 1169 (Int32.toNatClampNeg ((ps_a s 1171 (Int32.toNatClampNeg (x1 - 10))) + (((ps_a s 1174 (Int32.toNatClampNeg (x6 + x4))) * x5) + (ps_a s 1174 (Int32.toNatClampNeg (x7 + x4)))))))).toInt ≤ 2 := hDg _ hix
        exact k (ps_a s 1169 (Int32.toNatClampNeg ((ps_a s 1171 (Int32.toNatClampNeg (x1 - 10))) + (((ps_a s 1174 (Int32.toNatClampNeg (x6 + x4))) * x5) + (ps_a s 1174 (Int32.toNatClampNeg (x7 + x4))))))) (fun _ => hdd)
    · have f17 : x2.toInt = (1 : Int) := xeq h3
      have a18 : (x6 + x4).toInt = x6.toInt + x4.toInt := xIa (show -2147483648 ≤ x6.toInt + x4.toInt from by omega) (show x6.toInt + x4.toInt < 2147483648 from by omega)
      have hi1 : Int32.toNatClampNeg ((x6 + x4)) = (x6.toInt + x4.toInt).toNat := nx (by omega)
      refine ps_nd_i (show pm_in (x6 + x4) 10206 = true from xgi (show 0 ≤ (x6 + x4).toInt from by omega) (show (x6 + x4).toInt < 10206 from by omega)) ?_
      have hr1 : 0 ≤ ((ps_a s 1174 (Int32.toNatClampNeg (x6 + x4)))).toInt ∧ ((ps_a s 1174 (Int32.toNatClampNeg (x6 + x4)))).toInt ≤ 2 := by rw [hi1]; exact i16 (by omega) (by omega)
      refine And.intro (fun h19 => ?_) (fun h19 => ?_)
      · have f20 : (20 : Int) ≤ x1.toInt := xle h19
        have a21 : (x1 - 20).toInt = x1.toInt - (20 : Int) := xIs (show -2147483648 ≤ x1.toInt - (20 : Int) from by omega) (show x1.toInt - (20 : Int) < 2147483648 from by omega)
        have hfa : (ps_a s 1172 (Int32.toNatClampNeg ((x1 - 20)))).toInt ≤ 87 := by rw [nx (n := (c : Int) - 20) (by omega)]; exact hFa _ (by omega)
        refine ps_nd_i (show pm_in (x1 - 20) 4 = true from xgi (show 0 ≤ (x1 - 20).toInt from by omega) (show (x1 - 20).toInt < 4 from by omega)) ?_
        have r22 : 0 ≤ (ps_a s 1172 (Int32.toNatClampNeg (x1 - 20))).toInt ∧ (ps_a s 1172 (Int32.toNatClampNeg (x1 - 20))).toInt ≤ 90 := ma_1172 (i := (x1 - 20)) J (show 0 ≤ (x1 - 20).toInt from by omega) (show (x1 - 20).toInt < 4 from by omega)
        have a23 : ((ps_a s 1172 (Int32.toNatClampNeg (x1 - 20))) + (ps_a s 1174 (Int32.toNatClampNeg (x6 + x4)))).toInt = (ps_a s 1172 (Int32.toNatClampNeg (x1 - 20))).toInt + (ps_a s 1174 (Int32.toNatClampNeg (x6 + x4))).toInt := xIa (show -2147483648 ≤ (ps_a s 1172 (Int32.toNatClampNeg (x1 - 20))).toInt + (ps_a s 1174 (Int32.toNatClampNeg (x6 + x4))).toInt from by omega) (show (ps_a s 1172 (Int32.toNatClampNeg (x1 - 20))).toInt + (ps_a s 1174 (Int32.toNatClampNeg (x6 + x4))).toInt < 2147483648 from by omega)
        have hix : Int32.toNatClampNeg (((ps_a s 1172 (Int32.toNatClampNeg (x1 - 20))) + (ps_a s 1174 (Int32.toNatClampNeg (x6 + x4))))) < 96 := by rw [nx (n := (((ps_a s 1172 (Int32.toNatClampNeg (x1 - 20))) + (ps_a s 1174 (Int32.toNatClampNeg (x6 + x4))))).toInt) rfl]; omega
        refine ps_nd_i (show pm_in ((ps_a s 1172 (Int32.toNatClampNeg (x1 - 20))) + (ps_a s 1174 (Int32.toNatClampNeg (x6 + x4)))) 96 = true from xgi (show 0 ≤ ((ps_a s 1172 (Int32.toNatClampNeg (x1 - 20))) + (ps_a s 1174 (Int32.toNatClampNeg (x6 + x4)))).toInt from by omega) (show ((ps_a s 1172 (Int32.toNatClampNeg (x1 - 20))) + (ps_a s 1174 (Int32.toNatClampNeg (x6 + x4)))).toInt < 96 from by omega)) ?_
        have hdd : 0 ≤ ((ps_a s 1169 (Int32.toNatClampNeg ((ps_a s 1172 (Int32.toNatClampNeg (x1 - 20))) + (ps_a s 1174 (Int32.toNatClampNeg (x6 + x4))))))).toInt ∧ ((ps_a s 1169 (Int32.toNatClampNeg ((ps_a s 1172 (Int32.toNatClampNeg (x1 - 20))) + (ps_a s 1174 (Int32.toNatClampNeg (x6 + x4))))))).toInt ≤ 2 := hDg _ hix
        exact k (ps_a s 1169 (Int32.toNatClampNeg ((ps_a s 1172 (Int32.toNatClampNeg (x1 - 20))) + (ps_a s 1174 (Int32.toNatClampNeg (x6 + x4)))))) (fun _ => hdd)
      · have f24 : x1.toInt < (20 : Int) := xlt h19
        have a25 : (x1 - 10).toInt = x1.toInt - (10 : Int) := xIs (show -2147483648 ≤ x1.toInt - (10 : Int) from by omega) (show x1.toInt - (10 : Int) < 2147483648 from by omega)
        refine ps_nd_i (show pm_in (x1 - 10) 6 = true from xgi (show 0 ≤ (x1 - 10).toInt from by omega) (show (x1 - 10).toInt < 6 from by omega)) ?_
        have r26 : 0 ≤ (ps_a s 1171 (Int32.toNatClampNeg (x1 - 10))).toInt ∧ (ps_a s 1171 (Int32.toNatClampNeg (x1 - 10))).toInt ≤ 54 := ma_1171 (i := (x1 - 10)) J (show 0 ≤ (x1 - 10).toInt from by omega) (show (x1 - 10).toInt < 6 from by omega)
        have a27 : ((ps_a s 1171 (Int32.toNatClampNeg (x1 - 10))) + (ps_a s 1174 (Int32.toNatClampNeg (x6 + x4)))).toInt = (ps_a s 1171 (Int32.toNatClampNeg (x1 - 10))).toInt + (ps_a s 1174 (Int32.toNatClampNeg (x6 + x4))).toInt := xIa (show -2147483648 ≤ (ps_a s 1171 (Int32.toNatClampNeg (x1 - 10))).toInt + (ps_a s 1174 (Int32.toNatClampNeg (x6 + x4))).toInt from by omega) (show (ps_a s 1171 (Int32.toNatClampNeg (x1 - 10))).toInt + (ps_a s 1174 (Int32.toNatClampNeg (x6 + x4))).toInt < 2147483648 from by omega)
        have hix : Int32.toNatClampNeg (((ps_a s 1171 (Int32.toNatClampNeg (x1 - 10))) + (ps_a s 1174 (Int32.toNatClampNeg (x6 + x4))))) < 96 := by rw [nx (n := (((ps_a s 1171 (Int32.toNatClampNeg (x1 - 10))) + (ps_a s 1174 (Int32.toNatClampNeg (x6 + x4))))).toInt) rfl]; omega
        refine ps_nd_i (show pm_in ((ps_a s 1171 (Int32.toNatClampNeg (x1 - 10))) + (ps_a s 1174 (Int32.toNatClampNeg (x6 + x4)))) 96 = true from xgi (show 0 ≤ ((ps_a s 1171 (Int32.toNatClampNeg (x1 - 10))) + (ps_a s 1174 (Int32.toNatClampNeg (x6 + x4)))).toInt from by omega) (show ((ps_a s 1171 (Int32.toNatClampNeg (x1 - 10))) + (ps_a s 1174 (Int32.toNatClampNeg (x6 + x4)))).toInt < 96 from by omega)) ?_
        have hdd : 0 ≤ ((ps_a s 1169 (Int32.toNatClampNeg ((ps_a s 1171 (Int32.toNatClampNeg (x1 - 10))) + (ps_a s 1174 (Int32.toNatClampNeg (x6 + x4))))))).toInt ∧ ((ps_a s 1169 (Int32.toNatClampNeg ((ps_a s 1171 (Int32.toNatClampNeg (x1 - 10))) + (ps_a s 1174 (Int32.toNatClampNeg (x6 + x4))))))).toInt ≤ 2 := hDg _ hix
        exact k (ps_a s 1169 (Int32.toNatClampNeg ((ps_a s 1171 (Int32.toNatClampNeg (x1 - 10))) + (ps_a s 1174 (Int32.toNatClampNeg (x6 + x4)))))) (fun _ => hdd)
  · have f28 : x2.toInt = (0 : Int) := xeq h1
    refine And.intro (fun h29 => ?_) (fun h29 => ?_)
    · have f30 : (20 : Int) ≤ x1.toInt := xle h29
      have a31 : (x1 - 20).toInt = x1.toInt - (20 : Int) := xIs (show -2147483648 ≤ x1.toInt - (20 : Int) from by omega) (show x1.toInt - (20 : Int) < 2147483648 from by omega)
      have hfa : (ps_a s 1172 (Int32.toNatClampNeg ((x1 - 20)))).toInt ≤ 87 := by rw [nx (n := (c : Int) - 20) (by omega)]; exact hFa _ (by omega)
      refine ps_nd_i (show pm_in (x1 - 20) 4 = true from xgi (show 0 ≤ (x1 - 20).toInt from by omega) (show (x1 - 20).toInt < 4 from by omega)) ?_
      have r32 : 0 ≤ (ps_a s 1172 (Int32.toNatClampNeg (x1 - 20))).toInt ∧ (ps_a s 1172 (Int32.toNatClampNeg (x1 - 20))).toInt ≤ 90 := ma_1172 (i := (x1 - 20)) J (show 0 ≤ (x1 - 20).toInt from by omega) (show (x1 - 20).toInt < 4 from by omega)
      have a33 : ((ps_a s 1172 (Int32.toNatClampNeg (x1 - 20))) + 0).toInt = (ps_a s 1172 (Int32.toNatClampNeg (x1 - 20))).toInt + (0 : Int) := xIa (show -2147483648 ≤ (ps_a s 1172 (Int32.toNatClampNeg (x1 - 20))).toInt + (0 : Int) from by omega) (show (ps_a s 1172 (Int32.toNatClampNeg (x1 - 20))).toInt + (0 : Int) < 2147483648 from by omega)
      have hix : Int32.toNatClampNeg (((ps_a s 1172 (Int32.toNatClampNeg (x1 - 20))) + 0)) < 96 := by rw [nx (n := (((ps_a s 1172 (Int32.toNatClampNeg (x1 - 20))) + 0)).toInt) rfl]; omega
      refine ps_nd_i (show pm_in ((ps_a s 1172 (Int32.toNatClampNeg (x1 - 20))) + 0) 96 = true from xgi (show 0 ≤ ((ps_a s 1172 (Int32.toNatClampNeg (x1 - 20))) + 0).toInt from by omega) (show ((ps_a s 1172 (Int32.toNatClampNeg (x1 - 20))) + 0).toInt < 96 from by omega)) ?_
      have hdd : 0 ≤ ((ps_a s 1169 (Int32.toNatClampNeg ((ps_a s 1172 (Int32.toNatClampNeg (x1 - 20))) + 0)))).toInt ∧ ((ps_a s 1169 (Int32.toNatClampNeg ((ps_a s 1172 (Int32.toNatClampNeg (x1 - 20))) + 0)))).toInt ≤ 2 := hDg _ hix
      exact k (ps_a s 1169 (Int32.toNatClampNeg ((ps_a s 1172 (Int32.toNatClampNeg (x1 - 20))) + 0))) (fun _ => hdd)
    · have f34 : x1.toInt < (20 : Int) := xlt h29
      have a35 : (x1 - 10).toInt = x1.toInt - (10 : Int) := xIs (show -2147483648 ≤ x1.toInt - (10 : Int) from by omega) (show x1.toInt - (10 : Int) < 2147483648 from by omega)
      refine ps_nd_i (show pm_in (x1 - 10) 6 = true from xgi (show 0 ≤ (x1 - 10).toInt from by omega) (show (x1 - 10).toInt < 6 from by omega)) ?_
      have r36 : 0 ≤ (ps_a s 1171 (Int32.toNatClampNeg (x1 - 10))).toInt ∧ (ps_a s 1171 (Int32.toNatClampNeg (x1 - 10))).toInt ≤ 54 := ma_1171 (i := (x1 - 10)) J (show 0 ≤ (x1 - 10).toInt from by omega) (show (x1 - 10).toInt < 6 from by omega)
      have a37 : ((ps_a s 1171 (Int32.toNatClampNeg (x1 - 10))) + 0).toInt = (ps_a s 1171 (Int32.toNatClampNeg (x1 - 10))).toInt + (0 : Int) := xIa (show -2147483648 ≤ (ps_a s 1171 (Int32.toNatClampNeg (x1 - 10))).toInt + (0 : Int) from by omega) (show (ps_a s 1171 (Int32.toNatClampNeg (x1 - 10))).toInt + (0 : Int) < 2147483648 from by omega)
      have hix : Int32.toNatClampNeg (((ps_a s 1171 (Int32.toNatClampNeg (x1 - 10))) + 0)) < 96 := by rw [nx (n := (((ps_a s 1171 (Int32.toNatClampNeg (x1 - 10))) + 0)).toInt) rfl]; omega
      refine ps_nd_i (show pm_in ((ps_a s 1171 (Int32.toNatClampNeg (x1 - 10))) + 0) 96 = true from xgi (show 0 ≤ ((ps_a s 1171 (Int32.toNatClampNeg (x1 - 10))) + 0).toInt from by omega) (show ((ps_a s 1171 (Int32.toNatClampNeg (x1 - 10))) + 0).toInt < 96 from by omega)) ?_
      have hdd : 0 ≤ ((ps_a s 1169 (Int32.toNatClampNeg ((ps_a s 1171 (Int32.toNatClampNeg (x1 - 10))) + 0)))).toInt ∧ ((ps_a s 1169 (Int32.toNatClampNeg ((ps_a s 1171 (Int32.toNatClampNeg (x1 - 10))) + 0)))).toInt ≤ 2 := hDg _ hix
      exact k (ps_a s 1169 (Int32.toNatClampNeg ((ps_a s 1171 (Int32.toNatClampNeg (x1 - 10))) + 0))) (fun _ => hdd)

theorem ms_296_178 {x : Nat → Nat → Nat} {t : Int32} {d : Nat} {s : ps_S} {σ : mSig} {c : Nat} {b : Bool} {ks : List Bool} {x1 : Int32} {x2 : Int32} {x3 : Int32} {x4 : Int32} {x5 : Int32} {Q : Option Value → ps_S → Prop} (k : ∀ (v : Int32), (20 ≤ c → 0 ≤ v.toInt ∧ v.toInt ≤ 2) → Q (some (.int v)) s) (x6 : Int32) (x7 : Int32) (J : mJ x t s) (hS : Sg (ps_a s 1135) (ps_a s 1136) (ps_a s 1138) (ps_a s 1139) (ps_i s 1131 21).toInt σ) (hDg : ∀ j : Nat, j < 96 → 0 ≤ (ps_a s 1169 j).toInt ∧ (ps_a s 1169 j).toInt ≤ 2) (hFt : ∀ j : Nat, j < 12 → 0 ≤ (ps_a s 1175 j).toInt ∧ (ps_a s 1175 j).toInt ≤ 2) (hFa : ∀ f : Nat, (f : Int) < (σ.1.2 : Int) → (ps_a s 1172 f).toInt ≤ 87) (i4 : kS σ b c = some ks) (i5 : x1.toInt = (c : Int)) (i6 : x2.toInt = (ks.length : Int)) (i7 : 0 ≤ x6.toInt) (i8 : x6.toInt ≤ 9720) (i9 : 0 ≤ x7.toInt) (i10 : x7.toInt ≤ 9963) (i11 : 0 ≤ x4.toInt) (i12 : x4.toInt ≤ 242) (i13 : 1 ≤ x5.toInt) (i14 : x5.toInt ≤ 3) (i15 : c = 4 ∨ c = 5 → x4.toInt * x5.toInt + x5.toInt ≤ 243) (i16 : 10 ≤ c → ks.length ≠ 0 → 0 ≤ (ps_a s 1174 (x6.toInt + x4.toInt).toNat).toInt ∧ (ps_a s 1174 (x6.toInt + x4.toInt).toNat).toInt ≤ 2) (i17 : 10 ≤ c → ks.length = 2 → 0 ≤ (ps_a s 1174 (x7.toInt + x4.toInt).toNat).toInt ∧ (ps_a s 1174 (x7.toInt + x4.toInt).toNat).toInt ≤ 2) (i18 : x1.toInt ≠ 0) (i19 : x1.toInt ≠ 1) (i20 : x1.toInt ≠ 2) (i21 : x1.toInt ≠ 3) (i22 : x1.toInt ≠ 4) (i23 : x1.toInt ≠ 5) (i24 : x1.toInt ≠ 6) : ps_At (d + 1) 296 178 [(0, .ref 1131), (1, .int x1), (2, .int x2), (4, .int x4), (5, .int x5), (6, .int x6), (7, .int x7)] [] s Q := by
  refine pg_296_178 (d := d) ?_
  have h72 := kS_72 (Sg_σ hS) i4
  have hks2 := kS_le hS i4
  have q5 : x1.toInt = (c : Int) := i5
  have q6 : x2.toInt = (ks.length : Int) := i6
  have hkn := kS_num i4
  obtain ⟨hb0, hb1, h5, hR6, h6, hF, h8, h9⟩ := id hS
  refine And.intro (fun h1 => ?_) (fun h1 => ?_)
  · have f2 : x1.toInt < (60 : Int) := xlt h1
    refine And.intro (fun h3 => ?_) (fun h3 => ?_)
    · have f4 : x1.toInt < (40 : Int) := xlt h3
      exact ms_296_216 (x1 := x1) (x2 := x2) (x3 := x3) (x4 := x4) (x5 := x5) (σ := σ) (c := c) (b := b) (ks := ks) k  x6 x7 J hS hDg hFt hFa (by assumption) (by assumption) (by assumption) (show 0 ≤ x6.toInt from by omega) (show x6.toInt ≤ 9720 from by omega) (show 0 ≤ x7.toInt from by omega) (show x7.toInt ≤ 9963 from by omega) (show 0 ≤ x4.toInt from by omega) (show x4.toInt ≤ 242 from by omega) (show 1 ≤ x5.toInt from by omega) (show x5.toInt ≤ 3 from by omega) (by assumption) (by assumption) (by assumption) (show x1.toInt ≠ 0 from by omega) (show x1.toInt ≠ 1 from by omega) (show x1.toInt ≠ 2 from by omega) (show x1.toInt ≠ 3 from by omega) (show x1.toInt ≠ 4 from by omega) (show x1.toInt ≠ 5 from by omega) (show x1.toInt ≠ 6 from by omega) (show x1.toInt < 40 from by omega)
    · have f5 : (40 : Int) ≤ x1.toInt := xle h3
      have a6 : (x1 - 40).toInt = x1.toInt - (40 : Int) := xIs (show -2147483648 ≤ x1.toInt - (40 : Int) from by omega) (show x1.toInt - (40 : Int) < 2147483648 from by omega)
      refine ms_290 J (show 1 ≤ x5.toInt from by omega) (show x5.toInt ≤ 3 from by omega) (show 0 ≤ (x1 - 40).toInt from by omega) (show (x1 - 40).toInt ≤ 19 from by omega) (fun v7 p7_0 => ?_)
      have hpw : _ := p7_0
      have hp1 : 1 ≤ (v7).toInt := by rw [hpw]; exact pwpos (by omega)
      refine ps_nd_i (xnz (show v7.toInt ≠ 0 from by omega)) ?_
      have hq0 : 0 ≤ ((x4 / v7)).toInt := xdiv0 (by omega) (by omega)
      refine ps_nd_i (xnz (show x5.toInt ≠ 0 from by omega)) ?_
      have hmm : 0 ≤ (((x4 / v7) - ((x4 / v7) / x5) * x5)).toInt ∧ (((x4 / v7) - ((x4 / v7) / x5) * x5)).toInt ≤ 2 := xmod2 hq0 (by omega) (by omega)
      exact k ((x4 / v7) - ((x4 / v7) / x5) * x5) (fun _ => hmm)
  · have f8 : (60 : Int) ≤ x1.toInt := xle h1
    have a9 : (x1 - 60).toInt = x1.toInt - (60 : Int) := xIs (show -2147483648 ≤ x1.toInt - (60 : Int) from by omega) (show x1.toInt - (60 : Int) < 2147483648 from by omega)
    have hft : 0 ≤ (ps_a s 1175 (Int32.toNatClampNeg ((x1 - 60)))).toInt ∧ (ps_a s 1175 (Int32.toNatClampNeg ((x1 - 60)))).toInt ≤ 2 := hFt _ (by rw [nx (n := ((x1 - 60)).toInt) rfl]; omega)
    refine ps_nd_i (show pm_in (x1 - 60) 12 = true from xgi (show 0 ≤ (x1 - 60).toInt from by omega) (show (x1 - 60).toInt < 12 from by omega)) ?_
    exact k (ps_a s 1175 (Int32.toNatClampNeg (x1 - 60))) (fun _ => hft)

theorem ms_296_143 {x : Nat → Nat → Nat} {t : Int32} {d : Nat} {s : ps_S} {σ : mSig} {c : Nat} {b : Bool} {ks : List Bool} {x1 : Int32} {x2 : Int32} {x3 : Int32} {x4 : Int32} {x5 : Int32} {Q : Option Value → ps_S → Prop} (k : ∀ (v : Int32), (20 ≤ c → 0 ≤ v.toInt ∧ v.toInt ≤ 2) → Q (some (.int v)) s) (x6 : Int32) (x7 : Int32) (J : mJ x t s) (hS : Sg (ps_a s 1135) (ps_a s 1136) (ps_a s 1138) (ps_a s 1139) (ps_i s 1131 21).toInt σ) (hDg : ∀ j : Nat, j < 96 → 0 ≤ (ps_a s 1169 j).toInt ∧ (ps_a s 1169 j).toInt ≤ 2) (hFt : ∀ j : Nat, j < 12 → 0 ≤ (ps_a s 1175 j).toInt ∧ (ps_a s 1175 j).toInt ≤ 2) (hFa : ∀ f : Nat, (f : Int) < (σ.1.2 : Int) → (ps_a s 1172 f).toInt ≤ 87) (i4 : kS σ b c = some ks) (i5 : x1.toInt = (c : Int)) (i6 : x2.toInt = (ks.length : Int)) (i7 : 0 ≤ x6.toInt) (i8 : x6.toInt ≤ 9720) (i9 : 0 ≤ x7.toInt) (i10 : x7.toInt ≤ 9963) (i11 : 0 ≤ x4.toInt) (i12 : x4.toInt ≤ 242) (i13 : 1 ≤ x5.toInt) (i14 : x5.toInt ≤ 3) (i15 : c = 4 ∨ c = 5 → x4.toInt * x5.toInt + x5.toInt ≤ 243) (i16 : 10 ≤ c → ks.length ≠ 0 → 0 ≤ (ps_a s 1174 (x6.toInt + x4.toInt).toNat).toInt ∧ (ps_a s 1174 (x6.toInt + x4.toInt).toNat).toInt ≤ 2) (i17 : 10 ≤ c → ks.length = 2 → 0 ≤ (ps_a s 1174 (x7.toInt + x4.toInt).toNat).toInt ∧ (ps_a s 1174 (x7.toInt + x4.toInt).toNat).toInt ≤ 2) (i18 : x1.toInt ≠ 0) (i19 : x1.toInt ≠ 1) (i20 : x1.toInt ≠ 2) (i21 : x1.toInt ≠ 3) (i22 : x1.toInt ≠ 4) (i23 : x1.toInt ≠ 5) : ps_At (d + 1) 296 143 [(0, .ref 1131), (1, .int x1), (2, .int x2), (4, .int x4), (5, .int x5), (6, .int x6), (7, .int x7)] [] s Q := by
  refine pg_296_143 (d := d) ?_
  have h72 := kS_72 (Sg_σ hS) i4
  have hks2 := kS_le hS i4
  have q5 : x1.toInt = (c : Int) := i5
  have q6 : x2.toInt = (ks.length : Int) := i6
  have hkn := kS_num i4
  obtain ⟨hb0, hb1, h5, hR6, h6, hF, h8, h9⟩ := id hS
  refine And.intro (fun h1 => ?_) (fun h1 => ?_)
  · have f2 : x1.toInt ≠ (6 : Int) := xne h1
    exact ms_296_178 (x1 := x1) (x2 := x2) (x3 := x3) (x4 := x4) (x5 := x5) (σ := σ) (c := c) (b := b) (ks := ks) k  x6 x7 J hS hDg hFt hFa (by assumption) (by assumption) (by assumption) (show 0 ≤ x6.toInt from by omega) (show x6.toInt ≤ 9720 from by omega) (show 0 ≤ x7.toInt from by omega) (show x7.toInt ≤ 9963 from by omega) (show 0 ≤ x4.toInt from by omega) (show x4.toInt ≤ 242 from by omega) (show 1 ≤ x5.toInt from by omega) (show x5.toInt ≤ 3 from by omega) (by assumption) (by assumption) (by assumption) (show x1.toInt ≠ 0 from by omega) (show x1.toInt ≠ 1 from by omega) (show x1.toInt ≠ 2 from by omega) (show x1.toInt ≠ 3 from by omega) (show x1.toInt ≠ 4 from by omega) (show x1.toInt ≠ 5 from by omega) (show x1.toInt ≠ 6 from by omega)
  · have f3 : x1.toInt = (6 : Int) := xeq h1
    have a4 : (x6 + x4).toInt = x6.toInt + x4.toInt := xIa (show -2147483648 ≤ x6.toInt + x4.toInt from by omega) (show x6.toInt + x4.toInt < 2147483648 from by omega)
    refine ps_nd_i (show pm_in (x6 + x4) 10206 = true from xgi (show 0 ≤ (x6 + x4).toInt from by omega) (show (x6 + x4).toInt < 10206 from by omega)) ?_
    have a5 : (x7 + x4).toInt = x7.toInt + x4.toInt := xIa (show -2147483648 ≤ x7.toInt + x4.toInt from by omega) (show x7.toInt + x4.toInt < 2147483648 from by omega)
    refine ps_nd_i (show pm_in (x7 + x4) 10206 = true from xgi (show 0 ≤ (x7 + x4).toInt from by omega) (show (x7 + x4).toInt < 10206 from by omega)) ?_
    refine And.intro (fun h6 => ?_) (fun h6 => ?_)
    · have f7 : (ps_a s 1174 (Int32.toNatClampNeg (x6 + x4))).toInt ≠ (ps_a s 1174 (Int32.toNatClampNeg (x7 + x4))).toInt := xne h6
      exact k (0 : Int32) (fun h => absurd h (by omega))
    · have f8 : (ps_a s 1174 (Int32.toNatClampNeg (x6 + x4))).toInt = (ps_a s 1174 (Int32.toNatClampNeg (x7 + x4))).toInt := xeq h6
      exact k (1 : Int32) (fun h => absurd h (by omega))

theorem ms_296_88 {x : Nat → Nat → Nat} {t : Int32} {d : Nat} {s : ps_S} {σ : mSig} {c : Nat} {b : Bool} {ks : List Bool} {x1 : Int32} {x2 : Int32} {x3 : Int32} {x4 : Int32} {x5 : Int32} {Q : Option Value → ps_S → Prop} (k : ∀ (v : Int32), (20 ≤ c → 0 ≤ v.toInt ∧ v.toInt ≤ 2) → Q (some (.int v)) s) (x6 : Int32) (x7 : Int32) (J : mJ x t s) (hS : Sg (ps_a s 1135) (ps_a s 1136) (ps_a s 1138) (ps_a s 1139) (ps_i s 1131 21).toInt σ) (hDg : ∀ j : Nat, j < 96 → 0 ≤ (ps_a s 1169 j).toInt ∧ (ps_a s 1169 j).toInt ≤ 2) (hFt : ∀ j : Nat, j < 12 → 0 ≤ (ps_a s 1175 j).toInt ∧ (ps_a s 1175 j).toInt ≤ 2) (hFa : ∀ f : Nat, (f : Int) < (σ.1.2 : Int) → (ps_a s 1172 f).toInt ≤ 87) (i4 : kS σ b c = some ks) (i5 : x1.toInt = (c : Int)) (i6 : x2.toInt = (ks.length : Int)) (i7 : 0 ≤ x6.toInt) (i8 : x6.toInt ≤ 9720) (i9 : 0 ≤ x7.toInt) (i10 : x7.toInt ≤ 9963) (i11 : 0 ≤ x4.toInt) (i12 : x4.toInt ≤ 242) (i13 : 1 ≤ x5.toInt) (i14 : x5.toInt ≤ 3) (i15 : c = 4 ∨ c = 5 → x4.toInt * x5.toInt + x5.toInt ≤ 243) (i16 : 10 ≤ c → ks.length ≠ 0 → 0 ≤ (ps_a s 1174 (x6.toInt + x4.toInt).toNat).toInt ∧ (ps_a s 1174 (x6.toInt + x4.toInt).toNat).toInt ≤ 2) (i17 : 10 ≤ c → ks.length = 2 → 0 ≤ (ps_a s 1174 (x7.toInt + x4.toInt).toNat).toInt ∧ (ps_a s 1174 (x7.toInt + x4.toInt).toNat).toInt ≤ 2) (i18 : x1.toInt ≠ 0) (i19 : x1.toInt ≠ 1) (i20 : x1.toInt ≠ 2) : ps_At (d + 1) 296 88 [(0, .ref 1131), (1, .int x1), (2, .int x2), (4, .int x4), (5, .int x5), (6, .int x6), (7, .int x7)] [] s Q := by
  refine pg_296_88 (d := d) ?_
  have h72 := kS_72 (Sg_σ hS) i4
  have hks2 := kS_le hS i4
  have q5 : x1.toInt = (c : Int) := i5
  have q6 : x2.toInt = (ks.length : Int) := i6
  have hkn := kS_num i4
  obtain ⟨hb0, hb1, h5, hR6, h6, hF, h8, h9⟩ := id hS
  refine And.intro (fun h1 => ?_) (fun h1 => ?_)
  · have f2 : x1.toInt ≠ (3 : Int) := xne h1
    refine And.intro (fun h3 => ?_) (fun h3 => ?_)
    · have f4 : x1.toInt = (4 : Int) := xeq h3
      exact ms_296_127 (x1 := x1) (x2 := x2) (x3 := x3) (x4 := x4) (x5 := x5) (σ := σ) (c := c) (b := b) (ks := ks) k  x6 J (i5) ((by omega)) (show 0 ≤ x6.toInt from by omega) (show x6.toInt ≤ 9720 from by omega) (show 0 ≤ x4.toInt from by omega) (show x4.toInt ≤ 242 from by omega) (show 1 ≤ x5.toInt from by omega) (show x5.toInt ≤ 3 from by omega) ((i15 (by omega)))
    · have f5 : x1.toInt ≠ (4 : Int) := xne h3
      refine And.intro (fun h6 => ?_) (fun h6 => ?_)
      · have f7 : x1.toInt ≠ (5 : Int) := xne h6
        exact ms_296_143 (x1 := x1) (x2 := x2) (x3 := x3) (x4 := x4) (x5 := x5) (σ := σ) (c := c) (b := b) (ks := ks) k  x6 x7 J hS hDg hFt hFa (by assumption) (by assumption) (by assumption) (show 0 ≤ x6.toInt from by omega) (show x6.toInt ≤ 9720 from by omega) (show 0 ≤ x7.toInt from by omega) (show x7.toInt ≤ 9963 from by omega) (show 0 ≤ x4.toInt from by omega) (show x4.toInt ≤ 242 from by omega) (show 1 ≤ x5.toInt from by omega) (show x5.toInt ≤ 3 from by omega) (by assumption) (by assumption) (by assumption) (show x1.toInt ≠ 0 from by omega) (show x1.toInt ≠ 1 from by omega) (show x1.toInt ≠ 2 from by omega) (show x1.toInt ≠ 3 from by omega) (show x1.toInt ≠ 4 from by omega) (show x1.toInt ≠ 5 from by omega)
      · have f8 : x1.toInt = (5 : Int) := xeq h6
        exact ms_296_127 (x1 := x1) (x2 := x2) (x3 := x3) (x4 := x4) (x5 := x5) (σ := σ) (c := c) (b := b) (ks := ks) k  x6 J (i5) ((by omega)) (show 0 ≤ x6.toInt from by omega) (show x6.toInt ≤ 9720 from by omega) (show 0 ≤ x4.toInt from by omega) (show x4.toInt ≤ 242 from by omega) (show 1 ≤ x5.toInt from by omega) (show x5.toInt ≤ 3 from by omega) ((i15 (by omega)))
  · have f9 : x1.toInt = (3 : Int) := xeq h1
    have a10 : (x6 + x4).toInt = x6.toInt + x4.toInt := xIa (show -2147483648 ≤ x6.toInt + x4.toInt from by omega) (show x6.toInt + x4.toInt < 2147483648 from by omega)
    refine ps_nd_i (show pm_in (x6 + x4) 10206 = true from xgi (show 0 ≤ (x6 + x4).toInt from by omega) (show (x6 + x4).toInt < 10206 from by omega)) ?_
    have a11 : (x7 + x4).toInt = x7.toInt + x4.toInt := xIa (show -2147483648 ≤ x7.toInt + x4.toInt from by omega) (show x7.toInt + x4.toInt < 2147483648 from by omega)
    refine ps_nd_i (show pm_in (x7 + x4) 10206 = true from xgi (show 0 ≤ (x7 + x4).toInt from by omega) (show (x7 + x4).toInt < 10206 from by omega)) ?_
    exact k (((1 : Int32) - (ps_a s 1174 (Int32.toNatClampNeg (x6 + x4)))) ||| (ps_a s 1174 (Int32.toNatClampNeg (x7 + x4)))) (fun h => absurd h (by omega))

theorem ms_296_28 {x : Nat → Nat → Nat} {t : Int32} {d : Nat} {s : ps_S} {σ : mSig} {c : Nat} {b : Bool} {ks : List Bool} {x1 : Int32} {x2 : Int32} {x3 : Int32} {x4 : Int32} {x5 : Int32} {Q : Option Value → ps_S → Prop} (k : ∀ (v : Int32), (20 ≤ c → 0 ≤ v.toInt ∧ v.toInt ≤ 2) → Q (some (.int v)) s) (x6 : Int32) (x7 : Int32) (J : mJ x t s) (hS : Sg (ps_a s 1135) (ps_a s 1136) (ps_a s 1138) (ps_a s 1139) (ps_i s 1131 21).toInt σ) (hDg : ∀ j : Nat, j < 96 → 0 ≤ (ps_a s 1169 j).toInt ∧ (ps_a s 1169 j).toInt ≤ 2) (hFt : ∀ j : Nat, j < 12 → 0 ≤ (ps_a s 1175 j).toInt ∧ (ps_a s 1175 j).toInt ≤ 2) (hFa : ∀ f : Nat, (f : Int) < (σ.1.2 : Int) → (ps_a s 1172 f).toInt ≤ 87) (i4 : kS σ b c = some ks) (i5 : x1.toInt = (c : Int)) (i6 : x2.toInt = (ks.length : Int)) (i7 : 0 ≤ x6.toInt) (i8 : x6.toInt ≤ 9720) (i9 : 0 ≤ x7.toInt) (i10 : x7.toInt ≤ 9963) (i11 : 0 ≤ x4.toInt) (i12 : x4.toInt ≤ 242) (i13 : 1 ≤ x5.toInt) (i14 : x5.toInt ≤ 3) (i15 : c = 4 ∨ c = 5 → x4.toInt * x5.toInt + x5.toInt ≤ 243) (i16 : 10 ≤ c → ks.length ≠ 0 → 0 ≤ (ps_a s 1174 (x6.toInt + x4.toInt).toNat).toInt ∧ (ps_a s 1174 (x6.toInt + x4.toInt).toNat).toInt ≤ 2) (i17 : 10 ≤ c → ks.length = 2 → 0 ≤ (ps_a s 1174 (x7.toInt + x4.toInt).toNat).toInt ∧ (ps_a s 1174 (x7.toInt + x4.toInt).toNat).toInt ≤ 2) : ps_At (d + 1) 296 28 [(0, .ref 1131), (1, .int x1), (2, .int x2), (4, .int x4), (5, .int x5), (6, .int x6), (7, .int x7)] [] s Q := by
  refine pg_296_28 (d := d) ?_
  have h72 := kS_72 (Sg_σ hS) i4
  have hks2 := kS_le hS i4
  have q5 : x1.toInt = (c : Int) := i5
  have q6 : x2.toInt = (ks.length : Int) := i6
  have hkn := kS_num i4
  obtain ⟨hb0, hb1, h5, hR6, h6, hF, h8, h9⟩ := id hS
  refine And.intro (fun h1 => ?_) (fun h1 => ?_)
  · have f2 : x1.toInt ≠ (0 : Int) := xne h1
    refine And.intro (fun h3 => ?_) (fun h3 => ?_)
    · have f4 : x1.toInt ≠ (1 : Int) := xne h3
      refine And.intro (fun h5 => ?_) (fun h5 => ?_)
      · have f6 : x1.toInt ≠ (2 : Int) := xne h5
        exact ms_296_88 (x1 := x1) (x2 := x2) (x3 := x3) (x4 := x4) (x5 := x5) (σ := σ) (c := c) (b := b) (ks := ks) k  x6 x7 J hS hDg hFt hFa (by assumption) (by assumption) (by assumption) (show 0 ≤ x6.toInt from by omega) (show x6.toInt ≤ 9720 from by omega) (show 0 ≤ x7.toInt from by omega) (show x7.toInt ≤ 9963 from by omega) (show 0 ≤ x4.toInt from by omega) (show x4.toInt ≤ 242 from by omega) (show 1 ≤ x5.toInt from by omega) (show x5.toInt ≤ 3 from by omega) (by assumption) (by assumption) (by assumption) (show x1.toInt ≠ 0 from by omega) (show x1.toInt ≠ 1 from by omega) (show x1.toInt ≠ 2 from by omega)
      · have f7 : x1.toInt = (2 : Int) := xeq h5
        have a8 : (x6 + x4).toInt = x6.toInt + x4.toInt := xIa (show -2147483648 ≤ x6.toInt + x4.toInt from by omega) (show x6.toInt + x4.toInt < 2147483648 from by omega)
        refine ps_nd_i (show pm_in (x6 + x4) 10206 = true from xgi (show 0 ≤ (x6 + x4).toInt from by omega) (show (x6 + x4).toInt < 10206 from by omega)) ?_
        have a9 : (x7 + x4).toInt = x7.toInt + x4.toInt := xIa (show -2147483648 ≤ x7.toInt + x4.toInt from by omega) (show x7.toInt + x4.toInt < 2147483648 from by omega)
        refine ps_nd_i (show pm_in (x7 + x4) 10206 = true from xgi (show 0 ≤ (x7 + x4).toInt from by omega) (show (x7 + x4).toInt < 10206 from by omega)) ?_
        exact k ((ps_a s 1174 (Int32.toNatClampNeg (x6 + x4))) ||| (ps_a s 1174 (Int32.toNatClampNeg (x7 + x4)))) (fun h => absurd h (by omega))
    · have f10 : x1.toInt = (1 : Int) := xeq h3
      have a11 : (x6 + x4).toInt = x6.toInt + x4.toInt := xIa (show -2147483648 ≤ x6.toInt + x4.toInt from by omega) (show x6.toInt + x4.toInt < 2147483648 from by omega)
      refine ps_nd_i (show pm_in (x6 + x4) 10206 = true from xgi (show 0 ≤ (x6 + x4).toInt from by omega) (show (x6 + x4).toInt < 10206 from by omega)) ?_
      have a12 : (x7 + x4).toInt = x7.toInt + x4.toInt := xIa (show -2147483648 ≤ x7.toInt + x4.toInt from by omega) (show x7.toInt + x4.toInt < 2147483648 from by omega)
      refine ps_nd_i (show pm_in (x7 + x4) 10206 = true from xgi (show 0 ≤ (x7 + x4).toInt from by omega) (show (x7 + x4).toInt < 10206 from by omega)) ?_
      exact k ((ps_a s 1174 (Int32.toNatClampNeg (x6 + x4))) &&& (ps_a s 1174 (Int32.toNatClampNeg (x7 + x4)))) (fun h => absurd h (by omega))
  · have f13 : x1.toInt = (0 : Int) := xeq h1
    exact k (0 : Int32) (fun h => absurd h (by omega))

theorem ms_296 {x : Nat → Nat → Nat} {t : Int32} {s : ps_S} {d : Nat} {x1 : Int32} {x2 : Int32} {x3 : Int32} {x4 : Int32} {x5 : Int32} {f : Int32 → ps_S → Prop} (J : mJ x t s) {σ : mSig} {c : Nat} {b : Bool} {ks : List Bool} (hS : Sg (ps_a s 1135) (ps_a s 1136) (ps_a s 1138) (ps_a s 1139) (ps_i s 1131 21).toInt σ) (hDg : ∀ j : Nat, j < 96 → 0 ≤ (ps_a s 1169 j).toInt ∧ (ps_a s 1169 j).toInt ≤ 2) (hFt : ∀ j : Nat, j < 12 → 0 ≤ (ps_a s 1175 j).toInt ∧ (ps_a s 1175 j).toInt ≤ 2) (hFa : ∀ f : Nat, (f : Int) < (σ.1.2 : Int) → (ps_a s 1172 f).toInt ≤ 87) (q4 : kS σ b c = some ks) (q5 : x1.toInt = (c : Int)) (q6 : x2.toInt = (ks.length : Int)) (q7 : 1 ≤ x3.toInt) (q8 : x3.toInt + x2.toInt ≤ 42) (q9 : 0 ≤ x4.toInt) (q10 : x4.toInt ≤ 242) (q11 : 1 ≤ x5.toInt) (q12 : x5.toInt ≤ 3) (q13 : c = 4 ∨ c = 5 → x4.toInt * x5.toInt + x5.toInt ≤ 243) (q14 : 10 ≤ c → ks.length ≠ 0 → 0 ≤ (ps_a s 1174 (243 * (x3.toInt + x2.toInt - 2) + x4.toInt).toNat).toInt ∧ (ps_a s 1174 (243 * (x3.toInt + x2.toInt - 2) + x4.toInt).toNat).toInt ≤ 2) (q15 : 10 ≤ c → ks.length = 2 → 0 ≤ (ps_a s 1174 (243 * (x3.toInt - 1) + x4.toInt).toNat).toInt ∧ (ps_a s 1174 (243 * (x3.toInt - 1) + x4.toInt).toNat).toInt ≤ 2) (k : ∀ (v : Int32), (20 ≤ c → 0 ≤ v.toInt ∧ v.toInt ≤ 2) → f v s) : ps_Cl (d + 1) 296 [.ref 1131, .int x1, .int x2, .int x3, .int x4, .int x5] s (ps_rI f) := by
  refine pg_296_0 (d := d) ?_
  have h72 := kS_72 (Sg_σ hS) q4
  have hks2 := kS_le hS q4
  have q5 : x1.toInt = (c : Int) := q5
  have q6 : x2.toInt = (ks.length : Int) := q6
  have hkn := kS_num q4
  obtain ⟨hb0, hb1, h5, hR6, h6, hF, h8, h9⟩ := id hS
  refine And.intro (fun h1 => ?_) (fun h1 => ?_)
  · have f2 : x2.toInt ≠ (0 : Int) := xne h1
    have a3 : (x3 + x2).toInt = x3.toInt + x2.toInt := xIa (show -2147483648 ≤ x3.toInt + x2.toInt from by omega) (show x3.toInt + x2.toInt < 2147483648 from by omega)
    have a4 : ((x3 + x2) - 2).toInt = (x3 + x2).toInt - (2 : Int) := xIs (show -2147483648 ≤ (x3 + x2).toInt - (2 : Int) from by omega) (show (x3 + x2).toInt - (2 : Int) < 2147483648 from by omega)
    have a5 : ((243 : Int32) * ((x3 + x2) - 2)).toInt = (243 : Int) * ((x3 + x2) - 2).toInt := xIm (show -2147483648 ≤ (243 : Int) * ((x3 + x2) - 2).toInt from by omega) (show (243 : Int) * ((x3 + x2) - 2).toInt < 2147483648 from by omega)
    have a6 : (x3 - 1).toInt = x3.toInt - (1 : Int) := xIs (show -2147483648 ≤ x3.toInt - (1 : Int) from by omega) (show x3.toInt - (1 : Int) < 2147483648 from by omega)
    have a7 : ((243 : Int32) * (x3 - 1)).toInt = (243 : Int) * (x3 - 1).toInt := xIm (show -2147483648 ≤ (243 : Int) * (x3 - 1).toInt from by omega) (show (243 : Int) * (x3 - 1).toInt < 2147483648 from by omega)
    exact ms_296_28 (x1 := x1) (x2 := x2) (x3 := x3) (x4 := x4) (x5 := x5) (σ := σ) (c := c) (b := b) (ks := ks) k  ((243 : Int32) * ((x3 + x2) - 2)) ((243 : Int32) * (x3 - 1)) J hS hDg hFt hFa (by assumption) (by assumption) (by assumption) (show 0 ≤ ((243 : Int32) * ((x3 + x2) - 2)).toInt from by omega) (show ((243 : Int32) * ((x3 + x2) - 2)).toInt ≤ 9720 from by omega) (show 0 ≤ ((243 : Int32) * (x3 - 1)).toInt from by omega) (show ((243 : Int32) * (x3 - 1)).toInt ≤ 9963 from by omega) (show 0 ≤ x4.toInt from by omega) (show x4.toInt ≤ 242 from by omega) (show 1 ≤ x5.toInt from by omega) (show x5.toInt ≤ 3 from by omega) (q13) ((by first | (intro h1 h2; exfalso; omega) | (intro h1 h2; rw [show ((((243 : Int32) * ((x3 + x2) - 2))).toInt + (x4).toInt).toNat = (243 * (x3.toInt + x2.toInt - 2) + x4.toInt).toNat from by omega]; exact q14 h1 h2))) ((fun h1 h2 => by rw [show ((((243 : Int32) * (x3 - 1))).toInt + (x4).toInt).toNat = (243 * (x3.toInt - 1) + x4.toInt).toNat from by omega]; exact q15 h1 h2))
  · have f8 : x2.toInt = (0 : Int) := xeq h1
    have a9 : (x3 - 1).toInt = x3.toInt - (1 : Int) := xIs (show -2147483648 ≤ x3.toInt - (1 : Int) from by omega) (show x3.toInt - (1 : Int) < 2147483648 from by omega)
    have a10 : ((243 : Int32) * (x3 - 1)).toInt = (243 : Int) * (x3 - 1).toInt := xIm (show -2147483648 ≤ (243 : Int) * (x3 - 1).toInt from by omega) (show (243 : Int) * (x3 - 1).toInt < 2147483648 from by omega)
    exact ms_296_28 (x1 := x1) (x2 := x2) (x3 := x3) (x4 := x4) (x5 := x5) (σ := σ) (c := c) (b := b) (ks := ks) k  (0) ((243 : Int32) * (x3 - 1)) J hS hDg hFt hFa (by assumption) (by assumption) (by assumption) (show 0 ≤ (0 : Int) from by omega) (show (0 : Int) ≤ 9720 from by omega) (show 0 ≤ ((243 : Int32) * (x3 - 1)).toInt from by omega) (show ((243 : Int32) * (x3 - 1)).toInt ≤ 9963 from by omega) (show 0 ≤ x4.toInt from by omega) (show x4.toInt ≤ 242 from by omega) (show 1 ≤ x5.toInt from by omega) (show x5.toInt ≤ 3 from by omega) (q13) ((by first | (intro h1 h2; exfalso; omega) | (intro h1 h2; rw [show (((0 : Int32)).toInt + (x4).toInt).toNat = (243 * (x3.toInt + x2.toInt - 2) + x4.toInt).toNat from by omega]; exact q14 h1 h2))) ((fun h1 h2 => by rw [show ((((243 : Int32) * (x3 - 1))).toInt + (x4).toInt).toNat = (243 * (x3.toInt - 1) + x4.toInt).toNat from by omega]; exact q15 h1 h2))
