set_option maxRecDepth 100000
-- ProofBenchModel.isRow()Z
theorem pg_228_0 {d : Nat} {s : ps_S} {Q : Option Value → ps_S → Prop} (h :
  ((ps_i s 1131 34) ≤ 40 →
    ps_At (d + 1) 228 17 [(0, .ref 1131), (1, .int 0), (2, .int 0), (3, .int 0)] [] s Q) ∧
  (40 < (ps_i s 1131 34) →
    Q (some (.int 0)) s)) : ps_At (d + 1) 228 0 [(0, .ref 1131)] [] s Q :=
  ps_wp_at (stops := [(17, [0, 1, 2, 3]), (45, [0, 1, 2, 3]), (70, [0, 1, 2, 3, 4]), (110, [0, 1, 2, 3]), (128, [0, 1, 2, 3]), (148, [0, 1, 2, 3])]) (n := 14) h rfl

theorem pg_228_17 {d : Nat} {x1 : Int32} {x2 : Int32} {x3 : Int32} {s : ps_S} {Q : Option Value → ps_S → Prop} (h :
  ((ps_i s 1131 34) ≤ x3 →
    Q (some (.int 1)) s) ∧
  (x3 < (ps_i s 1131 34) →
    ps_nd (pm_in x3 260) (((ps_a s 1149 (Int32.toNatClampNeg x3)) = 4 →
      ps_At (d + 1) 228 45 [(0, .ref 1131), (1, .int x1), (2, .int x2), (3, .int x3)] [] s Q) ∧
    ((ps_a s 1149 (Int32.toNatClampNeg x3)) ≠ 4 →
      ps_nd (pm_in x3 260) (((ps_a s 1149 (Int32.toNatClampNeg x3)) ≠ 5 →
        (12 < x1 →
          Q (some (.int 0)) s) ∧
        (x1 ≤ 12 →
          ((0 : Int32) = 0 →
            ps_At (d + 1) 228 70 [(0, .ref 1131), (1, .int x1), (2, .int x2), (3, .int x3), (4, .int 0)] [] s Q) ∧
          ((0 : Int32) ≠ 0 →
            (x2 ≤ 4 →
              ps_At (d + 1) 228 70 [(0, .ref 1131), (1, .int x1), (2, .int x2), (3, .int x3), (4, .int 0)] [] s Q) ∧
            (4 < x2 →
              Q (some (.int 0)) s)))) ∧
      ((ps_a s 1149 (Int32.toNatClampNeg x3)) = 5 →
        ps_At (d + 1) 228 45 [(0, .ref 1131), (1, .int x1), (2, .int x2), (3, .int x3)] [] s Q)))))) : ps_At (d + 1) 228 17 [(0, .ref 1131), (1, .int x1), (2, .int x2), (3, .int x3)] [] s Q :=
  ps_wp_at (stops := [(17, [0, 1, 2, 3]), (45, [0, 1, 2, 3]), (70, [0, 1, 2, 3, 4]), (110, [0, 1, 2, 3]), (128, [0, 1, 2, 3]), (148, [0, 1, 2, 3])]) (n := 34) h rfl

theorem pg_228_45 {d : Nat} {x1 : Int32} {x2 : Int32} {x3 : Int32} {s : ps_S} {Q : Option Value → ps_S → Prop} (h :
  (12 < x1 →
    Q (some (.int 0)) s) ∧
  (x1 ≤ 12 →
    ((1 : Int32) = 0 →
      ps_At (d + 1) 228 70 [(0, .ref 1131), (1, .int x1), (2, .int x2), (3, .int x3), (4, .int 1)] [] s Q) ∧
    ((1 : Int32) ≠ 0 →
      (x2 ≤ 4 →
        ps_At (d + 1) 228 70 [(0, .ref 1131), (1, .int x1), (2, .int x2), (3, .int x3), (4, .int 1)] [] s Q) ∧
      (4 < x2 →
        Q (some (.int 0)) s)))) : ps_At (d + 1) 228 45 [(0, .ref 1131), (1, .int x1), (2, .int x2), (3, .int x3)] [] s Q :=
  ps_wp_at (stops := [(17, [0, 1, 2, 3]), (45, [0, 1, 2, 3]), (70, [0, 1, 2, 3, 4]), (110, [0, 1, 2, 3]), (128, [0, 1, 2, 3]), (148, [0, 1, 2, 3])]) (n := 17) h rfl

theorem pg_228_70 {d : Nat} {x1 : Int32} {x2 : Int32} {x3 : Int32} {x4 : Int32} {s : ps_S} {Q : Option Value → ps_S → Prop} (h :
  ps_nd (pm_in x3 260) (ps_Cl d 218 [.ref 1131, .int (ps_a s 1149 (Int32.toNatClampNeg x3))] s (ps_rI (fun v1 s1 =>
    ps_nd (pm_in x1 260) (ps_nd (pm_in x1 260) ((x4 = 0 →
      ps_At (d + 1) 228 110 [(0, .ref 1131), (1, .int (x1 + 1)), (2, .int (x2 + 0)), (3, .int x3)] [] (ps_ua (ps_ua s1 1150 (Int32.toNatClampNeg x1) v1) 1151 (Int32.toNatClampNeg x1) (x4 &&& 1)) Q) ∧
    (x4 ≠ 0 →
      ps_At (d + 1) 228 110 [(0, .ref 1131), (1, .int (x1 + 1)), (2, .int (x2 + 1)), (3, .int x3)] [] (ps_ua (ps_ua s1 1150 (Int32.toNatClampNeg x1) v1) 1151 (Int32.toNatClampNeg x1) (x4 &&& 1)) Q))))))) : ps_At (d + 1) 228 70 [(0, .ref 1131), (1, .int x1), (2, .int x2), (3, .int x3), (4, .int x4)] [] s Q :=
  ps_wp_at (stops := [(17, [0, 1, 2, 3]), (45, [0, 1, 2, 3]), (70, [0, 1, 2, 3, 4]), (110, [0, 1, 2, 3]), (128, [0, 1, 2, 3]), (148, [0, 1, 2, 3])]) (n := 29) h rfl

theorem pg_228_110 {d : Nat} {x1 : Int32} {x2 : Int32} {x3 : Int32} {s : ps_S} {Q : Option Value → ps_S → Prop} (h :
  (x1 ≤ 0 →
    ps_At (d + 1) 228 148 [(0, .ref 1131), (1, .int x1), (2, .int x2), (3, .int x3)] [] s Q) ∧
  (0 < x1 →
    ps_nd (pm_in (x1 - 1) 260) (((ps_a s 1150 (Int32.toNatClampNeg (x1 - 1))) ≠ 0 →
      ps_At (d + 1) 228 148 [(0, .ref 1131), (1, .int x1), (2, .int x2), (3, .int x3)] [] s Q) ∧
    ((ps_a s 1150 (Int32.toNatClampNeg (x1 - 1))) = 0 →
      ps_At (d + 1) 228 128 [(0, .ref 1131), (1, .int (x1 + (Int32.ofInt (-1)))), (2, .int x2), (3, .int x3)] [] s Q)))) : ps_At (d + 1) 228 110 [(0, .ref 1131), (1, .int x1), (2, .int x2), (3, .int x3)] [] s Q :=
  ps_wp_at (stops := [(17, [0, 1, 2, 3]), (45, [0, 1, 2, 3]), (70, [0, 1, 2, 3, 4]), (110, [0, 1, 2, 3]), (128, [0, 1, 2, 3]), (148, [0, 1, 2, 3])]) (n := 12) h rfl

theorem pg_228_128 {d : Nat} {x1 : Int32} {x2 : Int32} {x3 : Int32} {s : ps_S} {Q : Option Value → ps_S → Prop} (h :
  ps_nd (pm_in x1 260) (((ps_a s 1151 (Int32.toNatClampNeg x1)) = 0 →
    ps_At (d + 1) 228 110 [(0, .ref 1131), (1, .int x1), (2, .int (x2 - 0)), (3, .int x3)] [] s Q) ∧
  ((ps_a s 1151 (Int32.toNatClampNeg x1)) ≠ 0 →
    ps_At (d + 1) 228 110 [(0, .ref 1131), (1, .int x1), (2, .int (x2 - 1)), (3, .int x3)] [] s Q))) : ps_At (d + 1) 228 128 [(0, .ref 1131), (1, .int x1), (2, .int x2), (3, .int x3)] [] s Q :=
  ps_wp_at (stops := [(17, [0, 1, 2, 3]), (45, [0, 1, 2, 3]), (70, [0, 1, 2, 3, 4]), (110, [0, 1, 2, 3]), (128, [0, 1, 2, 3]), (148, [0, 1, 2, 3])]) (n := 17) h rfl

theorem pg_228_148 {d : Nat} {x1 : Int32} {x2 : Int32} {x3 : Int32} {s : ps_S} {Q : Option Value → ps_S → Prop} (h :
  (x1 ≤ 0 →
    ps_At (d + 1) 228 17 [(0, .ref 1131), (1, .int x1), (2, .int x2), (3, .int (x3 + 1))] [] s Q) ∧
  (0 < x1 →
    ps_nd (pm_in (x1 - 1) 260) (ps_nd (pm_in (x1 - 1) 260) (ps_At (d + 1) 228 17 [(0, .ref 1131), (1, .int x1), (2, .int x2), (3, .int (x3 + 1))] [] (ps_ua s 1150 (Int32.toNatClampNeg (x1 - 1)) ((ps_a s 1150 (Int32.toNatClampNeg (x1 - 1))) - 1)) Q)))) : ps_At (d + 1) 228 148 [(0, .ref 1131), (1, .int x1), (2, .int x2), (3, .int x3)] [] s Q :=
  ps_wp_at (stops := [(17, [0, 1, 2, 3]), (45, [0, 1, 2, 3]), (70, [0, 1, 2, 3, 4]), (110, [0, 1, 2, 3]), (128, [0, 1, 2, 3]), (148, [0, 1, 2, 3])]) (n := 18) h rfl

theorem ms_228_128 {x : Nat → Nat → Nat} {t : Int32} {d : Nat} {s0 : ps_S} {σ : mSig} {ml : List Nat} {b : Bool} {Q : Option Value → ps_S → Prop} (k : ∀ (v : Int32) (s' : ps_S), mJ x t s' → kp [1150, 1151] [] s0 s' → (v.toInt = 0 ∨ (ml.length ≤ 40 ∧ wf σ 5 ml [(b, 0)])) → v &&& 1 = v → Q (some (.int v)) s') (n17 : Nat) (KH17 : ∀ (x1 : Int32) (x2 : Int32) (x3 : Int32) (m1 : List Nat) (m2 : List Nat) (s : ps_S), (mJ x t s) → (kp [1150, 1151] [] s0 s) → (Sg (ps_a s 1135) (ps_a s 1136) (ps_a s 1138) (ps_a s 1139) (ps_i s 1131 21).toInt σ) → (Md (ps_a s 1149) (ps_i s 1131 34).toInt ml) → (ml.length ≤ 40) → (ml = m1 ++ m2) → (x3.toInt = (m1.length : Int)) → (0 ≤ x1.toInt) → (x1.toInt ≤ x3.toInt) → (0 ≤ x2.toInt) → (x2.toInt ≤ 5) → (R17 σ (ps_a s 1150) (ps_a s 1151) x1.toInt x2.toInt m2 ml b) → (40 - x3.toInt ≤ (n17 : Int) - 1) → ps_At (d + 1) 228 17 [(0, .ref 1131), (1, .int x1), (2, .int x2), (3, .int x3)] [] s Q) (n110 : Nat) (KH110 : ∀ (x1 : Int32) (x2 : Int32) (x3 : Int32) (m1 : List Nat) (c : Nat) (m3 : List Nat) (s : ps_S), (mJ x t s) → (kp [1150, 1151] [] s0 s) → (Sg (ps_a s 1135) (ps_a s 1136) (ps_a s 1138) (ps_a s 1139) (ps_i s 1131 21).toInt σ) → (Md (ps_a s 1149) (ps_i s 1131 34).toInt ml) → (ml.length ≤ 40) → (ml = m1 ++ c :: m3) → (x3.toInt = (m1.length : Int)) → (0 ≤ x1.toInt) → (x1.toInt ≤ x3.toInt + 1) → (0 ≤ x2.toInt) → (x2.toInt ≤ 5) → (R110 σ (ps_a s 1150) (ps_a s 1151) x1.toInt x2.toInt m3 ml b) → (40 - x3.toInt ≤ (n17 : Int)) → (x1.toInt ≤ (n110 : Int) - 1) → ps_At (d + 1) 228 110 [(0, .ref 1131), (1, .int x1), (2, .int x2), (3, .int x3)] [] s Q) (x1 : Int32) (x2 : Int32) (x3 : Int32) (m1 : List Nat) (c : Nat) (m3 : List Nat) (s : ps_S) (J : mJ x t s) (K : kp [1150, 1151] [] s0 s) (hS : Sg (ps_a s 1135) (ps_a s 1136) (ps_a s 1138) (ps_a s 1139) (ps_i s 1131 21).toInt σ) (hM : Md (ps_a s 1149) (ps_i s 1131 34).toInt ml) (i2 : ml.length ≤ 40) (i3 : ml = m1 ++ c :: m3) (i4 : x3.toInt = (m1.length : Int)) (i5 : 0 ≤ x1.toInt) (i6 : x1.toInt ≤ x3.toInt) (i7 : 0 ≤ x2.toInt) (i8 : x2.toInt ≤ 5) (i9 : R110 σ (ps_a s 1150) (ps_a s 1151) (x1.toInt + 1) x2.toInt m3 ml b) (i10 : (ps_a s 1150 (x1.toInt).toNat).toInt = 0) (hm17 : 40 - x3.toInt ≤ (n17 : Int)) (hm110 : x1.toInt + 1 ≤ (n110 : Int)) : ps_At (d + 1) 228 128 [(0, .ref 1131), (1, .int x1), (2, .int x2), (3, .int x3)] [] s Q := by
  refine pg_228_128 (d := d) ?_
  have h34 := hM.1
  have hl : (ml.length : Int) = m1.length + (m3.length + 1) := by rw [i3, llen, llenc]
  have i4 : x3.toInt = (m1.length : Int) := i4
  refine ps_nd_i (show pm_in x1 260 = true from xgi (show 0 ≤ x1.toInt from by omega) (show x1.toInt < 260 from by omega)) ?_
  have e7 : Int32.toNatClampNeg x1 = (x1.toInt + 1 - 1).toNat := by show x1.toInt.toNat = _; rw [Int.add_sub_cancel]
  have z0 : (0 : Int32).toInt = 0 := rfl
  refine And.intro (fun h1 => ?_) (fun h1 => ?_)
  · have f2 : (ps_a s 1151 (Int32.toNatClampNeg x1)).toInt = (0 : Int) := xeq h1
    have a3 : (x2 - 0).toInt = x2.toInt - (0 : Int) := xIs (show -2147483648 ≤ x2.toInt - (0 : Int) from by omega) (show x2.toInt - (0 : Int) < 2147483648 from by omega)
    exact KH110 x1 (x2 - 0) x3 m1 c m3 _ J K hS hM (by assumption) (by assumption) (by assumption) (show 0 ≤ x1.toInt from by omega) (show x1.toInt ≤ x3.toInt + 1 from by omega) (show 0 ≤ (x2 - 0).toInt from by have z := R110_nn i9 (by omega); rw [← e7] at z; first | (rw [if_pos (Int32.toInt_inj.mp (by omega))] at z; omega) | (rw [if_neg (fun z => by have z2 := congrArg Int32.toInt z; omega)] at z; omega)) (show (x2 - 0).toInt ≤ 5 from by omega) ((by rw [show x1.toInt = x1.toInt + 1 - 1 from by omega]; exact R110_pop i9 (by omega) (by rw [Int.add_sub_cancel]; exact i10) (by rw [← e7]; first | (rw [if_pos (Int32.toInt_inj.mp (by omega))]; omega) | (rw [if_neg (fun z => by have z2 := congrArg Int32.toInt z; omega)]; omega)))) (show 40 - x3.toInt ≤ (n17 : Int) from by omega) (show x1.toInt ≤ (n110 : Int) - 1 from by omega)
  · have f4 : (ps_a s 1151 (Int32.toNatClampNeg x1)).toInt ≠ (0 : Int) := xne h1
    have a5 : (x2 - 1).toInt = x2.toInt - (1 : Int) := xIs (show -2147483648 ≤ x2.toInt - (1 : Int) from by omega) (show x2.toInt - (1 : Int) < 2147483648 from by omega)
    exact KH110 x1 (x2 - 1) x3 m1 c m3 _ J K hS hM (by assumption) (by assumption) (by assumption) (show 0 ≤ x1.toInt from by omega) (show x1.toInt ≤ x3.toInt + 1 from by omega) (show 0 ≤ (x2 - 1).toInt from by have z := R110_nn i9 (by omega); rw [← e7] at z; first | (rw [if_pos (Int32.toInt_inj.mp (by omega))] at z; omega) | (rw [if_neg (fun z => by have z2 := congrArg Int32.toInt z; omega)] at z; omega)) (show (x2 - 1).toInt ≤ 5 from by omega) ((by rw [show x1.toInt = x1.toInt + 1 - 1 from by omega]; exact R110_pop i9 (by omega) (by rw [Int.add_sub_cancel]; exact i10) (by rw [← e7]; first | (rw [if_pos (Int32.toInt_inj.mp (by omega))]; omega) | (rw [if_neg (fun z => by have z2 := congrArg Int32.toInt z; omega)]; omega)))) (show 40 - x3.toInt ≤ (n17 : Int) from by omega) (show x1.toInt ≤ (n110 : Int) - 1 from by omega)

theorem ms_228_148 {x : Nat → Nat → Nat} {t : Int32} {d : Nat} {s0 : ps_S} {σ : mSig} {ml : List Nat} {b : Bool} {Q : Option Value → ps_S → Prop} (k : ∀ (v : Int32) (s' : ps_S), mJ x t s' → kp [1150, 1151] [] s0 s' → (v.toInt = 0 ∨ (ml.length ≤ 40 ∧ wf σ 5 ml [(b, 0)])) → v &&& 1 = v → Q (some (.int v)) s') (n17 : Nat) (KH17 : ∀ (x1 : Int32) (x2 : Int32) (x3 : Int32) (m1 : List Nat) (m2 : List Nat) (s : ps_S), (mJ x t s) → (kp [1150, 1151] [] s0 s) → (Sg (ps_a s 1135) (ps_a s 1136) (ps_a s 1138) (ps_a s 1139) (ps_i s 1131 21).toInt σ) → (Md (ps_a s 1149) (ps_i s 1131 34).toInt ml) → (ml.length ≤ 40) → (ml = m1 ++ m2) → (x3.toInt = (m1.length : Int)) → (0 ≤ x1.toInt) → (x1.toInt ≤ x3.toInt) → (0 ≤ x2.toInt) → (x2.toInt ≤ 5) → (R17 σ (ps_a s 1150) (ps_a s 1151) x1.toInt x2.toInt m2 ml b) → (40 - x3.toInt ≤ (n17 : Int) - 1) → ps_At (d + 1) 228 17 [(0, .ref 1131), (1, .int x1), (2, .int x2), (3, .int x3)] [] s Q) (x1 : Int32) (x2 : Int32) (x3 : Int32) (m1 : List Nat) (c : Nat) (m3 : List Nat) (s : ps_S) (J : mJ x t s) (K : kp [1150, 1151] [] s0 s) (hS : Sg (ps_a s 1135) (ps_a s 1136) (ps_a s 1138) (ps_a s 1139) (ps_i s 1131 21).toInt σ) (hM : Md (ps_a s 1149) (ps_i s 1131 34).toInt ml) (i2 : ml.length ≤ 40) (i3 : ml = m1 ++ c :: m3) (i4 : x3.toInt = (m1.length : Int)) (i5 : 0 ≤ x1.toInt) (i6 : x1.toInt ≤ x3.toInt + 1) (i7 : 0 ≤ x2.toInt) (i8 : x2.toInt ≤ 5) (i9 : R110 σ (ps_a s 1150) (ps_a s 1151) x1.toInt x2.toInt m3 ml b) (i10 : x1.toInt = 0 ∨ (ps_a s 1150 (x1.toInt - 1).toNat).toInt ≠ 0) (hm17 : 40 - x3.toInt ≤ (n17 : Int)) : ps_At (d + 1) 228 148 [(0, .ref 1131), (1, .int x1), (2, .int x2), (3, .int x3)] [] s Q := by
  refine pg_228_148 (d := d) ?_
  have h34 := hM.1
  have hl : (ml.length : Int) = m1.length + (m3.length + 1) := by rw [i3, llen, llenc]
  have i4 : x3.toInt = (m1.length : Int) := i4
  refine And.intro (fun h1 => ?_) (fun h1 => ?_)
  · have f2 : x1.toInt ≤ (0 : Int) := xle h1
    have a3 : (x3 + 1).toInt = x3.toInt + (1 : Int) := xIa (show -2147483648 ≤ x3.toInt + (1 : Int) from by omega) (show x3.toInt + (1 : Int) < 2147483648 from by omega)
    exact KH17 x1 x2 (x3 + 1) (m1 ++ [c]) m3 _ J K hS hM (by assumption) (i3.trans (lcat m1 c m3)) ((show ((x3 + 1)).toInt = ((m1 ++ [c]).length : Int) from by rw [l1c]; omega)) (show 0 ≤ x1.toInt from by omega) (show x1.toInt ≤ (x3 + 1).toInt from by omega) (show 0 ≤ x2.toInt from by omega) (show x2.toInt ≤ 5 from by omega) ((by first | exact R110_z (show x1.toInt = 0 from by omega) i9 | exact R110_t i9 (by omega) (i10.resolve_left (by omega)) (fun i hi => ua_ne (by omega)) (by rw [← e6, ua_eq]; omega))) (show 40 - (x3 + 1).toInt ≤ (n17 : Int) - 1 from by omega)
  · have f4 : (0 : Int) < x1.toInt := xlt h1
    obtain ⟨cc, hcc⟩ := R110_c i9 (by omega)
    have a1 : (x1 - 1).toInt = x1.toInt - (1 : Int) := xIs (show -2147483648 ≤ x1.toInt - (1 : Int) from by omega) (show x1.toInt - (1 : Int) < 2147483648 from by omega)
    have e6 : Int32.toNatClampNeg (x1 - 1) = (x1.toInt - 1).toNat := by show (x1 - 1).toInt.toNat = _; rw [a1]
    have hxr := xR (ps_a s 1150 (Int32.toNatClampNeg (x1 - 1)))
    have hcc : (ps_a s 1150 (Int32.toNatClampNeg (x1 - 1))).toInt = (cc : Int) := by rw [e6]; exact hcc
    have a5 : (x1 - 1).toInt = x1.toInt - (1 : Int) := xIs (show -2147483648 ≤ x1.toInt - (1 : Int) from by omega) (show x1.toInt - (1 : Int) < 2147483648 from by omega)
    refine ps_nd_i (show pm_in (x1 - 1) 260 = true from xgi (show 0 ≤ (x1 - 1).toInt from by omega) (show (x1 - 1).toInt < 260 from by omega)) ?_
    have a6 : ((ps_a s 1150 (Int32.toNatClampNeg (x1 - 1))) - 1).toInt = (ps_a s 1150 (Int32.toNatClampNeg (x1 - 1))).toInt - (1 : Int) := xIs (show -2147483648 ≤ (ps_a s 1150 (Int32.toNatClampNeg (x1 - 1))).toInt - (1 : Int) from by omega) (show (ps_a s 1150 (Int32.toNatClampNeg (x1 - 1))).toInt - (1 : Int) < 2147483648 from by omega)
    refine ps_nd_i (show pm_in (x1 - 1) 260 = true from xgi (show 0 ≤ (x1 - 1).toInt from by omega) (show (x1 - 1).toInt < 260 from by omega)) ?_
    have J7 := mwa_n 1150 (i := (Int32.toNatClampNeg (x1 - 1))) (v := ((ps_a s 1150 (Int32.toNatClampNeg (x1 - 1))) - 1)) J rfl (by decide)
    have K8 := kpa' K (r := 1150) (i := (Int32.toNatClampNeg (x1 - 1))) (v := ((ps_a s 1150 (Int32.toNatClampNeg (x1 - 1))) - 1)) rfl
    have a9 : (x3 + 1).toInt = x3.toInt + (1 : Int) := xIa (show -2147483648 ≤ x3.toInt + (1 : Int) from by omega) (show x3.toInt + (1 : Int) < 2147483648 from by omega)
    exact KH17 x1 x2 (x3 + 1) (m1 ++ [c]) m3 _ J7 K8 hS hM (by assumption) (i3.trans (lcat m1 c m3)) ((show ((x3 + 1)).toInt = ((m1 ++ [c]).length : Int) from by rw [l1c]; omega)) (show 0 ≤ x1.toInt from by omega) (show x1.toInt ≤ (x3 + 1).toInt from by omega) (show 0 ≤ x2.toInt from by omega) (show x2.toInt ≤ 5 from by omega) ((by first | exact R110_z (show x1.toInt = 0 from by omega) i9 | exact R110_t i9 (by omega) (i10.resolve_left (by omega)) (fun i hi => ua_ne (by omega)) (by rw [← e6, ua_eq]; omega))) (show 40 - (x3 + 1).toInt ≤ (n17 : Int) - 1 from by omega)

theorem ms_228_110 {x : Nat → Nat → Nat} {t : Int32} {d : Nat} {s0 : ps_S} {σ : mSig} {ml : List Nat} {b : Bool} {Q : Option Value → ps_S → Prop} (k : ∀ (v : Int32) (s' : ps_S), mJ x t s' → kp [1150, 1151] [] s0 s' → (v.toInt = 0 ∨ (ml.length ≤ 40 ∧ wf σ 5 ml [(b, 0)])) → v &&& 1 = v → Q (some (.int v)) s') (n17 : Nat) (KH17 : ∀ (x1 : Int32) (x2 : Int32) (x3 : Int32) (m1 : List Nat) (m2 : List Nat) (s : ps_S), (mJ x t s) → (kp [1150, 1151] [] s0 s) → (Sg (ps_a s 1135) (ps_a s 1136) (ps_a s 1138) (ps_a s 1139) (ps_i s 1131 21).toInt σ) → (Md (ps_a s 1149) (ps_i s 1131 34).toInt ml) → (ml.length ≤ 40) → (ml = m1 ++ m2) → (x3.toInt = (m1.length : Int)) → (0 ≤ x1.toInt) → (x1.toInt ≤ x3.toInt) → (0 ≤ x2.toInt) → (x2.toInt ≤ 5) → (R17 σ (ps_a s 1150) (ps_a s 1151) x1.toInt x2.toInt m2 ml b) → (40 - x3.toInt ≤ (n17 : Int) - 1) → ps_At (d + 1) 228 17 [(0, .ref 1131), (1, .int x1), (2, .int x2), (3, .int x3)] [] s Q) : ∀ (n : Nat) (x1 : Int32) (x2 : Int32) (x3 : Int32) (m1 : List Nat) (c : Nat) (m3 : List Nat) (s : ps_S), (mJ x t s) → (kp [1150, 1151] [] s0 s) → (Sg (ps_a s 1135) (ps_a s 1136) (ps_a s 1138) (ps_a s 1139) (ps_i s 1131 21).toInt σ) → (Md (ps_a s 1149) (ps_i s 1131 34).toInt ml) → (ml.length ≤ 40) → (ml = m1 ++ c :: m3) → (x3.toInt = (m1.length : Int)) → (0 ≤ x1.toInt) → (x1.toInt ≤ x3.toInt + 1) → (0 ≤ x2.toInt) → (x2.toInt ≤ 5) → (R110 σ (ps_a s 1150) (ps_a s 1151) x1.toInt x2.toInt m3 ml b) → (40 - x3.toInt ≤ (n17 : Int)) → x1.toInt ≤ (n : Int) → ps_At (d + 1) 228 110 [(0, .ref 1131), (1, .int x1), (2, .int x2), (3, .int x3)] [] s Q := by
  refine xstr (fun n ih => ?_)
  intro x1 x2 x3 m1 c m3 s J K hS hM i2 i3 i4 i5 i6 i7 i8 i9 hm17 hm
  refine pg_228_110 (d := d) ?_
  have h34 := hM.1
  have hl : (ml.length : Int) = m1.length + (m3.length + 1) := by rw [i3, llen, llenc]
  have i4 : x3.toInt = (m1.length : Int) := i4
  refine And.intro (fun h1 => ?_) (fun h1 => ?_)
  · have f2 : x1.toInt ≤ (0 : Int) := xle h1
    exact ms_228_148 (σ := σ) (ml := ml) (b := b) k n17 KH17 x1 x2 x3 m1 c m3 _ J K hS hM (by assumption) (by assumption) (by assumption) (show 0 ≤ x1.toInt from by omega) (show x1.toInt ≤ x3.toInt + 1 from by omega) (show 0 ≤ x2.toInt from by omega) (show x2.toInt ≤ 5 from by omega) (i9) (Or.inl (show x1.toInt = 0 from by omega)) (show 40 - x3.toInt ≤ (n17 : Int) from by omega)
  · have f3 : (0 : Int) < x1.toInt := xlt h1
    have a4 : (x1 - 1).toInt = x1.toInt - (1 : Int) := xIs (show -2147483648 ≤ x1.toInt - (1 : Int) from by omega) (show x1.toInt - (1 : Int) < 2147483648 from by omega)
    refine ps_nd_i (show pm_in (x1 - 1) 260 = true from xgi (show 0 ≤ (x1 - 1).toInt from by omega) (show (x1 - 1).toInt < 260 from by omega)) ?_
    have e6 : Int32.toNatClampNeg (x1 - 1) = (x1.toInt - 1).toNat := by show (x1 - 1).toInt.toNat = _; rw [show (x1 - 1).toInt = x1.toInt - (1 : Int) from by omega]
    refine And.intro (fun h5 => ?_) (fun h5 => ?_)
    · have f6 : (ps_a s 1150 (Int32.toNatClampNeg (x1 - 1))).toInt ≠ (0 : Int) := xne h5
      exact ms_228_148 (σ := σ) (ml := ml) (b := b) k n17 KH17 x1 x2 x3 m1 c m3 _ J K hS hM (by assumption) (by assumption) (by assumption) (show 0 ≤ x1.toInt from by omega) (show x1.toInt ≤ x3.toInt + 1 from by omega) (show 0 ≤ x2.toInt from by omega) (show x2.toInt ≤ 5 from by omega) (i9) (Or.inr (by rw [← e6]; omega)) (show 40 - x3.toInt ≤ (n17 : Int) from by omega)
    · have f7 : (ps_a s 1150 (Int32.toNatClampNeg (x1 - 1))).toInt = (0 : Int) := xeq h5
      generalize hx9 : (x1 + (Int32.ofInt (-1))) = xd8
      have a10 : xd8.toInt = x1.toInt + (-1) := by rw [← hx9]; exact xdec (show -2147483648 < x1.toInt from by omega)
      clear hx9
      exact ms_228_128 (σ := σ) (ml := ml) (b := b) k n17 KH17 n (fun x1z x2z x3z m1z cz m3z sz Jz Kz i0z i1z i2z i3z i4z i5z i6z i7z i8z i9z hm17z hm => ih (n - 1) (show n - 1 < n from by omega) x1z x2z x3z m1z cz m3z sz Jz Kz i0z i1z i2z i3z i4z i5z i6z i7z i8z i9z hm17z (show _ ≤ ((n - 1 : Nat) : Int) from by omega)) xd8 x2 x3 m1 c m3 _ J K hS hM (by assumption) (by assumption) (by assumption) (show 0 ≤ xd8.toInt from by omega) (show xd8.toInt ≤ x3.toInt from by omega) (show 0 ≤ x2.toInt from by omega) (show x2.toInt ≤ 5 from by omega) ((by rw [show (xd8).toInt + 1 = x1.toInt from by omega]; exact i9)) ((by rw [show ((xd8).toInt).toNat = (x1.toInt - 1).toNat from by omega, ← e6]; omega)) (show 40 - x3.toInt ≤ (n17 : Int) from by omega) (show xd8.toInt + 1 ≤ ((n : Nat) : Int) from by omega)

theorem ms_228_70 {x : Nat → Nat → Nat} {t : Int32} {d : Nat} {s0 : ps_S} {σ : mSig} {ml : List Nat} {b : Bool} {Q : Option Value → ps_S → Prop} (k : ∀ (v : Int32) (s' : ps_S), mJ x t s' → kp [1150, 1151] [] s0 s' → (v.toInt = 0 ∨ (ml.length ≤ 40 ∧ wf σ 5 ml [(b, 0)])) → v &&& 1 = v → Q (some (.int v)) s') (n17 : Nat) (KH17 : ∀ (x1 : Int32) (x2 : Int32) (x3 : Int32) (m1 : List Nat) (m2 : List Nat) (s : ps_S), (mJ x t s) → (kp [1150, 1151] [] s0 s) → (Sg (ps_a s 1135) (ps_a s 1136) (ps_a s 1138) (ps_a s 1139) (ps_i s 1131 21).toInt σ) → (Md (ps_a s 1149) (ps_i s 1131 34).toInt ml) → (ml.length ≤ 40) → (ml = m1 ++ m2) → (x3.toInt = (m1.length : Int)) → (0 ≤ x1.toInt) → (x1.toInt ≤ x3.toInt) → (0 ≤ x2.toInt) → (x2.toInt ≤ 5) → (R17 σ (ps_a s 1150) (ps_a s 1151) x1.toInt x2.toInt m2 ml b) → (40 - x3.toInt ≤ (n17 : Int) - 1) → ps_At (d + 1) 228 17 [(0, .ref 1131), (1, .int x1), (2, .int x2), (3, .int x3)] [] s Q) (x1 : Int32) (x2 : Int32) (x3 : Int32) (x4 : Int32) (m1 : List Nat) (c : Nat) (m3 : List Nat) (s : ps_S) (J : mJ x t s) (K : kp [1150, 1151] [] s0 s) (hS : Sg (ps_a s 1135) (ps_a s 1136) (ps_a s 1138) (ps_a s 1139) (ps_i s 1131 21).toInt σ) (hM : Md (ps_a s 1149) (ps_i s 1131 34).toInt ml) (i2 : ml.length ≤ 40) (i3 : ml = m1 ++ c :: m3) (i4 : x3.toInt = (m1.length : Int)) (i5 : 0 ≤ x1.toInt) (i6 : x1.toInt ≤ x3.toInt) (i7 : 0 ≤ x2.toInt) (i8 : x2.toInt ≤ 5) (i9 : R17 σ (ps_a s 1150) (ps_a s 1151) x1.toInt x2.toInt (c :: m3) ml b) (i10 : (x4.toInt = 1 ∧ (c = 4 ∨ c = 5)) ∨ (x4.toInt = 0 ∧ ¬ (c = 4 ∨ c = 5))) (i11 : x1.toInt ≤ 12) (i12 : x4.toInt = 0 ∨ x2.toInt ≤ 4) (hm17 : 40 - x3.toInt ≤ (n17 : Int)) : ps_At (d + 1) 228 70 [(0, .ref 1131), (1, .int x1), (2, .int x2), (3, .int x3), (4, .int x4)] [] s Q := by
  refine pg_228_70 (d := d) ?_
  have h34 := hM.1
  have hl : (ml.length : Int) = m1.length + (m3.length + 1) := by rw [i3, llen, llenc]
  have i4 : x3.toInt = (m1.length : Int) := i4
  have hp : (ps_a s 1149 (Int32.toNatClampNeg x3)).toInt = (c : Int) := Md_p (l1 := m1) (l2 := m3) (by rw [← i3]; exact hM) i4 (by omega)
  obtain ⟨b0, ks, hk⟩ := R17_k i9
  have ex : Int32.toNatClampNeg x1 = x1.toInt.toNat := rfl
  have hlk := kS_le hS hk
  refine ps_nd_i (show pm_in x3 260 = true from xgi (show 0 ≤ x3.toInt from by omega) (show x3.toInt < 260 from by omega)) ?_
  refine ms_218 J hS (hk) (hp) (fun v1 p1_0 => ?_)
  have hv : v1.toInt = (ks.length : Int) := p1_0
  refine ps_nd_i (show pm_in x1 260 = true from xgi (show 0 ≤ x1.toInt from by omega) (show x1.toInt < 260 from by omega)) ?_
  have J2 := mwa_n 1150 (i := (Int32.toNatClampNeg x1)) (v := v1) J rfl (by decide)
  have K3 := kpa' K (r := 1150) (i := (Int32.toNatClampNeg x1)) (v := v1) rfl
  have e4 : (ps_a (ps_ua s 1150 (Int32.toNatClampNeg x1) v1) 1150 x1.toInt.toNat).toInt = (ks.length : Int) := by rw [show ps_a (ps_ua s 1150 (Int32.toNatClampNeg x1) v1) 1150 x1.toInt.toNat = _ from ua_eq]; exact hv
  refine ps_nd_i (show pm_in x1 260 = true from xgi (show 0 ≤ x1.toInt from by omega) (show x1.toInt < 260 from by omega)) ?_
  have J4 := mwa_n 1151 (i := (Int32.toNatClampNeg x1)) (v := (x4 &&& 1)) J2 rfl (by decide)
  have K5 := kpa' K3 (r := 1151) (i := (Int32.toNatClampNeg x1)) (v := (x4 &&& 1)) rfl
  have e5 : ps_a (ps_ua (ps_ua s 1150 (Int32.toNatClampNeg x1) v1) 1151 (Int32.toNatClampNeg x1) (x4 &&& 1)) 1151 x1.toInt.toNat = (x4 &&& 1) := ua_eq
  have e8 : (x4 &&& 1) = x4 := xb1 (by rcases i10 with z | z; right; exact z.1; left; exact z.1)
  refine And.intro (fun h6 => ?_) (fun h6 => ?_)
  · have f7 : x4.toInt = (0 : Int) := xeq h6
    have a8 : (x2 + 0).toInt = x2.toInt + (0 : Int) := xIa (show -2147483648 ≤ x2.toInt + (0 : Int) from by omega) (show x2.toInt + (0 : Int) < 2147483648 from by omega)
    have a9 : (x1 + 1).toInt = x1.toInt + (1 : Int) := xIa (show -2147483648 ≤ x1.toInt + (1 : Int) from by omega) (show x1.toInt + (1 : Int) < 2147483648 from by omega)
    exact ms_228_110 (σ := σ) (ml := ml) (b := b) k n17 KH17 ((x1 + 1).toInt).toNat (x1 + 1) (x2 + 0) x3 m1 c m3 _ J4 K5 hS hM (by assumption) (by assumption) (by assumption) (show 0 ≤ (x1 + 1).toInt from by omega) (show (x1 + 1).toInt ≤ x3.toInt + 1 from by omega) (show 0 ≤ (x2 + 0).toInt from by omega) (show (x2 + 0).toInt ≤ 5 from by omega) ((by rw [show ((x1 + 1)).toInt = x1.toInt + 1 from by omega]; exact R17_c i9 (by omega) (by omega) (by rcases i10 with ⟨z1, z2⟩ | ⟨z1, z2⟩; rw [if_pos z2]; omega; rw [if_neg z2]; omega) (by rw [show ps_a _ 1151 x1.toInt.toNat = _ from e5, e8]; rcases i10 with ⟨z1, z2⟩ | ⟨z1, z2⟩; exact ⟨fun z => absurd z1 (by rw [z]; decide), fun z => absurd z2 z⟩; exact ⟨fun _ => z2, fun _ => Int32.toInt_inj.mp z1⟩) (fun i hi => ⟨(ua_ne (by omega)).trans (ua_ne (by omega)), (ua_ne (by omega)).trans (ua_ne (by omega))⟩) (fun b1 ks1 hk1 => e4.trans (by rw [kS_len (Sg_σ hS) hk hk1])))) (show 40 - x3.toInt ≤ (n17 : Int) from by omega) (show (x1 + 1).toInt ≤ ((((x1 + 1).toInt).toNat : Nat) : Int) from by omega)
  · have f10 : x4.toInt ≠ (0 : Int) := xne h6
    have a11 : (x2 + 1).toInt = x2.toInt + (1 : Int) := xIa (show -2147483648 ≤ x2.toInt + (1 : Int) from by omega) (show x2.toInt + (1 : Int) < 2147483648 from by omega)
    have a12 : (x1 + 1).toInt = x1.toInt + (1 : Int) := xIa (show -2147483648 ≤ x1.toInt + (1 : Int) from by omega) (show x1.toInt + (1 : Int) < 2147483648 from by omega)
    exact ms_228_110 (σ := σ) (ml := ml) (b := b) k n17 KH17 ((x1 + 1).toInt).toNat (x1 + 1) (x2 + 1) x3 m1 c m3 _ J4 K5 hS hM (by assumption) (by assumption) (by assumption) (show 0 ≤ (x1 + 1).toInt from by omega) (show (x1 + 1).toInt ≤ x3.toInt + 1 from by omega) (show 0 ≤ (x2 + 1).toInt from by omega) (show (x2 + 1).toInt ≤ 5 from by omega) ((by rw [show ((x1 + 1)).toInt = x1.toInt + 1 from by omega]; exact R17_c i9 (by omega) (by omega) (by rcases i10 with ⟨z1, z2⟩ | ⟨z1, z2⟩; rw [if_pos z2]; omega; rw [if_neg z2]; omega) (by rw [show ps_a _ 1151 x1.toInt.toNat = _ from e5, e8]; rcases i10 with ⟨z1, z2⟩ | ⟨z1, z2⟩; exact ⟨fun z => absurd z1 (by rw [z]; decide), fun z => absurd z2 z⟩; exact ⟨fun _ => z2, fun _ => Int32.toInt_inj.mp z1⟩) (fun i hi => ⟨(ua_ne (by omega)).trans (ua_ne (by omega)), (ua_ne (by omega)).trans (ua_ne (by omega))⟩) (fun b1 ks1 hk1 => e4.trans (by rw [kS_len (Sg_σ hS) hk hk1])))) (show 40 - x3.toInt ≤ (n17 : Int) from by omega) (show (x1 + 1).toInt ≤ ((((x1 + 1).toInt).toNat : Nat) : Int) from by omega)

theorem ms_228_45 {x : Nat → Nat → Nat} {t : Int32} {d : Nat} {s0 : ps_S} {σ : mSig} {ml : List Nat} {b : Bool} {Q : Option Value → ps_S → Prop} (k : ∀ (v : Int32) (s' : ps_S), mJ x t s' → kp [1150, 1151] [] s0 s' → (v.toInt = 0 ∨ (ml.length ≤ 40 ∧ wf σ 5 ml [(b, 0)])) → v &&& 1 = v → Q (some (.int v)) s') (n17 : Nat) (KH17 : ∀ (x1 : Int32) (x2 : Int32) (x3 : Int32) (m1 : List Nat) (m2 : List Nat) (s : ps_S), (mJ x t s) → (kp [1150, 1151] [] s0 s) → (Sg (ps_a s 1135) (ps_a s 1136) (ps_a s 1138) (ps_a s 1139) (ps_i s 1131 21).toInt σ) → (Md (ps_a s 1149) (ps_i s 1131 34).toInt ml) → (ml.length ≤ 40) → (ml = m1 ++ m2) → (x3.toInt = (m1.length : Int)) → (0 ≤ x1.toInt) → (x1.toInt ≤ x3.toInt) → (0 ≤ x2.toInt) → (x2.toInt ≤ 5) → (R17 σ (ps_a s 1150) (ps_a s 1151) x1.toInt x2.toInt m2 ml b) → (40 - x3.toInt ≤ (n17 : Int) - 1) → ps_At (d + 1) 228 17 [(0, .ref 1131), (1, .int x1), (2, .int x2), (3, .int x3)] [] s Q) (x1 : Int32) (x2 : Int32) (x3 : Int32) (m1 : List Nat) (c : Nat) (m3 : List Nat) (s : ps_S) (J : mJ x t s) (K : kp [1150, 1151] [] s0 s) (hS : Sg (ps_a s 1135) (ps_a s 1136) (ps_a s 1138) (ps_a s 1139) (ps_i s 1131 21).toInt σ) (hM : Md (ps_a s 1149) (ps_i s 1131 34).toInt ml) (i2 : ml.length ≤ 40) (i3 : ml = m1 ++ c :: m3) (i4 : x3.toInt = (m1.length : Int)) (i5 : 0 ≤ x1.toInt) (i6 : x1.toInt ≤ x3.toInt) (i7 : 0 ≤ x2.toInt) (i8 : x2.toInt ≤ 5) (i9 : R17 σ (ps_a s 1150) (ps_a s 1151) x1.toInt x2.toInt (c :: m3) ml b) (i10 : c = 4 ∨ c = 5) (hm17 : 40 - x3.toInt ≤ (n17 : Int)) : ps_At (d + 1) 228 45 [(0, .ref 1131), (1, .int x1), (2, .int x2), (3, .int x3)] [] s Q := by
  refine pg_228_45 (d := d) ?_
  refine And.intro (fun h1 => ?_) (fun h1 => ?_)
  · have f2 : (12 : Int) < x1.toInt := xlt h1
    exact k (0 : Int32) _ J K (Or.inl rfl) (by decide)
  · have f3 : x1.toInt ≤ (12 : Int) := xle h1
    refine And.intro (fun h4 => ?_) (fun h4 => ?_)
    · exact absurd (show (1 : Int32) = (0 : Int32) from h4) (by decide)
    · have f5 : (1 : Int) ≠ (0 : Int) := xne h4
      refine And.intro (fun h6 => ?_) (fun h6 => ?_)
      · have f7 : x2.toInt ≤ (4 : Int) := xle h6
        exact ms_228_70 (σ := σ) (ml := ml) (b := b) k n17 KH17 x1 x2 x3 (1) m1 c m3 _ J K hS hM (by assumption) (by assumption) (by assumption) (show 0 ≤ x1.toInt from by omega) (show x1.toInt ≤ x3.toInt from by omega) (show 0 ≤ x2.toInt from by omega) (show x2.toInt ≤ 5 from by omega) (i9) (Or.inl ⟨rfl, i10⟩) (show x1.toInt ≤ 12 from by omega) (show (1 : Int) = 0 ∨ x2.toInt ≤ 4 from by omega) (show 40 - x3.toInt ≤ (n17 : Int) from by omega)
      · have f8 : (4 : Int) < x2.toInt := xlt h6
        exact k (0 : Int32) _ J K (Or.inl rfl) (by decide)

theorem ms_228_17 {x : Nat → Nat → Nat} {t : Int32} {d : Nat} {s0 : ps_S} {σ : mSig} {ml : List Nat} {b : Bool} {Q : Option Value → ps_S → Prop} (k : ∀ (v : Int32) (s' : ps_S), mJ x t s' → kp [1150, 1151] [] s0 s' → (v.toInt = 0 ∨ (ml.length ≤ 40 ∧ wf σ 5 ml [(b, 0)])) → v &&& 1 = v → Q (some (.int v)) s') : ∀ (n : Nat) (x1 : Int32) (x2 : Int32) (x3 : Int32) (m1 : List Nat) (m2 : List Nat) (s : ps_S), (mJ x t s) → (kp [1150, 1151] [] s0 s) → (Sg (ps_a s 1135) (ps_a s 1136) (ps_a s 1138) (ps_a s 1139) (ps_i s 1131 21).toInt σ) → (Md (ps_a s 1149) (ps_i s 1131 34).toInt ml) → (ml.length ≤ 40) → (ml = m1 ++ m2) → (x3.toInt = (m1.length : Int)) → (0 ≤ x1.toInt) → (x1.toInt ≤ x3.toInt) → (0 ≤ x2.toInt) → (x2.toInt ≤ 5) → (R17 σ (ps_a s 1150) (ps_a s 1151) x1.toInt x2.toInt m2 ml b) → 40 - x3.toInt ≤ (n : Int) → ps_At (d + 1) 228 17 [(0, .ref 1131), (1, .int x1), (2, .int x2), (3, .int x3)] [] s Q := by
  refine xstr (fun n ih => ?_)
  intro x1 x2 x3 m1 m2 s J K hS hM i2 i3 i4 i5 i6 i7 i8 i9 hm
  refine pg_228_17 (d := d) ?_
  have h34 := hM.1
  have hl : (ml.length : Int) = m1.length + m2.length := by rw [i3]; exact llen
  have i4 : x3.toInt = (m1.length : Int) := i4
  have r1 := mf_34 J
  refine And.intro (fun h2 => ?_) (fun h2 => ?_)
  · have f3 : (ps_i s 1131 34).toInt ≤ x3.toInt := xle h2
    have e0 := lnil (W := m2) (by omega)
    subst e0
    exact k (1 : Int32) _ J K (Or.inr ⟨i2, R17_nil i9⟩) (by decide)
  · have f4 : x3.toInt < (ps_i s 1131 34).toInt := xlt h2
    obtain ⟨c, m3, rfl⟩ := lpos (W := m2) (by omega)
    rw [llenc] at hl
    have hp : (ps_a s 1149 (Int32.toNatClampNeg x3)).toInt = (c : Int) := Md_p (l1 := m1) (l2 := m3) (by rw [← i3]; exact hM) i4 (by omega)
    refine ps_nd_i (show pm_in x3 260 = true from xgi (show 0 ≤ x3.toInt from by omega) (show x3.toInt < 260 from by omega)) ?_
    refine And.intro (fun h5 => ?_) (fun h5 => ?_)
    · have f6 : (ps_a s 1149 (Int32.toNatClampNeg x3)).toInt = (4 : Int) := xeq h5
      exact ms_228_45 (σ := σ) (ml := ml) (b := b) k n (fun x1z x2z x3z m1z m2z sz Jz Kz i0z i1z i2z i3z i4z i5z i6z i7z i8z i9z hm => ih (n - 1) (show n - 1 < n from by omega) x1z x2z x3z m1z m2z sz Jz Kz i0z i1z i2z i3z i4z i5z i6z i7z i8z i9z (show _ ≤ ((n - 1 : Nat) : Int) from by omega)) x1 x2 x3 m1 c m3 _ J K hS hM (by assumption) (by assumption) (by assumption) (show 0 ≤ x1.toInt from by omega) (show x1.toInt ≤ x3.toInt from by omega) (show 0 ≤ x2.toInt from by omega) (show x2.toInt ≤ 5 from by omega) (i9) ((by omega)) (show 40 - x3.toInt ≤ ((n : Nat) : Int) from by omega)
    · have f7 : (ps_a s 1149 (Int32.toNatClampNeg x3)).toInt ≠ (4 : Int) := xne h5
      refine ps_nd_i (show pm_in x3 260 = true from xgi (show 0 ≤ x3.toInt from by omega) (show x3.toInt < 260 from by omega)) ?_
      refine And.intro (fun h8 => ?_) (fun h8 => ?_)
      · have f9 : (ps_a s 1149 (Int32.toNatClampNeg x3)).toInt ≠ (5 : Int) := xne h8
        refine And.intro (fun h10 => ?_) (fun h10 => ?_)
        · have f11 : (12 : Int) < x1.toInt := xlt h10
          exact k (0 : Int32) _ J K (Or.inl rfl) (by decide)
        · have f12 : x1.toInt ≤ (12 : Int) := xle h10
          refine And.intro (fun h13 => ?_) (fun h13 => ?_)
          · exact ms_228_70 (σ := σ) (ml := ml) (b := b) k n (fun x1z x2z x3z m1z m2z sz Jz Kz i0z i1z i2z i3z i4z i5z i6z i7z i8z i9z hm => ih (n - 1) (show n - 1 < n from by omega) x1z x2z x3z m1z m2z sz Jz Kz i0z i1z i2z i3z i4z i5z i6z i7z i8z i9z (show _ ≤ ((n - 1 : Nat) : Int) from by omega)) x1 x2 x3 (0) m1 c m3 _ J K hS hM (by assumption) (by assumption) (by assumption) (show 0 ≤ x1.toInt from by omega) (show x1.toInt ≤ x3.toInt from by omega) (show 0 ≤ x2.toInt from by omega) (show x2.toInt ≤ 5 from by omega) (i9) (Or.inr ⟨rfl, by omega⟩) (show x1.toInt ≤ 12 from by omega) (show (0 : Int) = 0 ∨ x2.toInt ≤ 4 from by omega) (show 40 - x3.toInt ≤ ((n : Nat) : Int) from by omega)
          · exact absurd (show (0 : Int32) ≠ (0 : Int32) from h13) (by decide)
      · have f14 : (ps_a s 1149 (Int32.toNatClampNeg x3)).toInt = (5 : Int) := xeq h8
        exact ms_228_45 (σ := σ) (ml := ml) (b := b) k n (fun x1z x2z x3z m1z m2z sz Jz Kz i0z i1z i2z i3z i4z i5z i6z i7z i8z i9z hm => ih (n - 1) (show n - 1 < n from by omega) x1z x2z x3z m1z m2z sz Jz Kz i0z i1z i2z i3z i4z i5z i6z i7z i8z i9z (show _ ≤ ((n - 1 : Nat) : Int) from by omega)) x1 x2 x3 m1 c m3 _ J K hS hM (by assumption) (by assumption) (by assumption) (show 0 ≤ x1.toInt from by omega) (show x1.toInt ≤ x3.toInt from by omega) (show 0 ≤ x2.toInt from by omega) (show x2.toInt ≤ 5 from by omega) (i9) ((by omega)) (show 40 - x3.toInt ≤ ((n : Nat) : Int) from by omega)

theorem ms_228 {x : Nat → Nat → Nat} {t : Int32} {s : ps_S} {d : Nat} {f : Int32 → ps_S → Prop} (J : mJ x t s) {σ : mSig} {ml : List Nat} {b : Bool} (hS : Sg (ps_a s 1135) (ps_a s 1136) (ps_a s 1138) (ps_a s 1139) (ps_i s 1131 21).toInt σ) (hM : Md (ps_a s 1149) (ps_i s 1131 34).toInt ml) (q2 : ws σ ml [b]) (k : ∀ (v : Int32) (s' : ps_S), mJ x t s' → kp [1150, 1151] [] s s' → (v.toInt = 0 ∨ (ml.length ≤ 40 ∧ wf σ 5 ml [(b, 0)])) → v &&& 1 = v → f v s') : ps_Cl (d + 1) 228 [.ref 1131] s (ps_rI f) := by
  have K : kp [1150, 1151] [] s s := kp_refl
  refine pg_228_0 (d := d) ?_
  have h34 := hM.1
  have r1 := mf_34 J
  refine And.intro (fun h2 => ?_) (fun h2 => ?_)
  · have f3 : (ps_i s 1131 34).toInt ≤ (40 : Int) := xle h2
    exact ms_228_17 (σ := σ) (ml := ml) (b := b) k  (40 - (0 : Int)).toNat (0) (0) (0) [] ml _ J K hS hM ((by omega)) (rfl) (rfl) (show 0 ≤ (0 : Int) from by omega) (show (0 : Int) ≤ (0 : Int) from by omega) (show 0 ≤ (0 : Int) from by omega) (show (0 : Int) ≤ 5 from by omega) (R17_0 q2) (show 40 - (0 : Int) ≤ (((40 - (0 : Int)).toNat : Nat) : Int) from by omega)
  · have f4 : (40 : Int) < (ps_i s 1131 34).toInt := xlt h2
    exact k (0 : Int32) _ J K (Or.inl rfl) (by decide)
