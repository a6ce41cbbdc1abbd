set_option maxRecDepth 100000
-- ProofBenchModel.letterOf(II)I
theorem pg_278_0 {d : Nat} {x1 : Int32} {x2 : Int32} {s : ps_S} {Q : Option Value → ps_S → Prop} (h :
  ps_At (d + 1) 278 2 [(0, .ref 1131), (1, .int x1), (2, .int x2), (3, .int 0)] [] s Q) : ps_At (d + 1) 278 0 [(0, .ref 1131), (1, .int x1), (2, .int x2)] [] s Q :=
  ps_wp_at (stops := [(2, [0, 1, 2, 3])]) (n := 4) h rfl

theorem pg_278_2 {d : Nat} {x1 : Int32} {x2 : Int32} {x3 : Int32} {s : ps_S} {Q : Option Value → ps_S → Prop} (h :
  ((ps_i s 1131 60) ≤ x3 →
    ps_nd (pm_in (ps_i s 1131 60) 41) (ps_nd (pm_in (ps_i (ps_ua s 1164 (Int32.toNatClampNeg (ps_i s 1131 60)) x1) 1131 60) 41) (Q (some (.int ((ps_i (ps_ui (ps_ua (ps_ua s 1164 (Int32.toNatClampNeg (ps_i s 1131 60)) x1) 1165 (Int32.toNatClampNeg (ps_i (ps_ua s 1164 (Int32.toNatClampNeg (ps_i s 1131 60)) x1) 1131 60)) x2) 1131 60 ((ps_i (ps_ua (ps_ua s 1164 (Int32.toNatClampNeg (ps_i s 1131 60)) x1) 1165 (Int32.toNatClampNeg (ps_i (ps_ua s 1164 (Int32.toNatClampNeg (ps_i s 1131 60)) x1) 1131 60)) x2) 1131 60) + 1)) 1131 60) - 1))) (ps_ui (ps_ua (ps_ua s 1164 (Int32.toNatClampNeg (ps_i s 1131 60)) x1) 1165 (Int32.toNatClampNeg (ps_i (ps_ua s 1164 (Int32.toNatClampNeg (ps_i s 1131 60)) x1) 1131 60)) x2) 1131 60 ((ps_i (ps_ua (ps_ua s 1164 (Int32.toNatClampNeg (ps_i s 1131 60)) x1) 1165 (Int32.toNatClampNeg (ps_i (ps_ua s 1164 (Int32.toNatClampNeg (ps_i s 1131 60)) x1) 1131 60)) x2) 1131 60) + 1))))) ∧
  (x3 < (ps_i s 1131 60) →
    ps_nd (pm_in x3 41) (ps_nd (pm_in x3 41) ((((ps_a s 1165 (Int32.toNatClampNeg x3)) - (ps_a s 1164 (Int32.toNatClampNeg x3))) ≠ (x2 - x1) →
      ps_At (d + 1) 278 2 [(0, .ref 1131), (1, .int x1), (2, .int x2), (3, .int (x3 + 1))] [] s Q) ∧
    (((ps_a s 1165 (Int32.toNatClampNeg x3)) - (ps_a s 1164 (Int32.toNatClampNeg x3))) = (x2 - x1) →
      ps_nd (pm_in x3 41) (ps_Cl d 259 [.ref 1131, .int 25748, .int x1, .int (x2 - x1), .int 25748, .int (ps_a s 1164 (Int32.toNatClampNeg x3))] s (ps_rI (fun v1 s1 =>
        (v1 = 0 →
          ps_At (d + 1) 278 2 [(0, .ref 1131), (1, .int x1), (2, .int x2), (3, .int (x3 + 1))] [] s1 Q) ∧
        (v1 ≠ 0 →
          Q (some (.int x3)) s1))))))))) : ps_At (d + 1) 278 2 [(0, .ref 1131), (1, .int x1), (2, .int x2), (3, .int x3)] [] s Q :=
  ps_wp_at (stops := [(2, [0, 1, 2, 3])]) (n := 61) h rfl

theorem ms_278_2 {x : Nat → Nat → Nat} {t : Int32} {d : Nat} {s0 : ps_S} {x1 : Int32} {x2 : Int32} {Q : Option Value → ps_S → Prop} (k : ∀ (v : Int32) (s' : ps_S), mJ x t s' → kp [1164, 1165] [60] s0 s' → (0 ≤ v.toInt) → (v.toInt ≤ 39) → ((ps_i s0 1131 60).toInt ≤ (ps_i s' 1131 60).toInt) → ((ps_i s' 1131 60).toInt ≤ (ps_i s0 1131 60).toInt + 1) → Q (some (.int v)) s') : ∀ (n : Nat) (x3 : Int32) (s : ps_S), (mJ x t s) → (kp [1164, 1165] [60] s0 s) → (0 ≤ x1.toInt) → (x1.toInt ≤ 39) → (x1.toInt ≤ x2.toInt) → (x2.toInt ≤ 40) → ((ps_i s 1131 60).toInt ≤ 39) → ((ps_i s0 1131 60).toInt = (ps_i s 1131 60).toInt) → (0 ≤ x3.toInt) → (x3.toInt ≤ (ps_i s 1131 60).toInt) → 50 - x3.toInt ≤ (n : Int) → ps_At (d + 2) 278 2 [(0, .ref 1131), (1, .int x1), (2, .int x2), (3, .int x3)] [] s Q := by
  refine xstr (fun n ih => ?_)
  intro x3 s J K i0 i1 i2 i3 i4 i5 i6 i7 hm
  have r1 := mf_60 J
  refine pg_278_2 (d := d + 1) ?_
  refine And.intro (fun h2 => ?_) (fun h2 => ?_)
  · have f3 : (ps_i s 1131 60).toInt ≤ x3.toInt := xle h2
    refine ps_nd_i (show pm_in (ps_i s 1131 60) 41 = true from xgi (show 0 ≤ (ps_i s 1131 60).toInt from by omega) (show (ps_i s 1131 60).toInt < 41 from by omega)) ?_
    have J4 := mwa_1164 (i := (Int32.toNatClampNeg (ps_i s 1131 60))) (v := x1) J (show 0 ≤ x1.toInt from by omega) (show x1.toInt ≤ 40 from by omega)
    have K5 := kpa' K (r := 1164) (i := (Int32.toNatClampNeg (ps_i s 1131 60))) (v := x1) rfl
    refine ps_nd_i (show pm_in (ps_i s 1131 60) 41 = true from xgi (show 0 ≤ (ps_i s 1131 60).toInt from by omega) (show (ps_i s 1131 60).toInt < 41 from by omega)) ?_
    have J6 := mwa_1165 (i := (Int32.toNatClampNeg (ps_i s 1131 60))) (v := x2) J4 (show 0 ≤ x2.toInt from by omega) (show x2.toInt ≤ 40 from by omega)
    have K7 := kpa' K5 (r := 1165) (i := (Int32.toNatClampNeg (ps_i s 1131 60))) (v := x2) rfl
    have a8 : ((ps_i s 1131 60) + 1).toInt = (ps_i s 1131 60).toInt + (1 : Int) := xIa (show -2147483648 ≤ (ps_i s 1131 60).toInt + (1 : Int) from by omega) (show (ps_i s 1131 60).toInt + (1 : Int) < 2147483648 from by omega)
    have J9 := mwi_60 (v := ((ps_i s 1131 60) + 1)) J6 (show 0 ≤ ((ps_i s 1131 60) + 1).toInt from by omega) (show ((ps_i s 1131 60) + 1).toInt ≤ 40 from by omega)
    have K10 := kpi K7 (q := 60) (v := ((ps_i s 1131 60) + 1)) rfl
    have a11 : (((ps_i s 1131 60) + 1) - 1).toInt = ((ps_i s 1131 60) + 1).toInt - (1 : Int) := xIs (show -2147483648 ≤ ((ps_i s 1131 60) + 1).toInt - (1 : Int) from by omega) (show ((ps_i s 1131 60) + 1).toInt - (1 : Int) < 2147483648 from by omega)
    exact k (((ps_i s 1131 60) + 1) - 1) _ J9 K10 (show 0 ≤ (((ps_i s 1131 60) + 1) - 1).toInt from by omega) (show (((ps_i s 1131 60) + 1) - 1).toInt ≤ 39 from by omega) (show (ps_i s0 1131 60).toInt ≤ ((ps_i s 1131 60) + 1).toInt from by omega) (show ((ps_i s 1131 60) + 1).toInt ≤ (ps_i s0 1131 60).toInt + 1 from by omega)
  · have f12 : x3.toInt < (ps_i s 1131 60).toInt := xlt h2
    refine ps_nd_i (show pm_in x3 41 = true from xgi (show 0 ≤ x3.toInt from by omega) (show x3.toInt < 41 from by omega)) ?_
    have r13 : 0 ≤ (ps_a s 1165 (Int32.toNatClampNeg x3)).toInt ∧ (ps_a s 1165 (Int32.toNatClampNeg x3)).toInt ≤ 40 := ma_1165 (i := x3) J (show 0 ≤ x3.toInt from by omega) (show x3.toInt < 41 from by omega)
    refine ps_nd_i (show pm_in x3 41 = true from xgi (show 0 ≤ x3.toInt from by omega) (show x3.toInt < 41 from by omega)) ?_
    have r14 : 0 ≤ (ps_a s 1164 (Int32.toNatClampNeg x3)).toInt ∧ (ps_a s 1164 (Int32.toNatClampNeg x3)).toInt ≤ 40 := ma_1164 (i := x3) J (show 0 ≤ x3.toInt from by omega) (show x3.toInt < 41 from by omega)
    have a15 : ((ps_a s 1165 (Int32.toNatClampNeg x3)) - (ps_a s 1164 (Int32.toNatClampNeg x3))).toInt = (ps_a s 1165 (Int32.toNatClampNeg x3)).toInt - (ps_a s 1164 (Int32.toNatClampNeg x3)).toInt := xIs (show -2147483648 ≤ (ps_a s 1165 (Int32.toNatClampNeg x3)).toInt - (ps_a s 1164 (Int32.toNatClampNeg x3)).toInt from by omega) (show (ps_a s 1165 (Int32.toNatClampNeg x3)).toInt - (ps_a s 1164 (Int32.toNatClampNeg x3)).toInt < 2147483648 from by omega)
    have a16 : (x2 - x1).toInt = x2.toInt - x1.toInt := xIs (show -2147483648 ≤ x2.toInt - x1.toInt from by omega) (show x2.toInt - x1.toInt < 2147483648 from by omega)
    refine And.intro (fun h17 => ?_) (fun h17 => ?_)
    · have f18 : ((ps_a s 1165 (Int32.toNatClampNeg x3)) - (ps_a s 1164 (Int32.toNatClampNeg x3))).toInt ≠ (x2 - x1).toInt := xne h17
      have a19 : (x3 + 1).toInt = x3.toInt + (1 : Int) := xIa (show -2147483648 ≤ x3.toInt + (1 : Int) from by omega) (show x3.toInt + (1 : Int) < 2147483648 from by omega)
      exact ih (n - 1) (show n - 1 < n from by omega) (x3 + 1) _ J K (show 0 ≤ x1.toInt from by omega) (show x1.toInt ≤ 39 from by omega) (show x1.toInt ≤ x2.toInt from by omega) (show x2.toInt ≤ 40 from by omega) (show (ps_i s 1131 60).toInt ≤ 39 from by omega) (show (ps_i s0 1131 60).toInt = (ps_i s 1131 60).toInt from by omega) (show 0 ≤ (x3 + 1).toInt from by omega) (show (x3 + 1).toInt ≤ (ps_i s 1131 60).toInt from by omega) (show 50 - (x3 + 1).toInt ≤ ((n - 1 : Nat) : Int) from by omega)
    · have f20 : ((ps_a s 1165 (Int32.toNatClampNeg x3)) - (ps_a s 1164 (Int32.toNatClampNeg x3))).toInt = (x2 - x1).toInt := xeq h17
      refine ps_nd_i (show pm_in x3 41 = true from xgi (show 0 ≤ x3.toInt from by omega) (show x3.toInt < 41 from by omega)) ?_
      refine ms_259 J (show (25748 : Int) % 41 = 0 from by omega) (show 0 ≤ (25748 : Int) from by omega) (show (25748 : Int) < 27306 from by omega) (show (25748 : Int) % 41 = 0 from by omega) (show 0 ≤ (25748 : Int) from by omega) (show (25748 : Int) < 27306 from by omega) (show 0 ≤ x1.toInt from by omega) (show x1.toInt ≤ 41 from by omega) (show 0 ≤ (x2 - x1).toInt from by omega) (show (x2 - x1).toInt ≤ 41 from by omega) (show 0 ≤ (ps_a s 1164 (Int32.toNatClampNeg x3)).toInt from by omega) (show (ps_a s 1164 (Int32.toNatClampNeg x3)).toInt ≤ 41 from by omega) (fun v21 p21_0 b21 => ?_)
      have p21_0' : v21.toInt = 0 ∨ (ps_a s 1164 (Int32.toNatClampNeg x3)).toInt + (x2 - x1).toInt ≤ (ps_a s 1134 (Int32.toNatClampNeg (25748 : Int32))).toInt := p21_0
      have r22 : (25748 : Int) % 41 = 0 → (25748 : Int) < 27306 → 0 ≤ (ps_a s 1134 (Int32.toNatClampNeg (25748 : Int32))).toInt ∧ (ps_a s 1134 (Int32.toNatClampNeg (25748 : Int32))).toInt ≤ 40 := fun z1 z2 => mp_row (i := (25748 : Int32)) J z1 (show 0 ≤ (25748 : Int) from by omega) z2
      refine And.intro (fun h23 => ?_) (fun h23 => ?_)
      · have f24 : v21.toInt = (0 : Int) := xeq h23
        have a25 : (x3 + 1).toInt = x3.toInt + (1 : Int) := xIa (show -2147483648 ≤ x3.toInt + (1 : Int) from by omega) (show x3.toInt + (1 : Int) < 2147483648 from by omega)
        exact ih (n - 1) (show n - 1 < n from by omega) (x3 + 1) _ J K (show 0 ≤ x1.toInt from by omega) (show x1.toInt ≤ 39 from by omega) (show x1.toInt ≤ x2.toInt from by omega) (show x2.toInt ≤ 40 from by omega) (show (ps_i s 1131 60).toInt ≤ 39 from by omega) (show (ps_i s0 1131 60).toInt = (ps_i s 1131 60).toInt from by omega) (show 0 ≤ (x3 + 1).toInt from by omega) (show (x3 + 1).toInt ≤ (ps_i s 1131 60).toInt from by omega) (show 50 - (x3 + 1).toInt ≤ ((n - 1 : Nat) : Int) from by omega)
      · have f26 : v21.toInt ≠ (0 : Int) := xne h23
        exact k x3 _ J K (show 0 ≤ x3.toInt from by omega) (show x3.toInt ≤ 39 from by omega) (show (ps_i s0 1131 60).toInt ≤ (ps_i s 1131 60).toInt from by omega) (show (ps_i s 1131 60).toInt ≤ (ps_i s0 1131 60).toInt + 1 from by omega)

theorem ms_278 {x : Nat → Nat → Nat} {t : Int32} {s : ps_S} {d : Nat} {x1 : Int32} {x2 : Int32} {f : Int32 → ps_S → Prop} (J : mJ x t s) (q0 : 0 ≤ x1.toInt) (q1 : x1.toInt ≤ 39) (q2 : x1.toInt ≤ x2.toInt) (q3 : x2.toInt ≤ 40) (q4 : (ps_i s 1131 60).toInt ≤ 39) (k : ∀ (v : Int32) (s' : ps_S), mJ x t s' → kp [1164, 1165] [60] s s' → (0 ≤ v.toInt) → (v.toInt ≤ 39) → ((ps_i s 1131 60).toInt ≤ (ps_i s' 1131 60).toInt) → ((ps_i s' 1131 60).toInt ≤ (ps_i s 1131 60).toInt + 1) → f v s') : ps_Cl (d + 2) 278 [.ref 1131, .int x1, .int x2] s (ps_rI f) := by
  have r1 := mf_60 J
  have K : kp [1164, 1165] [60] s s := kp_refl
  refine pg_278_0 (d := d + 1) ?_
  exact ms_278_2 (x1 := x1) (x2 := x2) k  (50 - (0 : Int)).toNat (0) _ J K (show 0 ≤ x1.toInt from by omega) (show x1.toInt ≤ 39 from by omega) (show x1.toInt ≤ x2.toInt from by omega) (show x2.toInt ≤ 40 from by omega) (show (ps_i s 1131 60).toInt ≤ 39 from by omega) (show (ps_i s 1131 60).toInt = (ps_i s 1131 60).toInt from by omega) (show 0 ≤ (0 : Int) from by omega) (show (0 : Int) ≤ (ps_i s 1131 60).toInt from by omega) (show 50 - (0 : Int) ≤ (((50 - (0 : Int)).toNat : Nat) : Int) from by omega)

-- ProofBenchModel.layLetters()V
theorem pg_277_0 {d : Nat} {s : ps_S} {Q : Option Value → ps_S → Prop} (h :
  ps_At (d + 1) 277 12 [(0, .ref 1131), (1, .int 0)] [] (ps_ui (ps_ui s 1131 59 0) 1131 60 0) Q) : ps_At (d + 1) 277 0 [(0, .ref 1131)] [] s Q :=
  ps_wp_at (stops := [(12, [0, 1])]) (n := 10) h rfl

theorem pg_277_12 {d : Nat} {x1 : Int32} {s : ps_S} {Q : Option Value → ps_S → Prop} (h :
  ps_Cl d 219 [.ref 1131, .int 25748] s (ps_rI (fun v1 s1 =>
    (v1 ≤ x1 →
      Q none s1) ∧
    (x1 < v1 →
      ps_Cl d 220 [.ref 1131, .int 25748, .int x1] s1 (ps_rI (fun v2 s2 =>
        (3 < v2 →
          ps_Cl d 221 [.ref 1131, .int 25748, .int x1] s2 (ps_rI (fun v3 s3 =>
            ps_Cl d 278 [.ref 1131, .int x1, .int v3] s3 (ps_rI (fun v4 s4 =>
              ps_nd (pm_in (ps_i s3 1131 59) 41) (ps_At (d + 1) 277 12 [(0, .ref 1131), (1, .int v3)] [] (ps_ui (ps_ua s4 1163 (Int32.toNatClampNeg (ps_i s3 1131 59)) ((100 : Int32) + v4)) 1131 59 ((ps_i (ps_ua s4 1163 (Int32.toNatClampNeg (ps_i s3 1131 59)) ((100 : Int32) + v4)) 1131 59) + 1)) Q)))))) ∧
        (v2 ≤ 3 →
          ps_nd (pm_in (ps_i s2 1131 59) 41) (ps_At (d + 1) 277 12 [(0, .ref 1131), (1, .int (x1 + 1))] [] (ps_ui (ps_ua s2 1163 (Int32.toNatClampNeg (ps_i s2 1131 59)) v2) 1131 59 ((ps_i (ps_ua s2 1163 (Int32.toNatClampNeg (ps_i s2 1131 59)) v2) 1131 59) + 1)) Q)))))))) : ps_At (d + 1) 277 12 [(0, .ref 1131), (1, .int x1)] [] s Q :=
  ps_wp_at (stops := [(12, [0, 1])]) (n := 56) h rfl

theorem ms_277_12 {x : Nat → Nat → Nat} {t : Int32} {d : Nat} {s0 : ps_S} {σ : mSig} {l : List Nat} {Q : Option Value → ps_S → Prop} (k : ∀ (s' : ps_S), mJ x t s' → kp [1163, 1164, 1165] [59, 60] s0 s' → (∃ S : List Nat, Md (ps_a s' 1163) (ps_i s' 1131 59).toInt S ∧ S.length ≤ 40 ∧ pw S 1) → Q none s') : ∀ (n : Nat) (x1 : Int32) (l1 : List Nat) (l2 : List Nat) (kk : Nat) (S : List Nat) (s : ps_S), (mJ x t s) → (kp [1163, 1164, 1165] [59, 60] s0 s) → (Sg (ps_a s 1135) (ps_a s 1136) (ps_a s 1138) (ps_a s 1139) (ps_i s 1131 21).toInt σ) → (Rw (ps_a s 1134) (25748 : Int32).toInt l) → (l = l1 ++ l2) → (x1.toInt = (l1.length : Int)) → (ws σ l2 (List.replicate kk true)) → (Md (ps_a s 1163) (ps_i s 1131 59).toInt S) → (∀ m, pw m kk → pw (S ++ m) 1) → ((ps_i s 1131 59).toInt ≤ x1.toInt) → ((ps_i s 1131 60).toInt ≤ (ps_i s 1131 59).toInt) → (x1.toInt ≤ 40) → (0 ≤ x1.toInt) → 41 - x1.toInt ≤ (n : Int) → ps_At (d + 3) 277 12 [(0, .ref 1131), (1, .int x1)] [] s Q := by
  refine xstr (fun n ih => ?_)
  intro x1 l1 l2 kk S s J K hS hR i2 i3 i4 i5 i6 i7 i8 i9 i10 hm
  have r1 := mf_59 J
  have r2 := mf_60 J
  refine pg_277_12 (d := d + 2) ?_
  have hn : (ps_a s 1134 (Int32.toNatClampNeg (25748 : Int32))).toInt = (l.length : Int) := Rw_n hR
  have hl40 := hR.2.2.2.1
  have hl : (l.length : Int) = l1.length + l2.length := by rw [i2]; exact llen
  have i3 : x1.toInt = (l1.length : Int) := i3
  have hMs : Md (ps_a s 1163) (ps_i s 1131 59).toInt S := i5
  have hSl : (ps_i s 1131 59).toInt = (S.length : Int) := i5.1
  refine pg_219_0 ?_
  refine ps_nd_i (show pm_in (25748 : Int32) 27400 = true from xgi (show 0 ≤ (25748 : Int) from by omega) (show (25748 : Int) < 27400 from by omega)) ?_
  have r3 : (25748 : Int) % 41 = 0 → (25748 : Int) < 27306 → 0 ≤ (ps_a s 1134 (Int32.toNatClampNeg (25748 : Int32))).toInt ∧ (ps_a s 1134 (Int32.toNatClampNeg (25748 : Int32))).toInt ≤ 40 := fun z1 z2 => mp_row (i := (25748 : Int32)) J z1 (show 0 ≤ (25748 : Int) from by omega) z2
  refine And.intro (fun h4 => ?_) (fun h4 => ?_)
  · have f5 : (ps_a s 1134 (Int32.toNatClampNeg (25748 : Int32))).toInt ≤ x1.toInt := xle h4
    have e0 := lnil (W := l2) (by omega)
    subst e0
    have ek := LW_0 i4
    subst ek
    have hS1 := i6 [] rfl
    rw [List.append_nil] at hS1
    exact k _ J K (⟨S, i5, by omega, hS1⟩)
  · have f6 : x1.toInt < (ps_a s 1134 (Int32.toNatClampNeg (25748 : Int32))).toInt := xlt h4
    obtain ⟨c, l3, rfl⟩ := lpos (W := l2) (by omega)
    rw [llenc] at hl
    refine pg_220_0 ?_
    have a7 : ((25748 : Int32) + 1).toInt = (25748 : Int) + (1 : Int) := xIa (show -2147483648 ≤ (25748 : Int) + (1 : Int) from by omega) (show (25748 : Int) + (1 : Int) < 2147483648 from by omega)
    have a8 : (((25748 : Int32) + 1) + x1).toInt = ((25748 : Int32) + 1).toInt + x1.toInt := xIa (show -2147483648 ≤ ((25748 : Int32) + 1).toInt + x1.toInt from by omega) (show ((25748 : Int32) + 1).toInt + x1.toInt < 2147483648 from by omega)
    refine ps_nd_i (show pm_in (((25748 : Int32) + 1) + x1) 27400 = true from xgi (show 0 ≤ (((25748 : Int32) + 1) + x1).toInt from by omega) (show (((25748 : Int32) + 1) + x1).toInt < 27400 from by omega)) ?_
    have r9 : (((25748 : Int32) + 1) + x1).toInt % 41 = 0 → (((25748 : Int32) + 1) + x1).toInt < 27306 → 0 ≤ (ps_a s 1134 (Int32.toNatClampNeg (((25748 : Int32) + 1) + x1))).toInt ∧ (ps_a s 1134 (Int32.toNatClampNeg (((25748 : Int32) + 1) + x1))).toInt ≤ 40 := fun z1 z2 => mp_row (i := (((25748 : Int32) + 1) + x1)) J z1 (show 0 ≤ (((25748 : Int32) + 1) + x1).toInt from by omega) z2
    have hp : ((ps_a s 1134 (Int32.toNatClampNeg (((25748 : Int32) + 1) + x1)))).toInt = (c : Int) := Rw_p hR i2 i3
    refine And.intro (fun h10 => ?_) (fun h10 => ?_)
    · have f11 : (3 : Int) < (ps_a s 1134 (Int32.toNatClampNeg (((25748 : Int32) + 1) + x1))).toInt := xlt h10
      obtain ⟨k2, p, q, hk2, hpq, hw1, hw2⟩ := LW_l i4
      subst hk2
      have hpl := ws_le hw1
      rw [List.length_cons, List.length_nil] at hpl
      have hlq : ((c :: l3).length : Int) = p.length + q.length := by rw [hpq]; exact llen
      rw [llenc] at hlq
      refine ms_221 J hS ((show Rw (ps_a s 1134) (25748 : Int32).toInt (l1 ++ (p ++ q)) from by rw [← hpq, ← i2]; exact hR)) (i3) (hw1) (fun v12 p12_0 => ?_)
      have hv : _ := p12_0
      have hv2 : (v12).toInt = (l1.length : Int) + (p.length : Int) := hv
      refine ms_278 J (show 0 ≤ x1.toInt from by omega) (show x1.toInt ≤ 39 from by omega) (show x1.toInt ≤ v12.toInt from by omega) (show v12.toInt ≤ 40 from by omega) (show (ps_i s 1131 60).toInt ≤ 39 from by omega) (fun v13 s13 J13 K13 p13_0 p13_1 p13_2 p13_3 => ?_)
      have K14 := kpt K K13 rfl rfl
      have hS : Sg (ps_a s13 1135) (ps_a s13 1136) (ps_a s13 1138) (ps_a s13 1139) (ps_i s13 1131 21).toInt σ := by rw [show ps_a s13 1135 = ps_a s 1135 from (K13.2 1135 rfl).1, show ps_a s13 1136 = ps_a s 1136 from (K13.2 1136 rfl).1, show ps_a s13 1138 = ps_a s 1138 from (K13.2 1138 rfl).1, show ps_a s13 1139 = ps_a s 1139 from (K13.2 1139 rfl).1, show ps_i s13 1131 21 = ps_i s 1131 21 from kp_i K13 21 rfl]; exact hS
      have hR : Rw (ps_a s13 1134) (25748 : Int32).toInt l := by rw [show ps_a s13 1134 = ps_a s 1134 from (K13.2 1134 rfl).1]; exact hR
      have hMs : Md (ps_a s13 1163) (ps_i s 1131 59).toInt S := by rw [show ps_a s13 1163 = ps_a s 1163 from (K13.2 1163 rfl).1]; exact hMs
      have p13_0' : 0 ≤ v13.toInt := p13_0
      have p13_1' : v13.toInt ≤ 39 := p13_1
      have p13_2' : (ps_i s 1131 60).toInt ≤ (ps_i s13 1131 60).toInt := p13_2
      have r15 := mf_60 J13
      have p13_3' : (ps_i s13 1131 60).toInt ≤ (ps_i s 1131 60).toInt + 1 := p13_3
      have a16 : ((100 : Int32) + v13).toInt = (100 : Int) + v13.toInt := xIa (show -2147483648 ≤ (100 : Int) + v13.toInt from by omega) (show (100 : Int) + v13.toInt < 2147483648 from by omega)
      obtain ⟨sg, hsg⟩ : ∃ sg : Nat, (((100 : Int32) + v13)).toInt = (sg : Int) := ⟨(((100 : Int32) + v13)).toInt.toNat, by omega⟩
      have hsg2 : 100 ≤ sg := by omega
      refine ps_nd_i (show pm_in (ps_i s 1131 59) 41 = true from xgi (show 0 ≤ (ps_i s 1131 59).toInt from by omega) (show (ps_i s 1131 59).toInt < 41 from by omega)) ?_
      have J17 := mwa_1163 (i := (Int32.toNatClampNeg (ps_i s 1131 59))) (v := ((100 : Int32) + v13)) J13 (show 0 ≤ ((100 : Int32) + v13).toInt from by omega) (show ((100 : Int32) + v13).toInt ≤ 140 from by omega)
      have K18 := kpa' K14 (r := 1163) (i := (Int32.toNatClampNeg (ps_i s 1131 59))) (v := ((100 : Int32) + v13)) rfl
      have hnew : ∃ (m1 m2 : List Nat) (k2 : Nat) (S2 : List Nat), l = m1 ++ m2 ∧ (m1.length : Int) = v12.toInt ∧ ws σ m2 (List.replicate k2 true) ∧ Md (ps_a (ps_ua s13 1163 (Int32.toNatClampNeg (ps_i s 1131 59)) ((100 : Int32) + v13)) 1163) ((ps_i s 1131 59).toInt + 1) S2 ∧ (∀ m, pw m k2 → pw (S2 ++ m) 1) := ⟨l1 ++ p, q, k2, S ++ [sg], (by rw [List.append_assoc, ← hpq]; exact i2), (by rw [llen]; omega), hw2, Md_w hMs (by omega) hsg, (by have z := pw_snoc (c := sg) i6 (Or.inr hsg2); rw [if_neg (by omega)] at z; exact z)⟩
      have r19 := mf_59 J13
      have u20 : (ps_i s13 1131 59).toInt = (ps_i s 1131 59).toInt := xeq (kp_i K13 59 rfl)
      have a21 : ((ps_i s13 1131 59) + 1).toInt = (ps_i s13 1131 59).toInt + (1 : Int) := xIa (show -2147483648 ≤ (ps_i s13 1131 59).toInt + (1 : Int) from by omega) (show (ps_i s13 1131 59).toInt + (1 : Int) < 2147483648 from by omega)
      have J22 := mwi_59 (v := ((ps_i s13 1131 59) + 1)) J17 (show 0 ≤ ((ps_i s13 1131 59) + 1).toInt from by omega) (show ((ps_i s13 1131 59) + 1).toInt ≤ 40 from by omega)
      have K23 := kpi K18 (q := 59) (v := ((ps_i s13 1131 59) + 1)) rfl
      obtain ⟨m1, m2, k2, S2, e1, e2, e3, e4, e5⟩ := hnew
      have hl2 : (l.length : Int) = m1.length + m2.length := by rw [e1]; exact llen
      exact ih (n - 1) (show n - 1 < n from by omega) v12 m1 m2 k2 S2 _ J22 K23 hS hR (e1) ((show v12.toInt = (m1.length : Int) from by omega)) (e3) (Md_n e4 (show ((ps_i s13 1131 59) + 1).toInt = (ps_i s 1131 59).toInt + 1 from by omega)) (e5) (show ((ps_i s13 1131 59) + 1).toInt ≤ v12.toInt from by omega) (show (ps_i s13 1131 60).toInt ≤ ((ps_i s13 1131 59) + 1).toInt from by omega) (show v12.toInt ≤ 40 from by omega) (show 0 ≤ v12.toInt from by omega) (show 41 - v12.toInt ≤ ((n - 1 : Nat) : Int) from by omega)
    · have f24 : (ps_a s 1134 (Int32.toNatClampNeg (((25748 : Int32) + 1) + x1))).toInt ≤ (3 : Int) := xle h10
      refine ps_nd_i (show pm_in (ps_i s 1131 59) 41 = true from xgi (show 0 ≤ (ps_i s 1131 59).toInt from by omega) (show (ps_i s 1131 59).toInt < 41 from by omega)) ?_
      have J25 := mwa_1163 (i := (Int32.toNatClampNeg (ps_i s 1131 59))) (v := (ps_a s 1134 (Int32.toNatClampNeg (((25748 : Int32) + 1) + x1)))) J (show 0 ≤ (ps_a s 1134 (Int32.toNatClampNeg (((25748 : Int32) + 1) + x1))).toInt from by omega) (show (ps_a s 1134 (Int32.toNatClampNeg (((25748 : Int32) + 1) + x1))).toInt ≤ 140 from by omega)
      have K26 := kpa' K (r := 1163) (i := (Int32.toNatClampNeg (ps_i s 1131 59))) (v := (ps_a s 1134 (Int32.toNatClampNeg (((25748 : Int32) + 1) + x1)))) rfl
      obtain ⟨k2, hk2, hw2⟩ := LW_c i4 (by omega)
      subst hk2
      have hnew : ∃ (m1 m2 : List Nat) (k2 : Nat) (S2 : List Nat), l = m1 ++ m2 ∧ (m1.length : Int) = x1.toInt + 1 ∧ ws σ m2 (List.replicate k2 true) ∧ Md (ps_a (ps_ua s 1163 (Int32.toNatClampNeg (ps_i s 1131 59)) (ps_a s 1134 (Int32.toNatClampNeg (((25748 : Int32) + 1) + x1)))) 1163) ((ps_i s 1131 59).toInt + 1) S2 ∧ (∀ m, pw m k2 → pw (S2 ++ m) 1) := ⟨l1 ++ [c], l3, _, S ++ [c], i2.trans (lcat l1 c l3), (by rw [l1c]; omega), hw2, Md_w hMs (by omega) hp, pw_snoc i6 (Or.inl (by omega))⟩
      have a27 : (x1 + 1).toInt = x1.toInt + (1 : Int) := xIa (show -2147483648 ≤ x1.toInt + (1 : Int) from by omega) (show x1.toInt + (1 : Int) < 2147483648 from by omega)
      have a28 : ((ps_i s 1131 59) + 1).toInt = (ps_i s 1131 59).toInt + (1 : Int) := xIa (show -2147483648 ≤ (ps_i s 1131 59).toInt + (1 : Int) from by omega) (show (ps_i s 1131 59).toInt + (1 : Int) < 2147483648 from by omega)
      have J29 := mwi_59 (v := ((ps_i s 1131 59) + 1)) J25 (show 0 ≤ ((ps_i s 1131 59) + 1).toInt from by omega) (show ((ps_i s 1131 59) + 1).toInt ≤ 40 from by omega)
      have K30 := kpi K26 (q := 59) (v := ((ps_i s 1131 59) + 1)) rfl
      obtain ⟨m1, m2, k2, S2, e1, e2, e3, e4, e5⟩ := hnew
      have hl2 : (l.length : Int) = m1.length + m2.length := by rw [e1]; exact llen
      exact ih (n - 1) (show n - 1 < n from by omega) (x1 + 1) m1 m2 k2 S2 _ J29 K30 hS hR (e1) ((show (x1 + 1).toInt = (m1.length : Int) from by omega)) (e3) (Md_n e4 (show ((ps_i s 1131 59) + 1).toInt = (ps_i s 1131 59).toInt + 1 from by omega)) (e5) (show ((ps_i s 1131 59) + 1).toInt ≤ (x1 + 1).toInt from by omega) (show (ps_i s 1131 60).toInt ≤ ((ps_i s 1131 59) + 1).toInt from by omega) (show (x1 + 1).toInt ≤ 40 from by omega) (show 0 ≤ (x1 + 1).toInt from by omega) (show 41 - (x1 + 1).toInt ≤ ((n - 1 : Nat) : Int) from by omega)

theorem ms_277 {x : Nat → Nat → Nat} {t : Int32} {s : ps_S} {d : Nat} {f : ps_S → Prop} (J : mJ x t s) {σ : mSig} {l : List Nat} (hS : Sg (ps_a s 1135) (ps_a s 1136) (ps_a s 1138) (ps_a s 1139) (ps_i s 1131 21).toInt σ) (hR : Rw (ps_a s 1134) (25748 : Int32).toInt l) (q2 : ws σ l [true]) (k : ∀ (s' : ps_S), mJ x t s' → kp [1163, 1164, 1165] [59, 60] s s' → (∃ S : List Nat, Md (ps_a s' 1163) (ps_i s' 1131 59).toInt S ∧ S.length ≤ 40 ∧ pw S 1) → f s') : ps_Cl (d + 3) 277 [.ref 1131] s (ps_rV f) := by
  have K : kp [1163, 1164, 1165] [59, 60] s s := kp_refl
  refine pg_277_0 (d := d + 2) ?_
  have J1 := mwi_59 (v := (0 : Int32)) J (show 0 ≤ (0 : Int) from by omega) (show (0 : Int) ≤ 40 from by omega)
  have K2 := kpi K (q := 59) (v := (0 : Int32)) rfl
  have J3 := mwi_60 (v := (0 : Int32)) J1 (show 0 ≤ (0 : Int) from by omega) (show (0 : Int) ≤ 40 from by omega)
  have K4 := kpi K2 (q := 60) (v := (0 : Int32)) rfl
  exact ms_277_12 (σ := σ) (l := l) k  (41 - (0 : Int)).toNat (0) [] l 1 [] _ J3 K4 hS hR (rfl) ((by rw [Int32.toInt_zero]; rfl)) (q2) (Md_nil (by rfl)) ((fun m hm => hm)) (show (0 : Int) ≤ (0 : Int) from by omega) (show (0 : Int) ≤ (0 : Int) from by omega) (show (0 : Int) ≤ 40 from by omega) (show 0 ≤ (0 : Int) from by omega) (show 41 - (0 : Int) ≤ (((41 - (0 : Int)).toNat : Nat) : Int) from by omega)
