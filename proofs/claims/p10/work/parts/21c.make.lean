set_option maxRecDepth 100000
-- ProofBenchModel.makeRow(I)V
theorem pg_227_0 {d : Nat} {x1 : Int32} {s : ps_S} {Q : Option Value → ps_S → Prop} (h :
  ps_Cl d 219 [.ref 1131, .int x1] s (ps_rI (fun v1 s1 =>
    ps_Cl d 226 [.ref 1131, .int x1, .int 0, .int v1] s1 (ps_rV (fun s2 =>
      Q none s2))))) : ps_At (d + 1) 227 0 [(0, .ref 1131), (1, .int x1)] [] s Q :=
  ps_wp_at (stops := []) (n := 10) h rfl

theorem ms_227 {x : Nat → Nat → Nat} {t : Int32} {s : ps_S} {d : Nat} {x1 : Int32} {f : ps_S → Prop} (J : mJ x t s) {l ml : List Nat} (hR : Rw (ps_a s 1134) x1.toInt l) (hM : Md (ps_a s 1149) (ps_i s 1131 34).toInt ml) (q2 : ml.length + l.length ≤ 90000) (k : ∀ (s' : ps_S), mJ x t s' → kp [1149] [34] s s' → (Md (ps_a s' 1149) (ps_i s' 1131 34).toInt (ml ++ l)) → f s') : ps_Cl (d + 2) 227 [.ref 1131, .int x1] s (ps_rV f) := by
  have K : kp [1149] [34] s s := kp_refl
  refine pg_227_0 (d := d + 1) ?_
  obtain ⟨hr1, hr2, hr3, hr4, hr5, hr6⟩ := id hR
  have hr1 : x1.toInt % 41 = 0 := hr1
  have hr2 : 0 ≤ x1.toInt := hr2
  have hr3 : x1.toInt < 27306 := hr3
  refine pg_219_0 ?_
  refine ps_nd_i (show pm_in x1 27400 = true from xgi (show 0 ≤ x1.toInt from by omega) (show x1.toInt < 27400 from by omega)) ?_
  have r1 : x1.toInt % 41 = 0 → x1.toInt < 27306 → 0 ≤ (ps_a s 1134 (Int32.toNatClampNeg x1)).toInt ∧ (ps_a s 1134 (Int32.toNatClampNeg x1)).toInt ≤ 40 := fun z1 z2 => mp_row (i := x1) J z1 (show 0 ≤ x1.toInt from by omega) z2
  refine ms_226 J ((show Rw (ps_a s 1134) (x1).toInt ([] ++ (l ++ [])) from by rw [List.append_nil]; exact hR)) hM (rfl) ((Or.inl ((Rw_n hR).trans (by simp)))) (q2) (fun s2 J2 K2 p2_0 => ?_)
  have K3 := kpt K K2 rfl rfl
  have hR : Rw (ps_a s2 1134) x1.toInt l := by rw [show ps_a s2 1134 = ps_a s 1134 from (K2.2 1134 rfl).1]; exact hR
  exact k _ J2 K3 (by assumption)

-- ProofBenchModel.keepMade(I)V
theorem pg_229_0 {d : Nat} {x1 : Int32} {s : ps_S} {Q : Option Value → ps_S → Prop} (h :
  ps_nd (pm_in x1 27400) (ps_At d 229 12 [(0, .ref 1131), (1, .int x1), (2, .int 0)] [] (ps_ua s 1134 (Int32.toNatClampNeg x1) (ps_i s 1131 34)) Q)) : ps_At d 229 0 [(0, .ref 1131), (1, .int x1)] [] s Q :=
  ps_wp_at (stops := [(12, [0, 1, 2])]) (n := 10) h rfl

theorem pg_229_12 {d : Nat} {x1 : Int32} {x2 : Int32} {s : ps_S} {Q : Option Value → ps_S → Prop} (h :
  ((ps_i s 1131 34) ≤ x2 →
    Q none s) ∧
  (x2 < (ps_i s 1131 34) →
    ps_nd (pm_in x2 260) (ps_nd (pm_in ((x1 + 1) + x2) 27400) (ps_At d 229 12 [(0, .ref 1131), (1, .int x1), (2, .int (x2 + 1))] [] (ps_ua s 1134 (Int32.toNatClampNeg ((x1 + 1) + x2)) (ps_a s 1149 (Int32.toNatClampNeg x2))) Q)))) : ps_At d 229 12 [(0, .ref 1131), (1, .int x1), (2, .int x2)] [] s Q :=
  ps_wp_at (stops := [(12, [0, 1, 2])]) (n := 21) h rfl

theorem ms_229_12 {x : Nat → Nat → Nat} {t : Int32} {d : Nat} {s0 : ps_S} {ml : List Nat} {x1 : Int32} {Q : Option Value → ps_S → Prop} (k : ∀ (s' : ps_S), mJ x t s' → kp [1134] [] s0 s' → (Rw (ps_a s' 1134) x1.toInt ml) → (∀ i : Nat, (i : Int) < x1.toInt ∨ x1.toInt + 41 ≤ (i : Int) → ps_a s' 1134 i = ps_a s0 1134 i) → Q none s') : ∀ (n : Nat) (x2 : Int32) (s : ps_S), (mJ x t s) → (kp [1134] [] s0 s) → (x1.toInt % 41 = 0) → (0 ≤ x1.toInt) → (x1.toInt < 27306) → (Md (ps_a s 1149) (ps_i s 1131 34).toInt ml) → (ml.length ≤ 40) → (0 ≤ x2.toInt) → (x2.toInt ≤ 40) → ((ps_a s 1134 (x1.toInt).toNat).toInt = (ml.length : Int)) → (∀ i : Nat, (i : Int) < x1.toInt ∨ x1.toInt + 41 ≤ (i : Int) → ps_a s 1134 i = ps_a s0 1134 i) → (∀ j : Nat, (j : Int) < x2.toInt → ps_a s 1134 ((x1.toInt).toNat + 1 + j) = ps_a s 1149 j) → 50 - x2.toInt ≤ (n : Int) → ps_At d 229 12 [(0, .ref 1131), (1, .int x1), (2, .int x2)] [] s Q := by
  refine xstr (fun n ih => ?_)
  intro x2 s J K i0 i1 i2 hM i4 i5 i6 i7 i8 i9 hm
  refine pg_229_12 ?_
  have h34 := hM.1
  have r1 := mf_34 J
  refine And.intro (fun h2 => ?_) (fun h2 => ?_)
  · have f3 : (ps_i s 1131 34).toInt ≤ x2.toInt := xle h2
    exact k _ J K (Rw_made hM i4 i0 i1 i2 i7 (fun j hj => i9 j (by omega))) (i8)
  · have f4 : x2.toInt < (ps_i s 1131 34).toInt := xlt h2
    have a1 : (x1 + 1).toInt = x1.toInt + (1 : Int) := xIa (show -2147483648 ≤ x1.toInt + (1 : Int) from by omega) (show x1.toInt + (1 : Int) < 2147483648 from by omega)
    have a2 : ((x1 + 1) + x2).toInt = (x1 + 1).toInt + x2.toInt := xIa (by omega) (by omega)
    have e2 : Int32.toNatClampNeg ((x1 + 1) + x2) = x1.toInt.toNat + 1 + x2.toInt.toNat := by show ((x1 + 1) + x2).toInt.toNat = _; omega
    have a5 : (x1 + 1).toInt = x1.toInt + (1 : Int) := xIa (show -2147483648 ≤ x1.toInt + (1 : Int) from by omega) (show x1.toInt + (1 : Int) < 2147483648 from by omega)
    have a6 : ((x1 + 1) + x2).toInt = (x1 + 1).toInt + x2.toInt := xIa (show -2147483648 ≤ (x1 + 1).toInt + x2.toInt from by omega) (show (x1 + 1).toInt + x2.toInt < 2147483648 from by omega)
    refine ps_nd_i (show pm_in x2 260 = true from xgi (show 0 ≤ x2.toInt from by omega) (show x2.toInt < 260 from by omega)) ?_
    refine ps_nd_i (show pm_in ((x1 + 1) + x2) 27400 = true from xgi (show 0 ≤ ((x1 + 1) + x2).toInt from by omega) (show ((x1 + 1) + x2).toInt < 27400 from by omega)) ?_
    have J7 := mw_p (i := ((x1 + 1) + x2)) (v := (ps_a s 1149 (Int32.toNatClampNeg x2))) J (show ((x1 + 1) + x2).toInt % 41 = 0 → 0 ≤ (ps_a s 1149 (Int32.toNatClampNeg x2)).toInt ∧ (ps_a s 1149 (Int32.toNatClampNeg x2)).toInt ≤ 40 from by omega) (show 0 ≤ ((x1 + 1) + x2).toInt from by omega)
    have K8 := kpa' K (r := 1134) (i := (Int32.toNatClampNeg ((x1 + 1) + x2))) (v := (ps_a s 1149 (Int32.toNatClampNeg x2))) rfl
    have a9 : (x2 + 1).toInt = x2.toInt + (1 : Int) := xIa (show -2147483648 ≤ x2.toInt + (1 : Int) from by omega) (show x2.toInt + (1 : Int) < 2147483648 from by omega)
    exact ih (n - 1) (show n - 1 < n from by omega) (x2 + 1) _ J7 K8 (show x1.toInt % 41 = 0 from by omega) (show 0 ≤ x1.toInt from by omega) (show x1.toInt < 27306 from by omega) hM (by assumption) (show 0 ≤ (x2 + 1).toInt from by omega) (show (x2 + 1).toInt ≤ 40 from by omega) ((by rw [ua_ne (by omega)]; exact i7)) (fun i hi => (ua_ne (by omega)).trans (i8 i hi)) (fun j hj => by
      have hj : (j : Int) < ((x2 + 1)).toInt := hj
      by_cases e : j = (x2.toInt).toNat
      · rw [e, ← e2, ua_eq]; rfl
      · exact (ua_ne (by omega)).trans (i9 j (by omega))) (show 50 - (x2 + 1).toInt ≤ ((n - 1 : Nat) : Int) from by omega)

theorem ms_229 {x : Nat → Nat → Nat} {t : Int32} {s : ps_S} {d : Nat} {x1 : Int32} {f : ps_S → Prop} (J : mJ x t s) {ml : List Nat} (hM : Md (ps_a s 1149) (ps_i s 1131 34).toInt ml) (q1 : x1.toInt % 41 = 0) (q2 : 0 ≤ x1.toInt) (q3 : x1.toInt < 27306) (q4 : ml.length ≤ 40) (k : ∀ (s' : ps_S), mJ x t s' → kp [1134] [] s s' → (Rw (ps_a s' 1134) x1.toInt ml) → (∀ i : Nat, (i : Int) < x1.toInt ∨ x1.toInt + 41 ≤ (i : Int) → ps_a s' 1134 i = ps_a s 1134 i) → f s') : ps_Cl d 229 [.ref 1131, .int x1] s (ps_rV f) := by
  have K : kp [1134] [] s s := kp_refl
  refine pg_229_0 ?_
  have ex : Int32.toNatClampNeg x1 = x1.toInt.toNat := rfl
  have h34 := hM.1
  have r1 := mf_34 J
  refine ps_nd_i (show pm_in x1 27400 = true from xgi (show 0 ≤ x1.toInt from by omega) (show x1.toInt < 27400 from by omega)) ?_
  have J2 := mw_p (i := x1) (v := (ps_i s 1131 34)) J (show x1.toInt % 41 = 0 → 0 ≤ (ps_i s 1131 34).toInt ∧ (ps_i s 1131 34).toInt ≤ 40 from by omega) (show 0 ≤ x1.toInt from by omega)
  have K3 := kpa' K (r := 1134) (i := (Int32.toNatClampNeg x1)) (v := (ps_i s 1131 34)) rfl
  exact ms_229_12 (x1 := x1) (ml := ml) k  (50 - (0 : Int)).toNat (0) _ J2 K3 (show x1.toInt % 41 = 0 from by omega) (show 0 ≤ x1.toInt from by omega) (show x1.toInt < 27306 from by omega) hM (q4) (show 0 ≤ (0 : Int) from by omega) (show (0 : Int) ≤ 40 from by omega) ((show (ps_a (ps_ua s 1134 (Int32.toNatClampNeg x1) (ps_i s 1131 34)) 1134 (Int32.toNatClampNeg x1)).toInt = (ml.length : Int) from by rw [ua_eq]; exact hM.1)) (fun i hi => ua_ne (by omega)) (fun j hj => absurd hj (by rw [Int32.toInt_zero]; omega)) (show 50 - (0 : Int) ≤ (((50 - (0 : Int)).toNat : Nat) : Int) from by omega)
