set_option maxRecDepth 100000
-- ProofBenchModel.isFree(II)Z
theorem pg_223_0 {d : Nat} {x1 : Int32} {x2 : Int32} {s : ps_S} {Q : Option Value → ps_S → Prop} (h :
  ps_At (d + 1) 223 2 [(0, .ref 1131), (1, .int x1), (2, .int x2), (3, .int 0)] [] s Q) : ps_At (d + 1) 223 0 [(0, .ref 1131), (1, .int x1), (2, .int x2)] [] s Q :=
  ps_wp_at (stops := [(2, [0, 1, 2, 3])]) (n := 4) h rfl

theorem pg_223_2 {d : Nat} {x1 : Int32} {x2 : Int32} {x3 : Int32} {s : ps_S} {Q : Option Value → ps_S → Prop} (h :
  ps_Cl d 219 [.ref 1131, .int x1] s (ps_rI (fun v1 s1 =>
    (v1 ≤ x3 →
      Q (some (.int 0)) s1) ∧
    (x3 < v1 →
      ps_Cl d 220 [.ref 1131, .int x1, .int x3] s1 (ps_rI (fun v2 s2 =>
        (v2 ≠ ((60 : Int32) + x2) →
          ps_At (d + 1) 223 2 [(0, .ref 1131), (1, .int x1), (2, .int x2), (3, .int (x3 + 1))] [] s2 Q) ∧
        (v2 = ((60 : Int32) + x2) →
          Q (some (.int 1)) s2))))))) : ps_At (d + 1) 223 2 [(0, .ref 1131), (1, .int x1), (2, .int x2), (3, .int x3)] [] s Q :=
  ps_wp_at (stops := [(2, [0, 1, 2, 3])]) (n := 21) h rfl

theorem ms_223_2 {x : Nat → Nat → Nat} {t : Int32} {d : Nat} {s : ps_S} {l : List Nat} {x1 : Int32} {x2 : Int32} {Q : Option Value → ps_S → Prop} (k : ∀ (v : Int32), (v.toInt = 0 → ∀ p : Nat, p ∈ l → (p : Int) ≠ 60 + x2.toInt) → v &&& 1 = v → Q (some (.int v)) s) : ∀ (n : Nat) (x3 : Int32) (l1 : List Nat) (l2 : List Nat), (mJ x t s) → (Rw (ps_a s 1134) x1.toInt l) → (0 ≤ x2.toInt) → (x2.toInt ≤ 11) → (l = l1 ++ l2) → (x3.toInt = (l1.length : Int)) → (∀ p : Nat, p ∈ l1 → (p : Int) ≠ 60 + x2.toInt) → (l2.length : Int) ≤ (n : Int) → ps_At (d + 1) 223 2 [(0, .ref 1131), (1, .int x1), (2, .int x2), (3, .int x3)] [] s Q := by
  refine xstr (fun n ih => ?_)
  intro x3 l1 l2 J hR i1 i2 i3 i4 i5 hm
  refine pg_223_2 (d := d) ?_
  obtain ⟨hr1, hr2, hr3, hr4, hr5, hr6⟩ := id hR
  have hr1 : x1.toInt % 41 = 0 := hr1
  have hr2 : 0 ≤ x1.toInt := hr2
  have hr3 : x1.toInt < 27306 := hr3
  have hn : (ps_a s 1134 (Int32.toNatClampNeg x1)).toInt = (l.length : Int) := Rw_n hR
  have i4 : x3.toInt = (l1.length : Int) := i4
  have hl : (l.length : Int) = l1.length + l2.length := by rw [i3]; exact llen
  refine pg_219_0 ?_
  refine ps_nd_i (show pm_in x1 27400 = true from xgi (show 0 ≤ x1.toInt from by omega) (show x1.toInt < 27400 from by omega)) ?_
  have r1 : x1.toInt % 41 = 0 → x1.toInt < 27306 → 0 ≤ (ps_a s 1134 (Int32.toNatClampNeg x1)).toInt ∧ (ps_a s 1134 (Int32.toNatClampNeg x1)).toInt ≤ 40 := fun z1 z2 => mp_row (i := x1) J z1 (show 0 ≤ x1.toInt from by omega) z2
  refine And.intro (fun h2 => ?_) (fun h2 => ?_)
  · have f3 : (ps_a s 1134 (Int32.toNatClampNeg x1)).toInt ≤ x3.toInt := xle h2
    have e0 := lnil (W := l2) (by omega)
    subst e0
    rw [List.append_nil] at i3
    subst i3
    exact k (0 : Int32) (fun _ => i5) (by decide)
  · have f4 : x3.toInt < (ps_a s 1134 (Int32.toNatClampNeg x1)).toInt := xlt h2
    obtain ⟨c, l3, rfl⟩ := lpos (W := l2) (by omega)
    rw [llenc] at hl hm
    refine pg_220_0 ?_
    have a5 : (x1 + 1).toInt = x1.toInt + (1 : Int) := xIa (show -2147483648 ≤ x1.toInt + (1 : Int) from by omega) (show x1.toInt + (1 : Int) < 2147483648 from by omega)
    have a6 : ((x1 + 1) + x3).toInt = (x1 + 1).toInt + x3.toInt := xIa (show -2147483648 ≤ (x1 + 1).toInt + x3.toInt from by omega) (show (x1 + 1).toInt + x3.toInt < 2147483648 from by omega)
    refine ps_nd_i (show pm_in ((x1 + 1) + x3) 27400 = true from xgi (show 0 ≤ ((x1 + 1) + x3).toInt from by omega) (show ((x1 + 1) + x3).toInt < 27400 from by omega)) ?_
    have r7 : ((x1 + 1) + x3).toInt % 41 = 0 → ((x1 + 1) + x3).toInt < 27306 → 0 ≤ (ps_a s 1134 (Int32.toNatClampNeg ((x1 + 1) + x3))).toInt ∧ (ps_a s 1134 (Int32.toNatClampNeg ((x1 + 1) + x3))).toInt ≤ 40 := fun z1 z2 => mp_row (i := ((x1 + 1) + x3)) J z1 (show 0 ≤ ((x1 + 1) + x3).toInt from by omega) z2
    have hp : ((ps_a s 1134 (Int32.toNatClampNeg ((x1 + 1) + x3)))).toInt = (c : Int) := Rw_p hR i3 i4
    have a8 : ((60 : Int32) + x2).toInt = (60 : Int) + x2.toInt := xIa (show -2147483648 ≤ (60 : Int) + x2.toInt from by omega) (show (60 : Int) + x2.toInt < 2147483648 from by omega)
    refine And.intro (fun h9 => ?_) (fun h9 => ?_)
    · have f10 : (ps_a s 1134 (Int32.toNatClampNeg ((x1 + 1) + x3))).toInt ≠ ((60 : Int32) + x2).toInt := xne h9
      have a11 : (x3 + 1).toInt = x3.toInt + (1 : Int) := xIa (show -2147483648 ≤ x3.toInt + (1 : Int) from by omega) (show x3.toInt + (1 : Int) < 2147483648 from by omega)
      exact ih (n - 1) (show n - 1 < n from by omega) (x3 + 1) (l1 ++ [c]) l3 J hR (show 0 ≤ x2.toInt from by omega) (show x2.toInt ≤ 11 from by omega) (i3.trans (lcat l1 c l3)) ((show ((x3 + 1)).toInt = ((l1 ++ [c]).length : Int) from by rw [l1c]; omega)) (fun p hp2 => (List.mem_append.mp hp2).elim (i5 p) (fun h => by rw [List.mem_singleton] at h; rw [h]; omega)) (show (l3.length : Int) ≤ ((n - 1 : Nat) : Int) from by omega)
    · have f12 : (ps_a s 1134 (Int32.toNatClampNeg ((x1 + 1) + x3))).toInt = ((60 : Int32) + x2).toInt := xeq h9
      exact k (1 : Int32) (fun z => absurd z (by decide)) (by decide)

theorem ms_223 {x : Nat → Nat → Nat} {t : Int32} {s : ps_S} {d : Nat} {x1 : Int32} {x2 : Int32} {f : Int32 → ps_S → Prop} (J : mJ x t s) {l : List Nat} (hR : Rw (ps_a s 1134) x1.toInt l) (q1 : 0 ≤ x2.toInt) (q2 : x2.toInt ≤ 11) (k : ∀ (v : Int32), (v.toInt = 0 → ∀ p : Nat, p ∈ l → (p : Int) ≠ 60 + x2.toInt) → v &&& 1 = v → f v s) : ps_Cl (d + 1) 223 [.ref 1131, .int x1, .int x2] s (ps_rI f) := by
  refine pg_223_0 (d := d) ?_
  exact ms_223_2 (x1 := x1) (x2 := x2) (l := l) k  ((l.length : Int)).toNat (0) [] l J hR (show 0 ≤ x2.toInt from by omega) (show x2.toInt ≤ 11 from by omega) (rfl) (rfl) ((fun p hp => by cases hp)) (show (l.length : Int) ≤ ((((l.length : Int)).toNat : Nat) : Int) from by omega)

-- ProofBenchModel.copyRow(II)V
theorem pg_224_0 {d : Nat} {x1 : Int32} {x2 : Int32} {s : ps_S} {Q : Option Value → ps_S → Prop} (h :
  ps_At d 224 2 [(0, .ref 1131), (1, .int x1), (2, .int x2), (3, .int 0)] [] s Q) : ps_At d 224 0 [(0, .ref 1131), (1, .int x1), (2, .int x2)] [] s Q :=
  ps_wp_at (stops := [(2, [0, 1, 2, 3])]) (n := 4) h rfl

theorem pg_224_2 {d : Nat} {x1 : Int32} {x2 : Int32} {x3 : Int32} {s : ps_S} {Q : Option Value → ps_S → Prop} (h :
  ps_nd (pm_in x1 27400) (((ps_a s 1134 (Int32.toNatClampNeg x1)) < x3 →
    Q none s) ∧
  (x3 ≤ (ps_a s 1134 (Int32.toNatClampNeg x1)) →
    ps_nd (pm_in (x1 + x3) 27400) (ps_nd (pm_in (x2 + x3) 27400) (ps_At d 224 2 [(0, .ref 1131), (1, .int x1), (2, .int x2), (3, .int (x3 + 1))] [] (ps_ua s 1134 (Int32.toNatClampNeg (x2 + x3)) (ps_a s 1134 (Int32.toNatClampNeg (x1 + x3)))) Q))))) : ps_At d 224 2 [(0, .ref 1131), (1, .int x1), (2, .int x2), (3, .int x3)] [] s Q :=
  ps_wp_at (stops := [(2, [0, 1, 2, 3])]) (n := 23) h rfl

theorem ms_224_2 {x : Nat → Nat → Nat} {t : Int32} {d : Nat} {s0 : ps_S} {l : List Nat} {x1 : Int32} {x2 : Int32} {Q : Option Value → ps_S → Prop} (k : ∀ (s' : ps_S), mJ x t s' → kp [1134] [] s0 s' → (Rw (ps_a s' 1134) x2.toInt l) → (∀ i : Nat, (i : Int) < x2.toInt ∨ x2.toInt + 41 ≤ (i : Int) → ps_a s' 1134 i = ps_a s0 1134 i) → Q none s') : ∀ (n : Nat) (x3 : Int32) (s : ps_S), (mJ x t s) → (kp [1134] [] s0 s) → (Rw (ps_a s0 1134) x1.toInt l) → (x2.toInt % 41 = 0) → (0 ≤ x2.toInt) → (x2.toInt < 27306) → (x1.toInt ≠ x2.toInt) → (0 ≤ x3.toInt) → (x3.toInt ≤ 41) → (∀ i : Nat, (i : Int) < x2.toInt ∨ x2.toInt + 41 ≤ (i : Int) → ps_a s 1134 i = ps_a s0 1134 i) → (∀ j : Nat, (j : Int) < x3.toInt → ps_a s 1134 (x2.toInt.toNat + j) = ps_a s0 1134 (x1.toInt.toNat + j)) → 50 - x3.toInt ≤ (n : Int) → ps_At d 224 2 [(0, .ref 1131), (1, .int x1), (2, .int x2), (3, .int x3)] [] s Q := by
  refine xstr (fun n ih => ?_)
  intro x3 s J K i0 i1 i2 i3 i4 i5 i6 i7 i8 hm
  refine pg_224_2 ?_
  obtain ⟨hr1, hr2, hr3, hr4, hr5, hr6⟩ := id i0
  have hr1 : x1.toInt % 41 = 0 := hr1
  have hr2 : 0 ≤ x1.toInt := hr2
  have hr3 : x1.toInt < 27306 := hr3
  have e0 : ps_a s 1134 x1.toInt.toNat = ps_a s0 1134 x1.toInt.toNat := i7 _ (by omega)
  have hn : (ps_a s 1134 (Int32.toNatClampNeg x1)).toInt = (l.length : Int) := (congrArg Int32.toInt e0).trans hr5
  refine ps_nd_i (show pm_in x1 27400 = true from xgi (show 0 ≤ x1.toInt from by omega) (show x1.toInt < 27400 from by omega)) ?_
  have r1 : x1.toInt % 41 = 0 → x1.toInt < 27306 → 0 ≤ (ps_a s 1134 (Int32.toNatClampNeg x1)).toInt ∧ (ps_a s 1134 (Int32.toNatClampNeg x1)).toInt ≤ 40 := fun z1 z2 => mp_row (i := x1) J z1 (show 0 ≤ x1.toInt from by omega) z2
  refine And.intro (fun h2 => ?_) (fun h2 => ?_)
  · have f3 : (ps_a s 1134 (Int32.toNatClampNeg x1)).toInt < x3.toInt := xlt h2
    exact k _ J K (Rw_copy i0 (show x2.toInt % 41 = 0 from by omega) (show 0 ≤ x2.toInt from by omega) (show x2.toInt < 27306 from by omega) (fun j hj => i8 j (by omega))) (i7)
  · have f4 : x3.toInt ≤ (ps_a s 1134 (Int32.toNatClampNeg x1)).toInt := xle h2
    have a1 : (x1 + x3).toInt = x1.toInt + x3.toInt := xIa (by omega) (by omega)
    have a2 : (x2 + x3).toInt = x2.toInt + x3.toInt := xIa (by omega) (by omega)
    have e1 : ps_a s 1134 (Int32.toNatClampNeg (x1 + x3)) = ps_a s0 1134 (x1.toInt.toNat + x3.toInt.toNat) := (i7 _ (by show ((((x1 + x3).toInt.toNat : Nat) : Int) < x2.toInt) ∨ x2.toInt + 41 ≤ ((((x1 + x3).toInt.toNat : Nat) : Int)); omega)).trans (by show ps_a s0 1134 ((x1 + x3).toInt.toNat) = _; rw [show (x1 + x3).toInt.toNat = x1.toInt.toNat + x3.toInt.toNat from by omega])
    have e2 : Int32.toNatClampNeg (x2 + x3) = x2.toInt.toNat + x3.toInt.toNat := by show (x2 + x3).toInt.toNat = _; omega
    have a5 : (x2 + x3).toInt = x2.toInt + x3.toInt := xIa (show -2147483648 ≤ x2.toInt + x3.toInt from by omega) (show x2.toInt + x3.toInt < 2147483648 from by omega)
    have a6 : (x1 + x3).toInt = x1.toInt + x3.toInt := xIa (show -2147483648 ≤ x1.toInt + x3.toInt from by omega) (show x1.toInt + x3.toInt < 2147483648 from by omega)
    refine ps_nd_i (show pm_in (x1 + x3) 27400 = true from xgi (show 0 ≤ (x1 + x3).toInt from by omega) (show (x1 + x3).toInt < 27400 from by omega)) ?_
    have r7 : (x1 + x3).toInt % 41 = 0 → (x1 + x3).toInt < 27306 → 0 ≤ (ps_a s 1134 (Int32.toNatClampNeg (x1 + x3))).toInt ∧ (ps_a s 1134 (Int32.toNatClampNeg (x1 + x3))).toInt ≤ 40 := fun z1 z2 => mp_row (i := (x1 + x3)) J z1 (show 0 ≤ (x1 + x3).toInt from by omega) z2
    refine ps_nd_i (show pm_in (x2 + x3) 27400 = true from xgi (show 0 ≤ (x2 + x3).toInt from by omega) (show (x2 + x3).toInt < 27400 from by omega)) ?_
    have J8 := mw_p (i := (x2 + x3)) (v := (ps_a s 1134 (Int32.toNatClampNeg (x1 + x3)))) J (show (x2 + x3).toInt % 41 = 0 → 0 ≤ (ps_a s 1134 (Int32.toNatClampNeg (x1 + x3))).toInt ∧ (ps_a s 1134 (Int32.toNatClampNeg (x1 + x3))).toInt ≤ 40 from by omega) (show 0 ≤ (x2 + x3).toInt from by omega)
    have K9 := kpa' K (r := 1134) (i := (Int32.toNatClampNeg (x2 + x3))) (v := (ps_a s 1134 (Int32.toNatClampNeg (x1 + x3)))) rfl
    have a10 : (x3 + 1).toInt = x3.toInt + (1 : Int) := xIa (show -2147483648 ≤ x3.toInt + (1 : Int) from by omega) (show x3.toInt + (1 : Int) < 2147483648 from by omega)
    exact ih (n - 1) (show n - 1 < n from by omega) (x3 + 1) _ J8 K9 (by assumption) (show x2.toInt % 41 = 0 from by omega) (show 0 ≤ x2.toInt from by omega) (show x2.toInt < 27306 from by omega) (show x1.toInt ≠ x2.toInt from by omega) (show 0 ≤ (x3 + 1).toInt from by omega) (show (x3 + 1).toInt ≤ 41 from by omega) (fun i hi => (ua_ne (by omega)).trans (i7 i hi)) (fun j hj => by
      have hj : (j : Int) < ((x3 + 1)).toInt := hj
      by_cases e : j = (x3.toInt).toNat
      · rw [e, ← e2, ua_eq]; exact e1
      · exact (ua_ne (by omega)).trans (i8 j (by omega))) (show 50 - (x3 + 1).toInt ≤ ((n - 1 : Nat) : Int) from by omega)

theorem ms_224 {x : Nat → Nat → Nat} {t : Int32} {s : ps_S} {d : Nat} {x1 : Int32} {x2 : Int32} {f : ps_S → Prop} (J : mJ x t s) {l : List Nat} (hR : Rw (ps_a s 1134) x1.toInt l) (q1 : x2.toInt % 41 = 0) (q2 : 0 ≤ x2.toInt) (q3 : x2.toInt < 27306) (q4 : x1.toInt ≠ x2.toInt) (k : ∀ (s' : ps_S), mJ x t s' → kp [1134] [] s s' → (Rw (ps_a s' 1134) x2.toInt l) → (∀ i : Nat, (i : Int) < x2.toInt ∨ x2.toInt + 41 ≤ (i : Int) → ps_a s' 1134 i = ps_a s 1134 i) → f s') : ps_Cl d 224 [.ref 1131, .int x1, .int x2] s (ps_rV f) := by
  have K : kp [1134] [] s s := kp_refl
  refine pg_224_0 ?_
  exact ms_224_2 (x1 := x1) (x2 := x2) (l := l) k  (50 - (0 : Int)).toNat (0) _ J K (hR) (show x2.toInt % 41 = 0 from by omega) (show 0 ≤ x2.toInt from by omega) (show x2.toInt < 27306 from by omega) (show x1.toInt ≠ x2.toInt from by omega) (show 0 ≤ (0 : Int) from by omega) (show (0 : Int) ≤ 41 from by omega) (fun i _ => rfl) (fun j hj => absurd hj (by rw [Int32.toInt_zero]; omega)) (show 50 - (0 : Int) ≤ (((50 - (0 : Int)).toNat : Nat) : Int) from by omega)

-- ProofBenchModel.makeFrom(III)V
theorem pg_226_0 {d : Nat} {x1 : Int32} {x2 : Int32} {x3 : Int32} {s : ps_S} {Q : Option Value → ps_S → Prop} (h :
  ps_At (d + 1) 226 3 [(0, .ref 1131), (1, .int x1), (3, .int x3), (4, .int x2)] [] s Q) : ps_At (d + 1) 226 0 [(0, .ref 1131), (1, .int x1), (2, .int x2), (3, .int x3)] [] s Q :=
  ps_wp_at (stops := [(3, [0, 1, 3, 4])]) (n := 4) h rfl

theorem pg_226_3 {d : Nat} {x1 : Int32} {x3 : Int32} {x4 : Int32} {s : ps_S} {Q : Option Value → ps_S → Prop} (h :
  (x3 ≤ x4 →
    Q none s) ∧
  (x4 < x3 →
    ps_Cl d 220 [.ref 1131, .int x1, .int x4] s (ps_rI (fun v1 s1 =>
      ps_Cl d 225 [.ref 1131, .int v1] s1 (ps_rV (fun s2 =>
        ps_At (d + 1) 226 3 [(0, .ref 1131), (1, .int x1), (3, .int x3), (4, .int (x4 + 1))] [] s2 Q)))))) : ps_At (d + 1) 226 3 [(0, .ref 1131), (1, .int x1), (3, .int x3), (4, .int x4)] [] s Q :=
  ps_wp_at (stops := [(3, [0, 1, 3, 4])]) (n := 14) h rfl

theorem ms_226_3 {x : Nat → Nat → Nat} {t : Int32} {d : Nat} {s0 : ps_S} {l1 m l2 ml : List Nat} {x1 : Int32} {x2 : Int32} {x3 : Int32} {Q : Option Value → ps_S → Prop} (k : ∀ (s' : ps_S), mJ x t s' → kp [1149] [34] s0 s' → (Md (ps_a s' 1149) (ps_i s' 1131 34).toInt (ml ++ m)) → Q none s') : ∀ (n : Nat) (x4 : Int32) (m1 : List Nat) (m2 : List Nat) (s : ps_S), (mJ x t s) → (kp [1149] [34] s0 s) → (Rw (ps_a s 1134) x1.toInt (l1 ++ (m ++ l2))) → (Md (ps_a s 1149) (ps_i s 1131 34).toInt (ml ++ m1)) → (m = m1 ++ m2) → (x4.toInt = (l1.length + m1.length : Int)) → (x3.toInt = (l1.length + m.length : Int) ∨ (m2 = [] ∧ x3.toInt ≤ x4.toInt)) → (ml.length + m.length ≤ 90000) → (m2.length : Int) ≤ (n : Int) → ps_At (d + 1) 226 3 [(0, .ref 1131), (1, .int x1), (3, .int x3), (4, .int x4)] [] s Q := by
  refine xstr (fun n ih => ?_)
  intro x4 m1 m2 s J K hR i1 i2 i3 i4 i5 hm
  refine pg_226_3 (d := d) ?_
  obtain ⟨hr1, hr2, hr3, hr4, hr5, hr6⟩ := id hR
  have hr1 : x1.toInt % 41 = 0 := hr1
  have hr2 : 0 ≤ x1.toInt := hr2
  have hr3 : x1.toInt < 27306 := hr3
  have i3 : x4.toInt = (l1.length + m1.length : Int) := i3
  rw [i2] at hr4 i5
  rw [List.length_append, List.length_append, List.length_append] at hr4
  rw [List.length_append] at i5
  have i4 : x3.toInt = (l1.length + m1.length + m2.length : Int) ∨ (m2 = [] ∧ x3.toInt ≤ x4.toInt) := i4.imp (fun z => by rw [z, i2, llen]; omega) id
  have h34 := i1.1
  rw [llen] at h34
  refine And.intro (fun h1 => ?_) (fun h1 => ?_)
  · have f2 : x3.toInt ≤ x4.toInt := xle h1
    have e0 : m2 = [] := by rcases i4 with z | ⟨z, z2⟩; exact lnil (by omega); exact z
    subst e0
    rw [List.append_nil] at i2
    subst i2
    exact k _ J K (i1)
  · have f3 : x4.toInt < x3.toInt := xlt h1
    obtain ⟨c, m3, rfl⟩ := lpos (W := m2) (by rcases i4 with z | ⟨z, z2⟩; omega; omega)
    rw [List.length_cons] at hr4 i5
    rw [llenc] at hm
    have hp := Rw_p (i := x4) hR (l1 := l1 ++ m1) (p := c) (l2 := m3 ++ l2) (by rw [i2]; simp) (by rw [llen]; exact i3)
    refine pg_220_0 ?_
    have a4 : (x1 + 1).toInt = x1.toInt + (1 : Int) := xIa (show -2147483648 ≤ x1.toInt + (1 : Int) from by omega) (show x1.toInt + (1 : Int) < 2147483648 from by omega)
    have a5 : ((x1 + 1) + x4).toInt = (x1 + 1).toInt + x4.toInt := xIa (show -2147483648 ≤ (x1 + 1).toInt + x4.toInt from by omega) (show (x1 + 1).toInt + x4.toInt < 2147483648 from by omega)
    refine ps_nd_i (show pm_in ((x1 + 1) + x4) 27400 = true from xgi (show 0 ≤ ((x1 + 1) + x4).toInt from by omega) (show ((x1 + 1) + x4).toInt < 27400 from by omega)) ?_
    have r6 : ((x1 + 1) + x4).toInt % 41 = 0 → ((x1 + 1) + x4).toInt < 27306 → 0 ≤ (ps_a s 1134 (Int32.toNatClampNeg ((x1 + 1) + x4))).toInt ∧ (ps_a s 1134 (Int32.toNatClampNeg ((x1 + 1) + x4))).toInt ≤ 40 := fun z1 z2 => mp_row (i := ((x1 + 1) + x4)) J z1 (show 0 ≤ ((x1 + 1) + x4).toInt from by omega) z2
    refine pg_225_0 ?_
    have r7 := mf_34 J
    refine And.intro (fun h8 => ?_) (fun h8 => ?_)
    · have f9 : (260 : Int) ≤ (ps_i s 1131 34).toInt := xle h8
      have a10 : ((ps_i s 1131 34) + 1).toInt = (ps_i s 1131 34).toInt + (1 : Int) := xIa (show -2147483648 ≤ (ps_i s 1131 34).toInt + (1 : Int) from by omega) (show (ps_i s 1131 34).toInt + (1 : Int) < 2147483648 from by omega)
      have J11 := mwi_34 (v := ((ps_i s 1131 34) + 1)) J (show 0 ≤ ((ps_i s 1131 34) + 1).toInt from by omega) (show ((ps_i s 1131 34) + 1).toInt ≤ 100000 from by omega)
      have K12 := kpi K (q := 34) (v := ((ps_i s 1131 34) + 1)) rfl
      have a13 : (x4 + 1).toInt = x4.toInt + (1 : Int) := xIa (show -2147483648 ≤ x4.toInt + (1 : Int) from by omega) (show x4.toInt + (1 : Int) < 2147483648 from by omega)
      exact ih (n - 1) (show n - 1 < n from by omega) (x4 + 1) (m1 ++ [c]) m3 _ J11 K12 hR ((by rw [← List.append_assoc]; first | exact Md_make i1 hp (by rw [List.length_append]; omega) | exact Md_make' i1 (by rw [List.length_append]; omega) (by omega))) (i2.trans (lcat m1 c m3)) ((show ((x4 + 1)).toInt = (l1.length + (m1 ++ [c]).length : Int) from by rw [l1c]; omega)) ((show x3.toInt = (l1.length + m.length : Int) ∨ (m3 = [] ∧ x3.toInt ≤ ((x4 + 1)).toInt) from by left; rw [i2, llen, llenc]; rcases i4 with z | ⟨z, z2⟩; rw [llenc] at z; omega; cases z)) ((by rw [i2, List.length_append, List.length_cons]; omega)) (show (m3.length : Int) ≤ ((n - 1 : Nat) : Int) from by omega)
    · have f14 : (ps_i s 1131 34).toInt < (260 : Int) := xlt h8
      refine ps_nd_i (show pm_in (ps_i s 1131 34) 260 = true from xgi (show 0 ≤ (ps_i s 1131 34).toInt from by omega) (show (ps_i s 1131 34).toInt < 260 from by omega)) ?_
      have J15 := mwa_n 1149 (i := (Int32.toNatClampNeg (ps_i s 1131 34))) (v := (ps_a s 1134 (Int32.toNatClampNeg ((x1 + 1) + x4)))) J rfl (by decide)
      have K16 := kpa' K (r := 1149) (i := (Int32.toNatClampNeg (ps_i s 1131 34))) (v := (ps_a s 1134 (Int32.toNatClampNeg ((x1 + 1) + x4)))) rfl
      have a17 : ((ps_i s 1131 34) + 1).toInt = (ps_i s 1131 34).toInt + (1 : Int) := xIa (show -2147483648 ≤ (ps_i s 1131 34).toInt + (1 : Int) from by omega) (show (ps_i s 1131 34).toInt + (1 : Int) < 2147483648 from by omega)
      have J18 := mwi_34 (v := ((ps_i s 1131 34) + 1)) J15 (show 0 ≤ ((ps_i s 1131 34) + 1).toInt from by omega) (show ((ps_i s 1131 34) + 1).toInt ≤ 100000 from by omega)
      have K19 := kpi K16 (q := 34) (v := ((ps_i s 1131 34) + 1)) rfl
      have a20 : (x4 + 1).toInt = x4.toInt + (1 : Int) := xIa (show -2147483648 ≤ x4.toInt + (1 : Int) from by omega) (show x4.toInt + (1 : Int) < 2147483648 from by omega)
      exact ih (n - 1) (show n - 1 < n from by omega) (x4 + 1) (m1 ++ [c]) m3 _ J18 K19 hR ((by rw [← List.append_assoc]; first | exact Md_make i1 hp (by rw [List.length_append]; omega) | exact Md_make' i1 (by rw [List.length_append]; omega) (by omega))) (i2.trans (lcat m1 c m3)) ((show ((x4 + 1)).toInt = (l1.length + (m1 ++ [c]).length : Int) from by rw [l1c]; omega)) ((show x3.toInt = (l1.length + m.length : Int) ∨ (m3 = [] ∧ x3.toInt ≤ ((x4 + 1)).toInt) from by left; rw [i2, llen, llenc]; rcases i4 with z | ⟨z, z2⟩; rw [llenc] at z; omega; cases z)) ((by rw [i2, List.length_append, List.length_cons]; omega)) (show (m3.length : Int) ≤ ((n - 1 : Nat) : Int) from by omega)

theorem ms_226 {x : Nat → Nat → Nat} {t : Int32} {s : ps_S} {d : Nat} {x1 : Int32} {x2 : Int32} {x3 : Int32} {f : ps_S → Prop} (J : mJ x t s) {l1 m l2 ml : List Nat} (hR : Rw (ps_a s 1134) x1.toInt (l1 ++ (m ++ l2))) (hM : Md (ps_a s 1149) (ps_i s 1131 34).toInt ml) (q2 : x2.toInt = (l1.length : Int)) (q3 : x3.toInt = (l1.length + m.length : Int) ∨ (m = [] ∧ x3.toInt ≤ x2.toInt)) (q4 : ml.length + m.length ≤ 90000) (k : ∀ (s' : ps_S), mJ x t s' → kp [1149] [34] s s' → (Md (ps_a s' 1149) (ps_i s' 1131 34).toInt (ml ++ m)) → f s') : ps_Cl (d + 1) 226 [.ref 1131, .int x1, .int x2, .int x3] s (ps_rV f) := by
  have K : kp [1149] [34] s s := kp_refl
  refine pg_226_0 (d := d) ?_
  exact ms_226_3 (x1 := x1) (x2 := x2) (x3 := x3) (l1 := l1) (m := m) (l2 := l2) (ml := ml) k  ((m.length : Int)).toNat x2 [] m _ J K hR ((by rw [List.append_nil]; exact hM)) (rfl) ((q2.trans (Int.add_zero _).symm)) (q3.imp id (fun z => ⟨z.1, z.2⟩)) (q4) (show (m.length : Int) ≤ ((((m.length : Int)).toNat : Nat) : Int) from by omega)

-- ProofBenchModel.isMade(I)Z
theorem pg_230_0 {d : Nat} {x1 : Int32} {s : ps_S} {Q : Option Value → ps_S → Prop} (h :
  ps_Cl d 219 [.ref 1131, .int x1] s (ps_rI (fun v1 s1 =>
    (v1 = (ps_i s1 1131 34) →
      ps_At (d + 1) 230 16 [(0, .ref 1131), (1, .int x1), (2, .int 0)] [] s1 Q) ∧
    (v1 ≠ (ps_i s1 1131 34) →
      Q (some (.int 0)) s1)))) : ps_At (d + 1) 230 0 [(0, .ref 1131), (1, .int x1)] [] s Q :=
  ps_wp_at (stops := [(16, [0, 1, 2])]) (n := 12) h rfl

theorem pg_230_16 {d : Nat} {x1 : Int32} {x2 : Int32} {s : ps_S} {Q : Option Value → ps_S → Prop} (h :
  ((ps_i s 1131 34) ≤ x2 →
    Q (some (.int 1)) s) ∧
  (x2 < (ps_i s 1131 34) →
    ps_Cl d 220 [.ref 1131, .int x1, .int x2] s (ps_rI (fun v1 s1 =>
      ps_nd (pm_in x2 260) ((v1 = (ps_a s1 1149 (Int32.toNatClampNeg x2)) →
        ps_At (d + 1) 230 16 [(0, .ref 1131), (1, .int x1), (2, .int (x2 + 1))] [] s1 Q) ∧
      (v1 ≠ (ps_a s1 1149 (Int32.toNatClampNeg x2)) →
        Q (some (.int 0)) s1)))))) : ps_At (d + 1) 230 16 [(0, .ref 1131), (1, .int x1), (2, .int x2)] [] s Q :=
  ps_wp_at (stops := [(16, [0, 1, 2])]) (n := 21) h rfl

theorem ms_230_16 {x : Nat → Nat → Nat} {t : Int32} {d : Nat} {s : ps_S} {x1 : Int32} {Q : Option Value → ps_S → Prop} (k : ∀ (v : Int32), v &&& 1 = v → Q (some (.int v)) s) : ∀ (n : Nat) (x2 : Int32), (mJ x t s) → (x1.toInt % 41 = 0) → (0 ≤ x1.toInt) → (x1.toInt < 27306) → (0 ≤ x2.toInt) → (x2.toInt ≤ 40) → ((ps_i s 1131 34).toInt ≤ 40) → 50 - x2.toInt ≤ (n : Int) → ps_At (d + 1) 230 16 [(0, .ref 1131), (1, .int x1), (2, .int x2)] [] s Q := by
  refine xstr (fun n ih => ?_)
  intro x2 J i0 i1 i2 i3 i4 i5 hm
  have r1 := mf_34 J
  refine pg_230_16 (d := d) ?_
  refine And.intro (fun h2 => ?_) (fun h2 => ?_)
  · have f3 : (ps_i s 1131 34).toInt ≤ x2.toInt := xle h2
    exact k (1 : Int32) (by decide)
  · have f4 : x2.toInt < (ps_i s 1131 34).toInt := xlt h2
    refine pg_220_0 ?_
    have a5 : (x1 + 1).toInt = x1.toInt + (1 : Int) := xIa (show -2147483648 ≤ x1.toInt + (1 : Int) from by omega) (show x1.toInt + (1 : Int) < 2147483648 from by omega)
    have a6 : ((x1 + 1) + x2).toInt = (x1 + 1).toInt + x2.toInt := xIa (show -2147483648 ≤ (x1 + 1).toInt + x2.toInt from by omega) (show (x1 + 1).toInt + x2.toInt < 2147483648 from by omega)
    refine ps_nd_i (show pm_in ((x1 + 1) + x2) 27400 = true from xgi (show 0 ≤ ((x1 + 1) + x2).toInt from by omega) (show ((x1 + 1) + x2).toInt < 27400 from by omega)) ?_
    have r7 : ((x1 + 1) + x2).toInt % 41 = 0 → ((x1 + 1) + x2).toInt < 27306 → 0 ≤ (ps_a s 1134 (Int32.toNatClampNeg ((x1 + 1) + x2))).toInt ∧ (ps_a s 1134 (Int32.toNatClampNeg ((x1 + 1) + x2))).toInt ≤ 40 := fun z1 z2 => mp_row (i := ((x1 + 1) + x2)) J z1 (show 0 ≤ ((x1 + 1) + x2).toInt from by omega) z2
    refine ps_nd_i (show pm_in x2 260 = true from xgi (show 0 ≤ x2.toInt from by omega) (show x2.toInt < 260 from by omega)) ?_
    refine And.intro (fun h8 => ?_) (fun h8 => ?_)
    · have f9 : (ps_a s 1134 (Int32.toNatClampNeg ((x1 + 1) + x2))).toInt = (ps_a s 1149 (Int32.toNatClampNeg x2)).toInt := xeq h8
      have a10 : (x2 + 1).toInt = x2.toInt + (1 : Int) := xIa (show -2147483648 ≤ x2.toInt + (1 : Int) from by omega) (show x2.toInt + (1 : Int) < 2147483648 from by omega)
      exact ih (n - 1) (show n - 1 < n from by omega) (x2 + 1) J (show x1.toInt % 41 = 0 from by omega) (show 0 ≤ x1.toInt from by omega) (show x1.toInt < 27306 from by omega) (show 0 ≤ (x2 + 1).toInt from by omega) (show (x2 + 1).toInt ≤ 40 from by omega) (show (ps_i s 1131 34).toInt ≤ 40 from by omega) (show 50 - (x2 + 1).toInt ≤ ((n - 1 : Nat) : Int) from by omega)
    · have f11 : (ps_a s 1134 (Int32.toNatClampNeg ((x1 + 1) + x2))).toInt ≠ (ps_a s 1149 (Int32.toNatClampNeg x2)).toInt := xne h8
      exact k (0 : Int32) (by decide)

theorem ms_230 {x : Nat → Nat → Nat} {t : Int32} {s : ps_S} {d : Nat} {x1 : Int32} {f : Int32 → ps_S → Prop} (J : mJ x t s) (q0 : x1.toInt % 41 = 0) (q1 : 0 ≤ x1.toInt) (q2 : x1.toInt < 27306) (k : ∀ (v : Int32), v &&& 1 = v → f v s) : ps_Cl (d + 1) 230 [.ref 1131, .int x1] s (ps_rI f) := by
  refine pg_230_0 (d := d) ?_
  refine pg_219_0 ?_
  refine ps_nd_i (show pm_in x1 27400 = true from xgi (show 0 ≤ x1.toInt from by omega) (show x1.toInt < 27400 from by omega)) ?_
  have r1 : x1.toInt % 41 = 0 → x1.toInt < 27306 → 0 ≤ (ps_a s 1134 (Int32.toNatClampNeg x1)).toInt ∧ (ps_a s 1134 (Int32.toNatClampNeg x1)).toInt ≤ 40 := fun z1 z2 => mp_row (i := x1) J z1 (show 0 ≤ x1.toInt from by omega) z2
  have r2 := mf_34 J
  refine And.intro (fun h3 => ?_) (fun h3 => ?_)
  · have f4 : (ps_a s 1134 (Int32.toNatClampNeg x1)).toInt = (ps_i s 1131 34).toInt := xeq h3
    exact ms_230_16 (x1 := x1) k  (50 - (0 : Int)).toNat (0) J (show x1.toInt % 41 = 0 from by omega) (show 0 ≤ x1.toInt from by omega) (show x1.toInt < 27306 from by omega) (show 0 ≤ (0 : Int) from by omega) (show (0 : Int) ≤ 40 from by omega) (show (ps_i s 1131 34).toInt ≤ 40 from by omega) (show 50 - (0 : Int) ≤ (((50 - (0 : Int)).toNat : Nat) : Int) from by omega)
  · have f5 : (ps_a s 1134 (Int32.toNatClampNeg x1)).toInt ≠ (ps_i s 1131 34).toInt := xne h3
    exact k (0 : Int32) (by decide)
