section
set_option maxRecDepth 100000
-- ProofBench.end(I)I
theorem pg_150_0 {d : Nat} {x1 : Int32} {s : ps_S} {Q : Option Value → ps_S → Prop} (h :
  (x1 < 0 →
    Q (some (.int (-1))) s) ∧
  (0 ≤ x1 →
    (x1 ≤ (ps_i s 0 1) →
      Q (some (.int x1)) (ps_ui s 0 1 x1)) ∧
    ((ps_i s 0 1) < x1 →
      Q (some (.int (-1))) s))) : ps_At d 150 0 [(0, .ref 0), (1, .int x1)] [] s Q :=
  ps_wp_at (stops := []) (n := 17) h rfl

-- ProofBench.putNumber(I)V
theorem pg_179_0 {d : Nat} {x1 : Int32} {s : ps_S} {Q : Option Value → ps_S → Prop} (h :
  ps_At d 179 3 [(0, .ref 0), (1, .int x1), (2, .int 24)] [] s Q) : ps_At d 179 0 [(0, .ref 0), (1, .int x1)] [] s Q :=
  ps_wp_at (stops := [(3, [0, 1, 2])]) (n := 4) h rfl

theorem pg_179_3 {d : Nat} {x1 : Int32} {x2 : Int32} {s : ps_S} {Q : Option Value → ps_S → Prop} (h :
  (x2 < 0 →
    Q none s) ∧
  (0 ≤ x2 →
    ((ps_i s 0 1) < 0 →
      ps_At d 179 3 [(0, .ref 0), (1, .int x1), (2, .int (x2 + (-8)))] [] s Q) ∧
    (0 ≤ (ps_i s 0 1) →
      ((nI 1600) ≤ (ps_i s 0 1) →
        ps_At d 179 3 [(0, .ref 0), (1, .int x1), (2, .int (x2 + (-8)))] [] s Q) ∧
      ((ps_i s 0 1) < (nI 1600) →
        ps_nd (pm_in (ps_i s 0 1) 1600) (ps_At d 179 3 [(0, .ref 0), (1, .int x1), (2, .int (x2 + (-8)))] [] (ps_ui (ps_ua s 1 (Int32.toNatClampNeg (ps_i s 0 1)) (Int8.toInt32 (Int32.toInt8 (Int8.toInt32 (Int32.toInt8 (x1 >>> (x2 &&& 31))))))) 0 1 ((ps_i (ps_ua s 1 (Int32.toNatClampNeg (ps_i s 0 1)) (Int8.toInt32 (Int32.toInt8 (Int8.toInt32 (Int32.toInt8 (x1 >>> (x2 &&& 31))))))) 0 1) + 1)) Q))))) : ps_At d 179 3 [(0, .ref 0), (1, .int x1), (2, .int x2)] [] s Q :=
  ps_wp_at (stops := [(3, [0, 1, 2])]) (n := 35) h rfl

-- ProofBench.feed(IIIII)I
theorem pg_149_0 {d : Nat} {x1 : Int32} {x2 : Int32} {x3 : Int32} {x4 : Int32} {x5 : Int32} {s : ps_S} {Q : Option Value → ps_S → Prop} (h :
  (((ps_i s 0 1) + 20) ≤ 1600 →
    ps_Cl d 179 [.ref 0, .int x1] s (ps_rV (fun s1 =>
      ps_Cl d 179 [.ref 0, .int x2] s1 (ps_rV (fun s2 =>
        ps_Cl d 179 [.ref 0, .int x3] s2 (ps_rV (fun s3 =>
          ps_Cl d 179 [.ref 0, .int x4] s3 (ps_rV (fun s4 =>
            ps_Cl d 179 [.ref 0, .int x5] s4 (ps_rV (fun s5 =>
              Q (some (.int (ps_i s5 0 1))) s5))))))))))) ∧
  (1600 < ((ps_i s 0 1) + 20) →
    Q (some (.int (-1))) s)) : ps_At (d + 1) 149 0 [(0, .ref 0), (1, .int x1), (2, .int x2), (3, .int x3), (4, .int x4), (5, .int x5)] [] s Q :=
  ps_wp_at (stops := []) (n := 28) h rfl

theorem xs_150 {m s : ps_S} {t : Int32} {d : Nat} {x1 : Int32} {f : Int32 → ps_S → Prop} (J : xJ m t s) (k : ∀ (v : Int32) (s' : ps_S) (t' : Int32), xJ m t' s' → (v.toInt = -1 ∧ t' = t ∧ (x1.toInt < 0 ∨ t.toInt < x1.toInt)) ∨ (v = x1 ∧ t' = x1 ∧ 0 ≤ x1.toInt ∧ x1.toInt ≤ t.toInt) → f v s') : ps_Cl d 150 [.ref 0, .int x1] s (ps_rI f) := by
  have e : ps_i s 0 1 = t := J.2.1
  refine pg_150_0 (And.intro (fun h1 => ?_) (fun h1 => And.intro (fun h2 => ?_) (fun h2 => ?_)))
  · exact k (-1) s t J (Or.inl ⟨by decide, rfl, Or.inl (xlt h1)⟩)
  · rw [e] at h2
    exact k x1 _ x1 (xw_tape J) (Or.inr ⟨rfl, rfl, xle h1, xle h2⟩)
  · rw [e] at h2
    exact k (-1) s t J (Or.inl ⟨by decide, rfl, Or.inr (xlt h2)⟩)
theorem xm8 : (-8 : Int32).toInt = -8 := by decide
theorem xs_179_3 {m : ps_S} {d : Nat} {x1 : Int32} {Q : Option Value → ps_S → Prop} : ∀ (n : Nat) (x2 t : Int32) (s : ps_S), x2.toInt = 8 * (n : Int) - 8 → xJ m t s → 0 ≤ t.toInt → t.toInt + n ≤ 1600 → (∀ (s' : ps_S) (t' : Int32), xJ m t' s' → t'.toInt = t.toInt + n → Q none s') → ps_At d 179 3 [(0, .ref 0), (1, .int x1), (2, .int x2)] [] s Q := by
  intro n
  induction n with
  | zero =>
    intro x2 t s hx J h0 h1 k
    refine pg_179_3 (And.intro (fun h2 => ?_) (fun h2 => ?_))
    · exact k s t J (by omega)
    · have f2 : (0 : Int) ≤ x2.toInt := xle h2
      omega
  | succ n ih =>
    intro x2 t s hx J h0 h1 k
    have e : ps_i s 0 1 = t := J.2.1
    refine pg_179_3 (And.intro (fun h2 => ?_) (fun h2 => And.intro (fun h3 => ?_) (fun h3 => And.intro (fun h4 => ?_) (fun h4 => ?_))))
    · have f2 : x2.toInt < (0 : Int) := xlt h2
      omega
    · rw [e] at h3
      have f2 : t.toInt < (0 : Int) := xlt h3
      omega
    · rw [e] at h4
      have f2 : (nI 1600).toInt ≤ t.toInt := xle h4
      rw [nI_toInt (by decide)] at f2
      omega
    · refine ps_nd_i (xgi (by rw [e]; exact h0) (by rw [e]; omega)) ?_
      have et : ((ps_i s 0 1) + 1).toInt = t.toInt + 1 := by rw [e, xI_add (by rw [xone]; omega) (by rw [xone]; omega), xone]
      refine ih (x2 + (-8)) ((ps_i s 0 1) + 1) _ ?_ (xw_tape (xw_a (r := 1) (by decide) J)) (by omega) (by omega) (fun s' t' J' ht => k s' t' J' (by omega))
      rw [xI_add (by rw [xm8]; omega) (by rw [xm8]; omega), xm8]
      omega
theorem xs_179 {m s : ps_S} {t : Int32} {d : Nat} {x1 : Int32} {f : ps_S → Prop} (J : xJ m t s) (h0 : 0 ≤ t.toInt) (h1 : t.toInt + 4 ≤ 1600) (k : ∀ (s' : ps_S) (t' : Int32), xJ m t' s' → t'.toInt = t.toInt + 4 → f s') : ps_Cl d 179 [.ref 0, .int x1] s (ps_rV f) :=
  pg_179_0 (xs_179_3 (m := m) 4 24 t s (by decide) J h0 h1 k)
theorem xs_149 {m s : ps_S} {t : Int32} {d : Nat} {x1 x2 x3 x4 x5 : Int32} {f : Int32 → ps_S → Prop} (J : xJ m t s) (h0 : 0 ≤ t.toInt) (h1 : t.toInt ≤ 1600) (k : ∀ (v : Int32) (s' : ps_S) (t' : Int32), xJ m t' s' → (v.toInt = -1 ∧ t' = t ∧ 1580 < t.toInt) ∨ (v = t' ∧ t'.toInt = t.toInt + 20 ∧ t.toInt ≤ 1580) → f v s') : ps_Cl (d + 1) 149 [.ref 0, .int x1, .int x2, .int x3, .int x4, .int x5] s (ps_rI f) := by
  have e : ps_i s 0 1 = t := J.2.1
  have e20 : (20 : Int32).toInt = 20 := by decide
  have et : ((ps_i s 0 1) + 20).toInt = t.toInt + 20 := by rw [e, xI_add (by rw [e20]; omega) (by rw [e20]; omega), e20]
  refine pg_149_0 (d := d) (And.intro (fun h2 => ?_) (fun h2 => ?_))
  · have f2 : ((ps_i s 0 1) + 20).toInt ≤ (1600 : Int) := xle h2
    refine xs_179 J h0 (by omega) (fun s1 t1 J1 q1 => ?_)
    refine xs_179 J1 (by omega) (by omega) (fun s2 t2 J2 q2 => ?_)
    refine xs_179 J2 (by omega) (by omega) (fun s3 t3 J3 q3 => ?_)
    refine xs_179 J3 (by omega) (by omega) (fun s4 t4 J4 q4 => ?_)
    refine xs_179 J4 (by omega) (by omega) (fun s5 t5 J5 q5 => ?_)
    exact k _ s5 t5 J5 (Or.inr ⟨J5.2.1, by omega, by omega⟩)
  · have f2 : (1600 : Int) < ((ps_i s 0 1) + 20).toInt := xlt h2
    exact k (-1) s t J (Or.inl ⟨by decide, rfl, by omega⟩)
end
section
set_option maxRecDepth 100000
theorem mx_205_2 {x : Nat → Nat → Nat} {t : Int32} {d : Nat} {s : ps_S} {Q : Option Value → ps_S → Prop} (k : ∀ (v : Int32), (-1 ≤ v.toInt) → (v.toInt < (ps_a s 1137 (Int32.toNatClampNeg (ps_i s 1131 22))).toInt) → (0 ≤ v.toInt → ((ps_i s 1131 9).toInt = 2 ∧ (lg_cmp (ps_b s 1142 (Int32.toNatClampNeg (((8 : Int32) * (ps_i s 1131 22)) + v))) (ps_j s 1131 11)).toInt = 0)) → (v.toInt = -1 → ∀ z : Int32, 0 ≤ z.toInt → z.toInt < (ps_a s 1137 (Int32.toNatClampNeg (ps_i s 1131 22))).toInt → ¬ ((ps_i s 1131 9).toInt = 2 ∧ (lg_cmp (ps_b s 1142 (Int32.toNatClampNeg (((8 : Int32) * (ps_i s 1131 22)) + z))) (ps_j s 1131 11)).toInt = 0)) → Q (some (.int v)) s) : ∀ (n : Nat) (x1 : Int32), (mJ x t s) → (0 ≤ x1.toInt) → (x1.toInt ≤ (ps_a s 1137 (Int32.toNatClampNeg (ps_i s 1131 22))).toInt) → (∀ z : Int32, 0 ≤ z.toInt → z.toInt < x1.toInt → ¬ ((ps_i s 1131 9).toInt = 2 ∧ (lg_cmp (ps_b s 1142 (Int32.toNatClampNeg (((8 : Int32) * (ps_i s 1131 22)) + z))) (ps_j s 1131 11)).toInt = 0)) → 20 - x1.toInt ≤ (n : Int) → ps_At d 205 2 [(0, .ref 1131), (1, .int x1)] [] s Q := by
  refine xstr (fun n ih => ?_)
  intro x1 J i0 i1 i2 hm
  have r1 := mf_22 J
  have r2 : 0 ≤ (ps_a s 1137 (Int32.toNatClampNeg (ps_i s 1131 22))).toInt ∧ (ps_a s 1137 (Int32.toNatClampNeg (ps_i s 1131 22))).toInt ≤ 8 := ma_1137 (i := (ps_i s 1131 22)) J (show 0 ≤ (ps_i s 1131 22).toInt from by omega) (show (ps_i s 1131 22).toInt < 2 from by omega)
  refine pg_205_2 ?_
  refine ps_nd_i (show pm_in (ps_i s 1131 22) 2 = true from xgi (show 0 ≤ (ps_i s 1131 22).toInt from by omega) (show (ps_i s 1131 22).toInt < 2 from by omega)) ?_
  refine And.intro (fun h3 => ?_) (fun h3 => ?_)
  · have f4 : (ps_a s 1137 (Int32.toNatClampNeg (ps_i s 1131 22))).toInt ≤ x1.toInt := xle h3
    exact k (-1 : Int32) (show -1 ≤ (-1 : Int) from by omega) (show (-1 : Int) < (ps_a s 1137 (Int32.toNatClampNeg (ps_i s 1131 22))).toInt from by omega) (fun z => absurd z (by decide)) (fun _ z h0 h1 => i2 z h0 (by omega))
  · have f5 : x1.toInt < (ps_a s 1137 (Int32.toNatClampNeg (ps_i s 1131 22))).toInt := xlt h3
    have r6 := mf_9 J
    refine And.intro (fun h7 => ?_) (fun h7 => ?_)
    · have f8 : (ps_i s 1131 9).toInt ≠ (2 : Int) := xne h7
      have a9 : (x1 + 1).toInt = x1.toInt + (1 : Int) := xIa (show -2147483648 ≤ x1.toInt + (1 : Int) from by omega) (show x1.toInt + (1 : Int) < 2147483648 from by omega)
      exact ih (n - 1) (show n - 1 < n from by omega) (x1 + 1) J (show 0 ≤ (x1 + 1).toInt from by omega) (show (x1 + 1).toInt ≤ (ps_a s 1137 (Int32.toNatClampNeg (ps_i s 1131 22))).toInt from by omega) (fun z h0 h1 => (by
      have h1 : z.toInt < ((x1 + 1)).toInt := h1
      by_cases e : z = x1
      · subst e; rintro ⟨p, q⟩; omega
      · have e2 := xne e; exact i2 z h0 (by omega))) (show 20 - (x1 + 1).toInt ≤ ((n - 1 : Nat) : Int) from by omega)
    · have f10 : (ps_i s 1131 9).toInt = (2 : Int) := xeq h7
      have a11 : ((8 : Int32) * (ps_i s 1131 22)).toInt = (8 : Int) * (ps_i s 1131 22).toInt := xIm (show -2147483648 ≤ (8 : Int) * (ps_i s 1131 22).toInt from by omega) (show (8 : Int) * (ps_i s 1131 22).toInt < 2147483648 from by omega)
      have a12 : (((8 : Int32) * (ps_i s 1131 22)) + x1).toInt = ((8 : Int32) * (ps_i s 1131 22)).toInt + x1.toInt := xIa (show -2147483648 ≤ ((8 : Int32) * (ps_i s 1131 22)).toInt + x1.toInt from by omega) (show ((8 : Int32) * (ps_i s 1131 22)).toInt + x1.toInt < 2147483648 from by omega)
      refine ps_nd_i (show pm_in (((8 : Int32) * (ps_i s 1131 22)) + x1) 16 = true from xgi (show 0 ≤ (((8 : Int32) * (ps_i s 1131 22)) + x1).toInt from by omega) (show (((8 : Int32) * (ps_i s 1131 22)) + x1).toInt < 16 from by omega)) ?_
      refine And.intro (fun h13 => ?_) (fun h13 => ?_)
      · have f14 : (lg_cmp (ps_b s 1142 (Int32.toNatClampNeg (((8 : Int32) * (ps_i s 1131 22)) + x1))) (ps_j s 1131 11)).toInt ≠ (0 : Int) := xne h13
        have a15 : (x1 + 1).toInt = x1.toInt + (1 : Int) := xIa (show -2147483648 ≤ x1.toInt + (1 : Int) from by omega) (show x1.toInt + (1 : Int) < 2147483648 from by omega)
        exact ih (n - 1) (show n - 1 < n from by omega) (x1 + 1) J (show 0 ≤ (x1 + 1).toInt from by omega) (show (x1 + 1).toInt ≤ (ps_a s 1137 (Int32.toNatClampNeg (ps_i s 1131 22))).toInt from by omega) (fun z h0 h1 => (by
      have h1 : z.toInt < ((x1 + 1)).toInt := h1
      by_cases e : z = x1
      · subst e; rintro ⟨p, q⟩; omega
      · have e2 := xne e; exact i2 z h0 (by omega))) (show 20 - (x1 + 1).toInt ≤ ((n - 1 : Nat) : Int) from by omega)
      · have f16 : (lg_cmp (ps_b s 1142 (Int32.toNatClampNeg (((8 : Int32) * (ps_i s 1131 22)) + x1))) (ps_j s 1131 11)).toInt = (0 : Int) := xeq h13
        exact k x1 (show -1 ≤ x1.toInt from by omega) (show x1.toInt < (ps_a s 1137 (Int32.toNatClampNeg (ps_i s 1131 22))).toInt from by omega) (fun _ => ⟨by omega, by omega⟩) (fun z => absurd z (by omega))

theorem mx_205 {x : Nat → Nat → Nat} {t : Int32} {s : ps_S} {d : Nat} {f : Int32 → ps_S → Prop} (J : mJ x t s) (k : ∀ (v : Int32), (-1 ≤ v.toInt) → (v.toInt < (ps_a s 1137 (Int32.toNatClampNeg (ps_i s 1131 22))).toInt) → (0 ≤ v.toInt → ((ps_i s 1131 9).toInt = 2 ∧ (lg_cmp (ps_b s 1142 (Int32.toNatClampNeg (((8 : Int32) * (ps_i s 1131 22)) + v))) (ps_j s 1131 11)).toInt = 0)) → (v.toInt = -1 → ∀ z : Int32, 0 ≤ z.toInt → z.toInt < (ps_a s 1137 (Int32.toNatClampNeg (ps_i s 1131 22))).toInt → ¬ ((ps_i s 1131 9).toInt = 2 ∧ (lg_cmp (ps_b s 1142 (Int32.toNatClampNeg (((8 : Int32) * (ps_i s 1131 22)) + z))) (ps_j s 1131 11)).toInt = 0)) → f v s) : ps_Cl d 205 [.ref 1131] s (ps_rI f) := by
  refine pg_205_0 ?_
  have r1 := mf_22 J
  have r2 : 0 ≤ (ps_a s 1137 (Int32.toNatClampNeg (ps_i s 1131 22))).toInt ∧ (ps_a s 1137 (Int32.toNatClampNeg (ps_i s 1131 22))).toInt ≤ 8 := ma_1137 (i := (ps_i s 1131 22)) J (show 0 ≤ (ps_i s 1131 22).toInt from by omega) (show (ps_i s 1131 22).toInt < 2 from by omega)
  exact mx_205_2  k  (20 - (0 : Int)).toNat (0) J (show 0 ≤ (0 : Int) from by omega) (show (0 : Int) ≤ (ps_a s 1137 (Int32.toNatClampNeg (ps_i s 1131 22))).toInt from by omega) (fun z h0 h1 => absurd h0 (by rw [Int32.toInt_zero] at h1; omega)) (show 20 - (0 : Int) ≤ (((20 - (0 : Int)).toNat : Nat) : Int) from by omega)

theorem mx_206_2 {x : Nat → Nat → Nat} {t : Int32} {d : Nat} {s : ps_S} {Q : Option Value → ps_S → Prop} (k : ∀ (v : Int32), (-1 ≤ v.toInt) → (v.toInt < (ps_a s 1135 (Int32.toNatClampNeg (ps_i s 1131 22))).toInt) → (0 ≤ v.toInt → ((ps_i s 1131 9).toInt = 2 ∧ (lg_cmp (ps_b s 1140 (Int32.toNatClampNeg (((6 : Int32) * (ps_i s 1131 22)) + v))) (ps_j s 1131 11)).toInt = 0)) → (v.toInt = -1 → ∀ z : Int32, 0 ≤ z.toInt → z.toInt < (ps_a s 1135 (Int32.toNatClampNeg (ps_i s 1131 22))).toInt → ¬ ((ps_i s 1131 9).toInt = 2 ∧ (lg_cmp (ps_b s 1140 (Int32.toNatClampNeg (((6 : Int32) * (ps_i s 1131 22)) + z))) (ps_j s 1131 11)).toInt = 0)) → Q (some (.int v)) s) : ∀ (n : Nat) (x1 : Int32), (mJ x t s) → (0 ≤ x1.toInt) → (x1.toInt ≤ (ps_a s 1135 (Int32.toNatClampNeg (ps_i s 1131 22))).toInt) → (∀ z : Int32, 0 ≤ z.toInt → z.toInt < x1.toInt → ¬ ((ps_i s 1131 9).toInt = 2 ∧ (lg_cmp (ps_b s 1140 (Int32.toNatClampNeg (((6 : Int32) * (ps_i s 1131 22)) + z))) (ps_j s 1131 11)).toInt = 0)) → 20 - x1.toInt ≤ (n : Int) → ps_At d 206 2 [(0, .ref 1131), (1, .int x1)] [] s Q := by
  refine xstr (fun n ih => ?_)
  intro x1 J i0 i1 i2 hm
  have r1 := mf_22 J
  have r2 : 0 ≤ (ps_a s 1135 (Int32.toNatClampNeg (ps_i s 1131 22))).toInt ∧ (ps_a s 1135 (Int32.toNatClampNeg (ps_i s 1131 22))).toInt ≤ 6 := ma_1135 (i := (ps_i s 1131 22)) J (show 0 ≤ (ps_i s 1131 22).toInt from by omega) (show (ps_i s 1131 22).toInt < 2 from by omega)
  refine pg_206_2 ?_
  refine ps_nd_i (show pm_in (ps_i s 1131 22) 2 = true from xgi (show 0 ≤ (ps_i s 1131 22).toInt from by omega) (show (ps_i s 1131 22).toInt < 2 from by omega)) ?_
  refine And.intro (fun h3 => ?_) (fun h3 => ?_)
  · have f4 : (ps_a s 1135 (Int32.toNatClampNeg (ps_i s 1131 22))).toInt ≤ x1.toInt := xle h3
    exact k (-1 : Int32) (show -1 ≤ (-1 : Int) from by omega) (show (-1 : Int) < (ps_a s 1135 (Int32.toNatClampNeg (ps_i s 1131 22))).toInt from by omega) (fun z => absurd z (by decide)) (fun _ z h0 h1 => i2 z h0 (by omega))
  · have f5 : x1.toInt < (ps_a s 1135 (Int32.toNatClampNeg (ps_i s 1131 22))).toInt := xlt h3
    have r6 := mf_9 J
    refine And.intro (fun h7 => ?_) (fun h7 => ?_)
    · have f8 : (ps_i s 1131 9).toInt ≠ (2 : Int) := xne h7
      have a9 : (x1 + 1).toInt = x1.toInt + (1 : Int) := xIa (show -2147483648 ≤ x1.toInt + (1 : Int) from by omega) (show x1.toInt + (1 : Int) < 2147483648 from by omega)
      exact ih (n - 1) (show n - 1 < n from by omega) (x1 + 1) J (show 0 ≤ (x1 + 1).toInt from by omega) (show (x1 + 1).toInt ≤ (ps_a s 1135 (Int32.toNatClampNeg (ps_i s 1131 22))).toInt from by omega) (fun z h0 h1 => (by
      have h1 : z.toInt < ((x1 + 1)).toInt := h1
      by_cases e : z = x1
      · subst e; rintro ⟨p, q⟩; omega
      · have e2 := xne e; exact i2 z h0 (by omega))) (show 20 - (x1 + 1).toInt ≤ ((n - 1 : Nat) : Int) from by omega)
    · have f10 : (ps_i s 1131 9).toInt = (2 : Int) := xeq h7
      have a11 : ((6 : Int32) * (ps_i s 1131 22)).toInt = (6 : Int) * (ps_i s 1131 22).toInt := xIm (show -2147483648 ≤ (6 : Int) * (ps_i s 1131 22).toInt from by omega) (show (6 : Int) * (ps_i s 1131 22).toInt < 2147483648 from by omega)
      have a12 : (((6 : Int32) * (ps_i s 1131 22)) + x1).toInt = ((6 : Int32) * (ps_i s 1131 22)).toInt + x1.toInt := xIa (show -2147483648 ≤ ((6 : Int32) * (ps_i s 1131 22)).toInt + x1.toInt from by omega) (show ((6 : Int32) * (ps_i s 1131 22)).toInt + x1.toInt < 2147483648 from by omega)
      refine ps_nd_i (show pm_in (((6 : Int32) * (ps_i s 1131 22)) + x1) 12 = true from xgi (show 0 ≤ (((6 : Int32) * (ps_i s 1131 22)) + x1).toInt from by omega) (show (((6 : Int32) * (ps_i s 1131 22)) + x1).toInt < 12 from by omega)) ?_
      refine And.intro (fun h13 => ?_) (fun h13 => ?_)
      · have f14 : (lg_cmp (ps_b s 1140 (Int32.toNatClampNeg (((6 : Int32) * (ps_i s 1131 22)) + x1))) (ps_j s 1131 11)).toInt ≠ (0 : Int) := xne h13
        have a15 : (x1 + 1).toInt = x1.toInt + (1 : Int) := xIa (show -2147483648 ≤ x1.toInt + (1 : Int) from by omega) (show x1.toInt + (1 : Int) < 2147483648 from by omega)
        exact ih (n - 1) (show n - 1 < n from by omega) (x1 + 1) J (show 0 ≤ (x1 + 1).toInt from by omega) (show (x1 + 1).toInt ≤ (ps_a s 1135 (Int32.toNatClampNeg (ps_i s 1131 22))).toInt from by omega) (fun z h0 h1 => (by
      have h1 : z.toInt < ((x1 + 1)).toInt := h1
      by_cases e : z = x1
      · subst e; rintro ⟨p, q⟩; omega
      · have e2 := xne e; exact i2 z h0 (by omega))) (show 20 - (x1 + 1).toInt ≤ ((n - 1 : Nat) : Int) from by omega)
      · have f16 : (lg_cmp (ps_b s 1140 (Int32.toNatClampNeg (((6 : Int32) * (ps_i s 1131 22)) + x1))) (ps_j s 1131 11)).toInt = (0 : Int) := xeq h13
        exact k x1 (show -1 ≤ x1.toInt from by omega) (show x1.toInt < (ps_a s 1135 (Int32.toNatClampNeg (ps_i s 1131 22))).toInt from by omega) (fun _ => ⟨by omega, by omega⟩) (fun z => absurd z (by omega))

theorem mx_206 {x : Nat → Nat → Nat} {t : Int32} {s : ps_S} {d : Nat} {f : Int32 → ps_S → Prop} (J : mJ x t s) (k : ∀ (v : Int32), (-1 ≤ v.toInt) → (v.toInt < (ps_a s 1135 (Int32.toNatClampNeg (ps_i s 1131 22))).toInt) → (0 ≤ v.toInt → ((ps_i s 1131 9).toInt = 2 ∧ (lg_cmp (ps_b s 1140 (Int32.toNatClampNeg (((6 : Int32) * (ps_i s 1131 22)) + v))) (ps_j s 1131 11)).toInt = 0)) → (v.toInt = -1 → ∀ z : Int32, 0 ≤ z.toInt → z.toInt < (ps_a s 1135 (Int32.toNatClampNeg (ps_i s 1131 22))).toInt → ¬ ((ps_i s 1131 9).toInt = 2 ∧ (lg_cmp (ps_b s 1140 (Int32.toNatClampNeg (((6 : Int32) * (ps_i s 1131 22)) + z))) (ps_j s 1131 11)).toInt = 0)) → f v s) : ps_Cl d 206 [.ref 1131] s (ps_rI f) := by
  refine pg_206_0 ?_
  have r1 := mf_22 J
  have r2 : 0 ≤ (ps_a s 1135 (Int32.toNatClampNeg (ps_i s 1131 22))).toInt ∧ (ps_a s 1135 (Int32.toNatClampNeg (ps_i s 1131 22))).toInt ≤ 6 := ma_1135 (i := (ps_i s 1131 22)) J (show 0 ≤ (ps_i s 1131 22).toInt from by omega) (show (ps_i s 1131 22).toInt < 2 from by omega)
  exact mx_206_2  k  (20 - (0 : Int)).toNat (0) J (show 0 ≤ (0 : Int) from by omega) (show (0 : Int) ≤ (ps_a s 1135 (Int32.toNatClampNeg (ps_i s 1131 22))).toInt from by omega) (fun z h0 h1 => absurd h0 (by rw [Int32.toInt_zero] at h1; omega)) (show 20 - (0 : Int) ≤ (((20 - (0 : Int)).toNat : Nat) : Int) from by omega)

theorem mx_207_2 {x : Nat → Nat → Nat} {t : Int32} {d : Nat} {s : ps_S} {Q : Option Value → ps_S → Prop} (k : ∀ (v : Int32), (-1 ≤ v.toInt) → (v.toInt < (ps_a s 1136 (Int32.toNatClampNeg (ps_i s 1131 22))).toInt) → (0 ≤ v.toInt → ((ps_i s 1131 9).toInt = 2 ∧ (lg_cmp (ps_b s 1141 (Int32.toNatClampNeg (((4 : Int32) * (ps_i s 1131 22)) + v))) (ps_j s 1131 11)).toInt = 0)) → (v.toInt = -1 → ∀ z : Int32, 0 ≤ z.toInt → z.toInt < (ps_a s 1136 (Int32.toNatClampNeg (ps_i s 1131 22))).toInt → ¬ ((ps_i s 1131 9).toInt = 2 ∧ (lg_cmp (ps_b s 1141 (Int32.toNatClampNeg (((4 : Int32) * (ps_i s 1131 22)) + z))) (ps_j s 1131 11)).toInt = 0)) → Q (some (.int v)) s) : ∀ (n : Nat) (x1 : Int32), (mJ x t s) → (0 ≤ x1.toInt) → (x1.toInt ≤ (ps_a s 1136 (Int32.toNatClampNeg (ps_i s 1131 22))).toInt) → (∀ z : Int32, 0 ≤ z.toInt → z.toInt < x1.toInt → ¬ ((ps_i s 1131 9).toInt = 2 ∧ (lg_cmp (ps_b s 1141 (Int32.toNatClampNeg (((4 : Int32) * (ps_i s 1131 22)) + z))) (ps_j s 1131 11)).toInt = 0)) → 20 - x1.toInt ≤ (n : Int) → ps_At d 207 2 [(0, .ref 1131), (1, .int x1)] [] s Q := by
  refine xstr (fun n ih => ?_)
  intro x1 J i0 i1 i2 hm
  have r1 := mf_22 J
  have r2 : 0 ≤ (ps_a s 1136 (Int32.toNatClampNeg (ps_i s 1131 22))).toInt ∧ (ps_a s 1136 (Int32.toNatClampNeg (ps_i s 1131 22))).toInt ≤ 4 := ma_1136 (i := (ps_i s 1131 22)) J (show 0 ≤ (ps_i s 1131 22).toInt from by omega) (show (ps_i s 1131 22).toInt < 2 from by omega)
  refine pg_207_2 ?_
  refine ps_nd_i (show pm_in (ps_i s 1131 22) 2 = true from xgi (show 0 ≤ (ps_i s 1131 22).toInt from by omega) (show (ps_i s 1131 22).toInt < 2 from by omega)) ?_
  refine And.intro (fun h3 => ?_) (fun h3 => ?_)
  · have f4 : (ps_a s 1136 (Int32.toNatClampNeg (ps_i s 1131 22))).toInt ≤ x1.toInt := xle h3
    exact k (-1 : Int32) (show -1 ≤ (-1 : Int) from by omega) (show (-1 : Int) < (ps_a s 1136 (Int32.toNatClampNeg (ps_i s 1131 22))).toInt from by omega) (fun z => absurd z (by decide)) (fun _ z h0 h1 => i2 z h0 (by omega))
  · have f5 : x1.toInt < (ps_a s 1136 (Int32.toNatClampNeg (ps_i s 1131 22))).toInt := xlt h3
    have r6 := mf_9 J
    refine And.intro (fun h7 => ?_) (fun h7 => ?_)
    · have f8 : (ps_i s 1131 9).toInt ≠ (2 : Int) := xne h7
      have a9 : (x1 + 1).toInt = x1.toInt + (1 : Int) := xIa (show -2147483648 ≤ x1.toInt + (1 : Int) from by omega) (show x1.toInt + (1 : Int) < 2147483648 from by omega)
      exact ih (n - 1) (show n - 1 < n from by omega) (x1 + 1) J (show 0 ≤ (x1 + 1).toInt from by omega) (show (x1 + 1).toInt ≤ (ps_a s 1136 (Int32.toNatClampNeg (ps_i s 1131 22))).toInt from by omega) (fun z h0 h1 => (by
      have h1 : z.toInt < ((x1 + 1)).toInt := h1
      by_cases e : z = x1
      · subst e; rintro ⟨p, q⟩; omega
      · have e2 := xne e; exact i2 z h0 (by omega))) (show 20 - (x1 + 1).toInt ≤ ((n - 1 : Nat) : Int) from by omega)
    · have f10 : (ps_i s 1131 9).toInt = (2 : Int) := xeq h7
      have a11 : ((4 : Int32) * (ps_i s 1131 22)).toInt = (4 : Int) * (ps_i s 1131 22).toInt := xIm (show -2147483648 ≤ (4 : Int) * (ps_i s 1131 22).toInt from by omega) (show (4 : Int) * (ps_i s 1131 22).toInt < 2147483648 from by omega)
      have a12 : (((4 : Int32) * (ps_i s 1131 22)) + x1).toInt = ((4 : Int32) * (ps_i s 1131 22)).toInt + x1.toInt := xIa (show -2147483648 ≤ ((4 : Int32) * (ps_i s 1131 22)).toInt + x1.toInt from by omega) (show ((4 : Int32) * (ps_i s 1131 22)).toInt + x1.toInt < 2147483648 from by omega)
      refine ps_nd_i (show pm_in (((4 : Int32) * (ps_i s 1131 22)) + x1) 8 = true from xgi (show 0 ≤ (((4 : Int32) * (ps_i s 1131 22)) + x1).toInt from by omega) (show (((4 : Int32) * (ps_i s 1131 22)) + x1).toInt < 8 from by omega)) ?_
      refine And.intro (fun h13 => ?_) (fun h13 => ?_)
      · have f14 : (lg_cmp (ps_b s 1141 (Int32.toNatClampNeg (((4 : Int32) * (ps_i s 1131 22)) + x1))) (ps_j s 1131 11)).toInt ≠ (0 : Int) := xne h13
        have a15 : (x1 + 1).toInt = x1.toInt + (1 : Int) := xIa (show -2147483648 ≤ x1.toInt + (1 : Int) from by omega) (show x1.toInt + (1 : Int) < 2147483648 from by omega)
        exact ih (n - 1) (show n - 1 < n from by omega) (x1 + 1) J (show 0 ≤ (x1 + 1).toInt from by omega) (show (x1 + 1).toInt ≤ (ps_a s 1136 (Int32.toNatClampNeg (ps_i s 1131 22))).toInt from by omega) (fun z h0 h1 => (by
      have h1 : z.toInt < ((x1 + 1)).toInt := h1
      by_cases e : z = x1
      · subst e; rintro ⟨p, q⟩; omega
      · have e2 := xne e; exact i2 z h0 (by omega))) (show 20 - (x1 + 1).toInt ≤ ((n - 1 : Nat) : Int) from by omega)
      · have f16 : (lg_cmp (ps_b s 1141 (Int32.toNatClampNeg (((4 : Int32) * (ps_i s 1131 22)) + x1))) (ps_j s 1131 11)).toInt = (0 : Int) := xeq h13
        exact k x1 (show -1 ≤ x1.toInt from by omega) (show x1.toInt < (ps_a s 1136 (Int32.toNatClampNeg (ps_i s 1131 22))).toInt from by omega) (fun _ => ⟨by omega, by omega⟩) (fun z => absurd z (by omega))

theorem mx_207 {x : Nat → Nat → Nat} {t : Int32} {s : ps_S} {d : Nat} {f : Int32 → ps_S → Prop} (J : mJ x t s) (k : ∀ (v : Int32), (-1 ≤ v.toInt) → (v.toInt < (ps_a s 1136 (Int32.toNatClampNeg (ps_i s 1131 22))).toInt) → (0 ≤ v.toInt → ((ps_i s 1131 9).toInt = 2 ∧ (lg_cmp (ps_b s 1141 (Int32.toNatClampNeg (((4 : Int32) * (ps_i s 1131 22)) + v))) (ps_j s 1131 11)).toInt = 0)) → (v.toInt = -1 → ∀ z : Int32, 0 ≤ z.toInt → z.toInt < (ps_a s 1136 (Int32.toNatClampNeg (ps_i s 1131 22))).toInt → ¬ ((ps_i s 1131 9).toInt = 2 ∧ (lg_cmp (ps_b s 1141 (Int32.toNatClampNeg (((4 : Int32) * (ps_i s 1131 22)) + z))) (ps_j s 1131 11)).toInt = 0)) → f v s) : ps_Cl d 207 [.ref 1131] s (ps_rI f) := by
  refine pg_207_0 ?_
  have r1 := mf_22 J
  have r2 : 0 ≤ (ps_a s 1136 (Int32.toNatClampNeg (ps_i s 1131 22))).toInt ∧ (ps_a s 1136 (Int32.toNatClampNeg (ps_i s 1131 22))).toInt ≤ 4 := ma_1136 (i := (ps_i s 1131 22)) J (show 0 ≤ (ps_i s 1131 22).toInt from by omega) (show (ps_i s 1131 22).toInt < 2 from by omega)
  exact mx_207_2  k  (20 - (0 : Int)).toNat (0) J (show 0 ≤ (0 : Int) from by omega) (show (0 : Int) ≤ (ps_a s 1136 (Int32.toNatClampNeg (ps_i s 1131 22))).toInt from by omega) (fun z h0 h1 => absurd h0 (by rw [Int32.toInt_zero] at h1; omega)) (show 20 - (0 : Int) ≤ (((20 - (0 : Int)).toNat : Nat) : Int) from by omega)
end
section
set_option maxRecDepth 100000
-- ProofBenchModel.readAxiom(I)V
theorem pg_239_0 {d : Nat} {x1 : Int32} {s : ps_S} {Q : Option Value → ps_S → Prop} (h :
  ((ps_i s 1131 9) = 2 →
    ps_Cl d 205 [.ref 1131] s (ps_rI (fun v1 s1 =>
      (0 ≤ v1 →
        ps_At (d + 1) 239 32 [(0, .ref 1131), (1, .int x1)] [] s1 Q) ∧
      (v1 < 0 →
        ps_Cl d 191 [.ref 1131, .int 6, .int (ps_i s1 1131 7)] s1 (ps_rV (fun s2 =>
          ps_At (d + 1) 239 32 [(0, .ref 1131), (1, .int x1)] [] s2 Q)))))) ∧
  ((ps_i s 1131 9) ≠ 2 →
    ps_Cl d 196 [.ref 1131] s (ps_rV (fun s3 =>
      ps_At (d + 1) 239 32 [(0, .ref 1131), (1, .int x1)] [] s3 Q)))) : ps_At (d + 1) 239 0 [(0, .ref 1131), (1, .int x1)] [] s Q :=
  ps_wp_at (stops := [(32, [0, 1])]) (n := 17) h rfl

theorem pg_239_32 {d : Nat} {x1 : Int32} {s : ps_S} {Q : Option Value → ps_S → Prop} (h :
  ps_Cl d 205 [.ref 1131] s (ps_rI (fun v1 s1 =>
    ps_nd (pm_in x1 40) (ps_Cl d 192 [.ref 1131] (ps_ua s1 1153 (Int32.toNatClampNeg x1) v1) (ps_rI (fun v2 s2 =>
      (v2 = 0 →
        Q none s2) ∧
      (v2 ≠ 0 →
        ps_Cl d 194 [.ref 1131] s2 (ps_rV (fun s3 =>
          Q none s3))))))))) : ps_At (d + 1) 239 32 [(0, .ref 1131), (1, .int x1)] [] s Q :=
  ps_wp_at (stops := [(32, [0, 1])]) (n := 15) h rfl

theorem ms_239_32 {x : Nat → Nat → Nat} {t : Int32} {d : Nat} {s0 : ps_S} {x1 : Int32} {Q : Option Value → ps_S → Prop} (k : ∀ (s' : ps_S), mJ x t s' → kp [1153] [5, 6, 7, 8, 9, 10, 11] s0 s' → ((ps_i s' 1131 8).toInt ≤ (ps_i s' 1131 4).toInt) → (1 ≤ (ps_i s' 1131 5).toInt ∨ (0 ≤ (ps_a s' 1153 (Int32.toNatClampNeg x1)).toInt ∧ (ps_a s' 1153 (Int32.toNatClampNeg x1)).toInt < (ps_a s' 1137 (Int32.toNatClampNeg (ps_i s' 1131 22))).toInt)) → (∀ j : Nat, j ≠ x1.toInt.toNat → ps_a s' 1153 j = ps_a s0 1153 j) → Q none s') (s : ps_S) (J : mJ x t s) (K : kp [1153] [5, 6, 7, 8, 9, 10, 11] s0 s) (i0 : (ps_i s 1131 8).toInt ≤ (ps_i s 1131 4).toInt) (i1 : 0 ≤ x1.toInt) (i2 : x1.toInt < 40) (i3 : 1 ≤ (ps_i s 1131 5).toInt ∨ (∃ z : Int32, 0 ≤ z.toInt ∧ z.toInt < (ps_a s 1137 (Int32.toNatClampNeg (ps_i s 1131 22))).toInt ∧ ((ps_i s 1131 9).toInt = 2 ∧ (lg_cmp (ps_b s 1142 (Int32.toNatClampNeg (((8 : Int32) * (ps_i s 1131 22)) + z))) (ps_j s 1131 11)).toInt = 0))) (h53 : ∀ j : Nat, ps_a s 1153 j = ps_a s0 1153 j) : ps_At (d + 2) 239 32 [(0, .ref 1131), (1, .int x1)] [] s Q := by
  have r1 := mf_8 J
  have r2 := mf_4 J
  refine pg_239_32 (d := d + 1) ?_
  refine mx_205 J  (fun v3 p3_0 p3_1 p3_2 p3_3 => ?_)
  have p3_0' : -1 ≤ v3.toInt := p3_0
  have p3_1' : v3.toInt < (ps_a s 1137 (Int32.toNatClampNeg (ps_i s 1131 22))).toInt := p3_1
  have r4 := mf_22 J
  have r5 : 0 ≤ (ps_a s 1137 (Int32.toNatClampNeg (ps_i s 1131 22))).toInt ∧ (ps_a s 1137 (Int32.toNatClampNeg (ps_i s 1131 22))).toInt ≤ 8 := ma_1137 (i := (ps_i s 1131 22)) J (show 0 ≤ (ps_i s 1131 22).toInt from by omega) (show (ps_i s 1131 22).toInt < 2 from by omega)
  have hz : _ := p3_3
  have hv0 : 1 ≤ (ps_i s 1131 5).toInt ∨ 0 ≤ (v3).toInt := by rcases i3 with z | ⟨z, z1, z2, z3⟩; exact Or.inl z; exact Or.inr (by rcases Int.lt_or_le (v3).toInt 0 with q | q; exact absurd z3 (hz (by omega) z z1 z2); exact q)
  refine ps_nd_i (show pm_in x1 40 = true from xgi (show 0 ≤ x1.toInt from by omega) (show x1.toInt < 40 from by omega)) ?_
  have J6 := mwa_1153 (i := (Int32.toNatClampNeg x1)) (v := v3) J (show -1 ≤ v3.toInt from by omega) (show v3.toInt ≤ 9999 from by omega)
  have K7 := kpa' K (r := 1153) (i := (Int32.toNatClampNeg x1)) (v := v3) rfl
  have h53p : ∀ j : Nat, j ≠ x1.toInt.toNat → ps_a (ps_ua s 1153 (Int32.toNatClampNeg x1) v3) 1153 j = ps_a s0 1153 j := fun j hj => (ua_ne hj).trans (h53 j)
  refine ms_192 J6  (fun v8 p8_0 b8 => ?_)
  have p8_0' : (v8.toInt = 0 ∧ 1 ≤ (ps_i s 1131 5).toInt) ∨ (v8.toInt = 1 ∧ (ps_i s 1131 5).toInt = 0) := p8_0
  have r9 := mf_5 J
  refine And.intro (fun h10 => ?_) (fun h10 => ?_)
  · have f11 : v8.toInt = (0 : Int) := xeq h10
    have w12 : (ps_a (ps_ua s 1153 (Int32.toNatClampNeg x1) v3) 1153 (Int32.toNatClampNeg x1)).toInt = v3.toInt := xeq ua_eq
    have r13 : -1 ≤ (ps_a (ps_ua s 1153 (Int32.toNatClampNeg x1) v3) 1153 (Int32.toNatClampNeg x1)).toInt ∧ (ps_a (ps_ua s 1153 (Int32.toNatClampNeg x1) v3) 1153 (Int32.toNatClampNeg x1)).toInt ≤ 9999 := ma_1153 (i := x1) J6 (show 0 ≤ x1.toInt from by omega) (show x1.toInt < 40 from by omega)
    exact k _ J6 K7 (show (ps_i s 1131 8).toInt ≤ (ps_i s 1131 4).toInt from by omega) (show 1 ≤ (ps_i s 1131 5).toInt ∨ (0 ≤ (ps_a (ps_ua s 1153 (Int32.toNatClampNeg x1) v3) 1153 (Int32.toNatClampNeg x1)).toInt ∧ (ps_a (ps_ua s 1153 (Int32.toNatClampNeg x1) v3) 1153 (Int32.toNatClampNeg x1)).toInt < (ps_a s 1137 (Int32.toNatClampNeg (ps_i s 1131 22))).toInt) from by first | omega | (have e22 : ps_i (ps_ua s 1153 (Int32.toNatClampNeg x1) v3) 1131 22 = ps_i s 1131 22 := kp_i KC 22 rfl; have e23 : (ps_a (ps_ua s 1153 (Int32.toNatClampNeg x1) v3) 1137 (Int32.toNatClampNeg (ps_i (ps_ua s 1153 (Int32.toNatClampNeg x1) v3) 1131 22))).toInt = (ps_a s 1137 (Int32.toNatClampNeg (ps_i s 1131 22))).toInt := (by rw [show ps_a (ps_ua s 1153 (Int32.toNatClampNeg x1) v3) 1137 = ps_a s 1137 from (KC.2 1137 rfl).1, e22]); omega)) h53p
  · have f14 : v8.toInt ≠ (0 : Int) := xne h10
    refine ms_194 J6 (show (ps_i s 1131 8).toInt ≤ (ps_i s 1131 4).toInt from by omega) (fun s15 J15 K15 p15_0 => ?_)
    have K16 := kpt K7 K15 rfl rfl
    have KC := K15
    have h53p : ∀ j : Nat, j ≠ x1.toInt.toNat → ps_a s15 1153 j = ps_a s0 1153 j := by rw [show ps_a s15 1153 = ps_a (ps_ua s 1153 (Int32.toNatClampNeg x1) v3) 1153 from (K15.2 1153 rfl).1]; exact h53p
    have p15_0' : (ps_i s15 1131 8).toInt ≤ (ps_i s15 1131 4).toInt := p15_0
    have r17 := mf_8 J15
    have r18 := mf_4 J15
    have u19 : (ps_i s15 1131 4).toInt = (ps_i s 1131 4).toInt := xeq (kp_i K15 4 rfl)
    have r20 := mf_5 J15
    have u21 : (ps_i s15 1131 5).toInt = (ps_i s 1131 5).toInt := xeq (kp_i K15 5 rfl)
    have r22 : -1 ≤ (ps_a s15 1153 (Int32.toNatClampNeg x1)).toInt ∧ (ps_a s15 1153 (Int32.toNatClampNeg x1)).toInt ≤ 9999 := ma_1153 (i := x1) J15 (show 0 ≤ x1.toInt from by omega) (show x1.toInt < 40 from by omega)
    have u23 : (ps_a s15 1153 (Int32.toNatClampNeg x1)).toInt = (ps_a (ps_ua s 1153 (Int32.toNatClampNeg x1) v3) 1153 (Int32.toNatClampNeg x1)).toInt := xeq (kp_a K15 1153 rfl _)
    have w24 : (ps_a (ps_ua s 1153 (Int32.toNatClampNeg x1) v3) 1153 (Int32.toNatClampNeg x1)).toInt = v3.toInt := xeq ua_eq
    have r25 := mf_22 J15
    have u26 : (ps_i s15 1131 22).toInt = (ps_i s 1131 22).toInt := xeq (kp_i K15 22 rfl)
    have r27 : 0 ≤ (ps_a s15 1137 (Int32.toNatClampNeg (ps_i s15 1131 22))).toInt ∧ (ps_a s15 1137 (Int32.toNatClampNeg (ps_i s15 1131 22))).toInt ≤ 8 := ma_1137 (i := (ps_i s15 1131 22)) J15 (show 0 ≤ (ps_i s15 1131 22).toInt from by omega) (show (ps_i s15 1131 22).toInt < 2 from by omega)
    have u28 : (ps_a s15 1137 (Int32.toNatClampNeg (ps_i s15 1131 22))).toInt = (ps_a s 1137 (Int32.toNatClampNeg (ps_i s15 1131 22))).toInt := xeq (kp_a K15 1137 rfl _)
    have r29 : 0 ≤ (ps_a s 1137 (Int32.toNatClampNeg (ps_i s15 1131 22))).toInt ∧ (ps_a s 1137 (Int32.toNatClampNeg (ps_i s15 1131 22))).toInt ≤ 8 := ma_1137 (i := (ps_i s15 1131 22)) J (show 0 ≤ (ps_i s15 1131 22).toInt from by omega) (show (ps_i s15 1131 22).toInt < 2 from by omega)
    exact k _ J15 K16 (show (ps_i s15 1131 8).toInt ≤ (ps_i s15 1131 4).toInt from by omega) (show 1 ≤ (ps_i s15 1131 5).toInt ∨ (0 ≤ (ps_a s15 1153 (Int32.toNatClampNeg x1)).toInt ∧ (ps_a s15 1153 (Int32.toNatClampNeg x1)).toInt < (ps_a s15 1137 (Int32.toNatClampNeg (ps_i s15 1131 22))).toInt) from by first | omega | (have e22 : ps_i s15 1131 22 = ps_i s 1131 22 := kp_i KC 22 rfl; have e23 : (ps_a s15 1137 (Int32.toNatClampNeg (ps_i s15 1131 22))).toInt = (ps_a s 1137 (Int32.toNatClampNeg (ps_i s 1131 22))).toInt := (by rw [show ps_a s15 1137 = ps_a s 1137 from (KC.2 1137 rfl).1, e22]); omega)) h53p

theorem ms_239 {x : Nat → Nat → Nat} {t : Int32} {s : ps_S} {d : Nat} {x1 : Int32} {f : ps_S → Prop} (J : mJ x t s) (q0 : (ps_i s 1131 8).toInt ≤ (ps_i s 1131 4).toInt) (q1 : 0 ≤ x1.toInt) (q2 : x1.toInt < 40) (q3 : (ps_i s 1131 5).toInt = 0) (k : ∀ (s' : ps_S), mJ x t s' → kp [1153] [5, 6, 7, 8, 9, 10, 11] s s' → ((ps_i s' 1131 8).toInt ≤ (ps_i s' 1131 4).toInt) → (1 ≤ (ps_i s' 1131 5).toInt ∨ (0 ≤ (ps_a s' 1153 (Int32.toNatClampNeg x1)).toInt ∧ (ps_a s' 1153 (Int32.toNatClampNeg x1)).toInt < (ps_a s' 1137 (Int32.toNatClampNeg (ps_i s' 1131 22))).toInt)) → (∀ j : Nat, j ≠ x1.toInt.toNat → ps_a s' 1153 j = ps_a s 1153 j) → f s') : ps_Cl (d + 2) 239 [.ref 1131, .int x1] s (ps_rV f) := by
  have r1 := mf_8 J
  have r2 := mf_4 J
  have r3 := mf_5 J
  have K : kp [1153] [5, 6, 7, 8, 9, 10, 11] s s := kp_refl
  refine pg_239_0 (d := d + 1) ?_
  have h53 : ∀ j : Nat, ps_a s 1153 j = ps_a s 1153 j := fun _ => rfl
  have r4 := mf_9 J
  refine And.intro (fun h5 => ?_) (fun h5 => ?_)
  · have f6 : (ps_i s 1131 9).toInt = (2 : Int) := xeq h5
    refine mx_205 J  (fun v7 p7_0 p7_1 p7_2 p7_3 => ?_)
    have p7_0' : -1 ≤ v7.toInt := p7_0
    have p7_1' : v7.toInt < (ps_a s 1137 (Int32.toNatClampNeg (ps_i s 1131 22))).toInt := p7_1
    have r8 := mf_22 J
    have r9 : 0 ≤ (ps_a s 1137 (Int32.toNatClampNeg (ps_i s 1131 22))).toInt ∧ (ps_a s 1137 (Int32.toNatClampNeg (ps_i s 1131 22))).toInt ≤ 8 := ma_1137 (i := (ps_i s 1131 22)) J (show 0 ≤ (ps_i s 1131 22).toInt from by omega) (show (ps_i s 1131 22).toInt < 2 from by omega)
    have hz : _ := p7_2
    refine And.intro (fun h10 => ?_) (fun h10 => ?_)
    · have f11 : (0 : Int) ≤ v7.toInt := xle h10
      exact ms_239_32 (x1 := x1) k   _ J K (show (ps_i s 1131 8).toInt ≤ (ps_i s 1131 4).toInt from by omega) (show 0 ≤ x1.toInt from by omega) (show x1.toInt < 40 from by omega) ((by first | exact Or.inl (show 1 ≤ (ps_i s 1131 5).toInt from by omega) | (refine Or.inr ⟨_, ?_, ?_, hz (by omega)⟩ <;> omega))) h53
    · have f12 : v7.toInt < (0 : Int) := xlt h10
      have r13 := mf_7 J
      refine ms_191 J (show 1 ≤ (6 : Int) from by omega) (show (6 : Int) ≤ 6 from by omega) (fun s14 J14 K14 p14_0 => ?_)
      have K15 := kpt K K14 rfl rfl
      have KC := K14
      have h53 : ∀ j : Nat, ps_a s14 1153 j = ps_a s 1153 j := by rw [show ps_a s14 1153 = ps_a s 1153 from (K14.2 1153 rfl).1]; exact h53
      have p14_0' : 1 ≤ (ps_i s14 1131 5).toInt := p14_0
      have r16 := mf_5 J14
      have r17 := mf_8 J14
      have u18 : (ps_i s14 1131 8).toInt = (ps_i s 1131 8).toInt := xeq (kp_i K14 8 rfl)
      have r19 := mf_4 J14
      have u20 : (ps_i s14 1131 4).toInt = (ps_i s 1131 4).toInt := xeq (kp_i K14 4 rfl)
      exact ms_239_32 (x1 := x1) k   _ J14 K15 (show (ps_i s14 1131 8).toInt ≤ (ps_i s14 1131 4).toInt from by omega) (show 0 ≤ x1.toInt from by omega) (show x1.toInt < 40 from by omega) ((by first | exact Or.inl (show 1 ≤ (ps_i s14 1131 5).toInt from by omega) | (refine Or.inr ⟨_, ?_, ?_, hz (by omega)⟩ <;> omega))) h53
  · have f21 : (ps_i s 1131 9).toInt ≠ (2 : Int) := xne h5
    refine ms_196 J  (fun s22 J22 K22 p22_0 => ?_)
    have K23 := kpt K K22 rfl rfl
    have KC := K22
    have h53 : ∀ j : Nat, ps_a s22 1153 j = ps_a s 1153 j := by rw [show ps_a s22 1153 = ps_a s 1153 from (K22.2 1153 rfl).1]; exact h53
    have p22_0' : 1 ≤ (ps_i s22 1131 5).toInt := p22_0
    have r24 := mf_5 J22
    have r25 := mf_8 J22
    have u26 : (ps_i s22 1131 8).toInt = (ps_i s 1131 8).toInt := xeq (kp_i K22 8 rfl)
    have r27 := mf_4 J22
    have u28 : (ps_i s22 1131 4).toInt = (ps_i s 1131 4).toInt := xeq (kp_i K22 4 rfl)
    exact ms_239_32 (x1 := x1) k   _ J22 K23 (show (ps_i s22 1131 8).toInt ≤ (ps_i s22 1131 4).toInt from by omega) (show 0 ≤ x1.toInt from by omega) (show x1.toInt < 40 from by omega) ((by first | exact Or.inl (show 1 ≤ (ps_i s22 1131 5).toInt from by omega) | (refine Or.inr ⟨_, ?_, ?_, hz (by omega)⟩ <;> omega))) h53
end
section
theorem pw3 {n : Int} (h1 : 1 ≤ n) (h3 : n ≤ 3) : ∀ k : Nat, 1 ≤ n ^ k ∧ n ^ k ≤ 3 ^ k
  | 0 => ⟨by rw [Int.pow_zero]; omega, by rw [Int.pow_zero, Int.pow_zero]; omega⟩
  | k + 1 => by
    obtain ⟨a, b⟩ := pw3 h1 h3 k
    have e1 := Int.mul_le_mul a h1 (by omega) (by omega)
    have e2 := Int.mul_le_mul b h3 (by omega) (by omega)
    rw [Int.pow_succ, Int.pow_succ]
    omega
theorem pw18 {k : Nat} (h : k ≤ 18) : (3 : Int) ^ k ≤ 387420489 := by
  have h2 : ∀ j : Fin 19, (3 : Int) ^ j.val ≤ 387420489 := by decide
  exact h2 ⟨k, by omega⟩
end
section
set_option maxRecDepth 100000
-- ProofBenchModel.power(II)I
theorem pg_290_0 {d : Nat} {x0 : Int32} {x1 : Int32} {s : ps_S} {Q : Option Value → ps_S → Prop} (h :
  ps_At d 290 4 [(0, .int x0), (1, .int x1), (2, .int 1), (3, .int 0)] [] s Q) : ps_At d 290 0 [(0, .int x0), (1, .int x1)] [] s Q :=
  ps_wp_at (stops := [(4, [0, 1, 2, 3])]) (n := 6) h rfl

theorem pg_290_4 {d : Nat} {x0 : Int32} {x1 : Int32} {x2 : Int32} {x3 : Int32} {s : ps_S} {Q : Option Value → ps_S → Prop} (h :
  (x1 ≤ x3 →
    Q (some (.int x2)) s) ∧
  (x3 < x1 →
    ps_At d 290 4 [(0, .int x0), (1, .int x1), (2, .int (x2 * x0)), (3, .int (x3 + 1))] [] s Q)) : ps_At d 290 4 [(0, .int x0), (1, .int x1), (2, .int x2), (3, .int x3)] [] s Q :=
  ps_wp_at (stops := [(4, [0, 1, 2, 3])]) (n := 13) h rfl

theorem ms_290_4 {x : Nat → Nat → Nat} {t : Int32} {d : Nat} {s : ps_S} {x0 : Int32} {x1 : Int32} {Q : Option Value → ps_S → Prop} (k : ∀ (v : Int32), (v.toInt = x0.toInt ^ (x1.toInt).toNat) → Q (some (.int v)) s) : ∀ (n : Nat) (x2 : Int32) (x3 : Int32), (mJ x t s) → (1 ≤ x0.toInt) → (x0.toInt ≤ 3) → (0 ≤ x1.toInt) → (x1.toInt ≤ 19) → (0 ≤ x3.toInt) → (x3.toInt ≤ x1.toInt) → (x2.toInt = x0.toInt ^ (x3.toInt).toNat) → 40 - x3.toInt ≤ (n : Int) → ps_At d 290 4 [(0, .int x0), (1, .int x1), (2, .int x2), (3, .int x3)] [] s Q := by
  refine xstr (fun n ih => ?_)
  intro x2 x3 J i0 i1 i2 i3 i4 i5 i6 hm
  refine pg_290_4 ?_
  refine And.intro (fun h1 => ?_) (fun h1 => ?_)
  · have f2 : x1.toInt ≤ x3.toInt := xle h1
    exact k x2 ((by rw [show x1.toInt = x3.toInt from by omega]; exact i6))
  · have f3 : x3.toInt < x1.toInt := xlt h1
    have hb := pw3 (n := x0.toInt) (by omega) (by omega) (x3.toInt).toNat
    have hb2 := pw18 (k := (x3.toInt).toNat) (by omega)
    have i6 : x2.toInt = x0.toInt ^ (x3.toInt).toNat := i6
    have hq : x0.toInt = 1 ∨ x0.toInt = 2 ∨ x0.toInt = 3 := by omega
    have hm2 : ((x2 * x0)).toInt = x2.toInt * x0.toInt := xIm (by rcases hq with z | z | z <;> rw [z] <;> omega) (by rcases hq with z | z | z <;> rw [z] <;> omega)
    have a4 : (x3 + 1).toInt = x3.toInt + (1 : Int) := xIa (show -2147483648 ≤ x3.toInt + (1 : Int) from by omega) (show x3.toInt + (1 : Int) < 2147483648 from by omega)
    exact ih (n - 1) (show n - 1 < n from by omega) (x2 * x0) (x3 + 1) J (show 1 ≤ x0.toInt from by omega) (show x0.toInt ≤ 3 from by omega) (show 0 ≤ x1.toInt from by omega) (show x1.toInt ≤ 19 from by omega) (show 0 ≤ (x3 + 1).toInt from by omega) (show (x3 + 1).toInt ≤ x1.toInt from by omega) ((by rw [hm2, i6, show (((x3 + 1)).toInt).toNat = (x3.toInt).toNat + 1 from by omega, Int.pow_succ])) (show 40 - (x3 + 1).toInt ≤ ((n - 1 : Nat) : Int) from by omega)

theorem ms_290 {x : Nat → Nat → Nat} {t : Int32} {s : ps_S} {d : Nat} {x0 : Int32} {x1 : Int32} {f : Int32 → ps_S → Prop} (J : mJ x t s) (q0 : 1 ≤ x0.toInt) (q1 : x0.toInt ≤ 3) (q2 : 0 ≤ x1.toInt) (q3 : x1.toInt ≤ 19) (k : ∀ (v : Int32), (v.toInt = x0.toInt ^ (x1.toInt).toNat) → f v s) : ps_Cl d 290 [.int x0, .int x1] s (ps_rI f) := by
  refine pg_290_0 ?_
  exact ms_290_4 (x0 := x0) (x1 := x1) k  (40 - (0 : Int)).toNat (1) (0) J (show 1 ≤ x0.toInt from by omega) (show x0.toInt ≤ 3 from by omega) (show 0 ≤ x1.toInt from by omega) (show x1.toInt ≤ 19 from by omega) (show 0 ≤ (0 : Int) from by omega) (show (0 : Int) ≤ x1.toInt from by omega) ((by rw [Int32.toInt_zero, show Int.toNat 0 = 0 from rfl, Int.pow_zero, xone])) (show 40 - (0 : Int) ≤ (((40 - (0 : Int)).toNat : Nat) : Int) from by omega)
end
section
theorem Rw_snoc {g g' : Nat → Int32} {a : Int} {l : List Nat} {p : Nat} (h : Rw g a l) (hl : l.length ≤ 39) (h1 : (g' a.toNat).toInt = (l.length : Int) + 1) (h2 : (g' (a.toNat + 1 + l.length)).toInt = p) (h3 : ∀ k : Nat, k ≠ a.toNat → k ≠ a.toNat + 1 + l.length → g' k = g k) : Rw g' a (l ++ [p]) := by
  obtain ⟨a1, a2, a3, a4, a5, a6⟩ := h
  refine ⟨a1, a2, a3, by rw [List.length_append]; show l.length + 1 ≤ 40; omega, by rw [h1, l1c], fun l1 q l2 e => ?_⟩
  rcases List.append_eq_append_iff.mp e with ⟨r, e1, e2⟩ | ⟨r, e1, e2⟩
  · cases r with
    | nil =>
      rw [List.append_nil] at e1
      rw [List.nil_append] at e2
      cases e2
      rw [e1]
      exact h2
    | cons c r =>
      rw [List.cons_append] at e2
      have := congrArg List.length e2
      simp at this
  · cases r with
    | nil =>
      rw [List.append_nil] at e1
      rw [List.nil_append] at e2
      cases e2
      rw [← e1]
      exact h2
    | cons c r =>
      rw [List.cons_append] at e2
      cases e2
      have : l1.length < l.length := by rw [e1, List.length_append, List.length_cons]; omega
      rw [h3 _ (by omega) (by omega)]
      exact a6 l1 q r e1
end
section
set_option maxRecDepth 100000
-- ProofBenchModel.emit(II)V
theorem pg_210_0 {d : Nat} {x1 : Int32} {x2 : Int32} {s : ps_S} {Q : Option Value → ps_S → Prop} (h :
  ps_nd (pm_in x1 27400) (ps_nd (pm_in x1 27400) (ps_nd (pm_in x1 27400) (ps_nd (pm_in (x1 + (ps_a (ps_ua s 1134 (Int32.toNatClampNeg x1) ((ps_a s 1134 (Int32.toNatClampNeg x1)) + 1)) 1134 (Int32.toNatClampNeg x1))) 27400) (Q none (ps_ua (ps_ua s 1134 (Int32.toNatClampNeg x1) ((ps_a s 1134 (Int32.toNatClampNeg x1)) + 1)) 1134 (Int32.toNatClampNeg (x1 + (ps_a (ps_ua s 1134 (Int32.toNatClampNeg x1) ((ps_a s 1134 (Int32.toNatClampNeg x1)) + 1)) 1134 (Int32.toNatClampNeg x1)))) x2)))))) : ps_At d 210 0 [(0, .ref 1131), (1, .int x1), (2, .int x2)] [] s Q :=
  ps_wp_at (stops := []) (n := 21) h rfl

theorem ms_210 {x : Nat → Nat → Nat} {t : Int32} {s : ps_S} {d : Nat} {x1 : Int32} {x2 : Int32} {f : ps_S → Prop} (J : mJ x t s) {l : List Nat} {p : Nat} (hR : Rw (ps_a s 1134) x1.toInt l) (q1 : l.length ≤ 39) (q2 : x2.toInt = (p : Int)) (k : ∀ (s' : ps_S), mJ x t s' → kp [1134] [] s s' → (Rw (ps_a s' 1134) x1.toInt (l ++ [p])) → (∀ i : Nat, (i : Int) < x1.toInt ∨ x1.toInt + 41 ≤ (i : Int) → ps_a s' 1134 i = ps_a s 1134 i) → f s') : ps_Cl d 210 [.ref 1131, .int x1, .int x2] s (ps_rV f) := by
  have K : kp [1134] [] s s := kp_refl
  refine pg_210_0 ?_
  obtain ⟨hr1, hr2, hr3, hr4, hr5, hr6⟩ := id hR
  have hr1 : x1.toInt % 41 = 0 := hr1
  have hr2 : 0 ≤ x1.toInt := hr2
  have hr3 : x1.toInt < 27306 := hr3
  have hn : (ps_a s 1134 (Int32.toNatClampNeg x1)).toInt = (l.length : Int) := Rw_n hR
  have ex : Int32.toNatClampNeg x1 = x1.toInt.toNat := rfl
  refine ps_nd_i (show pm_in x1 27400 = true from xgi (show 0 ≤ x1.toInt from by omega) (show x1.toInt < 27400 from by omega)) ?_
  have r1 : x1.toInt % 41 = 0 → x1.toInt < 27306 → 0 ≤ (ps_a s 1134 (Int32.toNatClampNeg x1)).toInt ∧ (ps_a s 1134 (Int32.toNatClampNeg x1)).toInt ≤ 40 := fun z1 z2 => mp_row (i := x1) J z1 (show 0 ≤ x1.toInt from by omega) z2
  have a2 : ((ps_a s 1134 (Int32.toNatClampNeg x1)) + 1).toInt = (ps_a s 1134 (Int32.toNatClampNeg x1)).toInt + (1 : Int) := xIa (show -2147483648 ≤ (ps_a s 1134 (Int32.toNatClampNeg x1)).toInt + (1 : Int) from by omega) (show (ps_a s 1134 (Int32.toNatClampNeg x1)).toInt + (1 : Int) < 2147483648 from by omega)
  refine ps_nd_i (show pm_in x1 27400 = true from xgi (show 0 ≤ x1.toInt from by omega) (show x1.toInt < 27400 from by omega)) ?_
  have J3 := mw_p (i := x1) (v := ((ps_a s 1134 (Int32.toNatClampNeg x1)) + 1)) J (show x1.toInt % 41 = 0 → 0 ≤ ((ps_a s 1134 (Int32.toNatClampNeg x1)) + 1).toInt ∧ ((ps_a s 1134 (Int32.toNatClampNeg x1)) + 1).toInt ≤ 40 from by omega) (show 0 ≤ x1.toInt from by omega)
  have K4 := kpa' K (r := 1134) (i := (Int32.toNatClampNeg x1)) (v := ((ps_a s 1134 (Int32.toNatClampNeg x1)) + 1)) rfl
  refine ps_nd_i (show pm_in x1 27400 = true from xgi (show 0 ≤ x1.toInt from by omega) (show x1.toInt < 27400 from by omega)) ?_
  have w5 : (ps_a (ps_ua s 1134 (Int32.toNatClampNeg x1) ((ps_a s 1134 (Int32.toNatClampNeg x1)) + 1)) 1134 (Int32.toNatClampNeg x1)).toInt = ((ps_a s 1134 (Int32.toNatClampNeg x1)) + 1).toInt := xeq ua_eq
  have r6 : x1.toInt % 41 = 0 → x1.toInt < 27306 → 0 ≤ (ps_a (ps_ua s 1134 (Int32.toNatClampNeg x1) ((ps_a s 1134 (Int32.toNatClampNeg x1)) + 1)) 1134 (Int32.toNatClampNeg x1)).toInt ∧ (ps_a (ps_ua s 1134 (Int32.toNatClampNeg x1) ((ps_a s 1134 (Int32.toNatClampNeg x1)) + 1)) 1134 (Int32.toNatClampNeg x1)).toInt ≤ 40 := fun z1 z2 => mp_row (i := x1) J3 z1 (show 0 ≤ x1.toInt from by omega) z2
  have a7 : (x1 + (ps_a (ps_ua s 1134 (Int32.toNatClampNeg x1) ((ps_a s 1134 (Int32.toNatClampNeg x1)) + 1)) 1134 (Int32.toNatClampNeg x1))).toInt = x1.toInt + (ps_a (ps_ua s 1134 (Int32.toNatClampNeg x1) ((ps_a s 1134 (Int32.toNatClampNeg x1)) + 1)) 1134 (Int32.toNatClampNeg x1)).toInt := xIa (show -2147483648 ≤ x1.toInt + (ps_a (ps_ua s 1134 (Int32.toNatClampNeg x1) ((ps_a s 1134 (Int32.toNatClampNeg x1)) + 1)) 1134 (Int32.toNatClampNeg x1)).toInt from by omega) (show x1.toInt + (ps_a (ps_ua s 1134 (Int32.toNatClampNeg x1) ((ps_a s 1134 (Int32.toNatClampNeg x1)) + 1)) 1134 (Int32.toNatClampNeg x1)).toInt < 2147483648 from by omega)
  refine ps_nd_i (show pm_in (x1 + (ps_a (ps_ua s 1134 (Int32.toNatClampNeg x1) ((ps_a s 1134 (Int32.toNatClampNeg x1)) + 1)) 1134 (Int32.toNatClampNeg x1))) 27400 = true from xgi (show 0 ≤ (x1 + (ps_a (ps_ua s 1134 (Int32.toNatClampNeg x1) ((ps_a s 1134 (Int32.toNatClampNeg x1)) + 1)) 1134 (Int32.toNatClampNeg x1))).toInt from by omega) (show (x1 + (ps_a (ps_ua s 1134 (Int32.toNatClampNeg x1) ((ps_a s 1134 (Int32.toNatClampNeg x1)) + 1)) 1134 (Int32.toNatClampNeg x1))).toInt < 27400 from by omega)) ?_
  have J8 := mw_p (i := (x1 + (ps_a (ps_ua s 1134 (Int32.toNatClampNeg x1) ((ps_a s 1134 (Int32.toNatClampNeg x1)) + 1)) 1134 (Int32.toNatClampNeg x1)))) (v := x2) J3 (show (x1 + (ps_a (ps_ua s 1134 (Int32.toNatClampNeg x1) ((ps_a s 1134 (Int32.toNatClampNeg x1)) + 1)) 1134 (Int32.toNatClampNeg x1))).toInt % 41 = 0 → 0 ≤ x2.toInt ∧ x2.toInt ≤ 40 from by omega) (show 0 ≤ (x1 + (ps_a (ps_ua s 1134 (Int32.toNatClampNeg x1) ((ps_a s 1134 (Int32.toNatClampNeg x1)) + 1)) 1134 (Int32.toNatClampNeg x1))).toInt from by omega)
  have K9 := kpa' K4 (r := 1134) (i := (Int32.toNatClampNeg (x1 + (ps_a (ps_ua s 1134 (Int32.toNatClampNeg x1) ((ps_a s 1134 (Int32.toNatClampNeg x1)) + 1)) 1134 (Int32.toNatClampNeg x1))))) (v := x2) rfl
  have e2 : Int32.toNatClampNeg (x1 + (ps_a (ps_ua s 1134 (Int32.toNatClampNeg x1) ((ps_a s 1134 (Int32.toNatClampNeg x1)) + 1)) 1134 (Int32.toNatClampNeg x1))) = x1.toInt.toNat + 1 + l.length := by show (x1 + (ps_a (ps_ua s 1134 (Int32.toNatClampNeg x1) ((ps_a s 1134 (Int32.toNatClampNeg x1)) + 1)) 1134 (Int32.toNatClampNeg x1))).toInt.toNat = _; omega
  exact k _ J8 K9 (Rw_snoc hR q1 (by rw [ua_ne (by omega), show ps_a (ps_ua s 1134 (Int32.toNatClampNeg x1) ((ps_a s 1134 (Int32.toNatClampNeg x1)) + 1)) 1134 (x1.toInt.toNat) = _ from ua_eq]; omega) (by rw [show ps_a (ps_ua (ps_ua s 1134 (Int32.toNatClampNeg x1) ((ps_a s 1134 (Int32.toNatClampNeg x1)) + 1)) 1134 (Int32.toNatClampNeg (x1 + (ps_a (ps_ua s 1134 (Int32.toNatClampNeg x1) ((ps_a s 1134 (Int32.toNatClampNeg x1)) + 1)) 1134 (Int32.toNatClampNeg x1)))) x2) 1134 (x1.toInt.toNat + 1 + l.length) = x2 from (by rw [← e2]; exact ua_eq)]; exact q2) (fun k h1 h2 => (ua_ne (by omega)).trans (ua_ne (by omega)))) (fun i hi => (ua_ne (by omega)).trans (ua_ne (by omega)))
end
section
set_option maxRecDepth 100000
-- ProofBenchModel.freeMany(I)I
theorem pg_298_0 {d : Nat} {x1 : Int32} {s : ps_S} {Q : Option Value → ps_S → Prop} (h :
  ps_At (d + 1) 298 4 [(0, .ref 1131), (1, .int x1), (2, .int 0), (3, .int 0)] [] s Q) : ps_At (d + 1) 298 0 [(0, .ref 1131), (1, .int x1)] [] s Q :=
  ps_wp_at (stops := [(4, [0, 1, 2, 3])]) (n := 6) h rfl

theorem pg_298_4 {d : Nat} {x1 : Int32} {x2 : Int32} {x3 : Int32} {s : ps_S} {Q : Option Value → ps_S → Prop} (h :
  (12 ≤ x3 →
    Q (some (.int x2)) s) ∧
  (x3 < 12 →
    ps_Cl d 223 [.ref 1131, .int x1, .int x3] s (ps_rI (fun v1 s1 =>
      (v1 = 0 →
        ps_At (d + 1) 298 4 [(0, .ref 1131), (1, .int x1), (2, .int (x2 + 0)), (3, .int (x3 + 1))] [] s1 Q) ∧
      (v1 ≠ 0 →
        ps_At (d + 1) 298 4 [(0, .ref 1131), (1, .int x1), (2, .int (x2 + 1)), (3, .int (x3 + 1))] [] s1 Q))))) : ps_At (d + 1) 298 4 [(0, .ref 1131), (1, .int x1), (2, .int x2), (3, .int x3)] [] s Q :=
  ps_wp_at (stops := [(4, [0, 1, 2, 3])]) (n := 24) h rfl

theorem ms_298_4 {x : Nat → Nat → Nat} {t : Int32} {d : Nat} {s : ps_S} {l : List Nat} {x1 : Int32} {Q : Option Value → ps_S → Prop} (k : ∀ (v : Int32), (0 ≤ v.toInt) → (v.toInt ≤ 12) → Q (some (.int v)) s) : ∀ (n : Nat) (x2 : Int32) (x3 : Int32), (mJ x t s) → (Rw (ps_a s 1134) x1.toInt l) → (0 ≤ x2.toInt) → (x2.toInt ≤ x3.toInt) → (x3.toInt ≤ 12) → 20 - x3.toInt ≤ (n : Int) → ps_At (d + 2) 298 4 [(0, .ref 1131), (1, .int x1), (2, .int x2), (3, .int x3)] [] s Q := by
  refine xstr (fun n ih => ?_)
  intro x2 x3 J hR i1 i2 i3 hm
  refine pg_298_4 (d := d + 1) ?_
  refine And.intro (fun h1 => ?_) (fun h1 => ?_)
  · have f2 : (12 : Int) ≤ x3.toInt := xle h1
    exact k x2 (show 0 ≤ x2.toInt from by omega) (show x2.toInt ≤ 12 from by omega)
  · have f3 : x3.toInt < (12 : Int) := xlt h1
    refine ms_223 J hR (show 0 ≤ x3.toInt from by omega) (show x3.toInt ≤ 11 from by omega) (fun v4 p4_0 b4 => ?_)
    refine And.intro (fun h5 => ?_) (fun h5 => ?_)
    · have f6 : v4.toInt = (0 : Int) := xeq h5
      have a7 : (x2 + 0).toInt = x2.toInt + (0 : Int) := xIa (show -2147483648 ≤ x2.toInt + (0 : Int) from by omega) (show x2.toInt + (0 : Int) < 2147483648 from by omega)
      have a8 : (x3 + 1).toInt = x3.toInt + (1 : Int) := xIa (show -2147483648 ≤ x3.toInt + (1 : Int) from by omega) (show x3.toInt + (1 : Int) < 2147483648 from by omega)
      exact ih (n - 1) (show n - 1 < n from by omega) (x2 + 0) (x3 + 1) J hR (show 0 ≤ (x2 + 0).toInt from by omega) (show (x2 + 0).toInt ≤ (x3 + 1).toInt from by omega) (show (x3 + 1).toInt ≤ 12 from by omega) (show 20 - (x3 + 1).toInt ≤ ((n - 1 : Nat) : Int) from by omega)
    · have f9 : v4.toInt ≠ (0 : Int) := xne h5
      have a10 : (x2 + 1).toInt = x2.toInt + (1 : Int) := xIa (show -2147483648 ≤ x2.toInt + (1 : Int) from by omega) (show x2.toInt + (1 : Int) < 2147483648 from by omega)
      have a11 : (x3 + 1).toInt = x3.toInt + (1 : Int) := xIa (show -2147483648 ≤ x3.toInt + (1 : Int) from by omega) (show x3.toInt + (1 : Int) < 2147483648 from by omega)
      exact ih (n - 1) (show n - 1 < n from by omega) (x2 + 1) (x3 + 1) J hR (show 0 ≤ (x2 + 1).toInt from by omega) (show (x2 + 1).toInt ≤ (x3 + 1).toInt from by omega) (show (x3 + 1).toInt ≤ 12 from by omega) (show 20 - (x3 + 1).toInt ≤ ((n - 1 : Nat) : Int) from by omega)

theorem ms_298 {x : Nat → Nat → Nat} {t : Int32} {s : ps_S} {d : Nat} {x1 : Int32} {f : Int32 → ps_S → Prop} (J : mJ x t s) {l : List Nat} (hR : Rw (ps_a s 1134) x1.toInt l) (k : ∀ (v : Int32), (0 ≤ v.toInt) → (v.toInt ≤ 12) → f v s) : ps_Cl (d + 2) 298 [.ref 1131, .int x1] s (ps_rI f) := by
  refine pg_298_0 (d := d + 1) ?_
  exact ms_298_4 (x1 := x1) (l := l) k  (20 - (0 : Int)).toNat (0) (0) J hR (show 0 ≤ (0 : Int) from by omega) (show (0 : Int) ≤ (0 : Int) from by omega) (show (0 : Int) ≤ 12 from by omega) (show 20 - (0 : Int) ≤ (((20 - (0 : Int)).toNat : Nat) : Int) from by omega)

-- ProofBenchModel.quantified(III)I
theorem pg_297_0 {d : Nat} {x1 : Int32} {x2 : Int32} {x3 : Int32} {s : ps_S} {Q : Option Value → ps_S → Prop} (h :
  ps_At d 297 3 [(0, .ref 1131), (1, .int x1), (2, .int x2), (3, .int x3), (4, .int 0)] [] s Q) : ps_At d 297 0 [(0, .ref 1131), (1, .int x1), (2, .int x2), (3, .int x3)] [] s Q :=
  ps_wp_at (stops := [(3, [0, 1, 2, 3, 4])]) (n := 4) h rfl

theorem pg_297_3 {d : Nat} {x1 : Int32} {x2 : Int32} {x3 : Int32} {x4 : Int32} {s : ps_S} {Q : Option Value → ps_S → Prop} (h :
  (x3 ≤ x4 →
    (x1 ≠ 4 →
      Q (some (.int 0)) s) ∧
    (x1 = 4 →
      Q (some (.int 1)) s)) ∧
  (x4 < x3 →
    ps_nd (pm_in (x2 + x4) 10206) ((x1 ≠ 4 →
      ((ps_a s 1174 (Int32.toNatClampNeg (x2 + x4))) ≠ 1 →
        ps_At d 297 3 [(0, .ref 1131), (1, .int x1), (2, .int x2), (3, .int x3), (4, .int (x4 + 1))] [] s Q) ∧
      ((ps_a s 1174 (Int32.toNatClampNeg (x2 + x4))) = 1 →
        (x1 ≠ 4 →
          Q (some (.int 1)) s) ∧
        (x1 = 4 →
          Q (some (.int 0)) s))) ∧
    (x1 = 4 →
      ((ps_a s 1174 (Int32.toNatClampNeg (x2 + x4))) ≠ 0 →
        ps_At d 297 3 [(0, .ref 1131), (1, .int x1), (2, .int x2), (3, .int x3), (4, .int (x4 + 1))] [] s Q) ∧
      ((ps_a s 1174 (Int32.toNatClampNeg (x2 + x4))) = 0 →
        (x1 ≠ 4 →
          Q (some (.int 1)) s) ∧
        (x1 = 4 →
          Q (some (.int 0)) s)))))) : ps_At d 297 3 [(0, .ref 1131), (1, .int x1), (2, .int x2), (3, .int x3), (4, .int x4)] [] s Q :=
  ps_wp_at (stops := [(3, [0, 1, 2, 3, 4])]) (n := 47) h rfl

theorem ms_297_3 {x : Nat → Nat → Nat} {t : Int32} {d : Nat} {s : ps_S} {x1 : Int32} {x2 : Int32} {x3 : Int32} {Q : Option Value → ps_S → Prop} (k : ∀ (v : Int32), (0 ≤ v.toInt) → (v.toInt ≤ 1) → Q (some (.int v)) s) : ∀ (n : Nat) (x4 : Int32), (mJ x t s) → (0 ≤ x2.toInt) → (0 ≤ x3.toInt) → (x3.toInt ≤ 3) → (x2.toInt + x3.toInt ≤ 10206) → (0 ≤ x4.toInt) → (x4.toInt ≤ x3.toInt) → 10 - x4.toInt ≤ (n : Int) → ps_At d 297 3 [(0, .ref 1131), (1, .int x1), (2, .int x2), (3, .int x3), (4, .int x4)] [] s Q := by
  refine xstr (fun n ih => ?_)
  intro x4 J i0 i1 i2 i3 i4 i5 hm
  refine pg_297_3 ?_
  refine And.intro (fun h1 => ?_) (fun h1 => ?_)
  · have f2 : x3.toInt ≤ x4.toInt := xle h1
    refine And.intro (fun h3 => ?_) (fun h3 => ?_)
    · have f4 : x1.toInt ≠ (4 : Int) := xne h3
      exact k (0 : Int32) (show 0 ≤ (0 : Int) from by omega) (show (0 : Int) ≤ 1 from by omega)
    · have f5 : x1.toInt = (4 : Int) := xeq h3
      exact k (1 : Int32) (show 0 ≤ (1 : Int) from by omega) (show (1 : Int) ≤ 1 from by omega)
  · have f6 : x4.toInt < x3.toInt := xlt h1
    have a7 : (x2 + x4).toInt = x2.toInt + x4.toInt := xIa (show -2147483648 ≤ x2.toInt + x4.toInt from by omega) (show x2.toInt + x4.toInt < 2147483648 from by omega)
    refine ps_nd_i (show pm_in (x2 + x4) 10206 = true from xgi (show 0 ≤ (x2 + x4).toInt from by omega) (show (x2 + x4).toInt < 10206 from by omega)) ?_
    refine And.intro (fun h8 => ?_) (fun h8 => ?_)
    · have f9 : x1.toInt ≠ (4 : Int) := xne h8
      refine And.intro (fun h10 => ?_) (fun h10 => ?_)
      · have f11 : (ps_a s 1174 (Int32.toNatClampNeg (x2 + x4))).toInt ≠ (1 : Int) := xne h10
        have a12 : (x4 + 1).toInt = x4.toInt + (1 : Int) := xIa (show -2147483648 ≤ x4.toInt + (1 : Int) from by omega) (show x4.toInt + (1 : Int) < 2147483648 from by omega)
        exact ih (n - 1) (show n - 1 < n from by omega) (x4 + 1) J (show 0 ≤ x2.toInt from by omega) (show 0 ≤ x3.toInt from by omega) (show x3.toInt ≤ 3 from by omega) (show x2.toInt + x3.toInt ≤ 10206 from by omega) (show 0 ≤ (x4 + 1).toInt from by omega) (show (x4 + 1).toInt ≤ x3.toInt from by omega) (show 10 - (x4 + 1).toInt ≤ ((n - 1 : Nat) : Int) from by omega)
      · have f13 : (ps_a s 1174 (Int32.toNatClampNeg (x2 + x4))).toInt = (1 : Int) := xeq h10
        refine And.intro (fun h14 => ?_) (fun h14 => ?_)
        · have f15 : x1.toInt ≠ (4 : Int) := xne h14
          exact k (1 : Int32) (show 0 ≤ (1 : Int) from by omega) (show (1 : Int) ≤ 1 from by omega)
        · have f16 : x1.toInt = (4 : Int) := xeq h14
          exact k (0 : Int32) (show 0 ≤ (0 : Int) from by omega) (show (0 : Int) ≤ 1 from by omega)
    · have f17 : x1.toInt = (4 : Int) := xeq h8
      refine And.intro (fun h18 => ?_) (fun h18 => ?_)
      · have f19 : (ps_a s 1174 (Int32.toNatClampNeg (x2 + x4))).toInt ≠ (0 : Int) := xne h18
        have a20 : (x4 + 1).toInt = x4.toInt + (1 : Int) := xIa (show -2147483648 ≤ x4.toInt + (1 : Int) from by omega) (show x4.toInt + (1 : Int) < 2147483648 from by omega)
        exact ih (n - 1) (show n - 1 < n from by omega) (x4 + 1) J (show 0 ≤ x2.toInt from by omega) (show 0 ≤ x3.toInt from by omega) (show x3.toInt ≤ 3 from by omega) (show x2.toInt + x3.toInt ≤ 10206 from by omega) (show 0 ≤ (x4 + 1).toInt from by omega) (show (x4 + 1).toInt ≤ x3.toInt from by omega) (show 10 - (x4 + 1).toInt ≤ ((n - 1 : Nat) : Int) from by omega)
      · have f21 : (ps_a s 1174 (Int32.toNatClampNeg (x2 + x4))).toInt = (0 : Int) := xeq h18
        refine And.intro (fun h22 => ?_) (fun h22 => ?_)
        · have f23 : x1.toInt ≠ (4 : Int) := xne h22
          exact k (1 : Int32) (show 0 ≤ (1 : Int) from by omega) (show (1 : Int) ≤ 1 from by omega)
        · have f24 : x1.toInt = (4 : Int) := xeq h22
          exact k (0 : Int32) (show 0 ≤ (0 : Int) from by omega) (show (0 : Int) ≤ 1 from by omega)

theorem ms_297 {x : Nat → Nat → Nat} {t : Int32} {s : ps_S} {d : Nat} {x1 : Int32} {x2 : Int32} {x3 : Int32} {f : Int32 → ps_S → Prop} (J : mJ x t s) (q0 : 0 ≤ x2.toInt) (q1 : 0 ≤ x3.toInt) (q2 : x3.toInt ≤ 3) (q3 : x2.toInt + x3.toInt ≤ 10206) (k : ∀ (v : Int32), (0 ≤ v.toInt) → (v.toInt ≤ 1) → f v s) : ps_Cl d 297 [.ref 1131, .int x1, .int x2, .int x3] s (ps_rI f) := by
  refine pg_297_0 ?_
  exact ms_297_3 (x1 := x1) (x2 := x2) (x3 := x3) k  (10 - (0 : Int)).toNat (0) J (show 0 ≤ x2.toInt from by omega) (show 0 ≤ x3.toInt from by omega) (show x3.toInt ≤ 3 from by omega) (show x2.toInt + x3.toInt ≤ 10206 from by omega) (show 0 ≤ (0 : Int) from by omega) (show (0 : Int) ≤ x3.toInt from by omega) (show 10 - (0 : Int) ≤ (((10 - (0 : Int)).toNat : Nat) : Int) from by omega)
end
section
theorem ua_if {s : ps_S} {r i j : Nat} {v : Int32} : ps_a (ps_ua s r i v) r j = if j = i then v else ps_a s r j := by
  rw [ps_a_ua]
  by_cases e : j = i
  · rw [if_pos ⟨rfl, e⟩, if_pos e]
  · rw [if_neg (fun z => e z.2), if_neg e]
theorem nx {i : Int32} {n : Int} (h : i.toInt = n) : Int32.toNatClampNeg i = n.toNat := by
  show i.toInt.toNat = _
  rw [h]
theorem lg_eq {a b : Int64} (h : (lg_cmp a b).toInt = 0) : a = b := by
  unfold lg_cmp at h
  split at h
  · exact absurd h (by decide)
  · split at h
    · next q => exact q
    · exact absurd h (by decide)
theorem lgx {a b c : Int64} (h : (lg_cmp a b).toInt = 0) (h' : (lg_cmp a c).toInt = 0) : b = c := (lg_eq h).symm.trans (lg_eq h')
theorem Rw_zero {g : Nat → Int32} {a : Int} (h1 : a % 41 = 0) (h2 : 0 ≤ a) (h3 : a < 27306) (h : (g a.toNat).toInt = 0) : Rw g a [] := ⟨h1, h2, h3, by decide, h, fun l1 p l2 e => by simp at e⟩
/-! the reader: what is still wanted, level by level; z: the zeros that the nots on the stack will still write -/
def Rdk (gw gt gn gb : Nat → Int32) : Nat → Int → List (Bool × Nat) → Nat → Prop
  | 0, k, W, z => k = 0 ∧ W = [] ∧ z = 0
  | n + 1, k, W, z => ∃ (c : Nat) (W' : List (Bool × Nat)) (z' : Nat), (gw n).toInt = c ∧ 0 ≤ k ∧ W = List.replicate c (decide (gt n = 0), k.toNat) ++ ((if gn n = 0 then [] else [(true, k.toNat)]) ++ W') ∧ z = (if gn n = 0 then 0 else 1) + z' ∧ Rdk gw gt gn gb n (k - if gb n = 0 then 0 else 1) W' z'
theorem Rdk_nn {gw gt gn gb : Nat → Int32} : ∀ {n : Nat} {k : Int} {W : List (Bool × Nat)} {z : Nat}, Rdk gw gt gn gb n k W z → 0 ≤ k
  | 0, k, W, z, h => by rw [h.1]; exact Int.le_refl _
  | n + 1, k, W, z, ⟨_, _, _, _, h, _⟩ => h
theorem Rdk_ext {gw gt gn gb gw' gt' gn' gb' : Nat → Int32} : ∀ {n : Nat} {k : Int} {W : List (Bool × Nat)} {z : Nat}, (∀ i, i < n → gw' i = gw i ∧ gt' i = gt i ∧ gn' i = gn i ∧ gb' i = gb i) → Rdk gw gt gn gb n k W z → Rdk gw' gt' gn' gb' n k W z
  | 0, k, W, z, _, h => h
  | n + 1, k, W, z, he, ⟨c, W', z', h1, h2, h3, h4, h5⟩ => by
    obtain ⟨e1, e2, e3, e4⟩ := he n (by omega)
    exact ⟨c, W', z', by rw [e1]; exact h1, h2, by rw [e2, e3]; exact h3, by rw [e3]; exact h4, by rw [e4]; exact Rdk_ext (fun i hi => he i (by omega)) h5⟩
/-- l stands written, the stack is wanted -/
def RQ (σ : mSig) (gw gt gn gb : Nat → Int32) (n k cnt cl : Int) (l : List Nat) (b : Bool) : Prop := ∃ W z, Rdk gw gt gn gb n.toNat k W z ∧ cnt = (l.length : Int) + (z : Int) ∧ (∀ m, wf σ 5 m W → wf σ 5 (l ++ m) [(b, 0)]) ∧ (cl ≠ 0 → ∀ p, p ∈ l → p < 60)
/-- l stands written, a piece of sort b0 is wanted, then the stack -/
def RH (σ : mSig) (gw gt gn gb : Nat → Int32) (n k cnt cl : Int) (l : List Nat) (b b0 : Bool) : Prop := ∃ W z, Rdk gw gt gn gb n.toNat k W z ∧ cnt = (l.length : Int) + (z : Int) ∧ (∀ m, wf σ 5 m ((b0, k.toNat) :: W) → wf σ 5 (l ++ m) [(b, 0)]) ∧ (cl ≠ 0 → ∀ p, p ∈ l → p < 60)
theorem RH_cnt {σ : mSig} {gw gt gn gb : Nat → Int32} {n k cnt cnt' cl : Int} {l : List Nat} {b b0 : Bool} (h : RH σ gw gt gn gb n k cnt cl l b b0) (e : cnt' = cnt) : RH σ gw gt gn gb n k cnt' cl l b b0 := by rw [e]; exact h
theorem RH_len {σ : mSig} {gw gt gn gb : Nat → Int32} {n k cnt cl : Int} {l : List Nat} {b b0 : Bool} (h : RH σ gw gt gn gb n k cnt cl l b b0) : (l.length : Int) ≤ cnt := by
  obtain ⟨W, z, h1, h2, h3, h4⟩ := h
  omega
theorem RH_0 {σ : mSig} {gw gt gn gb : Nat → Int32} {cl : Int} {b : Bool} : RH σ gw gt gn gb 0 0 0 cl [] b b := ⟨[], 0, ⟨rfl, rfl, rfl⟩, rfl, fun _ z => z, fun _ p hp => by cases hp⟩
theorem RH_00 {σ : mSig} {gw gt gn gb : Nat → Int32} {n k cnt cl : Int} {b : Bool} (hn : n = 0) (hk : k = 0) (hc : cnt = 0) : RH σ gw gt gn gb n k cnt cl [] b b := by
  subst hn; subst hk; subst hc; exact RH_0
/-- a piece taken, its children on the stack -/
theorem RQ_c {σ : mSig} {gw gt gn gb gw' gt' gn' gb' : Nat → Int32} {n k k' n' cnt cnt' cl cl' w : Int} {l : List Nat} {c : Nat} {b b0 : Bool} (h : RH σ gw gt gn gb n k cnt cl l b b0) (hn : 0 ≤ n) (hk : k ≤ 5) (hs : kS σ b0 c = some (List.replicate w.toNat (decide (gt' n.toNat = 0)))) (hw0 : 0 ≤ w) (hw : (gw' n.toNat).toInt = w) (hno : gn' n.toNat = 0) (hb : k' = k + if c = 4 ∨ c = 5 then 1 else 0) (h5 : gb' n.toNat = 0 ↔ ¬ (c = 4 ∨ c = 5)) (he : ∀ i, i < n.toNat → gw' i = gw i ∧ gt' i = gt i ∧ gn' i = gn i ∧ gb' i = gb i) (hn' : n' = n + 1) (hc' : cnt' = cnt + 1) (hcl' : cl' = cl) (hcl : cl ≠ 0 → c < 60) : RQ σ gw' gt' gn' gb' n' k' cnt' cl' (l ++ [c]) b := by
  obtain ⟨W, z, h1, h2, h3, h4⟩ := h
  have hk0 := Rdk_nn h1
  have hlev : (if c = 4 ∨ c = 5 then k.toNat + 1 else k.toNat) = k'.toNat := by
    split at hb
    · next q => rw [if_pos q]; omega
    · next q => rw [if_neg q]; omega
  refine ⟨List.replicate w.toNat (decide (gt' n.toNat = 0), k'.toNat) ++ W, z, ?_, by rw [hc', h2, l1c]; omega, fun m hm => ?_, fun q p hp => ?_⟩
  · rw [show n'.toNat = n.toNat + 1 from by omega]
    refine ⟨w.toNat, W, z, by rw [hw]; omega, by split at hb <;> omega, by rw [if_pos hno]; rfl, by rw [if_pos hno]; omega, ?_⟩
    have : (k' - if gb' n.toNat = 0 then 0 else 1) = k := by
      by_cases q : c = 4 ∨ c = 5
      · rw [if_neg (fun q' => (h5.mp q') q), hb, if_pos q]; omega
      · rw [if_pos (h5.mpr q), hb, if_neg q]; omega
    rw [this]
    exact Rdk_ext he h1
  · rw [List.append_assoc]
    refine h3 ([c] ++ m) (wf_c (by omega) hs ?_)
    rw [kL_rep, hlev]
    exact hm
  · rcases List.mem_append.mp hp with hp | hp
    · exact h4 (by rw [← hcl']; exact q) p hp
    · rw [List.mem_singleton] at hp
      rw [hp]
      exact hcl (by rw [← hcl']; exact q)
/-- a not: imp, its formula, later a false -/
theorem RQ_not {σ : mSig} {gw gt gn gb gw' gt' gn' gb' : Nat → Int32} {n k k' n' cnt cnt' cl cl' : Int} {l : List Nat} {c : Nat} {b : Bool} (h : RH σ gw gt gn gb n k cnt cl l b true) (hn : 0 ≤ n) (hk : k ≤ 5) (hc : c = 3) (hw : (gw' n.toNat).toInt = 1) (ht : gt' n.toNat = 0) (hno : gn' n.toNat ≠ 0) (hb : k' = k) (h5 : gb' n.toNat = 0) (he : ∀ i, i < n.toNat → gw' i = gw i ∧ gt' i = gt i ∧ gn' i = gn i ∧ gb' i = gb i) (hn' : n' = n + 1) (hc' : cnt' = cnt + 2) (hcl' : cl' = cl) : RQ σ gw' gt' gn' gb' n' k' cnt' cl' (l ++ [c]) b := by
  obtain ⟨W, z, h1, h2, h3, h4⟩ := h
  subst hc
  have hk0 := Rdk_nn h1
  refine ⟨List.replicate 1 (true, k'.toNat) ++ ([(true, k'.toNat)] ++ W), 1 + z, ?_, by rw [hc', h2, l1c]; omega, fun m hm => ?_, fun q p hp => ?_⟩
  · rw [show n'.toNat = n.toNat + 1 from by omega]
    refine ⟨1, W, z, by rw [hw]; rfl, by omega, by rw [if_neg hno, ht]; rfl, by rw [if_neg hno], ?_⟩
    rw [h5, if_pos rfl, hb, show k - 0 = k from by omega]
    exact Rdk_ext he h1
  · rw [List.append_assoc]
    refine h3 ([3] ++ m) (wf_c (by omega) (kS_f2 (by decide) (by decide)) ?_)
    rw [hb] at hm
    exact hm
  · rcases List.mem_append.mp hp with hp | hp
    · exact h4 (by rw [← hcl']; exact q) p hp
    · rw [List.mem_singleton] at hp
      rw [hp]
      decide
theorem RQ_top {σ : mSig} {gw gt gn gb : Nat → Int32} {n k cnt cl : Int} {l : List Nat} {b : Bool} (h : RQ σ gw gt gn gb n k cnt cl l b) (hn : 0 < n) : 0 ≤ k - (if gb (n - 1).toNat = 0 then 0 else 1) ∧ 0 ≤ (gw (n - 1).toNat).toInt ∧ (gn (n - 1).toNat ≠ 0 → (l.length : Int) + 1 ≤ cnt) := by
  obtain ⟨W, z, h1, h2, h3, h4⟩ := h
  rw [show n.toNat = (n - 1).toNat + 1 from by omega] at h1
  obtain ⟨c, W', z', e1, e2, e3, e4, e5⟩ := h1
  refine ⟨Rdk_nn e5, by omega, fun q => ?_⟩
  rw [if_neg q] at e4
  omega
theorem RQ_pop {σ : mSig} {gw gt gn gb : Nat → Int32} {n k cnt cl : Int} {l : List Nat} {b : Bool} (h : RQ σ gw gt gn gb n k cnt cl l b) (hn : 0 < n) (h0 : (gw (n - 1).toNat).toInt = 0) (hno : gn (n - 1).toNat = 0) : RQ σ gw gt gn gb (n - 1) (k - if gb (n - 1).toNat = 0 then 0 else 1) cnt cl l b := by
  obtain ⟨W, z, h1, h2, h3, h4⟩ := h
  rw [show n.toNat = (n - 1).toNat + 1 from by omega] at h1
  obtain ⟨c, W', z', e1, e2, e3, e4, e5⟩ := h1
  rw [if_pos hno] at e3 e4
  have : c = 0 := by omega
  subst this
  have e3 : W = W' := e3
  subst e3
  exact ⟨W, z', e5, by omega, h3, h4⟩
theorem RQ_popn {σ : mSig} {gw gt gn gb : Nat → Int32} {n k cnt cl : Int} {l : List Nat} {b : Bool} (h : RQ σ gw gt gn gb n k cnt cl l b) (hn : 0 < n) (hk : k ≤ 5) (h0 : (gw (n - 1).toNat).toInt = 0) (hno : gn (n - 1).toNat ≠ 0) : RQ σ gw gt gn gb (n - 1) (k - if gb (n - 1).toNat = 0 then 0 else 1) cnt cl (l ++ [0]) b := by
  obtain ⟨W, z, h1, h2, h3, h4⟩ := h
  rw [show n.toNat = (n - 1).toNat + 1 from by omega] at h1
  obtain ⟨c, W', z', e1, e2, e3, e4, e5⟩ := h1
  rw [if_neg hno] at e3 e4
  have : c = 0 := by omega
  subst this
  have e3 : W = (true, k.toNat) :: W' := e3
  subst e3
  refine ⟨W', z', e5, by rw [l1c]; omega, fun m hm => ?_, fun q p hp => ?_⟩
  · rw [List.append_assoc]
    exact h3 ([0] ++ m) (wf_c (by omega) kS_f0 hm)
  · rcases List.mem_append.mp hp with hp | hp
    · exact h4 q p hp
    · rw [List.mem_singleton] at hp
      rw [hp]
      decide
theorem RQ_k {σ : mSig} {gw gt gn gb : Nat → Int32} {n n' k k' cnt cnt' cl cl' : Int} {l : List Nat} {b : Bool} (h : RQ σ gw gt gn gb n k cnt cl l b) (e1 : n' = n) (e2 : k' = k) (e3 : cnt' = cnt) (e4 : cl' = cl) : RQ σ gw gt gn gb n' k' cnt' cl' l b := by rw [e1, e2, e3, e4]; exact h
theorem RQ_end {σ : mSig} {gw gt gn gb : Nat → Int32} {n k cnt cl : Int} {l : List Nat} {b : Bool} (h : RQ σ gw gt gn gb n k cnt cl l b) (hn : n = 0) : wf σ 5 l [(b, 0)] ∧ (cl ≠ 0 → ∀ p, p ∈ l → p < 60) := by
  subst hn
  obtain ⟨W, z, h1, h2, h3, h4⟩ := h
  obtain ⟨e1, e2, e3⟩ : k = 0 ∧ W = [] ∧ z = 0 := h1
  subst e2
  have := h3 [] rfl
  rw [List.append_nil] at this
  exact ⟨this, h4⟩
theorem RQ_next {σ : mSig} {gw gt gn gb gw' : Nat → Int32} {n n' k k' cnt cnt' cl cl' : Int} {l : List Nat} {b : Bool} (h : RQ σ gw gt gn gb n k cnt cl l b) (hn : 0 < n) (h0 : (gw (n - 1).toNat).toInt ≠ 0) (he : ∀ i, i < (n - 1).toNat → gw' i = gw i) (hd : (gw' (n - 1).toNat).toInt = (gw (n - 1).toNat).toInt - 1) (e1 : n' = n) (e2 : k' = k) (e3 : cnt' = cnt) (e4 : cl' = cl) : RH σ gw' gt gn gb n' k' cnt' cl' l b (decide (gt (n - 1).toNat = 0)) := by
  subst e1; subst e2; subst e3; subst e4
  obtain ⟨W, z, h1, h2, h3, h4⟩ := h
  have h1' := h1
  rw [show n'.toNat = (n' - 1).toNat + 1 from by omega] at h1
  obtain ⟨c, W', z', a1, a2, a3, a4, a5⟩ := h1
  obtain ⟨c', rfl⟩ : ∃ c', c = c' + 1 := ⟨c - 1, by omega⟩
  rw [List.replicate_succ, List.cons_append] at a3
  subst a3
  refine ⟨_, z, ?_, h2, h3, h4⟩
  rw [show n'.toNat = (n' - 1).toNat + 1 from by omega]
  exact ⟨c', W', z', by rw [hd, a1]; omega, a2, rfl, a4, Rdk_ext (fun i hi => ⟨he i hi, rfl, rfl, rfl⟩) a5⟩
theorem kS_push {σ : mSig} {c : Nat} {w : Int} {g : Int32} (h : (c = 0 ∧ w = 0) ∨ (1 ≤ c ∧ c ≤ 3 ∧ w = 2 ∧ g = 0) ∨ (c = 6 ∧ w = 2 ∧ g ≠ 0) ∨ (10 ≤ c ∧ c < 10 + σ.1.1 ∧ w = σ.2.1 (c - 10) ∧ g ≠ 0)) : kS σ true c = some (List.replicate w.toNat (decide (g = 0))) := by
  rcases h with ⟨rfl, rfl⟩ | ⟨h1, h2, rfl, h3⟩ | ⟨rfl, rfl, h3⟩ | ⟨h1, h2, rfl, h3⟩
  · rfl
  · rw [kS_f2 h1 h2, h3]; rfl
  · rw [kS_f6, decide_eq_false h3]; rfl
  · rw [kS_fr h1 h2, decide_eq_false h3]; rfl
theorem kS_pusht {σ : mSig} {c : Nat} {w : Int} {g : Int32} (hF : σ.1.2 ≤ 4) (hg : g ≠ 0) (h : (40 ≤ c ∧ c < 72 ∧ w = 0) ∨ (20 ≤ c ∧ c < 20 + σ.1.2 ∧ w = σ.2.2 (c - 20))) : kS σ false c = some (List.replicate w.toNat (decide (g = 0))) := by
  rcases h with ⟨h1, h2, rfl⟩ | ⟨h1, h2, rfl⟩
  · rw [kS_tx hF h1 h2]; rfl
  · rw [kS_tf h1 h2, decide_eq_false hg]; rfl
theorem kS_push4 {σ : mSig} {c : Nat} {w : Int} {g : Int32} (hc : c = 4 ∨ c = 5) (hw : w = 1) (hg : g = 0) : kS σ true c = some (List.replicate w.toNat (decide (g = 0))) := by
  rw [kS_f1 hc, hw, hg]; rfl
theorem RQ_nn {σ : mSig} {gw gt gn gb : Nat → Int32} {n k cnt cl : Int} {l : List Nat} {b : Bool} (h : RQ σ gw gt gn gb n k cnt cl l b) : 0 ≤ k := by
  obtain ⟨W, z, h1, h2, h3, h4⟩ := h
  exact Rdk_nn h1
theorem x0 {a : Int32} (h : a.toInt = 0) : a = 0 := Int32.toInt_inj.mp (h.trans Int32.toInt_zero.symm)
theorem xO1 {a : Int32} (h : a.toInt = 1) : a = 1 := Int32.toInt_inj.mp (h.trans xone.symm)
theorem kqc {g : Int32} {k : Int} : (g.toInt = 0 ∧ (k - if g = 0 then 0 else 1) = k) ∨ (g.toInt ≠ 0 ∧ (k - if g = 0 then 0 else 1) = k - 1) := by
  by_cases h : g = 0
  · left
    refine ⟨by rw [h]; rfl, ?_⟩
    rw [if_pos h]
    omega
  · right
    refine ⟨fun z => h (x0 z), ?_⟩
    rw [if_neg h]
end
section
set_option maxRecDepth 100000
theorem mx_195 {x : Nat → Nat → Nat} {t : Int32} {s : ps_S} {d : Nat} {l1 : Int64} {f : Int32 → ps_S → Prop} (J : mJ x t s) (k : ∀ (v : Int32), (0 ≤ v.toInt) → (v.toInt ≤ 1) → (v.toInt = 0 ∨ ((ps_i s 1131 9).toInt = 3 ∧ (lg_cmp (ps_j s 1131 11) l1).toInt = 0)) → (v.toInt ≠ 0 ∨ (ps_i s 1131 9).toInt ≠ 3 ∨ (lg_cmp (ps_j s 1131 11) l1).toInt ≠ 0) → v &&& 1 = v → f v s) : ps_Cl d 195 [.ref 1131, .long l1] s (ps_rI f) := by
  refine pg_195_0 ?_
  have r1 := mf_9 J
  refine And.intro (fun h2 => ?_) (fun h2 => ?_)
  · have f3 : (ps_i s 1131 9).toInt ≠ (3 : Int) := xne h2
    exact k (0 : Int32) (show 0 ≤ (0 : Int) from by omega) (show (0 : Int) ≤ 1 from by omega) ((by first | exact Or.inl (by decide) | exact Or.inr ⟨by omega, by omega⟩)) ((by first | exact Or.inl (by decide) | exact Or.inr (Or.inl (by omega)) | exact Or.inr (Or.inr (by omega)))) (by decide)
  · have f4 : (ps_i s 1131 9).toInt = (3 : Int) := xeq h2
    refine And.intro (fun h5 => ?_) (fun h5 => ?_)
    · have f6 : (lg_cmp (ps_j s 1131 11) l1).toInt ≠ (0 : Int) := xne h5
      exact k (0 : Int32) (show 0 ≤ (0 : Int) from by omega) (show (0 : Int) ≤ 1 from by omega) ((by first | exact Or.inl (by decide) | exact Or.inr ⟨by omega, by omega⟩)) ((by first | exact Or.inl (by decide) | exact Or.inr (Or.inl (by omega)) | exact Or.inr (Or.inr (by omega)))) (by decide)
    · have f7 : (lg_cmp (ps_j s 1131 11) l1).toInt = (0 : Int) := xeq h5
      exact k (1 : Int32) (show 0 ≤ (1 : Int) from by omega) (show (1 : Int) ≤ 1 from by omega) ((by first | exact Or.inl (by decide) | exact Or.inr ⟨by omega, by omega⟩)) ((by first | exact Or.inl (by decide) | exact Or.inr (Or.inl (by omega)) | exact Or.inr (Or.inr (by omega)))) (by decide)
end
section
set_option maxRecDepth 100000
-- ProofBenchModel.push(IZ)V
theorem pg_211_0 {d : Nat} {x1 : Int32} {x2 : Int32} {s : ps_S} {Q : Option Value → ps_S → Prop} (h :
  ps_nd (pm_in (ps_i s 1131 29) 16) (ps_nd (pm_in (ps_i (ps_ua s 1144 (Int32.toNatClampNeg (ps_i s 1131 29)) x1) 1131 29) 16) (ps_nd (pm_in (ps_i (ps_ua (ps_ua s 1144 (Int32.toNatClampNeg (ps_i s 1131 29)) x1) 1145 (Int32.toNatClampNeg (ps_i (ps_ua s 1144 (Int32.toNatClampNeg (ps_i s 1131 29)) x1) 1131 29)) (x2 &&& 1)) 1131 29) 16) (ps_nd (pm_in (ps_i (ps_ua (ps_ua (ps_ua s 1144 (Int32.toNatClampNeg (ps_i s 1131 29)) x1) 1145 (Int32.toNatClampNeg (ps_i (ps_ua s 1144 (Int32.toNatClampNeg (ps_i s 1131 29)) x1) 1131 29)) (x2 &&& 1)) 1146 (Int32.toNatClampNeg (ps_i (ps_ua (ps_ua s 1144 (Int32.toNatClampNeg (ps_i s 1131 29)) x1) 1145 (Int32.toNatClampNeg (ps_i (ps_ua s 1144 (Int32.toNatClampNeg (ps_i s 1131 29)) x1) 1131 29)) (x2 &&& 1)) 1131 29)) ((0 : Int32) &&& 1)) 1131 29) 16) (Q none (ps_ui (ps_ua (ps_ua (ps_ua (ps_ua s 1144 (Int32.toNatClampNeg (ps_i s 1131 29)) x1) 1145 (Int32.toNatClampNeg (ps_i (ps_ua s 1144 (Int32.toNatClampNeg (ps_i s 1131 29)) x1) 1131 29)) (x2 &&& 1)) 1146 (Int32.toNatClampNeg (ps_i (ps_ua (ps_ua s 1144 (Int32.toNatClampNeg (ps_i s 1131 29)) x1) 1145 (Int32.toNatClampNeg (ps_i (ps_ua s 1144 (Int32.toNatClampNeg (ps_i s 1131 29)) x1) 1131 29)) (x2 &&& 1)) 1131 29)) ((0 : Int32) &&& 1)) 1147 (Int32.toNatClampNeg (ps_i (ps_ua (ps_ua (ps_ua s 1144 (Int32.toNatClampNeg (ps_i s 1131 29)) x1) 1145 (Int32.toNatClampNeg (ps_i (ps_ua s 1144 (Int32.toNatClampNeg (ps_i s 1131 29)) x1) 1131 29)) (x2 &&& 1)) 1146 (Int32.toNatClampNeg (ps_i (ps_ua (ps_ua s 1144 (Int32.toNatClampNeg (ps_i s 1131 29)) x1) 1145 (Int32.toNatClampNeg (ps_i (ps_ua s 1144 (Int32.toNatClampNeg (ps_i s 1131 29)) x1) 1131 29)) (x2 &&& 1)) 1131 29)) ((0 : Int32) &&& 1)) 1131 29)) ((0 : Int32) &&& 1)) 1131 29 ((ps_i (ps_ua (ps_ua (ps_ua (ps_ua s 1144 (Int32.toNatClampNeg (ps_i s 1131 29)) x1) 1145 (Int32.toNatClampNeg (ps_i (ps_ua s 1144 (Int32.toNatClampNeg (ps_i s 1131 29)) x1) 1131 29)) (x2 &&& 1)) 1146 (Int32.toNatClampNeg (ps_i (ps_ua (ps_ua s 1144 (Int32.toNatClampNeg (ps_i s 1131 29)) x1) 1145 (Int32.toNatClampNeg (ps_i (ps_ua s 1144 (Int32.toNatClampNeg (ps_i s 1131 29)) x1) 1131 29)) (x2 &&& 1)) 1131 29)) ((0 : Int32) &&& 1)) 1147 (Int32.toNatClampNeg (ps_i (ps_ua (ps_ua (ps_ua s 1144 (Int32.toNatClampNeg (ps_i s 1131 29)) x1) 1145 (Int32.toNatClampNeg (ps_i (ps_ua s 1144 (Int32.toNatClampNeg (ps_i s 1131 29)) x1) 1131 29)) (x2 &&& 1)) 1146 (Int32.toNatClampNeg (ps_i (ps_ua (ps_ua s 1144 (Int32.toNatClampNeg (ps_i s 1131 29)) x1) 1145 (Int32.toNatClampNeg (ps_i (ps_ua s 1144 (Int32.toNatClampNeg (ps_i s 1131 29)) x1) 1131 29)) (x2 &&& 1)) 1131 29)) ((0 : Int32) &&& 1)) 1131 29)) ((0 : Int32) &&& 1)) 1131 29) + 1))))))) : ps_At d 211 0 [(0, .ref 1131), (1, .int x1), (2, .int x2)] [] s Q :=
  ps_wp_at (stops := []) (n := 33) h rfl

theorem ms_211 {x : Nat → Nat → Nat} {t : Int32} {s : ps_S} {d : Nat} {x1 : Int32} {x2 : Int32} {f : ps_S → Prop} (J : mJ x t s) (q0 : (ps_i s 1131 29).toInt ≤ 14) (k : ∀ (s' : ps_S), mJ x t s' → kp [1144, 1145, 1146, 1147] [29] s s' → ((ps_i s' 1131 29).toInt = (ps_i s 1131 29).toInt + 1) → (∀ i : Nat, ps_a s' 1144 i = if i = (ps_i s 1131 29).toInt.toNat then x1 else ps_a s 1144 i) → (∀ i : Nat, ps_a s' 1145 i = if i = (ps_i s 1131 29).toInt.toNat then (x2 &&& 1) else ps_a s 1145 i) → (∀ i : Nat, ps_a s' 1146 i = if i = (ps_i s 1131 29).toInt.toNat then ((0 : Int32) &&& 1) else ps_a s 1146 i) → (∀ i : Nat, ps_a s' 1147 i = if i = (ps_i s 1131 29).toInt.toNat then ((0 : Int32) &&& 1) else ps_a s 1147 i) → f s') : ps_Cl d 211 [.ref 1131, .int x1, .int x2] s (ps_rV f) := by
  have r1 := mf_29 J
  have K : kp [1144, 1145, 1146, 1147] [29] s s := kp_refl
  refine pg_211_0 ?_
  refine ps_nd_i (show pm_in (ps_i s 1131 29) 16 = true from xgi (show 0 ≤ (ps_i s 1131 29).toInt from by omega) (show (ps_i s 1131 29).toInt < 16 from by omega)) ?_
  have J2 := mwa_n 1144 (i := (Int32.toNatClampNeg (ps_i s 1131 29))) (v := x1) J rfl (by decide)
  have K3 := kpa' K (r := 1144) (i := (Int32.toNatClampNeg (ps_i s 1131 29))) (v := x1) rfl
  refine ps_nd_i (show pm_in (ps_i s 1131 29) 16 = true from xgi (show 0 ≤ (ps_i s 1131 29).toInt from by omega) (show (ps_i s 1131 29).toInt < 16 from by omega)) ?_
  have J4 := mwa_n 1145 (i := (Int32.toNatClampNeg (ps_i s 1131 29))) (v := (x2 &&& 1)) J2 rfl (by decide)
  have K5 := kpa' K3 (r := 1145) (i := (Int32.toNatClampNeg (ps_i s 1131 29))) (v := (x2 &&& 1)) rfl
  refine ps_nd_i (show pm_in (ps_i s 1131 29) 16 = true from xgi (show 0 ≤ (ps_i s 1131 29).toInt from by omega) (show (ps_i s 1131 29).toInt < 16 from by omega)) ?_
  have J6 := mwa_n 1146 (i := (Int32.toNatClampNeg (ps_i s 1131 29))) (v := ((0 : Int32) &&& 1)) J4 rfl (by decide)
  have K7 := kpa' K5 (r := 1146) (i := (Int32.toNatClampNeg (ps_i s 1131 29))) (v := ((0 : Int32) &&& 1)) rfl
  refine ps_nd_i (show pm_in (ps_i s 1131 29) 16 = true from xgi (show 0 ≤ (ps_i s 1131 29).toInt from by omega) (show (ps_i s 1131 29).toInt < 16 from by omega)) ?_
  have J8 := mwa_n 1147 (i := (Int32.toNatClampNeg (ps_i s 1131 29))) (v := ((0 : Int32) &&& 1)) J6 rfl (by decide)
  have K9 := kpa' K7 (r := 1147) (i := (Int32.toNatClampNeg (ps_i s 1131 29))) (v := ((0 : Int32) &&& 1)) rfl
  have a10 : ((ps_i s 1131 29) + 1).toInt = (ps_i s 1131 29).toInt + (1 : Int) := xIa (show -2147483648 ≤ (ps_i s 1131 29).toInt + (1 : Int) from by omega) (show (ps_i s 1131 29).toInt + (1 : Int) < 2147483648 from by omega)
  have J11 := mwi_29 (v := ((ps_i s 1131 29) + 1)) J8 (show 0 ≤ ((ps_i s 1131 29) + 1).toInt from by omega) (show ((ps_i s 1131 29) + 1).toInt ≤ 16 from by omega)
  have K12 := kpi K9 (q := 29) (v := ((ps_i s 1131 29) + 1)) rfl
  exact k _ J11 K12 (show ((ps_i s 1131 29) + 1).toInt = (ps_i s 1131 29).toInt + 1 from by omega) (fun i => ua_if) (fun i => ua_if) (fun i => ua_if) (fun i => ua_if)

-- ProofBenchModel.pieceHere()I
theorem pg_213_0 {d : Nat} {s : ps_S} {Q : Option Value → ps_S → Prop} (h :
  ps_Cl d 195 [.ref 1131, .long (439721161573 : Int64)] s (ps_rI (fun v1 s1 =>
    (v1 = 0 →
      ps_Cl d 195 [.ref 1131, .long (6385252 : Int64)] s1 (ps_rI (fun v2 s2 =>
        (v2 = 0 →
          ps_Cl d 195 [.ref 1131, .long (28530 : Int64)] s2 (ps_rI (fun v3 s3 =>
            (v3 = 0 →
              ps_Cl d 195 [.ref 1131, .long (6909296 : Int64)] s3 (ps_rI (fun v4 s4 =>
                (v4 ≠ 0 →
                  Q (some (.int 3)) s4) ∧
                (v4 = 0 →
                  ps_Cl d 195 [.ref 1131, .long (7237492 : Int64)] s4 (ps_rI (fun v5 s5 =>
                    (v5 = 0 →
                      ps_Cl d 195 [.ref 1131, .long (6384748 : Int64)] s5 (ps_rI (fun v6 s6 =>
                        (v6 = 0 →
                          ps_Cl d 195 [.ref 1131, .long (1936682341 : Int64)] s6 (ps_rI (fun v7 s7 =>
                            (v7 = 0 →
                              ps_Cl d 195 [.ref 1131, .long (1935764837 : Int64)] s7 (ps_rI (fun v8 s8 =>
                                (v8 = 0 →
                                  ps_Cl d 206 [.ref 1131] s8 (ps_rI (fun v9 s9 =>
                                    (0 ≤ v9 →
                                      ps_Cl d 206 [.ref 1131] s9 (ps_rI (fun v10 s10 =>
                                        Q (some (.int ((10 : Int32) + v10))) s10))) ∧
                                    (v9 < 0 →
                                      Q (some (.int (-1))) s9)))) ∧
                                (v8 ≠ 0 →
                                  Q (some (.int 6)) s8)))) ∧
                            (v7 ≠ 0 →
                              Q (some (.int 5)) s7)))) ∧
                        (v6 ≠ 0 →
                          Q (some (.int 4)) s6)))) ∧
                    (v5 ≠ 0 →
                      Q (some (.int 3)) s5))))))) ∧
            (v3 ≠ 0 →
              Q (some (.int 2)) s3)))) ∧
        (v2 ≠ 0 →
          Q (some (.int 1)) s2)))) ∧
    (v1 ≠ 0 →
      Q (some (.int 0)) s1)))) : ps_At (d + 1) 213 0 [(0, .ref 1131)] [] s Q :=
  ps_wp_at (stops := []) (n := 61) h rfl

theorem ms_213 {x : Nat → Nat → Nat} {t : Int32} {s : ps_S} {d : Nat} {f : Int32 → ps_S → Prop} (J : mJ x t s) (k : ∀ (v : Int32), (v.toInt = -1 ∨ (0 ≤ v.toInt ∧ v.toInt ≤ 6) ∨ (10 ≤ v.toInt ∧ v.toInt < 10 + (ps_a s 1135 (Int32.toNatClampNeg (ps_i s 1131 22))).toInt)) → ((ps_i s 1131 9).toInt = 3 ∧ (lg_cmp (ps_j s 1131 11) (7237492 : Int64)).toInt = 0 → v.toInt = 3) → f v s) : ps_Cl (d + 1) 213 [.ref 1131] s (ps_rI f) := by
  refine pg_213_0 (d := d) ?_
  refine mx_195 J  (fun v1 p1_0 p1_1 p1_2 p1_3 b1 => ?_)
  have p1_0' : 0 ≤ v1.toInt := p1_0
  have p1_1' : v1.toInt ≤ 1 := p1_1
  have w4 : _ := p1_2
  refine And.intro (fun h2 => ?_) (fun h2 => ?_)
  · have f3 : v1.toInt = (0 : Int) := xeq h2
    refine mx_195 J  (fun v4 p4_0 p4_1 p4_2 p4_3 b4 => ?_)
    have p4_0' : 0 ≤ v4.toInt := p4_0
    have p4_1' : v4.toInt ≤ 1 := p4_1
    have w16 : _ := p4_2
    refine And.intro (fun h5 => ?_) (fun h5 => ?_)
    · have f6 : v4.toInt = (0 : Int) := xeq h5
      refine mx_195 J  (fun v7 p7_0 p7_1 p7_2 p7_3 b7 => ?_)
      have p7_0' : 0 ≤ v7.toInt := p7_0
      have p7_1' : v7.toInt ≤ 1 := p7_1
      have w28 : _ := p7_2
      refine And.intro (fun h8 => ?_) (fun h8 => ?_)
      · have f9 : v7.toInt = (0 : Int) := xeq h8
        refine mx_195 J  (fun v10 p10_0 p10_1 p10_2 p10_3 b10 => ?_)
        have p10_0' : 0 ≤ v10.toInt := p10_0
        have p10_1' : v10.toInt ≤ 1 := p10_1
        refine And.intro (fun h11 => ?_) (fun h11 => ?_)
        · have f12 : v10.toInt ≠ (0 : Int) := xne h11
          have r13 := mf_22 J
          have r14 : 0 ≤ (ps_a s 1135 (Int32.toNatClampNeg (ps_i s 1131 22))).toInt ∧ (ps_a s 1135 (Int32.toNatClampNeg (ps_i s 1131 22))).toInt ≤ 6 := ma_1135 (i := (ps_i s 1131 22)) J (show 0 ≤ (ps_i s 1131 22).toInt from by omega) (show (ps_i s 1131 22).toInt < 2 from by omega)
          exact k (3 : Int32) (show (3 : Int) = -1 ∨ (0 ≤ (3 : Int) ∧ (3 : Int) ≤ 6) ∨ (10 ≤ (3 : Int) ∧ (3 : Int) < 10 + (ps_a s 1135 (Int32.toNatClampNeg (ps_i s 1131 22))).toInt) from by omega) (fun _ => (by decide))
        · have f15 : v10.toInt = (0 : Int) := xeq h11
          refine mx_195 J  (fun v16 p16_0 p16_1 p16_2 p16_3 b16 => ?_)
          have p16_0' : 0 ≤ v16.toInt := p16_0
          have p16_1' : v16.toInt ≤ 1 := p16_1
          have w50 : _ := p16_3
          refine And.intro (fun h17 => ?_) (fun h17 => ?_)
          · have f18 : v16.toInt = (0 : Int) := xeq h17
            refine mx_195 J  (fun v19 p19_0 p19_1 p19_2 p19_3 b19 => ?_)
            have p19_0' : 0 ≤ v19.toInt := p19_0
            have p19_1' : v19.toInt ≤ 1 := p19_1
            refine And.intro (fun h20 => ?_) (fun h20 => ?_)
            · have f21 : v19.toInt = (0 : Int) := xeq h20
              refine mx_195 J  (fun v22 p22_0 p22_1 p22_2 p22_3 b22 => ?_)
              have p22_0' : 0 ≤ v22.toInt := p22_0
              have p22_1' : v22.toInt ≤ 1 := p22_1
              refine And.intro (fun h23 => ?_) (fun h23 => ?_)
              · have f24 : v22.toInt = (0 : Int) := xeq h23
                refine mx_195 J  (fun v25 p25_0 p25_1 p25_2 p25_3 b25 => ?_)
                have p25_0' : 0 ≤ v25.toInt := p25_0
                have p25_1' : v25.toInt ≤ 1 := p25_1
                refine And.intro (fun h26 => ?_) (fun h26 => ?_)
                · have f27 : v25.toInt = (0 : Int) := xeq h26
                  refine mx_206 J  (fun v28 p28_0 p28_1 p28_2 p28_3 => ?_)
                  have p28_0' : -1 ≤ v28.toInt := p28_0
                  have p28_1' : v28.toInt < (ps_a s 1135 (Int32.toNatClampNeg (ps_i s 1131 22))).toInt := p28_1
                  have r29 := mf_22 J
                  have r30 : 0 ≤ (ps_a s 1135 (Int32.toNatClampNeg (ps_i s 1131 22))).toInt ∧ (ps_a s 1135 (Int32.toNatClampNeg (ps_i s 1131 22))).toInt ≤ 6 := ma_1135 (i := (ps_i s 1131 22)) J (show 0 ≤ (ps_i s 1131 22).toInt from by omega) (show (ps_i s 1131 22).toInt < 2 from by omega)
                  have hz : _ := p28_2
                  refine And.intro (fun h31 => ?_) (fun h31 => ?_)
                  · have f32 : (0 : Int) ≤ v28.toInt := xle h31
                    refine mx_206 J  (fun v33 p33_0 p33_1 p33_2 p33_3 => ?_)
                    have p33_0' : -1 ≤ v33.toInt := p33_0
                    have p33_1' : v33.toInt < (ps_a s 1135 (Int32.toNatClampNeg (ps_i s 1131 22))).toInt := p33_1
                    have hz2 : _ := p33_3
                    have hv0 : 0 ≤ (v33).toInt := (by rcases Int.lt_or_le (v33).toInt 0 with q | q; exact absurd (hz (by omega)) (hz2 (by omega) _ (by omega) (by omega)); exact q)
                    have a34 : ((10 : Int32) + v33).toInt = (10 : Int) + v33.toInt := xIa (show -2147483648 ≤ (10 : Int) + v33.toInt from by omega) (show (10 : Int) + v33.toInt < 2147483648 from by omega)
                    exact k ((10 : Int32) + v33) (show ((10 : Int32) + v33).toInt = -1 ∨ (0 ≤ ((10 : Int32) + v33).toInt ∧ ((10 : Int32) + v33).toInt ≤ 6) ∨ (10 ≤ ((10 : Int32) + v33).toInt ∧ ((10 : Int32) + v33).toInt < 10 + (ps_a s 1135 (Int32.toNatClampNeg (ps_i s 1131 22))).toInt) from by omega) (fun h => (by exfalso; have h1 := h.1; have h2 := h.2; omega))
                  · have f35 : v28.toInt < (0 : Int) := xlt h31
                    exact k (-1 : Int32) (show (-1 : Int) = -1 ∨ (0 ≤ (-1 : Int) ∧ (-1 : Int) ≤ 6) ∨ (10 ≤ (-1 : Int) ∧ (-1 : Int) < 10 + (ps_a s 1135 (Int32.toNatClampNeg (ps_i s 1131 22))).toInt) from by omega) (fun h => (by exfalso; have h1 := h.1; have h2 := h.2; omega))
                · have f36 : v25.toInt ≠ (0 : Int) := xne h26
                  have r37 := mf_22 J
                  have r38 : 0 ≤ (ps_a s 1135 (Int32.toNatClampNeg (ps_i s 1131 22))).toInt ∧ (ps_a s 1135 (Int32.toNatClampNeg (ps_i s 1131 22))).toInt ≤ 6 := ma_1135 (i := (ps_i s 1131 22)) J (show 0 ≤ (ps_i s 1131 22).toInt from by omega) (show (ps_i s 1131 22).toInt < 2 from by omega)
                  exact k (6 : Int32) (show (6 : Int) = -1 ∨ (0 ≤ (6 : Int) ∧ (6 : Int) ≤ 6) ∨ (10 ≤ (6 : Int) ∧ (6 : Int) < 10 + (ps_a s 1135 (Int32.toNatClampNeg (ps_i s 1131 22))).toInt) from by omega) (fun h => (by exfalso; have h1 := h.1; have h2 := h.2; omega))
              · have f39 : v22.toInt ≠ (0 : Int) := xne h23
                have r40 := mf_22 J
                have r41 : 0 ≤ (ps_a s 1135 (Int32.toNatClampNeg (ps_i s 1131 22))).toInt ∧ (ps_a s 1135 (Int32.toNatClampNeg (ps_i s 1131 22))).toInt ≤ 6 := ma_1135 (i := (ps_i s 1131 22)) J (show 0 ≤ (ps_i s 1131 22).toInt from by omega) (show (ps_i s 1131 22).toInt < 2 from by omega)
                exact k (5 : Int32) (show (5 : Int) = -1 ∨ (0 ≤ (5 : Int) ∧ (5 : Int) ≤ 6) ∨ (10 ≤ (5 : Int) ∧ (5 : Int) < 10 + (ps_a s 1135 (Int32.toNatClampNeg (ps_i s 1131 22))).toInt) from by omega) (fun h => (by exfalso; have h1 := h.1; have h2 := h.2; omega))
            · have f42 : v19.toInt ≠ (0 : Int) := xne h20
              have r43 := mf_22 J
              have r44 : 0 ≤ (ps_a s 1135 (Int32.toNatClampNeg (ps_i s 1131 22))).toInt ∧ (ps_a s 1135 (Int32.toNatClampNeg (ps_i s 1131 22))).toInt ≤ 6 := ma_1135 (i := (ps_i s 1131 22)) J (show 0 ≤ (ps_i s 1131 22).toInt from by omega) (show (ps_i s 1131 22).toInt < 2 from by omega)
              exact k (4 : Int32) (show (4 : Int) = -1 ∨ (0 ≤ (4 : Int) ∧ (4 : Int) ≤ 6) ∨ (10 ≤ (4 : Int) ∧ (4 : Int) < 10 + (ps_a s 1135 (Int32.toNatClampNeg (ps_i s 1131 22))).toInt) from by omega) (fun h => (by exfalso; have h1 := h.1; have h2 := h.2; omega))
          · have f45 : v16.toInt ≠ (0 : Int) := xne h17
            have r46 := mf_22 J
            have r47 : 0 ≤ (ps_a s 1135 (Int32.toNatClampNeg (ps_i s 1131 22))).toInt ∧ (ps_a s 1135 (Int32.toNatClampNeg (ps_i s 1131 22))).toInt ≤ 6 := ma_1135 (i := (ps_i s 1131 22)) J (show 0 ≤ (ps_i s 1131 22).toInt from by omega) (show (ps_i s 1131 22).toInt < 2 from by omega)
            exact k (3 : Int32) (show (3 : Int) = -1 ∨ (0 ≤ (3 : Int) ∧ (3 : Int) ≤ 6) ∨ (10 ≤ (3 : Int) ∧ (3 : Int) < 10 + (ps_a s 1135 (Int32.toNatClampNeg (ps_i s 1131 22))).toInt) from by omega) (fun _ => (by decide))
      · have f48 : v7.toInt ≠ (0 : Int) := xne h8
        have r49 := mf_22 J
        have r50 : 0 ≤ (ps_a s 1135 (Int32.toNatClampNeg (ps_i s 1131 22))).toInt ∧ (ps_a s 1135 (Int32.toNatClampNeg (ps_i s 1131 22))).toInt ≤ 6 := ma_1135 (i := (ps_i s 1131 22)) J (show 0 ≤ (ps_i s 1131 22).toInt from by omega) (show (ps_i s 1131 22).toInt < 2 from by omega)
        exact k (2 : Int32) (show (2 : Int) = -1 ∨ (0 ≤ (2 : Int) ∧ (2 : Int) ≤ 6) ∨ (10 ≤ (2 : Int) ∧ (2 : Int) < 10 + (ps_a s 1135 (Int32.toNatClampNeg (ps_i s 1131 22))).toInt) from by omega) (fun h => absurd (lgx h.2 (w28.resolve_left (by omega)).2) (by decide))
    · have f51 : v4.toInt ≠ (0 : Int) := xne h5
      have r52 := mf_22 J
      have r53 : 0 ≤ (ps_a s 1135 (Int32.toNatClampNeg (ps_i s 1131 22))).toInt ∧ (ps_a s 1135 (Int32.toNatClampNeg (ps_i s 1131 22))).toInt ≤ 6 := ma_1135 (i := (ps_i s 1131 22)) J (show 0 ≤ (ps_i s 1131 22).toInt from by omega) (show (ps_i s 1131 22).toInt < 2 from by omega)
      exact k (1 : Int32) (show (1 : Int) = -1 ∨ (0 ≤ (1 : Int) ∧ (1 : Int) ≤ 6) ∨ (10 ≤ (1 : Int) ∧ (1 : Int) < 10 + (ps_a s 1135 (Int32.toNatClampNeg (ps_i s 1131 22))).toInt) from by omega) (fun h => absurd (lgx h.2 (w16.resolve_left (by omega)).2) (by decide))
  · have f54 : v1.toInt ≠ (0 : Int) := xne h2
    have r55 := mf_22 J
    have r56 : 0 ≤ (ps_a s 1135 (Int32.toNatClampNeg (ps_i s 1131 22))).toInt ∧ (ps_a s 1135 (Int32.toNatClampNeg (ps_i s 1131 22))).toInt ≤ 6 := ma_1135 (i := (ps_i s 1131 22)) J (show 0 ≤ (ps_i s 1131 22).toInt from by omega) (show (ps_i s 1131 22).toInt < 2 from by omega)
    exact k (0 : Int32) (show (0 : Int) = -1 ∨ (0 ≤ (0 : Int) ∧ (0 : Int) ≤ 6) ∨ (10 ≤ (0 : Int) ∧ (0 : Int) < 10 + (ps_a s 1135 (Int32.toNatClampNeg (ps_i s 1131 22))).toInt) from by omega) (fun h => absurd (lgx h.2 (w4.resolve_left (by omega)).2) (by decide))
end
section
set_option maxRecDepth 100000
-- ProofBenchModel.endsParts(I)Z
theorem pg_212_0 {d : Nat} {x1 : Int32} {s : ps_S} {Q : Option Value → ps_S → Prop} (h :
  ((ps_i s 1131 29) ≤ 0 →
    ps_At (d + 1) 212 74 [(0, .ref 1131)] [] s Q) ∧
  (0 < (ps_i s 1131 29) →
    ps_nd (pm_in ((ps_i s 1131 29) - 1) 16) (((ps_a s 1144 (Int32.toNatClampNeg ((ps_i s 1131 29) - 1))) ≠ 0 →
      ps_At (d + 1) 212 74 [(0, .ref 1131)] [] s Q) ∧
    ((ps_a s 1144 (Int32.toNatClampNeg ((ps_i s 1131 29) - 1))) = 0 →
      ps_nd (pm_in (ps_i (ps_ui s 1131 29 ((ps_i s 1131 29) - 1)) 1131 29) 16) (((ps_a (ps_ui s 1131 29 ((ps_i s 1131 29) - 1)) 1146 (Int32.toNatClampNeg (ps_i (ps_ui s 1131 29 ((ps_i s 1131 29) - 1)) 1131 29))) = 0 →
        ps_At (d + 1) 212 49 [(0, .ref 1131), (1, .int x1)] [] (ps_ui s 1131 29 ((ps_i s 1131 29) - 1)) Q) ∧
      ((ps_a (ps_ui s 1131 29 ((ps_i s 1131 29) - 1)) 1146 (Int32.toNatClampNeg (ps_i (ps_ui s 1131 29 ((ps_i s 1131 29) - 1)) 1131 29))) ≠ 0 →
        ps_Cl d 210 [.ref 1131, .int x1, .int 0] (ps_ui s 1131 29 ((ps_i s 1131 29) - 1)) (ps_rV (fun s1 =>
          ps_At (d + 1) 212 49 [(0, .ref 1131), (1, .int x1)] [] s1 Q)))))))) : ps_At (d + 1) 212 0 [(0, .ref 1131), (1, .int x1)] [] s Q :=
  ps_wp_at (stops := [(0, [0, 1]), (49, [0, 1]), (74, [0])]) (n := 29) h rfl

theorem pg_212_49 {d : Nat} {x1 : Int32} {s : ps_S} {Q : Option Value → ps_S → Prop} (h :
  ps_nd (pm_in (ps_i s 1131 29) 16) (((ps_a s 1147 (Int32.toNatClampNeg (ps_i s 1131 29))) = 0 →
    ps_At (d + 1) 212 0 [(0, .ref 1131), (1, .int x1)] [] s Q) ∧
  ((ps_a s 1147 (Int32.toNatClampNeg (ps_i s 1131 29))) ≠ 0 →
    ps_At (d + 1) 212 0 [(0, .ref 1131), (1, .int x1)] [] (ps_ui s 1131 30 ((ps_i s 1131 30) - 1)) Q))) : ps_At (d + 1) 212 49 [(0, .ref 1131), (1, .int x1)] [] s Q :=
  ps_wp_at (stops := [(0, [0, 1]), (49, [0, 1]), (74, [0])]) (n := 15) h rfl

theorem pg_212_74 {d : Nat} {s : ps_S} {Q : Option Value → ps_S → Prop} (h :
  ((ps_i s 1131 29) ≠ 0 →
    ps_nd (pm_in ((ps_i s 1131 29) - 1) 16) (ps_nd (pm_in ((ps_i s 1131 29) - 1) 16) (Q (some (.int 1)) (ps_ua s 1144 (Int32.toNatClampNeg ((ps_i s 1131 29) - 1)) ((ps_a s 1144 (Int32.toNatClampNeg ((ps_i s 1131 29) - 1))) - 1))))) ∧
  ((ps_i s 1131 29) = 0 →
    Q (some (.int 0)) s)) : ps_At (d + 1) 212 74 [(0, .ref 1131)] [] s Q :=
  ps_wp_at (stops := [(0, [0, 1]), (49, [0, 1]), (74, [0])]) (n := 20) h rfl

theorem ms_212_49 {x : Nat → Nat → Nat} {t : Int32} {d : Nat} {s0 : ps_S} {σ : mSig} {b : Bool} {x1 : Int32} {Q : Option Value → ps_S → Prop} (k : ∀ (v : Int32) (s' : ps_S), mJ x t s' → kp [1134, 1144] [29, 30] s0 s' → ((ps_i s' 1131 29).toInt ≤ 13) → (0 ≤ (ps_i s' 1131 30).toInt) → ((ps_i s' 1131 30).toInt ≤ 5) → ((v.toInt = 0 ∧ ∃ l2, Rw (ps_a s' 1134) x1.toInt l2 ∧ wf σ 5 l2 [(b, 0)] ∧ ((ps_i s' 1131 32).toInt ≠ 0 → ∀ p, p ∈ l2 → p < 60)) ∨ (v.toInt ≠ 0 ∧ ∃ l2 b0, Rw (ps_a s' 1134) x1.toInt l2 ∧ RH σ (ps_a s' 1144) (ps_a s' 1145) (ps_a s' 1146) (ps_a s' 1147) (ps_i s' 1131 29).toInt (ps_i s' 1131 30).toInt (ps_i s' 1131 31).toInt (ps_i s' 1131 32).toInt l2 b b0 ∧ ((ps_i s' 1131 29).toInt = 0 → b0 = b) ∧ (0 < (ps_i s' 1131 29).toInt → b0 = decide (ps_a s' 1145 ((ps_i s' 1131 29).toInt - 1).toNat = 0)))) → (∀ i : Nat, (i : Int) < x1.toInt ∨ x1.toInt + 41 ≤ (i : Int) → ps_a s' 1134 i = ps_a s0 1134 i) → v &&& 1 = v → Q (some (.int v)) s') (n0 : Nat) (KH0 : ∀ (l : List Nat) (s : ps_S), (mJ x t s) → (kp [1134, 1144] [29, 30] s0 s) → (Rw (ps_a s 1134) x1.toInt (l)) → (RQ σ (ps_a s 1144) (ps_a s 1145) (ps_a s 1146) (ps_a s 1147) (ps_i s 1131 29).toInt (ps_i s 1131 30).toInt (ps_i s 1131 31).toInt (ps_i s 1131 32).toInt (l) b) → (∀ i : Nat, (i : Int) < x1.toInt ∨ x1.toInt + 41 ≤ (i : Int) → ps_a s 1134 i = ps_a s0 1134 i) → ((ps_i s 1131 29).toInt ≤ 13) → (0 ≤ (ps_i s 1131 30).toInt) → ((ps_i s 1131 30).toInt ≤ 5) → ((ps_i s 1131 31).toInt ≤ 40) → ((ps_i s 1131 29).toInt ≤ (n0 : Int) - 1) → ps_At (d + 1) 212 0 [(0, .ref 1131), (1, .int x1)] [] s Q) (l : List Nat) (s : ps_S) (J : mJ x t s) (K : kp [1134, 1144] [29, 30] s0 s) (hR : Rw (ps_a s 1134) x1.toInt (l)) (hP : RQ σ (ps_a s 1144) (ps_a s 1145) (ps_a s 1146) (ps_a s 1147) (ps_i s 1131 29).toInt ((ps_i s 1131 30).toInt - if ps_a s 1147 (ps_i s 1131 29).toInt.toNat = 0 then 0 else 1) (ps_i s 1131 31).toInt (ps_i s 1131 32).toInt (l) b) (hO : ∀ i : Nat, (i : Int) < x1.toInt ∨ x1.toInt + 41 ≤ (i : Int) → ps_a s 1134 i = ps_a s0 1134 i) (i3 : (ps_i s 1131 29).toInt ≤ 13) (i4 : 0 ≤ (ps_i s 1131 30).toInt) (i5 : (ps_i s 1131 30).toInt ≤ 5) (i6 : (ps_i s 1131 31).toInt ≤ 40) (i7 : (ps_i s 1131 29).toInt ≤ 12) (hm0 : (ps_i s 1131 29).toInt + 1 ≤ (n0 : Int)) : ps_At (d + 1) 212 49 [(0, .ref 1131), (1, .int x1)] [] s Q := by
  have r1 := mf_29 J
  have r2 := mf_31 J
  refine pg_212_49 (d := d) ?_
  have hN := RQ_nn hP
  have hB : ((ps_a s 1147 (Int32.toNatClampNeg (ps_i s 1131 29))).toInt = 0 ∧ ((ps_i s 1131 30).toInt - if ps_a s 1147 (ps_i s 1131 29).toInt.toNat = 0 then 0 else 1) = (ps_i s 1131 30).toInt) ∨ ((ps_a s 1147 (Int32.toNatClampNeg (ps_i s 1131 29))).toInt ≠ 0 ∧ ((ps_i s 1131 30).toInt - if ps_a s 1147 (ps_i s 1131 29).toInt.toNat = 0 then 0 else 1) = (ps_i s 1131 30).toInt - 1) := kqc
  obtain ⟨kk, hkk⟩ : ∃ kk : Int, kk = ((ps_i s 1131 30).toInt - if ps_a s 1147 (ps_i s 1131 29).toInt.toNat = 0 then 0 else 1) := ⟨_, rfl⟩
  have hP2 := hP
  rw [← hkk] at hP2 hN hB
  refine ps_nd_i (show pm_in (ps_i s 1131 29) 16 = true from xgi (show 0 ≤ (ps_i s 1131 29).toInt from by omega) (show (ps_i s 1131 29).toInt < 16 from by omega)) ?_
  refine And.intro (fun h3 => ?_) (fun h3 => ?_)
  · have f4 : (ps_a s 1147 (Int32.toNatClampNeg (ps_i s 1131 29))).toInt = (0 : Int) := xeq h3
    exact KH0 l _ J K hR (RQ_k hP2 rfl (show (ps_i s 1131 30).toInt = kk from by omega) rfl rfl) hO (show (ps_i s 1131 29).toInt ≤ 13 from by omega) (show 0 ≤ (ps_i s 1131 30).toInt from by omega) (show (ps_i s 1131 30).toInt ≤ 5 from by omega) (show (ps_i s 1131 31).toInt ≤ 40 from by omega) (show (ps_i s 1131 29).toInt ≤ (n0 : Int) - 1 from by omega)
  · have f5 : (ps_a s 1147 (Int32.toNatClampNeg (ps_i s 1131 29))).toInt ≠ (0 : Int) := xne h3
    have a6 : ((ps_i s 1131 30) - 1).toInt = (ps_i s 1131 30).toInt - (1 : Int) := xIs (show -2147483648 ≤ (ps_i s 1131 30).toInt - (1 : Int) from by omega) (show (ps_i s 1131 30).toInt - (1 : Int) < 2147483648 from by omega)
    have J7 := mwi_n 30 (v := ((ps_i s 1131 30) - 1)) J rfl
    have K8 := kpi K (q := 30) (v := ((ps_i s 1131 30) - 1)) rfl
    exact KH0 l _ J7 K8 hR (RQ_k hP2 rfl (show ((ps_i s 1131 30) - 1).toInt = kk from by omega) rfl rfl) hO (show (ps_i s 1131 29).toInt ≤ 13 from by omega) (show 0 ≤ ((ps_i s 1131 30) - 1).toInt from by omega) (show ((ps_i s 1131 30) - 1).toInt ≤ 5 from by omega) (show (ps_i s 1131 31).toInt ≤ 40 from by omega) (show (ps_i s 1131 29).toInt ≤ (n0 : Int) - 1 from by omega)

theorem ms_212_74 {x : Nat → Nat → Nat} {t : Int32} {d : Nat} {s0 : ps_S} {σ : mSig} {b : Bool} {x1 : Int32} {Q : Option Value → ps_S → Prop} (k : ∀ (v : Int32) (s' : ps_S), mJ x t s' → kp [1134, 1144] [29, 30] s0 s' → ((ps_i s' 1131 29).toInt ≤ 13) → (0 ≤ (ps_i s' 1131 30).toInt) → ((ps_i s' 1131 30).toInt ≤ 5) → ((v.toInt = 0 ∧ ∃ l2, Rw (ps_a s' 1134) x1.toInt l2 ∧ wf σ 5 l2 [(b, 0)] ∧ ((ps_i s' 1131 32).toInt ≠ 0 → ∀ p, p ∈ l2 → p < 60)) ∨ (v.toInt ≠ 0 ∧ ∃ l2 b0, Rw (ps_a s' 1134) x1.toInt l2 ∧ RH σ (ps_a s' 1144) (ps_a s' 1145) (ps_a s' 1146) (ps_a s' 1147) (ps_i s' 1131 29).toInt (ps_i s' 1131 30).toInt (ps_i s' 1131 31).toInt (ps_i s' 1131 32).toInt l2 b b0 ∧ ((ps_i s' 1131 29).toInt = 0 → b0 = b) ∧ (0 < (ps_i s' 1131 29).toInt → b0 = decide (ps_a s' 1145 ((ps_i s' 1131 29).toInt - 1).toNat = 0)))) → (∀ i : Nat, (i : Int) < x1.toInt ∨ x1.toInt + 41 ≤ (i : Int) → ps_a s' 1134 i = ps_a s0 1134 i) → v &&& 1 = v → Q (some (.int v)) s') (l : List Nat) (s : ps_S) (J : mJ x t s) (K : kp [1134, 1144] [29, 30] s0 s) (hR : Rw (ps_a s 1134) x1.toInt (l)) (hQ : RQ σ (ps_a s 1144) (ps_a s 1145) (ps_a s 1146) (ps_a s 1147) (ps_i s 1131 29).toInt (ps_i s 1131 30).toInt (ps_i s 1131 31).toInt (ps_i s 1131 32).toInt (l) b) (hO : ∀ i : Nat, (i : Int) < x1.toInt ∨ x1.toInt + 41 ≤ (i : Int) → ps_a s 1134 i = ps_a s0 1134 i) (i3 : (ps_i s 1131 29).toInt ≤ 13) (i4 : 0 ≤ (ps_i s 1131 30).toInt) (i5 : (ps_i s 1131 30).toInt ≤ 5) (i6 : (ps_i s 1131 31).toInt ≤ 40) (i7 : (ps_i s 1131 29).toInt = 0 ∨ (ps_a s 1144 ((ps_i s 1131 29).toInt - 1).toNat).toInt ≠ 0) : ps_At (d + 1) 212 74 [(0, .ref 1131)] [] s Q := by
  have r1 := mf_29 J
  have r2 := mf_31 J
  refine pg_212_74 (d := d) ?_
  refine And.intro (fun h3 => ?_) (fun h3 => ?_)
  · have f4 : (ps_i s 1131 29).toInt ≠ (0 : Int) := xne h3
    have a5 : ((ps_i s 1131 29) - 1).toInt = (ps_i s 1131 29).toInt - (1 : Int) := xIs (show -2147483648 ≤ (ps_i s 1131 29).toInt - (1 : Int) from by omega) (show (ps_i s 1131 29).toInt - (1 : Int) < 2147483648 from by omega)
    have e6 : Int32.toNatClampNeg ((ps_i s 1131 29) - 1) = ((ps_i s 1131 29).toInt - 1).toNat := nx (by omega)
    have hT := RQ_top hQ (by omega)
    have hT2 : 0 ≤ (ps_a s 1144 (Int32.toNatClampNeg ((ps_i s 1131 29) - 1))).toInt := by rw [e6]; exact hT.2.1
    have hxr := xR (ps_a s 1144 (Int32.toNatClampNeg ((ps_i s 1131 29) - 1)))
    refine ps_nd_i (show pm_in ((ps_i s 1131 29) - 1) 16 = true from xgi (show 0 ≤ ((ps_i s 1131 29) - 1).toInt from by omega) (show ((ps_i s 1131 29) - 1).toInt < 16 from by omega)) ?_
    have a6 : ((ps_a s 1144 (Int32.toNatClampNeg ((ps_i s 1131 29) - 1))) - 1).toInt = (ps_a s 1144 (Int32.toNatClampNeg ((ps_i s 1131 29) - 1))).toInt - (1 : Int) := xIs (show -2147483648 ≤ (ps_a s 1144 (Int32.toNatClampNeg ((ps_i s 1131 29) - 1))).toInt - (1 : Int) from by omega) (show (ps_a s 1144 (Int32.toNatClampNeg ((ps_i s 1131 29) - 1))).toInt - (1 : Int) < 2147483648 from by omega)
    refine ps_nd_i (show pm_in ((ps_i s 1131 29) - 1) 16 = true from xgi (show 0 ≤ ((ps_i s 1131 29) - 1).toInt from by omega) (show ((ps_i s 1131 29) - 1).toInt < 16 from by omega)) ?_
    have J7 := mwa_n 1144 (i := (Int32.toNatClampNeg ((ps_i s 1131 29) - 1))) (v := ((ps_a s 1144 (Int32.toNatClampNeg ((ps_i s 1131 29) - 1))) - 1)) J rfl (by decide)
    have K8 := kpa' K (r := 1144) (i := (Int32.toNatClampNeg ((ps_i s 1131 29) - 1))) (v := ((ps_a s 1144 (Int32.toNatClampNeg ((ps_i s 1131 29) - 1))) - 1)) rfl
    exact k (1 : Int32) _ J7 K8 (show (ps_i s 1131 29).toInt ≤ 13 from by omega) (show 0 ≤ (ps_i s 1131 30).toInt from by omega) (show (ps_i s 1131 30).toInt ≤ 5 from by omega) (Or.inr ⟨by decide, l, _, hR, RQ_next hQ (by omega) (i7.resolve_left (by omega)) (fun i hi => ua_ne (by omega)) (by rw [← e6]; exact (congrArg Int32.toInt ua_eq).trans (by omega)) rfl rfl rfl rfl, fun z => absurd z (show ¬ ((ps_i s 1131 29).toInt = 0) from by omega), fun _ => rfl⟩) (hO) (by decide)
  · have f9 : (ps_i s 1131 29).toInt = (0 : Int) := xeq h3
    exact k (0 : Int32) _ J K (show (ps_i s 1131 29).toInt ≤ 13 from by omega) (show 0 ≤ (ps_i s 1131 30).toInt from by omega) (show (ps_i s 1131 30).toInt ≤ 5 from by omega) (Or.inl ⟨by decide, l, hR, (RQ_end hQ (by omega)).1, (RQ_end hQ (by omega)).2⟩) (hO) (by decide)

theorem ms_212_0 {x : Nat → Nat → Nat} {t : Int32} {d : Nat} {s0 : ps_S} {σ : mSig} {b : Bool} {x1 : Int32} {Q : Option Value → ps_S → Prop} (k : ∀ (v : Int32) (s' : ps_S), mJ x t s' → kp [1134, 1144] [29, 30] s0 s' → ((ps_i s' 1131 29).toInt ≤ 13) → (0 ≤ (ps_i s' 1131 30).toInt) → ((ps_i s' 1131 30).toInt ≤ 5) → ((v.toInt = 0 ∧ ∃ l2, Rw (ps_a s' 1134) x1.toInt l2 ∧ wf σ 5 l2 [(b, 0)] ∧ ((ps_i s' 1131 32).toInt ≠ 0 → ∀ p, p ∈ l2 → p < 60)) ∨ (v.toInt ≠ 0 ∧ ∃ l2 b0, Rw (ps_a s' 1134) x1.toInt l2 ∧ RH σ (ps_a s' 1144) (ps_a s' 1145) (ps_a s' 1146) (ps_a s' 1147) (ps_i s' 1131 29).toInt (ps_i s' 1131 30).toInt (ps_i s' 1131 31).toInt (ps_i s' 1131 32).toInt l2 b b0 ∧ ((ps_i s' 1131 29).toInt = 0 → b0 = b) ∧ (0 < (ps_i s' 1131 29).toInt → b0 = decide (ps_a s' 1145 ((ps_i s' 1131 29).toInt - 1).toNat = 0)))) → (∀ i : Nat, (i : Int) < x1.toInt ∨ x1.toInt + 41 ≤ (i : Int) → ps_a s' 1134 i = ps_a s0 1134 i) → v &&& 1 = v → Q (some (.int v)) s') : ∀ (n : Nat) (l : List Nat) (s : ps_S), (mJ x t s) → (kp [1134, 1144] [29, 30] s0 s) → (Rw (ps_a s 1134) x1.toInt (l)) → (RQ σ (ps_a s 1144) (ps_a s 1145) (ps_a s 1146) (ps_a s 1147) (ps_i s 1131 29).toInt (ps_i s 1131 30).toInt (ps_i s 1131 31).toInt (ps_i s 1131 32).toInt (l) b) → (∀ i : Nat, (i : Int) < x1.toInt ∨ x1.toInt + 41 ≤ (i : Int) → ps_a s 1134 i = ps_a s0 1134 i) → ((ps_i s 1131 29).toInt ≤ 13) → (0 ≤ (ps_i s 1131 30).toInt) → ((ps_i s 1131 30).toInt ≤ 5) → ((ps_i s 1131 31).toInt ≤ 40) → (ps_i s 1131 29).toInt ≤ (n : Int) → ps_At (d + 1) 212 0 [(0, .ref 1131), (1, .int x1)] [] s Q := by
  refine xstr (fun n ih => ?_)
  intro l s J K hR hQ hO i3 i4 i5 i6 hm
  have r1 := mf_29 J
  have r2 := mf_31 J
  refine pg_212_0 (d := d) ?_
  refine And.intro (fun h3 => ?_) (fun h3 => ?_)
  · have f4 : (ps_i s 1131 29).toInt ≤ (0 : Int) := xle h3
    exact ms_212_74 (x1 := x1) (σ := σ) (b := b) k  l _ J K hR hQ hO (show (ps_i s 1131 29).toInt ≤ 13 from by omega) (show 0 ≤ (ps_i s 1131 30).toInt from by omega) (show (ps_i s 1131 30).toInt ≤ 5 from by omega) (show (ps_i s 1131 31).toInt ≤ 40 from by omega) ((by first | exact Or.inl (show (ps_i s 1131 29).toInt = 0 from by omega) | exact Or.inr (by rw [← e6]; omega)))
  · have f5 : (0 : Int) < (ps_i s 1131 29).toInt := xlt h3
    have a6 : ((ps_i s 1131 29) - 1).toInt = (ps_i s 1131 29).toInt - (1 : Int) := xIs (show -2147483648 ≤ (ps_i s 1131 29).toInt - (1 : Int) from by omega) (show (ps_i s 1131 29).toInt - (1 : Int) < 2147483648 from by omega)
    have e6 : Int32.toNatClampNeg ((ps_i s 1131 29) - 1) = ((ps_i s 1131 29).toInt - 1).toNat := nx (by omega)
    have hT := RQ_top hQ (by omega)
    refine ps_nd_i (show pm_in ((ps_i s 1131 29) - 1) 16 = true from xgi (show 0 ≤ ((ps_i s 1131 29) - 1).toInt from by omega) (show ((ps_i s 1131 29) - 1).toInt < 16 from by omega)) ?_
    refine And.intro (fun h7 => ?_) (fun h7 => ?_)
    · have f8 : (ps_a s 1144 (Int32.toNatClampNeg ((ps_i s 1131 29) - 1))).toInt ≠ (0 : Int) := xne h7
      exact ms_212_74 (x1 := x1) (σ := σ) (b := b) k  l _ J K hR hQ hO (show (ps_i s 1131 29).toInt ≤ 13 from by omega) (show 0 ≤ (ps_i s 1131 30).toInt from by omega) (show (ps_i s 1131 30).toInt ≤ 5 from by omega) (show (ps_i s 1131 31).toInt ≤ 40 from by omega) ((by first | exact Or.inl (show (ps_i s 1131 29).toInt = 0 from by omega) | exact Or.inr (by rw [← e6]; omega)))
    · have f9 : (ps_a s 1144 (Int32.toNatClampNeg ((ps_i s 1131 29) - 1))).toInt = (0 : Int) := xeq h7
      have J10 := mwi_29 (v := ((ps_i s 1131 29) - 1)) J (show 0 ≤ ((ps_i s 1131 29) - 1).toInt from by omega) (show ((ps_i s 1131 29) - 1).toInt ≤ 16 from by omega)
      have K11 := kpi K (q := 29) (v := ((ps_i s 1131 29) - 1)) rfl
      refine ps_nd_i (show pm_in ((ps_i s 1131 29) - 1) 16 = true from xgi (show 0 ≤ ((ps_i s 1131 29) - 1).toInt from by omega) (show ((ps_i s 1131 29) - 1).toInt < 16 from by omega)) ?_
      refine And.intro (fun h12 => ?_) (fun h12 => ?_)
      · have f13 : (ps_a s 1146 (Int32.toNatClampNeg ((ps_i s 1131 29) - 1))).toInt = (0 : Int) := xeq h12
        exact ms_212_49 (x1 := x1) (σ := σ) (b := b) k n (fun lz sz Jz Kz i0z i1z i2z i3z i4z i5z i6z hm => ih (n - 1) (show n - 1 < n from by omega) lz sz Jz Kz i0z i1z i2z i3z i4z i5z i6z (show _ ≤ ((n - 1 : Nat) : Int) from by omega)) l _ J10 K11 hR (RQ_k (RQ_pop hQ (by omega) (by show (ps_a s 1144 ((ps_i s 1131 29).toInt - 1).toNat).toInt = 0; rw [← e6]; omega) (by show ps_a s 1146 ((ps_i s 1131 29).toInt - 1).toNat = 0; rw [← e6]; exact x0 (by omega))) (show ((ps_i s 1131 29) - 1).toInt = (ps_i s 1131 29).toInt - 1 from by omega) (show ((ps_i s 1131 30).toInt - if ps_a s 1147 (((ps_i s 1131 29) - 1).toInt).toNat = 0 then 0 else 1) = ((ps_i s 1131 30).toInt - if ps_a s 1147 ((ps_i s 1131 29).toInt - 1).toNat = 0 then 0 else 1) from by rw [show ((ps_i s 1131 29) - 1).toInt = (ps_i s 1131 29).toInt - 1 from by omega]) rfl rfl) hO (show ((ps_i s 1131 29) - 1).toInt ≤ 13 from by omega) (show 0 ≤ (ps_i s 1131 30).toInt from by omega) (show (ps_i s 1131 30).toInt ≤ 5 from by omega) (show (ps_i s 1131 31).toInt ≤ 40 from by omega) (show ((ps_i s 1131 29) - 1).toInt ≤ 12 from by omega) (show ((ps_i s 1131 29) - 1).toInt + 1 ≤ ((n : Nat) : Int) from by omega)
      · have f14 : (ps_a s 1146 (Int32.toNatClampNeg ((ps_i s 1131 29) - 1))).toInt ≠ (0 : Int) := xne h12
        have hT3 := hT.2.2 (fun z => by have z : ps_a s 1146 ((ps_i s 1131 29).toInt - 1).toNat = 0 := z; rw [← e6] at z; have z2 := congrArg Int32.toInt z; rw [Int32.toInt_zero] at z2; omega)
        have hPn : RQ σ (ps_a (ps_ui s 1131 29 ((ps_i s 1131 29) - 1)) 1144) (ps_a (ps_ui s 1131 29 ((ps_i s 1131 29) - 1)) 1145) (ps_a (ps_ui s 1131 29 ((ps_i s 1131 29) - 1)) 1146) (ps_a (ps_ui s 1131 29 ((ps_i s 1131 29) - 1)) 1147) (ps_i (ps_ui s 1131 29 ((ps_i s 1131 29) - 1)) 1131 29).toInt ((ps_i (ps_ui s 1131 29 ((ps_i s 1131 29) - 1)) 1131 30).toInt - if ps_a (ps_ui s 1131 29 ((ps_i s 1131 29) - 1)) 1147 (ps_i (ps_ui s 1131 29 ((ps_i s 1131 29) - 1)) 1131 29).toInt.toNat = 0 then 0 else 1) (ps_i (ps_ui s 1131 29 ((ps_i s 1131 29) - 1)) 1131 31).toInt (ps_i (ps_ui s 1131 29 ((ps_i s 1131 29) - 1)) 1131 32).toInt (l ++ [0]) b := RQ_k (RQ_popn hQ (by omega) (by omega) (by show (ps_a s 1144 ((ps_i s 1131 29).toInt - 1).toNat).toInt = 0; rw [← e6]; omega) (fun z => by have z : ps_a s 1146 ((ps_i s 1131 29).toInt - 1).toNat = 0 := z; rw [← e6] at z; have z2 := congrArg Int32.toInt z; rw [Int32.toInt_zero] at z2; omega)) (show ((ps_i s 1131 29) - 1).toInt = (ps_i s 1131 29).toInt - 1 from by omega) (show ((ps_i s 1131 30).toInt - if ps_a s 1147 (((ps_i s 1131 29) - 1).toInt).toNat = 0 then 0 else 1) = ((ps_i s 1131 30).toInt - if ps_a s 1147 ((ps_i s 1131 29).toInt - 1).toNat = 0 then 0 else 1) from by rw [show ((ps_i s 1131 29) - 1).toInt = (ps_i s 1131 29).toInt - 1 from by omega]) rfl rfl
        refine ms_210 (l := l) (p := 0) J10 hR ((by omega)) (rfl) (fun s15 J15 K15 p15_0 p15_1 => ?_)
        have K16 := kpt K11 K15 rfl rfl
        have KC := K15
        have hPn : RQ σ (ps_a s15 1144) (ps_a s15 1145) (ps_a s15 1146) (ps_a s15 1147) (ps_i s15 1131 29).toInt ((ps_i s15 1131 30).toInt - if ps_a s15 1147 (ps_i s15 1131 29).toInt.toNat = 0 then 0 else 1) (ps_i s15 1131 31).toInt (ps_i s15 1131 32).toInt (l ++ [0]) b := by rw [show ps_a s15 1144 = ps_a (ps_ui s 1131 29 ((ps_i s 1131 29) - 1)) 1144 from (K15.2 1144 rfl).1, show ps_a s15 1145 = ps_a (ps_ui s 1131 29 ((ps_i s 1131 29) - 1)) 1145 from (K15.2 1145 rfl).1, show ps_a s15 1146 = ps_a (ps_ui s 1131 29 ((ps_i s 1131 29) - 1)) 1146 from (K15.2 1146 rfl).1, show ps_a s15 1147 = ps_a (ps_ui s 1131 29 ((ps_i s 1131 29) - 1)) 1147 from (K15.2 1147 rfl).1, show ps_i s15 1131 29 = ps_i (ps_ui s 1131 29 ((ps_i s 1131 29) - 1)) 1131 29 from kp_i K15 29 rfl, show ps_i s15 1131 30 = ps_i (ps_ui s 1131 29 ((ps_i s 1131 29) - 1)) 1131 30 from kp_i K15 30 rfl, show ps_i s15 1131 31 = ps_i (ps_ui s 1131 29 ((ps_i s 1131 29) - 1)) 1131 31 from kp_i K15 31 rfl, show ps_i s15 1131 32 = ps_i (ps_ui s 1131 29 ((ps_i s 1131 29) - 1)) 1131 32 from kp_i K15 32 rfl]; exact hPn
        have hR2 : Rw (ps_a s15 1134) x1.toInt (l ++ [0]) := p15_0
        have ho : _ := p15_1
        have r17 := mf_29 J15
        have u18 : (ps_i s15 1131 29).toInt = ((ps_i s 1131 29) - 1).toInt := xeq (kp_i K15 29 rfl)
        have u19 : (ps_i s15 1131 30).toInt = (ps_i s 1131 30).toInt := xeq (kp_i K15 30 rfl)
        have r20 := mf_31 J15
        have u21 : (ps_i s15 1131 31).toInt = (ps_i s 1131 31).toInt := xeq (kp_i K15 31 rfl)
        exact ms_212_49 (x1 := x1) (σ := σ) (b := b) k n (fun lz sz Jz Kz i0z i1z i2z i3z i4z i5z i6z hm => ih (n - 1) (show n - 1 < n from by omega) lz sz Jz Kz i0z i1z i2z i3z i4z i5z i6z (show _ ≤ ((n - 1 : Nat) : Int) from by omega)) (l ++ [0]) _ J15 K16 (hR2) (hPn) (fun i hi => (ho i hi).trans (hO i hi)) (show (ps_i s15 1131 29).toInt ≤ 13 from by omega) (show 0 ≤ (ps_i s15 1131 30).toInt from by omega) (show (ps_i s15 1131 30).toInt ≤ 5 from by omega) (show (ps_i s15 1131 31).toInt ≤ 40 from by omega) (show (ps_i s15 1131 29).toInt ≤ 12 from by omega) (show (ps_i s15 1131 29).toInt + 1 ≤ ((n : Nat) : Int) from by omega)

theorem ms_212 {x : Nat → Nat → Nat} {t : Int32} {s : ps_S} {d : Nat} {x1 : Int32} {f : Int32 → ps_S → Prop} (J : mJ x t s) {σ : mSig} {b : Bool} (hE : ∃ l2, Rw (ps_a s 1134) x1.toInt l2 ∧ RQ σ (ps_a s 1144) (ps_a s 1145) (ps_a s 1146) (ps_a s 1147) (ps_i s 1131 29).toInt (ps_i s 1131 30).toInt (ps_i s 1131 31).toInt (ps_i s 1131 32).toInt l2 b) (q1 : (ps_i s 1131 29).toInt ≤ 13) (q2 : 0 ≤ (ps_i s 1131 30).toInt) (q3 : (ps_i s 1131 30).toInt ≤ 5) (q4 : (ps_i s 1131 31).toInt ≤ 40) (k : ∀ (v : Int32) (s' : ps_S), mJ x t s' → kp [1134, 1144] [29, 30] s s' → ((ps_i s' 1131 29).toInt ≤ 13) → (0 ≤ (ps_i s' 1131 30).toInt) → ((ps_i s' 1131 30).toInt ≤ 5) → ((v.toInt = 0 ∧ ∃ l2, Rw (ps_a s' 1134) x1.toInt l2 ∧ wf σ 5 l2 [(b, 0)] ∧ ((ps_i s' 1131 32).toInt ≠ 0 → ∀ p, p ∈ l2 → p < 60)) ∨ (v.toInt ≠ 0 ∧ ∃ l2 b0, Rw (ps_a s' 1134) x1.toInt l2 ∧ RH σ (ps_a s' 1144) (ps_a s' 1145) (ps_a s' 1146) (ps_a s' 1147) (ps_i s' 1131 29).toInt (ps_i s' 1131 30).toInt (ps_i s' 1131 31).toInt (ps_i s' 1131 32).toInt l2 b b0 ∧ ((ps_i s' 1131 29).toInt = 0 → b0 = b) ∧ (0 < (ps_i s' 1131 29).toInt → b0 = decide (ps_a s' 1145 ((ps_i s' 1131 29).toInt - 1).toNat = 0)))) → (∀ i : Nat, (i : Int) < x1.toInt ∨ x1.toInt + 41 ≤ (i : Int) → ps_a s' 1134 i = ps_a s 1134 i) → v &&& 1 = v → f v s') : ps_Cl (d + 1) 212 [.ref 1131, .int x1] s (ps_rI f) := by
  have r1 := mf_29 J
  have r2 := mf_31 J
  have K : kp [1134, 1144] [29, 30] s s := kp_refl
  obtain ⟨l, hR, hQ⟩ := id hE
  exact ms_212_0 (x1 := x1) (σ := σ) (b := b) k  ((ps_i s 1131 29).toInt).toNat l _ J K (hR) (hQ) ((fun i _ => rfl)) (show (ps_i s 1131 29).toInt ≤ 13 from by omega) (show 0 ≤ (ps_i s 1131 30).toInt from by omega) (show (ps_i s 1131 30).toInt ≤ 5 from by omega) (show (ps_i s 1131 31).toInt ≤ 40 from by omega) (show (ps_i s 1131 29).toInt ≤ ((((ps_i s 1131 29).toInt).toNat : Nat) : Int) from by omega)
end
section
set_option maxRecDepth 100000
-- ProofBenchModel.beginsFormula(I)V
theorem pg_214_0 {d : Nat} {x1 : Int32} {s : ps_S} {Q : Option Value → ps_S → Prop} (h :
  ps_Cl d 213 [.ref 1131] s (ps_rI (fun v1 s1 =>
    ps_Cl d 195 [.ref 1131, .long (7237492 : Int64)] s1 (ps_rI (fun v2 s2 =>
      (v1 = 4 →
        ps_At (d + 1) 214 23 [(0, .ref 1131), (1, .int x1), (2, .int v1), (3, .int v2)] [] s2 Q) ∧
      (v1 ≠ 4 →
        (v1 ≠ 5 →
          (v2 = 0 →
            (v1 < 0 →
              ps_At (d + 1) 214 84 [(0, .ref 1131), (1, .int x1), (2, .int v1), (3, .int v2), (4, .int 0), (5, .int 1)] [] s2 Q) ∧
            (0 ≤ v1 →
              (40 < ((ps_i s2 1131 31) + 1) →
                ps_At (d + 1) 214 84 [(0, .ref 1131), (1, .int x1), (2, .int v1), (3, .int v2), (4, .int 0), (5, .int 1)] [] s2 Q) ∧
              (((ps_i s2 1131 31) + 1) ≤ 40 →
                (12 < (((ps_i s2 1131 29) + 1) - 1) →
                  ps_At (d + 1) 214 84 [(0, .ref 1131), (1, .int x1), (2, .int v1), (3, .int v2), (4, .int 0), (5, .int 1)] [] s2 Q) ∧
                ((((ps_i s2 1131 29) + 1) - 1) ≤ 12 →
                  ((0 : Int32) = 0 →
                    ps_At (d + 1) 214 88 [(0, .ref 1131), (1, .int x1), (2, .int v1), (3, .int v2), (4, .int 0), (5, .int 1)] [] s2 Q) ∧
                  ((0 : Int32) ≠ 0 →
                    ((ps_i s2 1131 30) ≤ 4 →
                      ps_At (d + 1) 214 88 [(0, .ref 1131), (1, .int x1), (2, .int v1), (3, .int v2), (4, .int 0), (5, .int 1)] [] s2 Q) ∧
                    (4 < (ps_i s2 1131 30) →
                      ps_At (d + 1) 214 84 [(0, .ref 1131), (1, .int x1), (2, .int v1), (3, .int v2), (4, .int 0), (5, .int 1)] [] s2 Q)))))) ∧
          (v2 ≠ 0 →
            (v1 < 0 →
              ps_At (d + 1) 214 84 [(0, .ref 1131), (1, .int x1), (2, .int v1), (3, .int v2), (4, .int 0), (5, .int 2)] [] s2 Q) ∧
            (0 ≤ v1 →
              (40 < ((ps_i s2 1131 31) + 2) →
                ps_At (d + 1) 214 84 [(0, .ref 1131), (1, .int x1), (2, .int v1), (3, .int v2), (4, .int 0), (5, .int 2)] [] s2 Q) ∧
              (((ps_i s2 1131 31) + 2) ≤ 40 →
                (12 < (((ps_i s2 1131 29) + 2) - 1) →
                  ps_At (d + 1) 214 84 [(0, .ref 1131), (1, .int x1), (2, .int v1), (3, .int v2), (4, .int 0), (5, .int 2)] [] s2 Q) ∧
                ((((ps_i s2 1131 29) + 2) - 1) ≤ 12 →
                  ((0 : Int32) = 0 →
                    ps_At (d + 1) 214 88 [(0, .ref 1131), (1, .int x1), (2, .int v1), (3, .int v2), (4, .int 0), (5, .int 2)] [] s2 Q) ∧
                  ((0 : Int32) ≠ 0 →
                    ((ps_i s2 1131 30) ≤ 4 →
                      ps_At (d + 1) 214 88 [(0, .ref 1131), (1, .int x1), (2, .int v1), (3, .int v2), (4, .int 0), (5, .int 2)] [] s2 Q) ∧
                    (4 < (ps_i s2 1131 30) →
                      ps_At (d + 1) 214 84 [(0, .ref 1131), (1, .int x1), (2, .int v1), (3, .int v2), (4, .int 0), (5, .int 2)] [] s2 Q))))))) ∧
        (v1 = 5 →
          ps_At (d + 1) 214 23 [(0, .ref 1131), (1, .int x1), (2, .int v1), (3, .int v2)] [] s2 Q))))))) : ps_At (d + 1) 214 0 [(0, .ref 1131), (1, .int x1)] [] s Q :=
  ps_wp_at (stops := [(23, [0, 1, 2, 3]), (84, [0, 1, 2, 3, 4, 5]), (88, [0, 1, 2, 3, 4, 5]), (133, [0])]) (n := 68) h rfl

theorem pg_214_23 {d : Nat} {x1 : Int32} {x2 : Int32} {x3 : Int32} {s : ps_S} {Q : Option Value → ps_S → Prop} (h :
  (x3 = 0 →
    (x2 < 0 →
      ps_At (d + 1) 214 84 [(0, .ref 1131), (1, .int x1), (2, .int x2), (3, .int x3), (4, .int 1), (5, .int 1)] [] s Q) ∧
    (0 ≤ x2 →
      (40 < ((ps_i s 1131 31) + 1) →
        ps_At (d + 1) 214 84 [(0, .ref 1131), (1, .int x1), (2, .int x2), (3, .int x3), (4, .int 1), (5, .int 1)] [] s Q) ∧
      (((ps_i s 1131 31) + 1) ≤ 40 →
        (12 < (((ps_i s 1131 29) + 1) - 1) →
          ps_At (d + 1) 214 84 [(0, .ref 1131), (1, .int x1), (2, .int x2), (3, .int x3), (4, .int 1), (5, .int 1)] [] s Q) ∧
        ((((ps_i s 1131 29) + 1) - 1) ≤ 12 →
          ((1 : Int32) = 0 →
            ps_At (d + 1) 214 88 [(0, .ref 1131), (1, .int x1), (2, .int x2), (3, .int x3), (4, .int 1), (5, .int 1)] [] s Q) ∧
          ((1 : Int32) ≠ 0 →
            ((ps_i s 1131 30) ≤ 4 →
              ps_At (d + 1) 214 88 [(0, .ref 1131), (1, .int x1), (2, .int x2), (3, .int x3), (4, .int 1), (5, .int 1)] [] s Q) ∧
            (4 < (ps_i s 1131 30) →
              ps_At (d + 1) 214 84 [(0, .ref 1131), (1, .int x1), (2, .int x2), (3, .int x3), (4, .int 1), (5, .int 1)] [] s Q)))))) ∧
  (x3 ≠ 0 →
    (x2 < 0 →
      ps_At (d + 1) 214 84 [(0, .ref 1131), (1, .int x1), (2, .int x2), (3, .int x3), (4, .int 1), (5, .int 2)] [] s Q) ∧
    (0 ≤ x2 →
      (40 < ((ps_i s 1131 31) + 2) →
        ps_At (d + 1) 214 84 [(0, .ref 1131), (1, .int x1), (2, .int x2), (3, .int x3), (4, .int 1), (5, .int 2)] [] s Q) ∧
      (((ps_i s 1131 31) + 2) ≤ 40 →
        (12 < (((ps_i s 1131 29) + 2) - 1) →
          ps_At (d + 1) 214 84 [(0, .ref 1131), (1, .int x1), (2, .int x2), (3, .int x3), (4, .int 1), (5, .int 2)] [] s Q) ∧
        ((((ps_i s 1131 29) + 2) - 1) ≤ 12 →
          ((1 : Int32) = 0 →
            ps_At (d + 1) 214 88 [(0, .ref 1131), (1, .int x1), (2, .int x2), (3, .int x3), (4, .int 1), (5, .int 2)] [] s Q) ∧
          ((1 : Int32) ≠ 0 →
            ((ps_i s 1131 30) ≤ 4 →
              ps_At (d + 1) 214 88 [(0, .ref 1131), (1, .int x1), (2, .int x2), (3, .int x3), (4, .int 1), (5, .int 2)] [] s Q) ∧
            (4 < (ps_i s 1131 30) →
              ps_At (d + 1) 214 84 [(0, .ref 1131), (1, .int x1), (2, .int x2), (3, .int x3), (4, .int 1), (5, .int 2)] [] s Q))))))) : ps_At (d + 1) 214 23 [(0, .ref 1131), (1, .int x1), (2, .int x2), (3, .int x3)] [] s Q :=
  ps_wp_at (stops := [(23, [0, 1, 2, 3]), (84, [0, 1, 2, 3, 4, 5]), (88, [0, 1, 2, 3, 4, 5]), (133, [0])]) (n := 56) h rfl

theorem pg_214_84 {d : Nat} {x1 : Int32} {x2 : Int32} {x3 : Int32} {x4 : Int32} {x5 : Int32} {s : ps_S} {Q : Option Value → ps_S → Prop} (h :
  ps_Cl d 196 [.ref 1131] s (ps_rV (fun s1 =>
    ps_At (d + 1) 214 88 [(0, .ref 1131), (1, .int x1), (2, .int x2), (3, .int x3), (4, .int x4), (5, .int x5)] [] s1 Q))) : ps_At (d + 1) 214 84 [(0, .ref 1131), (1, .int x1), (2, .int x2), (3, .int x3), (4, .int x4), (5, .int x5)] [] s Q :=
  ps_wp_at (stops := [(23, [0, 1, 2, 3]), (84, [0, 1, 2, 3, 4, 5]), (88, [0, 1, 2, 3, 4, 5]), (133, [0])]) (n := 4) h rfl

theorem pg_214_88 {d : Nat} {x1 : Int32} {x2 : Int32} {x3 : Int32} {x4 : Int32} {x5 : Int32} {s : ps_S} {Q : Option Value → ps_S → Prop} (h :
  ps_Cl d 192 [.ref 1131] s (ps_rI (fun v1 s1 =>
    (v1 ≠ 0 →
      ps_Cl d 210 [.ref 1131, .int x1, .int x2] (ps_ui s1 1131 31 ((ps_i s1 1131 31) + x5)) (ps_rV (fun s2 =>
        ps_Cl d 194 [.ref 1131] s2 (ps_rV (fun s3 =>
          (x4 = 0 →
            (x3 = 0 →
              (x2 ≠ 0 →
                (10 ≤ x2 →
                  ps_nd (pm_in ((((6 : Int32) * (ps_i s3 1131 22)) + x2) - 10) 12) ((x2 < 6 →
                    ps_Cl d 211 [.ref 1131, .int (ps_a s3 1138 (Int32.toNatClampNeg ((((6 : Int32) * (ps_i s3 1131 22)) + x2) - 10))), .int 0] s3 (ps_rV (fun s4 =>
                      ps_nd (pm_in ((ps_i s4 1131 29) - 1) 16) (Q none (ps_ua s4 1146 (Int32.toNatClampNeg ((ps_i s4 1131 29) - 1)) (x3 &&& 1)))))) ∧
                  (6 ≤ x2 →
                    ps_Cl d 211 [.ref 1131, .int (ps_a s3 1138 (Int32.toNatClampNeg ((((6 : Int32) * (ps_i s3 1131 22)) + x2) - 10))), .int 1] s3 (ps_rV (fun s5 =>
                      ps_nd (pm_in ((ps_i s5 1131 29) - 1) 16) (Q none (ps_ua s5 1146 (Int32.toNatClampNeg ((ps_i s5 1131 29) - 1)) (x3 &&& 1)))))))) ∧
                (x2 < 10 →
                  (x2 < 6 →
                    ps_Cl d 211 [.ref 1131, .int 2, .int 0] s3 (ps_rV (fun s6 =>
                      ps_nd (pm_in ((ps_i s6 1131 29) - 1) 16) (Q none (ps_ua s6 1146 (Int32.toNatClampNeg ((ps_i s6 1131 29) - 1)) (x3 &&& 1)))))) ∧
                  (6 ≤ x2 →
                    ps_Cl d 211 [.ref 1131, .int 2, .int 1] s3 (ps_rV (fun s7 =>
                      ps_nd (pm_in ((ps_i s7 1131 29) - 1) 16) (Q none (ps_ua s7 1146 (Int32.toNatClampNeg ((ps_i s7 1131 29) - 1)) (x3 &&& 1)))))))) ∧
              (x2 = 0 →
                (x2 < 6 →
                  ps_Cl d 211 [.ref 1131, .int 0, .int 0] s3 (ps_rV (fun s8 =>
                    ps_nd (pm_in ((ps_i s8 1131 29) - 1) 16) (Q none (ps_ua s8 1146 (Int32.toNatClampNeg ((ps_i s8 1131 29) - 1)) (x3 &&& 1)))))) ∧
                (6 ≤ x2 →
                  ps_Cl d 211 [.ref 1131, .int 0, .int 1] s3 (ps_rV (fun s9 =>
                    ps_nd (pm_in ((ps_i s9 1131 29) - 1) 16) (Q none (ps_ua s9 1146 (Int32.toNatClampNeg ((ps_i s9 1131 29) - 1)) (x3 &&& 1)))))))) ∧
            (x3 ≠ 0 →
              (x2 < 6 →
                ps_Cl d 211 [.ref 1131, .int 1, .int 0] s3 (ps_rV (fun s10 =>
                  ps_nd (pm_in ((ps_i s10 1131 29) - 1) 16) (Q none (ps_ua s10 1146 (Int32.toNatClampNeg ((ps_i s10 1131 29) - 1)) (x3 &&& 1)))))) ∧
              (6 ≤ x2 →
                ps_Cl d 211 [.ref 1131, .int 1, .int 1] s3 (ps_rV (fun s11 =>
                  ps_nd (pm_in ((ps_i s11 1131 29) - 1) 16) (Q none (ps_ua s11 1146 (Int32.toNatClampNeg ((ps_i s11 1131 29) - 1)) (x3 &&& 1)))))))) ∧
          (x4 ≠ 0 →
            ps_Cl d 208 [.ref 1131] s3 (ps_rI (fun v12 s12 =>
              (v12 ≠ 0 →
                ps_At (d + 1) 214 133 [(0, .ref 1131)] [] s12 Q) ∧
              (v12 = 0 →
                ps_Cl d 196 [.ref 1131] s12 (ps_rV (fun s13 =>
                  ps_At (d + 1) 214 133 [(0, .ref 1131)] [] s13 Q))))))))))) ∧
    (v1 = 0 →
      Q none s1)))) : ps_At (d + 1) 214 88 [(0, .ref 1131), (1, .int x1), (2, .int x2), (3, .int x3), (4, .int x4), (5, .int x5)] [] s Q :=
  ps_wp_at (stops := [(23, [0, 1, 2, 3]), (84, [0, 1, 2, 3, 4, 5]), (88, [0, 1, 2, 3, 4, 5]), (133, [0])]) (n := 154) h rfl

theorem pg_214_133 {d : Nat} {s : ps_S} {Q : Option Value → ps_S → Prop} (h :
  ps_Cl d 192 [.ref 1131] s (ps_rI (fun v1 s1 =>
    (v1 ≠ 0 →
      ps_Cl d 211 [.ref 1131, .int 1, .int 0] s1 (ps_rV (fun s2 =>
        ps_nd (pm_in ((ps_i s2 1131 29) - 1) 16) (ps_nd (pm_in ((ps_i (ps_ua s2 1147 (Int32.toNatClampNeg ((ps_i s2 1131 29) - 1)) ((1 : Int32) &&& 1)) 1131 29) - 1) 16) (ps_Cl d 194 [.ref 1131] (ps_ui (ps_ub (ps_ua s2 1147 (Int32.toNatClampNeg ((ps_i s2 1131 29) - 1)) ((1 : Int32) &&& 1)) 1148 (Int32.toNatClampNeg ((ps_i (ps_ua s2 1147 (Int32.toNatClampNeg ((ps_i s2 1131 29) - 1)) ((1 : Int32) &&& 1)) 1131 29) - 1)) (ps_j (ps_ua s2 1147 (Int32.toNatClampNeg ((ps_i s2 1131 29) - 1)) ((1 : Int32) &&& 1)) 1131 11)) 1131 30 ((ps_i (ps_ub (ps_ua s2 1147 (Int32.toNatClampNeg ((ps_i s2 1131 29) - 1)) ((1 : Int32) &&& 1)) 1148 (Int32.toNatClampNeg ((ps_i (ps_ua s2 1147 (Int32.toNatClampNeg ((ps_i s2 1131 29) - 1)) ((1 : Int32) &&& 1)) 1131 29) - 1)) (ps_j (ps_ua s2 1147 (Int32.toNatClampNeg ((ps_i s2 1131 29) - 1)) ((1 : Int32) &&& 1)) 1131 11)) 1131 30) + 1)) (ps_rV (fun s3 =>
          Q none s3))))))) ∧
    (v1 = 0 →
      Q none s1)))) : ps_At (d + 1) 214 133 [(0, .ref 1131)] [] s Q :=
  ps_wp_at (stops := [(23, [0, 1, 2, 3]), (84, [0, 1, 2, 3, 4, 5]), (88, [0, 1, 2, 3, 4, 5]), (133, [0])]) (n := 37) h rfl

theorem ms_214_133 {x : Nat → Nat → Nat} {t : Int32} {d : Nat} {s0 : ps_S} {σ : mSig} {l : List Nat} {b : Bool} {x1 : Int32} {Q : Option Value → ps_S → Prop} (k : ∀ (s' : ps_S), mJ x t s' → kp [1134, 1144, 1145, 1146, 1147, 1148] [5, 6, 7, 8, 9, 10, 11, 29, 30, 31] s0 s' → ((ps_i s' 1131 8).toInt ≤ (ps_i s' 1131 4).toInt) → (1 ≤ (ps_i s' 1131 5).toInt ∨ ((ps_i s' 1131 29).toInt ≤ 13 ∧ 0 ≤ (ps_i s' 1131 30).toInt ∧ (ps_i s' 1131 30).toInt ≤ 5 ∧ (ps_i s' 1131 31).toInt ≤ 40 ∧ (ps_i s0 1131 31).toInt < (ps_i s' 1131 31).toInt)) → ((ps_i s0 1131 31).toInt ≤ (ps_i s' 1131 31).toInt) → (1 ≤ (ps_i s' 1131 5).toInt ∨ ∃ l2, Rw (ps_a s' 1134) x1.toInt l2 ∧ RQ σ (ps_a s' 1144) (ps_a s' 1145) (ps_a s' 1146) (ps_a s' 1147) (ps_i s' 1131 29).toInt (ps_i s' 1131 30).toInt (ps_i s' 1131 31).toInt (ps_i s' 1131 32).toInt l2 b) → (∀ i : Nat, (i : Int) < x1.toInt ∨ x1.toInt + 41 ≤ (i : Int) → ps_a s' 1134 i = ps_a s0 1134 i) → Q none s') (c : Nat) (s : ps_S) (J : mJ x t s) (K : kp [1134, 1144, 1145, 1146, 1147, 1148] [5, 6, 7, 8, 9, 10, 11, 29, 30, 31] s0 s) (hS2 : Sg (ps_a s 1135) (ps_a s 1136) (ps_a s 1138) (ps_a s 1139) (ps_i s 1131 22).toInt σ) (hRc : Rw (ps_a s 1134) x1.toInt (l ++ [c])) (hH1 : RH σ (ps_a s 1144) (ps_a s 1145) (ps_a s 1146) (ps_a s 1147) (ps_i s 1131 29).toInt (ps_i s 1131 30).toInt ((ps_i s 1131 31).toInt - 1) (ps_i s 1131 32).toInt (l) b true) (i3 : c = 4 ∨ c = 5) (hO : ∀ i : Nat, (i : Int) < x1.toInt ∨ x1.toInt + 41 ≤ (i : Int) → ps_a s 1134 i = ps_a s0 1134 i) (i5 : (ps_i s 1131 8).toInt ≤ (ps_i s 1131 4).toInt) (i6 : (ps_i s 1131 29).toInt ≤ 12) (i7 : 0 ≤ (ps_i s 1131 30).toInt) (i8 : (ps_i s 1131 30).toInt ≤ 4) (i9 : (ps_i s 1131 31).toInt ≤ 40) (i10 : (ps_i s0 1131 31).toInt < (ps_i s 1131 31).toInt) : ps_At (d + 2) 214 133 [(0, .ref 1131)] [] s Q := by
  have r1 := mf_8 J
  have r2 := mf_4 J
  have r3 := mf_29 J
  have r4 := mf_31 J
  refine pg_214_133 (d := d + 1) ?_
  refine ms_192 J  (fun v5 p5_0 b5 => ?_)
  have p5_0' : (v5.toInt = 0 ∧ 1 ≤ (ps_i s 1131 5).toInt) ∨ (v5.toInt = 1 ∧ (ps_i s 1131 5).toInt = 0) := p5_0
  have r6 := mf_5 J
  refine And.intro (fun h7 => ?_) (fun h7 => ?_)
  · have f8 : v5.toInt ≠ (0 : Int) := xne h7
    have qz8 : (ps_i s 1131 5).toInt = 0 := by omega
    clear p5_0' p5_0
    refine ms_211 J (show (ps_i s 1131 29).toInt ≤ 14 from by omega) (fun s9 J9 K9 p9_0 p9_1 p9_2 p9_3 p9_4 => ?_)
    have K10 := kpt K K9 rfl rfl
    have KC := K9
    have hS2 : Sg (ps_a s9 1135) (ps_a s9 1136) (ps_a s9 1138) (ps_a s9 1139) (ps_i s9 1131 22).toInt σ := by rw [show ps_a s9 1135 = ps_a s 1135 from (K9.2 1135 rfl).1, show ps_a s9 1136 = ps_a s 1136 from (K9.2 1136 rfl).1, show ps_a s9 1138 = ps_a s 1138 from (K9.2 1138 rfl).1, show ps_a s9 1139 = ps_a s 1139 from (K9.2 1139 rfl).1, show ps_i s9 1131 22 = ps_i s 1131 22 from kp_i K9 22 rfl]; exact hS2
    have hRc : Rw (ps_a s9 1134) x1.toInt (l ++ [c]) := by rw [show ps_a s9 1134 = ps_a s 1134 from (K9.2 1134 rfl).1]; exact hRc
    have hO : ∀ i : Nat, (i : Int) < x1.toInt ∨ x1.toInt + 41 ≤ (i : Int) → ps_a s9 1134 i = ps_a s0 1134 i := by rw [show ps_a s9 1134 = ps_a s 1134 from (K9.2 1134 rfl).1]; exact hO
    have p9_0' : (ps_i s9 1131 29).toInt = (ps_i s 1131 29).toInt + 1 := p9_0
    have r11 := mf_29 J9
    have w44 : _ := p9_1
    have w45 : _ := p9_2
    have w46 : _ := p9_3
    have w47 : _ := p9_4
    have a12 : ((ps_i s9 1131 29) - 1).toInt = (ps_i s9 1131 29).toInt - (1 : Int) := xIs (show -2147483648 ≤ (ps_i s9 1131 29).toInt - (1 : Int) from by omega) (show (ps_i s9 1131 29).toInt - (1 : Int) < 2147483648 from by omega)
    have e9 : Int32.toNatClampNeg ((ps_i s9 1131 29) - 1) = (ps_i s 1131 29).toInt.toNat := nx (show ((ps_i s9 1131 29) - 1).toInt = (ps_i s 1131 29).toInt from by omega)
    refine ps_nd_i (show pm_in ((ps_i s9 1131 29) - 1) 16 = true from xgi (show 0 ≤ ((ps_i s9 1131 29) - 1).toInt from by omega) (show ((ps_i s9 1131 29) - 1).toInt < 16 from by omega)) ?_
    have J13 := mwa_n 1147 (i := (Int32.toNatClampNeg ((ps_i s9 1131 29) - 1))) (v := ((1 : Int32) &&& 1)) J9 rfl (by decide)
    have K14 := kpa' K10 (r := 1147) (i := (Int32.toNatClampNeg ((ps_i s9 1131 29) - 1))) (v := ((1 : Int32) &&& 1)) rfl
    have g7 : ps_a (ps_ua s9 1147 (Int32.toNatClampNeg ((ps_i s9 1131 29) - 1)) ((1 : Int32) &&& 1)) 1147 (ps_i s 1131 29).toInt.toNat = 1 := by rw [← e9]; exact ua_eq.trans (by decide)
    have g7l : ∀ i, i < (ps_i s 1131 29).toInt.toNat → ps_a (ps_ua s9 1147 (Int32.toNatClampNeg ((ps_i s9 1131 29) - 1)) ((1 : Int32) &&& 1)) 1147 i = ps_a s 1147 i := fun i hi => (ua_ne (by omega)).trans ((w47 i).trans (if_neg (by omega)))
    refine ps_nd_i (show pm_in ((ps_i s9 1131 29) - 1) 16 = true from xgi (show 0 ≤ ((ps_i s9 1131 29) - 1).toInt from by omega) (show ((ps_i s9 1131 29) - 1).toInt < 16 from by omega)) ?_
    have J15 := mw_b (r := 1148) (i := (Int32.toNatClampNeg ((ps_i s9 1131 29) - 1))) (v := (ps_j s9 1131 11)) J13
    have K16 := kpb' K14 (r := 1148) (i := (Int32.toNatClampNeg ((ps_i s9 1131 29) - 1))) (v := (ps_j s9 1131 11)) rfl
    have u17 : (ps_i s9 1131 30).toInt = (ps_i s 1131 30).toInt := xeq (kp_i K9 30 rfl)
    have a18 : ((ps_i s9 1131 30) + 1).toInt = (ps_i s9 1131 30).toInt + (1 : Int) := xIa (show -2147483648 ≤ (ps_i s9 1131 30).toInt + (1 : Int) from by omega) (show (ps_i s9 1131 30).toInt + (1 : Int) < 2147483648 from by omega)
    have J19 := mwi_n 30 (v := ((ps_i s9 1131 30) + 1)) J15 rfl
    have K20 := kpi K16 (q := 30) (v := ((ps_i s9 1131 30) + 1)) rfl
    have u30 := xeq (kp_i KC 30 rfl)
    have u31 := xeq (kp_i KC 31 rfl)
    have u32 := xeq (kp_i KC 32 rfl)
    have hQ : ∃ l2, Rw (ps_a (ps_ui (ps_ub (ps_ua s9 1147 (Int32.toNatClampNeg ((ps_i s9 1131 29) - 1)) ((1 : Int32) &&& 1)) 1148 (Int32.toNatClampNeg ((ps_i s9 1131 29) - 1)) (ps_j s9 1131 11)) 1131 30 ((ps_i s9 1131 30) + 1)) 1134) x1.toInt l2 ∧ RQ σ (ps_a (ps_ui (ps_ub (ps_ua s9 1147 (Int32.toNatClampNeg ((ps_i s9 1131 29) - 1)) ((1 : Int32) &&& 1)) 1148 (Int32.toNatClampNeg ((ps_i s9 1131 29) - 1)) (ps_j s9 1131 11)) 1131 30 ((ps_i s9 1131 30) + 1)) 1144) (ps_a (ps_ui (ps_ub (ps_ua s9 1147 (Int32.toNatClampNeg ((ps_i s9 1131 29) - 1)) ((1 : Int32) &&& 1)) 1148 (Int32.toNatClampNeg ((ps_i s9 1131 29) - 1)) (ps_j s9 1131 11)) 1131 30 ((ps_i s9 1131 30) + 1)) 1145) (ps_a (ps_ui (ps_ub (ps_ua s9 1147 (Int32.toNatClampNeg ((ps_i s9 1131 29) - 1)) ((1 : Int32) &&& 1)) 1148 (Int32.toNatClampNeg ((ps_i s9 1131 29) - 1)) (ps_j s9 1131 11)) 1131 30 ((ps_i s9 1131 30) + 1)) 1146) (ps_a (ps_ui (ps_ub (ps_ua s9 1147 (Int32.toNatClampNeg ((ps_i s9 1131 29) - 1)) ((1 : Int32) &&& 1)) 1148 (Int32.toNatClampNeg ((ps_i s9 1131 29) - 1)) (ps_j s9 1131 11)) 1131 30 ((ps_i s9 1131 30) + 1)) 1147) (ps_i (ps_ui (ps_ub (ps_ua s9 1147 (Int32.toNatClampNeg ((ps_i s9 1131 29) - 1)) ((1 : Int32) &&& 1)) 1148 (Int32.toNatClampNeg ((ps_i s9 1131 29) - 1)) (ps_j s9 1131 11)) 1131 30 ((ps_i s9 1131 30) + 1)) 1131 29).toInt (ps_i (ps_ui (ps_ub (ps_ua s9 1147 (Int32.toNatClampNeg ((ps_i s9 1131 29) - 1)) ((1 : Int32) &&& 1)) 1148 (Int32.toNatClampNeg ((ps_i s9 1131 29) - 1)) (ps_j s9 1131 11)) 1131 30 ((ps_i s9 1131 30) + 1)) 1131 30).toInt (ps_i (ps_ui (ps_ub (ps_ua s9 1147 (Int32.toNatClampNeg ((ps_i s9 1131 29) - 1)) ((1 : Int32) &&& 1)) 1148 (Int32.toNatClampNeg ((ps_i s9 1131 29) - 1)) (ps_j s9 1131 11)) 1131 30 ((ps_i s9 1131 30) + 1)) 1131 31).toInt (ps_i (ps_ui (ps_ub (ps_ua s9 1147 (Int32.toNatClampNeg ((ps_i s9 1131 29) - 1)) ((1 : Int32) &&& 1)) 1148 (Int32.toNatClampNeg ((ps_i s9 1131 29) - 1)) (ps_j s9 1131 11)) 1131 30 ((ps_i s9 1131 30) + 1)) 1131 32).toInt l2 b := ⟨_, hRc, RQ_c hH1 (by omega) (by omega) (kS_push4 i3 rfl (((w45 _).trans (if_pos rfl)).trans (by decide))) (by decide) (congrArg Int32.toInt ((w44 _).trans (if_pos rfl))) (((w46 _).trans (if_pos rfl)).trans (by decide)) (show ((ps_i s9 1131 30) + 1).toInt = (ps_i s 1131 30).toInt + (if c = 4 ∨ c = 5 then 1 else 0) from by rw [if_pos i3]; omega) ⟨fun z => absurd (g7.symm.trans z) (by decide), fun z => absurd i3 z⟩ (fun i hi => ⟨(w44 i).trans (if_neg (by omega)), (w45 i).trans (if_neg (by omega)), (w46 i).trans (if_neg (by omega)), g7l i hi⟩) (show (ps_i s9 1131 29).toInt = (ps_i s 1131 29).toInt + 1 from by omega) (show (ps_i s9 1131 31).toInt = ((ps_i s 1131 31).toInt - 1) + 1 from by omega) (show (ps_i (ps_ui (ps_ub (ps_ua s9 1147 (Int32.toNatClampNeg ((ps_i s9 1131 29) - 1)) ((1 : Int32) &&& 1)) 1148 (Int32.toNatClampNeg ((ps_i s9 1131 29) - 1)) (ps_j s9 1131 11)) 1131 30 ((ps_i s9 1131 30) + 1)) 1131 32).toInt = (ps_i s 1131 32).toInt from u32) (fun _ => by omega)⟩
    have r21 := mf_8 J9
    have u22 : (ps_i s9 1131 8).toInt = (ps_i s 1131 8).toInt := xeq (kp_i K9 8 rfl)
    have r23 := mf_4 J9
    have u24 : (ps_i s9 1131 4).toInt = (ps_i s 1131 4).toInt := xeq (kp_i K9 4 rfl)
    refine ms_194 J19 (show (ps_i s9 1131 8).toInt ≤ (ps_i s9 1131 4).toInt from by omega) (fun s25 J25 K25 p25_0 => ?_)
    have K26 := kpt K20 K25 rfl rfl
    have KC := K25
    have hS2 : Sg (ps_a s25 1135) (ps_a s25 1136) (ps_a s25 1138) (ps_a s25 1139) (ps_i s25 1131 22).toInt σ := by rw [show ps_a s25 1135 = ps_a (ps_ui (ps_ub (ps_ua s9 1147 (Int32.toNatClampNeg ((ps_i s9 1131 29) - 1)) ((1 : Int32) &&& 1)) 1148 (Int32.toNatClampNeg ((ps_i s9 1131 29) - 1)) (ps_j s9 1131 11)) 1131 30 ((ps_i s9 1131 30) + 1)) 1135 from (K25.2 1135 rfl).1, show ps_a s25 1136 = ps_a (ps_ui (ps_ub (ps_ua s9 1147 (Int32.toNatClampNeg ((ps_i s9 1131 29) - 1)) ((1 : Int32) &&& 1)) 1148 (Int32.toNatClampNeg ((ps_i s9 1131 29) - 1)) (ps_j s9 1131 11)) 1131 30 ((ps_i s9 1131 30) + 1)) 1136 from (K25.2 1136 rfl).1, show ps_a s25 1138 = ps_a (ps_ui (ps_ub (ps_ua s9 1147 (Int32.toNatClampNeg ((ps_i s9 1131 29) - 1)) ((1 : Int32) &&& 1)) 1148 (Int32.toNatClampNeg ((ps_i s9 1131 29) - 1)) (ps_j s9 1131 11)) 1131 30 ((ps_i s9 1131 30) + 1)) 1138 from (K25.2 1138 rfl).1, show ps_a s25 1139 = ps_a (ps_ui (ps_ub (ps_ua s9 1147 (Int32.toNatClampNeg ((ps_i s9 1131 29) - 1)) ((1 : Int32) &&& 1)) 1148 (Int32.toNatClampNeg ((ps_i s9 1131 29) - 1)) (ps_j s9 1131 11)) 1131 30 ((ps_i s9 1131 30) + 1)) 1139 from (K25.2 1139 rfl).1, show ps_i s25 1131 22 = ps_i (ps_ui (ps_ub (ps_ua s9 1147 (Int32.toNatClampNeg ((ps_i s9 1131 29) - 1)) ((1 : Int32) &&& 1)) 1148 (Int32.toNatClampNeg ((ps_i s9 1131 29) - 1)) (ps_j s9 1131 11)) 1131 30 ((ps_i s9 1131 30) + 1)) 1131 22 from kp_i K25 22 rfl]; exact hS2
    have hRc : Rw (ps_a s25 1134) x1.toInt (l ++ [c]) := by rw [show ps_a s25 1134 = ps_a (ps_ui (ps_ub (ps_ua s9 1147 (Int32.toNatClampNeg ((ps_i s9 1131 29) - 1)) ((1 : Int32) &&& 1)) 1148 (Int32.toNatClampNeg ((ps_i s9 1131 29) - 1)) (ps_j s9 1131 11)) 1131 30 ((ps_i s9 1131 30) + 1)) 1134 from (K25.2 1134 rfl).1]; exact hRc
    have hO : ∀ i : Nat, (i : Int) < x1.toInt ∨ x1.toInt + 41 ≤ (i : Int) → ps_a s25 1134 i = ps_a s0 1134 i := by rw [show ps_a s25 1134 = ps_a (ps_ui (ps_ub (ps_ua s9 1147 (Int32.toNatClampNeg ((ps_i s9 1131 29) - 1)) ((1 : Int32) &&& 1)) 1148 (Int32.toNatClampNeg ((ps_i s9 1131 29) - 1)) (ps_j s9 1131 11)) 1131 30 ((ps_i s9 1131 30) + 1)) 1134 from (K25.2 1134 rfl).1]; exact hO
    have hQ : ∃ l2, Rw (ps_a s25 1134) x1.toInt l2 ∧ RQ σ (ps_a s25 1144) (ps_a s25 1145) (ps_a s25 1146) (ps_a s25 1147) (ps_i s25 1131 29).toInt (ps_i s25 1131 30).toInt (ps_i s25 1131 31).toInt (ps_i s25 1131 32).toInt l2 b := by rw [show ps_a s25 1134 = ps_a (ps_ui (ps_ub (ps_ua s9 1147 (Int32.toNatClampNeg ((ps_i s9 1131 29) - 1)) ((1 : Int32) &&& 1)) 1148 (Int32.toNatClampNeg ((ps_i s9 1131 29) - 1)) (ps_j s9 1131 11)) 1131 30 ((ps_i s9 1131 30) + 1)) 1134 from (K25.2 1134 rfl).1, show ps_a s25 1144 = ps_a (ps_ui (ps_ub (ps_ua s9 1147 (Int32.toNatClampNeg ((ps_i s9 1131 29) - 1)) ((1 : Int32) &&& 1)) 1148 (Int32.toNatClampNeg ((ps_i s9 1131 29) - 1)) (ps_j s9 1131 11)) 1131 30 ((ps_i s9 1131 30) + 1)) 1144 from (K25.2 1144 rfl).1, show ps_a s25 1145 = ps_a (ps_ui (ps_ub (ps_ua s9 1147 (Int32.toNatClampNeg ((ps_i s9 1131 29) - 1)) ((1 : Int32) &&& 1)) 1148 (Int32.toNatClampNeg ((ps_i s9 1131 29) - 1)) (ps_j s9 1131 11)) 1131 30 ((ps_i s9 1131 30) + 1)) 1145 from (K25.2 1145 rfl).1, show ps_a s25 1146 = ps_a (ps_ui (ps_ub (ps_ua s9 1147 (Int32.toNatClampNeg ((ps_i s9 1131 29) - 1)) ((1 : Int32) &&& 1)) 1148 (Int32.toNatClampNeg ((ps_i s9 1131 29) - 1)) (ps_j s9 1131 11)) 1131 30 ((ps_i s9 1131 30) + 1)) 1146 from (K25.2 1146 rfl).1, show ps_a s25 1147 = ps_a (ps_ui (ps_ub (ps_ua s9 1147 (Int32.toNatClampNeg ((ps_i s9 1131 29) - 1)) ((1 : Int32) &&& 1)) 1148 (Int32.toNatClampNeg ((ps_i s9 1131 29) - 1)) (ps_j s9 1131 11)) 1131 30 ((ps_i s9 1131 30) + 1)) 1147 from (K25.2 1147 rfl).1, show ps_i s25 1131 29 = ps_i (ps_ui (ps_ub (ps_ua s9 1147 (Int32.toNatClampNeg ((ps_i s9 1131 29) - 1)) ((1 : Int32) &&& 1)) 1148 (Int32.toNatClampNeg ((ps_i s9 1131 29) - 1)) (ps_j s9 1131 11)) 1131 30 ((ps_i s9 1131 30) + 1)) 1131 29 from kp_i K25 29 rfl, show ps_i s25 1131 30 = ps_i (ps_ui (ps_ub (ps_ua s9 1147 (Int32.toNatClampNeg ((ps_i s9 1131 29) - 1)) ((1 : Int32) &&& 1)) 1148 (Int32.toNatClampNeg ((ps_i s9 1131 29) - 1)) (ps_j s9 1131 11)) 1131 30 ((ps_i s9 1131 30) + 1)) 1131 30 from kp_i K25 30 rfl, show ps_i s25 1131 31 = ps_i (ps_ui (ps_ub (ps_ua s9 1147 (Int32.toNatClampNeg ((ps_i s9 1131 29) - 1)) ((1 : Int32) &&& 1)) 1148 (Int32.toNatClampNeg ((ps_i s9 1131 29) - 1)) (ps_j s9 1131 11)) 1131 30 ((ps_i s9 1131 30) + 1)) 1131 31 from kp_i K25 31 rfl, show ps_i s25 1131 32 = ps_i (ps_ui (ps_ub (ps_ua s9 1147 (Int32.toNatClampNeg ((ps_i s9 1131 29) - 1)) ((1 : Int32) &&& 1)) 1148 (Int32.toNatClampNeg ((ps_i s9 1131 29) - 1)) (ps_j s9 1131 11)) 1131 30 ((ps_i s9 1131 30) + 1)) 1131 32 from kp_i K25 32 rfl]; exact hQ
    have p25_0' : (ps_i s25 1131 8).toInt ≤ (ps_i s25 1131 4).toInt := p25_0
    have r27 := mf_8 J25
    have r28 := mf_4 J25
    have u29 : (ps_i s25 1131 4).toInt = (ps_i s9 1131 4).toInt := xeq (kp_i K25 4 rfl)
    have r30 := mf_5 J25
    have u31 : (ps_i s25 1131 5).toInt = (ps_i s9 1131 5).toInt := xeq (kp_i K25 5 rfl)
    have r32 := mf_5 J9
    have u33 : (ps_i s9 1131 5).toInt = (ps_i s 1131 5).toInt := xeq (kp_i K9 5 rfl)
    have r34 := mf_29 J25
    have u35 : (ps_i s25 1131 29).toInt = (ps_i s9 1131 29).toInt := xeq (kp_i K25 29 rfl)
    have u36 : (ps_i s25 1131 30).toInt = ((ps_i s9 1131 30) + 1).toInt := xeq (kp_i K25 30 rfl)
    have r37 := mf_31 J25
    have u38 : (ps_i s25 1131 31).toInt = (ps_i s9 1131 31).toInt := xeq (kp_i K25 31 rfl)
    have r39 := mf_31 J9
    have u40 : (ps_i s9 1131 31).toInt = (ps_i s 1131 31).toInt := xeq (kp_i K9 31 rfl)
    exact k _ J25 K26 (show (ps_i s25 1131 8).toInt ≤ (ps_i s25 1131 4).toInt from by omega) (show 1 ≤ (ps_i s25 1131 5).toInt ∨ ((ps_i s25 1131 29).toInt ≤ 13 ∧ 0 ≤ (ps_i s25 1131 30).toInt ∧ (ps_i s25 1131 30).toInt ≤ 5 ∧ (ps_i s25 1131 31).toInt ≤ 40 ∧ (ps_i s0 1131 31).toInt < (ps_i s25 1131 31).toInt) from by omega) (show (ps_i s0 1131 31).toInt ≤ (ps_i s25 1131 31).toInt from by omega) (Or.inr hQ) (hO)
  · have f41 : v5.toInt = (0 : Int) := xeq h7
    have qz41 : 1 ≤ (ps_i s 1131 5).toInt := by omega
    clear p5_0' p5_0
    exact k _ J K (show (ps_i s 1131 8).toInt ≤ (ps_i s 1131 4).toInt from by omega) (show 1 ≤ (ps_i s 1131 5).toInt ∨ ((ps_i s 1131 29).toInt ≤ 13 ∧ 0 ≤ (ps_i s 1131 30).toInt ∧ (ps_i s 1131 30).toInt ≤ 5 ∧ (ps_i s 1131 31).toInt ≤ 40 ∧ (ps_i s0 1131 31).toInt < (ps_i s 1131 31).toInt) from by omega) (show (ps_i s0 1131 31).toInt ≤ (ps_i s 1131 31).toInt from by omega) (Or.inl (show 1 ≤ (ps_i s 1131 5).toInt from by omega)) (hO)

theorem ms_214_88 {x : Nat → Nat → Nat} {t : Int32} {d : Nat} {s0 : ps_S} {σ : mSig} {l : List Nat} {b : Bool} {x1 : Int32} {Q : Option Value → ps_S → Prop} (k : ∀ (s' : ps_S), mJ x t s' → kp [1134, 1144, 1145, 1146, 1147, 1148] [5, 6, 7, 8, 9, 10, 11, 29, 30, 31] s0 s' → ((ps_i s' 1131 8).toInt ≤ (ps_i s' 1131 4).toInt) → (1 ≤ (ps_i s' 1131 5).toInt ∨ ((ps_i s' 1131 29).toInt ≤ 13 ∧ 0 ≤ (ps_i s' 1131 30).toInt ∧ (ps_i s' 1131 30).toInt ≤ 5 ∧ (ps_i s' 1131 31).toInt ≤ 40 ∧ (ps_i s0 1131 31).toInt < (ps_i s' 1131 31).toInt)) → ((ps_i s0 1131 31).toInt ≤ (ps_i s' 1131 31).toInt) → (1 ≤ (ps_i s' 1131 5).toInt ∨ ∃ l2, Rw (ps_a s' 1134) x1.toInt l2 ∧ RQ σ (ps_a s' 1144) (ps_a s' 1145) (ps_a s' 1146) (ps_a s' 1147) (ps_i s' 1131 29).toInt (ps_i s' 1131 30).toInt (ps_i s' 1131 31).toInt (ps_i s' 1131 32).toInt l2 b) → (∀ i : Nat, (i : Int) < x1.toInt ∨ x1.toInt + 41 ≤ (i : Int) → ps_a s' 1134 i = ps_a s0 1134 i) → Q none s') (x2 : Int32) (x3 : Int32) (x4 : Int32) (x5 : Int32) (s : ps_S) (J : mJ x t s) (K : kp [1134, 1144, 1145, 1146, 1147, 1148] [5, 6, 7, 8, 9, 10, 11, 29, 30, 31] s0 s) (hS2 : Sg (ps_a s 1135) (ps_a s 1136) (ps_a s 1138) (ps_a s 1139) (ps_i s 1131 22).toInt σ) (hR : Rw (ps_a s 1134) x1.toInt (l)) (hH0 : RH σ (ps_a s 1144) (ps_a s 1145) (ps_a s 1146) (ps_a s 1147) (ps_i s 1131 29).toInt (ps_i s 1131 30).toInt (ps_i s 1131 31).toInt (ps_i s 1131 32).toInt (l) b true) (hO : ∀ i : Nat, (i : Int) < x1.toInt ∨ x1.toInt + 41 ≤ (i : Int) → ps_a s 1134 i = ps_a s0 1134 i) (i4 : (ps_i s 1131 8).toInt ≤ (ps_i s 1131 4).toInt) (i5 : (ps_i s 1131 29).toInt ≤ 13) (i6 : 0 ≤ (ps_i s 1131 30).toInt) (i7 : (ps_i s 1131 30).toInt ≤ 5) (i8 : (ps_i s 1131 31).toInt ≤ 40) (i9 : (ps_i s 1131 31).toInt = (ps_i s0 1131 31).toInt) (i10 : x2.toInt = -1 ∨ (0 ≤ x2.toInt ∧ x2.toInt ≤ 6) ∨ (10 ≤ x2.toInt ∧ x2.toInt < 10 + (σ.1.1 : Int))) (i11 : (x3.toInt = 0 ∧ x5.toInt = 1) ∨ (x3.toInt = 1 ∧ x2.toInt = 3 ∧ x5.toInt = 2)) (i12 : (x4.toInt = 1 ∧ (x2.toInt = 4 ∨ x2.toInt = 5)) ∨ (x4.toInt = 0 ∧ x2.toInt ≠ 4 ∧ x2.toInt ≠ 5)) (i13 : 1 ≤ (ps_i s 1131 5).toInt ∨ (0 ≤ x2.toInt ∧ (ps_i s 1131 31).toInt + x5.toInt ≤ 40 ∧ (ps_i s 1131 29).toInt + x5.toInt ≤ 13 ∧ (x4.toInt = 0 ∨ (ps_i s 1131 30).toInt ≤ 4))) : ps_At (d + 2) 214 88 [(0, .ref 1131), (1, .int x1), (2, .int x2), (3, .int x3), (4, .int x4), (5, .int x5)] [] s Q := by
  have r1 := mf_8 J
  have r2 := mf_4 J
  have r3 := mf_29 J
  have r4 := mf_31 J
  have r5 := mf_5 J
  refine pg_214_88 (d := d + 1) ?_
  obtain ⟨hb0, hb1, h5, hR6, h6, hF, h8, h9⟩ := id hS2
  have h5x : (ps_a s 1135 (Int32.toNatClampNeg (ps_i s 1131 22))).toInt = (σ.1.1 : Int) := h5
  refine ms_192 J  (fun v6 p6_0 b6 => ?_)
  have p6_0' : (v6.toInt = 0 ∧ 1 ≤ (ps_i s 1131 5).toInt) ∨ (v6.toInt = 1 ∧ (ps_i s 1131 5).toInt = 0) := p6_0
  refine And.intro (fun h7 => ?_) (fun h7 => ?_)
  · have f8 : v6.toInt ≠ (0 : Int) := xne h7
    have qz8 : (ps_i s 1131 5).toInt = 0 := by omega
    clear p6_0' p6_0
    have a9 : ((ps_i s 1131 31) + x5).toInt = (ps_i s 1131 31).toInt + x5.toInt := xIa (show -2147483648 ≤ (ps_i s 1131 31).toInt + x5.toInt from by omega) (show (ps_i s 1131 31).toInt + x5.toInt < 2147483648 from by omega)
    have J10 := mwi_31 (v := ((ps_i s 1131 31) + x5)) J (show 0 ≤ ((ps_i s 1131 31) + x5).toInt from by omega) (show ((ps_i s 1131 31) + x5).toInt ≤ 42 from by omega)
    have K11 := kpi K (q := 31) (v := ((ps_i s 1131 31) + x5)) rfl
    have hH : RH σ (ps_a (ps_ui s 1131 31 ((ps_i s 1131 31) + x5)) 1144) (ps_a (ps_ui s 1131 31 ((ps_i s 1131 31) + x5)) 1145) (ps_a (ps_ui s 1131 31 ((ps_i s 1131 31) + x5)) 1146) (ps_a (ps_ui s 1131 31 ((ps_i s 1131 31) + x5)) 1147) (ps_i (ps_ui s 1131 31 ((ps_i s 1131 31) + x5)) 1131 29).toInt (ps_i (ps_ui s 1131 31 ((ps_i s 1131 31) + x5)) 1131 30).toInt ((ps_i (ps_ui s 1131 31 ((ps_i s 1131 31) + x5)) 1131 31).toInt - x5.toInt) (ps_i (ps_ui s 1131 31 ((ps_i s 1131 31) + x5)) 1131 32).toInt (l) b true := RH_cnt hH0 (show ((ps_i s 1131 31) + x5).toInt - x5.toInt = (ps_i s 1131 31).toInt from by omega)
    refine ms_210 (l := l) (p := x2.toInt.toNat) J10 hR ((by have z := RH_len hH0; omega)) ((by omega)) (fun s12 J12 K12 p12_0 p12_1 => ?_)
    have K13 := kpt K11 K12 rfl rfl
    have KC := K12
    have hS2 : Sg (ps_a s12 1135) (ps_a s12 1136) (ps_a s12 1138) (ps_a s12 1139) (ps_i s12 1131 22).toInt σ := by rw [show ps_a s12 1135 = ps_a (ps_ui s 1131 31 ((ps_i s 1131 31) + x5)) 1135 from (K12.2 1135 rfl).1, show ps_a s12 1136 = ps_a (ps_ui s 1131 31 ((ps_i s 1131 31) + x5)) 1136 from (K12.2 1136 rfl).1, show ps_a s12 1138 = ps_a (ps_ui s 1131 31 ((ps_i s 1131 31) + x5)) 1138 from (K12.2 1138 rfl).1, show ps_a s12 1139 = ps_a (ps_ui s 1131 31 ((ps_i s 1131 31) + x5)) 1139 from (K12.2 1139 rfl).1, show ps_i s12 1131 22 = ps_i (ps_ui s 1131 31 ((ps_i s 1131 31) + x5)) 1131 22 from kp_i K12 22 rfl]; exact hS2
    have hH : RH σ (ps_a s12 1144) (ps_a s12 1145) (ps_a s12 1146) (ps_a s12 1147) (ps_i s12 1131 29).toInt (ps_i s12 1131 30).toInt ((ps_i s12 1131 31).toInt - x5.toInt) (ps_i s12 1131 32).toInt (l) b true := by rw [show ps_a s12 1144 = ps_a (ps_ui s 1131 31 ((ps_i s 1131 31) + x5)) 1144 from (K12.2 1144 rfl).1, show ps_a s12 1145 = ps_a (ps_ui s 1131 31 ((ps_i s 1131 31) + x5)) 1145 from (K12.2 1145 rfl).1, show ps_a s12 1146 = ps_a (ps_ui s 1131 31 ((ps_i s 1131 31) + x5)) 1146 from (K12.2 1146 rfl).1, show ps_a s12 1147 = ps_a (ps_ui s 1131 31 ((ps_i s 1131 31) + x5)) 1147 from (K12.2 1147 rfl).1, show ps_i s12 1131 29 = ps_i (ps_ui s 1131 31 ((ps_i s 1131 31) + x5)) 1131 29 from kp_i K12 29 rfl, show ps_i s12 1131 30 = ps_i (ps_ui s 1131 31 ((ps_i s 1131 31) + x5)) 1131 30 from kp_i K12 30 rfl, show ps_i s12 1131 31 = ps_i (ps_ui s 1131 31 ((ps_i s 1131 31) + x5)) 1131 31 from kp_i K12 31 rfl, show ps_i s12 1131 32 = ps_i (ps_ui s 1131 31 ((ps_i s 1131 31) + x5)) 1131 32 from kp_i K12 32 rfl]; exact hH
    have hR2 : Rw (ps_a s12 1134) x1.toInt (l ++ [x2.toInt.toNat]) := p12_0
    have ho : _ := p12_1
    have hO : ∀ i : Nat, (i : Int) < x1.toInt ∨ x1.toInt + 41 ≤ (i : Int) → ps_a s12 1134 i = ps_a s0 1134 i := fun i hi => (ho i hi).trans (hO i hi)
    have r14 := mf_8 J12
    have u15 : (ps_i s12 1131 8).toInt = (ps_i s 1131 8).toInt := xeq (kp_i K12 8 rfl)
    have r16 := mf_4 J12
    have u17 : (ps_i s12 1131 4).toInt = (ps_i s 1131 4).toInt := xeq (kp_i K12 4 rfl)
    refine ms_194 J12 (show (ps_i s12 1131 8).toInt ≤ (ps_i s12 1131 4).toInt from by omega) (fun s18 J18 K18 p18_0 => ?_)
    have K19 := kpt K13 K18 rfl rfl
    have KC := K18
    have hS2 : Sg (ps_a s18 1135) (ps_a s18 1136) (ps_a s18 1138) (ps_a s18 1139) (ps_i s18 1131 22).toInt σ := by rw [show ps_a s18 1135 = ps_a s12 1135 from (K18.2 1135 rfl).1, show ps_a s18 1136 = ps_a s12 1136 from (K18.2 1136 rfl).1, show ps_a s18 1138 = ps_a s12 1138 from (K18.2 1138 rfl).1, show ps_a s18 1139 = ps_a s12 1139 from (K18.2 1139 rfl).1, show ps_i s18 1131 22 = ps_i s12 1131 22 from kp_i K18 22 rfl]; exact hS2
    have hH : RH σ (ps_a s18 1144) (ps_a s18 1145) (ps_a s18 1146) (ps_a s18 1147) (ps_i s18 1131 29).toInt (ps_i s18 1131 30).toInt ((ps_i s18 1131 31).toInt - x5.toInt) (ps_i s18 1131 32).toInt (l) b true := by rw [show ps_a s18 1144 = ps_a s12 1144 from (K18.2 1144 rfl).1, show ps_a s18 1145 = ps_a s12 1145 from (K18.2 1145 rfl).1, show ps_a s18 1146 = ps_a s12 1146 from (K18.2 1146 rfl).1, show ps_a s18 1147 = ps_a s12 1147 from (K18.2 1147 rfl).1, show ps_i s18 1131 29 = ps_i s12 1131 29 from kp_i K18 29 rfl, show ps_i s18 1131 30 = ps_i s12 1131 30 from kp_i K18 30 rfl, show ps_i s18 1131 31 = ps_i s12 1131 31 from kp_i K18 31 rfl, show ps_i s18 1131 32 = ps_i s12 1131 32 from kp_i K18 32 rfl]; exact hH
    have hR2 : Rw (ps_a s18 1134) x1.toInt (l ++ [x2.toInt.toNat]) := by rw [show ps_a s18 1134 = ps_a s12 1134 from (K18.2 1134 rfl).1]; exact hR2
    have hO : ∀ i : Nat, (i : Int) < x1.toInt ∨ x1.toInt + 41 ≤ (i : Int) → ps_a s18 1134 i = ps_a s0 1134 i := by rw [show ps_a s18 1134 = ps_a s12 1134 from (K18.2 1134 rfl).1]; exact hO
    have p18_0' : (ps_i s18 1131 8).toInt ≤ (ps_i s18 1131 4).toInt := p18_0
    have r20 := mf_8 J18
    have r21 := mf_4 J18
    have u22 : (ps_i s18 1131 4).toInt = (ps_i s12 1131 4).toInt := xeq (kp_i K18 4 rfl)
    refine And.intro (fun h23 => ?_) (fun h23 => ?_)
    · have f24 : x4.toInt = (0 : Int) := xeq h23
      refine And.intro (fun h25 => ?_) (fun h25 => ?_)
      · have f26 : x3.toInt = (0 : Int) := xeq h25
        refine And.intro (fun h27 => ?_) (fun h27 => ?_)
        · have f28 : x2.toInt ≠ (0 : Int) := xne h27
          refine And.intro (fun h29 => ?_) (fun h29 => ?_)
          · have f30 : (10 : Int) ≤ x2.toInt := xle h29
            have r31 := mf_22 J18
            have u32 : (ps_i s18 1131 22).toInt = (ps_i s12 1131 22).toInt := xeq (kp_i K18 22 rfl)
            have r33 := mf_22 J12
            have u34 : (ps_i s12 1131 22).toInt = (ps_i s 1131 22).toInt := xeq (kp_i K12 22 rfl)
            have r35 := mf_22 J
            have a36 : ((6 : Int32) * (ps_i s18 1131 22)).toInt = (6 : Int) * (ps_i s18 1131 22).toInt := xIm (show -2147483648 ≤ (6 : Int) * (ps_i s18 1131 22).toInt from by omega) (show (6 : Int) * (ps_i s18 1131 22).toInt < 2147483648 from by omega)
            have a37 : (((6 : Int32) * (ps_i s18 1131 22)) + x2).toInt = ((6 : Int32) * (ps_i s18 1131 22)).toInt + x2.toInt := xIa (show -2147483648 ≤ ((6 : Int32) * (ps_i s18 1131 22)).toInt + x2.toInt from by omega) (show ((6 : Int32) * (ps_i s18 1131 22)).toInt + x2.toInt < 2147483648 from by omega)
            have a38 : ((((6 : Int32) * (ps_i s18 1131 22)) + x2) - 10).toInt = (((6 : Int32) * (ps_i s18 1131 22)) + x2).toInt - (10 : Int) := xIs (show -2147483648 ≤ (((6 : Int32) * (ps_i s18 1131 22)) + x2).toInt - (10 : Int) from by omega) (show (((6 : Int32) * (ps_i s18 1131 22)) + x2).toInt - (10 : Int) < 2147483648 from by omega)
            refine ps_nd_i (show pm_in ((((6 : Int32) * (ps_i s18 1131 22)) + x2) - 10) 12 = true from xgi (show 0 ≤ ((((6 : Int32) * (ps_i s18 1131 22)) + x2) - 10).toInt from by omega) (show ((((6 : Int32) * (ps_i s18 1131 22)) + x2) - 10).toInt < 12 from by omega)) ?_
            have r39 : 0 ≤ (ps_a s18 1138 (Int32.toNatClampNeg ((((6 : Int32) * (ps_i s18 1131 22)) + x2) - 10))).toInt ∧ (ps_a s18 1138 (Int32.toNatClampNeg ((((6 : Int32) * (ps_i s18 1131 22)) + x2) - 10))).toInt ≤ 9999 := ma_1138 (i := ((((6 : Int32) * (ps_i s18 1131 22)) + x2) - 10)) J18 (show 0 ≤ ((((6 : Int32) * (ps_i s18 1131 22)) + x2) - 10).toInt from by omega) (show ((((6 : Int32) * (ps_i s18 1131 22)) + x2) - 10).toInt < 12 from by omega)
            have u40 : (ps_a s18 1138 (Int32.toNatClampNeg ((((6 : Int32) * (ps_i s18 1131 22)) + x2) - 10))).toInt = (ps_a s12 1138 (Int32.toNatClampNeg ((((6 : Int32) * (ps_i s18 1131 22)) + x2) - 10))).toInt := xeq (kp_a K18 1138 rfl _)
            have r41 : 0 ≤ (ps_a s12 1138 (Int32.toNatClampNeg ((((6 : Int32) * (ps_i s18 1131 22)) + x2) - 10))).toInt ∧ (ps_a s12 1138 (Int32.toNatClampNeg ((((6 : Int32) * (ps_i s18 1131 22)) + x2) - 10))).toInt ≤ 9999 := ma_1138 (i := ((((6 : Int32) * (ps_i s18 1131 22)) + x2) - 10)) J12 (show 0 ≤ ((((6 : Int32) * (ps_i s18 1131 22)) + x2) - 10).toInt from by omega) (show ((((6 : Int32) * (ps_i s18 1131 22)) + x2) - 10).toInt < 12 from by omega)
            have u42 : (ps_a s12 1138 (Int32.toNatClampNeg ((((6 : Int32) * (ps_i s18 1131 22)) + x2) - 10))).toInt = (ps_a s 1138 (Int32.toNatClampNeg ((((6 : Int32) * (ps_i s18 1131 22)) + x2) - 10))).toInt := xeq (kp_a K12 1138 rfl _)
            have r43 : 0 ≤ (ps_a s 1138 (Int32.toNatClampNeg ((((6 : Int32) * (ps_i s18 1131 22)) + x2) - 10))).toInt ∧ (ps_a s 1138 (Int32.toNatClampNeg ((((6 : Int32) * (ps_i s18 1131 22)) + x2) - 10))).toInt ≤ 9999 := ma_1138 (i := ((((6 : Int32) * (ps_i s18 1131 22)) + x2) - 10)) J (show 0 ≤ ((((6 : Int32) * (ps_i s18 1131 22)) + x2) - 10).toInt from by omega) (show ((((6 : Int32) * (ps_i s18 1131 22)) + x2) - 10).toInt < 12 from by omega)
            have hwv : (x3.toInt = 1 ∧ ((ps_a s18 1138 (Int32.toNatClampNeg ((((6 : Int32) * (ps_i s18 1131 22)) + x2) - 10)))).toInt = 1) ∨ (x3.toInt = 0 ∧ x2.toInt = 0 ∧ ((ps_a s18 1138 (Int32.toNatClampNeg ((((6 : Int32) * (ps_i s18 1131 22)) + x2) - 10)))).toInt = 0) ∨ (x3.toInt = 0 ∧ x2.toInt ≠ 0 ∧ x2.toInt < 10 ∧ ((ps_a s18 1138 (Int32.toNatClampNeg ((((6 : Int32) * (ps_i s18 1131 22)) + x2) - 10)))).toInt = 2) ∨ (x3.toInt = 0 ∧ 10 ≤ x2.toInt ∧ ((ps_a s18 1138 (Int32.toNatClampNeg ((((6 : Int32) * (ps_i s18 1131 22)) + x2) - 10)))).toInt = σ.2.1 (x2.toInt.toNat - 10) ∧ σ.2.1 (x2.toInt.toNat - 10) ≤ 2) := by first | exact Or.inl ⟨by omega, by decide⟩ | exact Or.inr (Or.inl ⟨by omega, by omega, by decide⟩) | exact Or.inr (Or.inr (Or.inl ⟨by omega, by omega, by omega, by decide⟩)) | exact Or.inr (Or.inr (Or.inr ⟨by omega, by omega, Sg_r hS2 (by omega) (by omega)⟩))
            refine And.intro (fun h44 => ?_) (fun h44 => ?_)
            · have f45 : x2.toInt < (6 : Int) := xlt h44
              have r46 := mf_29 J18
              have u47 : (ps_i s18 1131 29).toInt = (ps_i s12 1131 29).toInt := xeq (kp_i K18 29 rfl)
              have r48 := mf_29 J12
              have u49 : (ps_i s12 1131 29).toInt = (ps_i s 1131 29).toInt := xeq (kp_i K12 29 rfl)
              refine ms_211 J18 (show (ps_i s18 1131 29).toInt ≤ 14 from by omega) (fun s50 J50 K50 p50_0 p50_1 p50_2 p50_3 p50_4 => ?_)
              have K51 := kpt K19 K50 rfl rfl
              have KC := K50
              have hS2 : Sg (ps_a s50 1135) (ps_a s50 1136) (ps_a s50 1138) (ps_a s50 1139) (ps_i s50 1131 22).toInt σ := by rw [show ps_a s50 1135 = ps_a s18 1135 from (K50.2 1135 rfl).1, show ps_a s50 1136 = ps_a s18 1136 from (K50.2 1136 rfl).1, show ps_a s50 1138 = ps_a s18 1138 from (K50.2 1138 rfl).1, show ps_a s50 1139 = ps_a s18 1139 from (K50.2 1139 rfl).1, show ps_i s50 1131 22 = ps_i s18 1131 22 from kp_i K50 22 rfl]; exact hS2
              have hR2 : Rw (ps_a s50 1134) x1.toInt (l ++ [x2.toInt.toNat]) := by rw [show ps_a s50 1134 = ps_a s18 1134 from (K50.2 1134 rfl).1]; exact hR2
              have hO : ∀ i : Nat, (i : Int) < x1.toInt ∨ x1.toInt + 41 ≤ (i : Int) → ps_a s50 1134 i = ps_a s0 1134 i := by rw [show ps_a s50 1134 = ps_a s18 1134 from (K50.2 1134 rfl).1]; exact hO
              have p50_0' : (ps_i s50 1131 29).toInt = (ps_i s18 1131 29).toInt + 1 := p50_0
              have r52 := mf_29 J50
              have w44 : _ := p50_1
              have w45 : _ := p50_2
              have w46 : _ := p50_3
              have w47 : _ := p50_4
              have u30 := xeq (kp_i KC 30 rfl)
              have u31 := xeq (kp_i KC 31 rfl)
              have u32 := xeq (kp_i KC 32 rfl)
              have g5 : (x2.toInt < 6 ∧ ps_a s50 1145 (ps_i s18 1131 29).toInt.toNat = 0) ∨ (6 ≤ x2.toInt ∧ ps_a s50 1145 (ps_i s18 1131 29).toInt.toNat ≠ 0) := by first | exact Or.inl ⟨by omega, ((w45 _).trans (if_pos rfl)).trans (by decide)⟩ | exact Or.inr ⟨by omega, by rw [(w45 _).trans (if_pos rfl)]; decide⟩
              have g7 : ps_a s50 1147 (ps_i s18 1131 29).toInt.toNat = 0 := ((w47 _).trans (if_pos rfl)).trans (by decide)
              have g4 := congrArg Int32.toInt ((w44 (ps_i s18 1131 29).toInt.toNat).trans (if_pos rfl))
              have a53 : ((ps_i s50 1131 29) - 1).toInt = (ps_i s50 1131 29).toInt - (1 : Int) := xIs (show -2147483648 ≤ (ps_i s50 1131 29).toInt - (1 : Int) from by omega) (show (ps_i s50 1131 29).toInt - (1 : Int) < 2147483648 from by omega)
              have e9 : Int32.toNatClampNeg ((ps_i s50 1131 29) - 1) = (ps_i s18 1131 29).toInt.toNat := nx (show ((ps_i s50 1131 29) - 1).toInt = (ps_i s18 1131 29).toInt from by omega)
              refine ps_nd_i (show pm_in ((ps_i s50 1131 29) - 1) 16 = true from xgi (show 0 ≤ ((ps_i s50 1131 29) - 1).toInt from by omega) (show ((ps_i s50 1131 29) - 1).toInt < 16 from by omega)) ?_
              have J54 := mwa_n 1146 (i := (Int32.toNatClampNeg ((ps_i s50 1131 29) - 1))) (v := (x3 &&& 1)) J50 rfl (by decide)
              have K55 := kpa' K51 (r := 1146) (i := (Int32.toNatClampNeg ((ps_i s50 1131 29) - 1))) (v := (x3 &&& 1)) rfl
              have g6 : ps_a (ps_ua s50 1146 (Int32.toNatClampNeg ((ps_i s50 1131 29) - 1)) (x3 &&& 1)) 1146 (ps_i s18 1131 29).toInt.toNat = (x3 &&& 1) := by rw [← e9]; exact ua_eq
              have g6l : ∀ i, i < (ps_i s18 1131 29).toInt.toNat → ps_a (ps_ua s50 1146 (Int32.toNatClampNeg ((ps_i s50 1131 29) - 1)) (x3 &&& 1)) 1146 i = ps_a s18 1146 i := fun i hi => (ua_ne (by omega)).trans ((w46 i).trans (if_neg (by omega)))
              have r56 := mf_8 J50
              have u57 : (ps_i s50 1131 8).toInt = (ps_i s18 1131 8).toInt := xeq (kp_i K50 8 rfl)
              have r58 := mf_4 J50
              have u59 : (ps_i s50 1131 4).toInt = (ps_i s18 1131 4).toInt := xeq (kp_i K50 4 rfl)
              have r60 := mf_5 J50
              have u61 : (ps_i s50 1131 5).toInt = (ps_i s18 1131 5).toInt := xeq (kp_i K50 5 rfl)
              have r62 := mf_5 J18
              have u63 : (ps_i s18 1131 5).toInt = (ps_i s12 1131 5).toInt := xeq (kp_i K18 5 rfl)
              have r64 := mf_5 J12
              have u65 : (ps_i s12 1131 5).toInt = (ps_i s 1131 5).toInt := xeq (kp_i K12 5 rfl)
              have u66 : (ps_i s50 1131 30).toInt = (ps_i s18 1131 30).toInt := xeq (kp_i K50 30 rfl)
              have u67 : (ps_i s18 1131 30).toInt = (ps_i s12 1131 30).toInt := xeq (kp_i K18 30 rfl)
              have u68 : (ps_i s12 1131 30).toInt = (ps_i s 1131 30).toInt := xeq (kp_i K12 30 rfl)
              have r69 := mf_31 J50
              have u70 : (ps_i s50 1131 31).toInt = (ps_i s18 1131 31).toInt := xeq (kp_i K50 31 rfl)
              have r71 := mf_31 J18
              have u72 : (ps_i s18 1131 31).toInt = (ps_i s12 1131 31).toInt := xeq (kp_i K18 31 rfl)
              have r73 := mf_31 J12
              have u74 : (ps_i s12 1131 31).toInt = ((ps_i s 1131 31) + x5).toInt := xeq (kp_i K12 31 rfl)
              exact k _ J54 K55 (show (ps_i s50 1131 8).toInt ≤ (ps_i s50 1131 4).toInt from by omega) (show 1 ≤ (ps_i s50 1131 5).toInt ∨ ((ps_i s50 1131 29).toInt ≤ 13 ∧ 0 ≤ (ps_i s50 1131 30).toInt ∧ (ps_i s50 1131 30).toInt ≤ 5 ∧ (ps_i s50 1131 31).toInt ≤ 40 ∧ (ps_i s0 1131 31).toInt < (ps_i s50 1131 31).toInt) from by omega) (show (ps_i s0 1131 31).toInt ≤ (ps_i s50 1131 31).toInt from by omega) ((by first | (exfalso; omega) | exact Or.inr ⟨_, hR2, (by
      have n1 : (ps_i s50 1131 29).toInt = (ps_i s18 1131 29).toInt + 1 := by omega
      rcases i11 with z | z
      · refine RQ_c hH (by omega) (by omega) (kS_push (g := ps_a (ps_ua s50 1146 (Int32.toNatClampNeg ((ps_i s50 1131 29) - 1)) (x3 &&& 1)) 1145 (ps_i s18 1131 29).toInt.toNat) ?_) ?_ g4 (g6.trans (by rw [show x3 = 0 from x0 z.1]; decide)) (show (ps_i s50 1131 30).toInt = (ps_i s18 1131 30).toInt + (if x2.toInt.toNat = 4 ∨ x2.toInt.toNat = 5 then 1 else 0) from by rw [if_neg (by omega)]; omega) ⟨fun _ => by omega, fun _ => g7⟩ (fun i hi => ⟨(w44 i).trans (if_neg (by omega)), (w45 i).trans (if_neg (by omega)), g6l i hi, (w47 i).trans (if_neg (by omega))⟩) n1 (show (ps_i s50 1131 31).toInt = ((ps_i s18 1131 31).toInt - x5.toInt) + 1 from by omega) (show (ps_i (ps_ua s50 1146 (Int32.toNatClampNeg ((ps_i s50 1131 29) - 1)) (x3 &&& 1)) 1131 32).toInt = (ps_i s18 1131 32).toInt from u32) (fun _ => by omega)
        · rcases hwv with q | q | q | q
          · omega
          · exact Or.inl ⟨by omega, q.2.2⟩
          · rcases g5 with g | g
            · exact Or.inr (Or.inl ⟨by omega, by omega, q.2.2.2, g.2⟩)
            · exact Or.inr (Or.inr (Or.inl ⟨by omega, q.2.2.2, g.2⟩))
          · rcases g5 with g | g
            · omega
            · exact Or.inr (Or.inr (Or.inr ⟨by omega, by omega, q.2.2.1, g.2⟩))
        · omega
      · exact RQ_not hH (by omega) (by omega) (by omega) (by rcases hwv with q | q | q | q; exact g4.trans q.2; omega; omega; omega) (by rcases g5 with g | g; exact g.2; omega) (by rw [g6, show x3 = 1 from xO1 z.1]; decide) (show (ps_i s50 1131 30).toInt = (ps_i s18 1131 30).toInt from by omega) g7 (fun i hi => ⟨(w44 i).trans (if_neg (by omega)), (w45 i).trans (if_neg (by omega)), g6l i hi, (w47 i).trans (if_neg (by omega))⟩) n1 (show (ps_i s50 1131 31).toInt = ((ps_i s18 1131 31).toInt - x5.toInt) + 2 from by omega) (show (ps_i (ps_ua s50 1146 (Int32.toNatClampNeg ((ps_i s50 1131 29) - 1)) (x3 &&& 1)) 1131 32).toInt = (ps_i s18 1131 32).toInt from u32))⟩)) (hO)
            · have f75 : (6 : Int) ≤ x2.toInt := xle h44
              have r76 := mf_29 J18
              have u77 : (ps_i s18 1131 29).toInt = (ps_i s12 1131 29).toInt := xeq (kp_i K18 29 rfl)
              have r78 := mf_29 J12
              have u79 : (ps_i s12 1131 29).toInt = (ps_i s 1131 29).toInt := xeq (kp_i K12 29 rfl)
              refine ms_211 J18 (show (ps_i s18 1131 29).toInt ≤ 14 from by omega) (fun s80 J80 K80 p80_0 p80_1 p80_2 p80_3 p80_4 => ?_)
              have K81 := kpt K19 K80 rfl rfl
              have KC := K80
              have hS2 : Sg (ps_a s80 1135) (ps_a s80 1136) (ps_a s80 1138) (ps_a s80 1139) (ps_i s80 1131 22).toInt σ := by rw [show ps_a s80 1135 = ps_a s18 1135 from (K80.2 1135 rfl).1, show ps_a s80 1136 = ps_a s18 1136 from (K80.2 1136 rfl).1, show ps_a s80 1138 = ps_a s18 1138 from (K80.2 1138 rfl).1, show ps_a s80 1139 = ps_a s18 1139 from (K80.2 1139 rfl).1, show ps_i s80 1131 22 = ps_i s18 1131 22 from kp_i K80 22 rfl]; exact hS2
              have hR2 : Rw (ps_a s80 1134) x1.toInt (l ++ [x2.toInt.toNat]) := by rw [show ps_a s80 1134 = ps_a s18 1134 from (K80.2 1134 rfl).1]; exact hR2
              have hO : ∀ i : Nat, (i : Int) < x1.toInt ∨ x1.toInt + 41 ≤ (i : Int) → ps_a s80 1134 i = ps_a s0 1134 i := by rw [show ps_a s80 1134 = ps_a s18 1134 from (K80.2 1134 rfl).1]; exact hO
              have p80_0' : (ps_i s80 1131 29).toInt = (ps_i s18 1131 29).toInt + 1 := p80_0
              have r82 := mf_29 J80
              have w44 : _ := p80_1
              have w45 : _ := p80_2
              have w46 : _ := p80_3
              have w47 : _ := p80_4
              have u30 := xeq (kp_i KC 30 rfl)
              have u31 := xeq (kp_i KC 31 rfl)
              have u32 := xeq (kp_i KC 32 rfl)
              have g5 : (x2.toInt < 6 ∧ ps_a s80 1145 (ps_i s18 1131 29).toInt.toNat = 0) ∨ (6 ≤ x2.toInt ∧ ps_a s80 1145 (ps_i s18 1131 29).toInt.toNat ≠ 0) := by first | exact Or.inl ⟨by omega, ((w45 _).trans (if_pos rfl)).trans (by decide)⟩ | exact Or.inr ⟨by omega, by rw [(w45 _).trans (if_pos rfl)]; decide⟩
              have g7 : ps_a s80 1147 (ps_i s18 1131 29).toInt.toNat = 0 := ((w47 _).trans (if_pos rfl)).trans (by decide)
              have g4 := congrArg Int32.toInt ((w44 (ps_i s18 1131 29).toInt.toNat).trans (if_pos rfl))
              have a83 : ((ps_i s80 1131 29) - 1).toInt = (ps_i s80 1131 29).toInt - (1 : Int) := xIs (show -2147483648 ≤ (ps_i s80 1131 29).toInt - (1 : Int) from by omega) (show (ps_i s80 1131 29).toInt - (1 : Int) < 2147483648 from by omega)
              have e9 : Int32.toNatClampNeg ((ps_i s80 1131 29) - 1) = (ps_i s18 1131 29).toInt.toNat := nx (show ((ps_i s80 1131 29) - 1).toInt = (ps_i s18 1131 29).toInt from by omega)
              refine ps_nd_i (show pm_in ((ps_i s80 1131 29) - 1) 16 = true from xgi (show 0 ≤ ((ps_i s80 1131 29) - 1).toInt from by omega) (show ((ps_i s80 1131 29) - 1).toInt < 16 from by omega)) ?_
              have J84 := mwa_n 1146 (i := (Int32.toNatClampNeg ((ps_i s80 1131 29) - 1))) (v := (x3 &&& 1)) J80 rfl (by decide)
              have K85 := kpa' K81 (r := 1146) (i := (Int32.toNatClampNeg ((ps_i s80 1131 29) - 1))) (v := (x3 &&& 1)) rfl
              have g6 : ps_a (ps_ua s80 1146 (Int32.toNatClampNeg ((ps_i s80 1131 29) - 1)) (x3 &&& 1)) 1146 (ps_i s18 1131 29).toInt.toNat = (x3 &&& 1) := by rw [← e9]; exact ua_eq
              have g6l : ∀ i, i < (ps_i s18 1131 29).toInt.toNat → ps_a (ps_ua s80 1146 (Int32.toNatClampNeg ((ps_i s80 1131 29) - 1)) (x3 &&& 1)) 1146 i = ps_a s18 1146 i := fun i hi => (ua_ne (by omega)).trans ((w46 i).trans (if_neg (by omega)))
              have r86 := mf_8 J80
              have u87 : (ps_i s80 1131 8).toInt = (ps_i s18 1131 8).toInt := xeq (kp_i K80 8 rfl)
              have r88 := mf_4 J80
              have u89 : (ps_i s80 1131 4).toInt = (ps_i s18 1131 4).toInt := xeq (kp_i K80 4 rfl)
              have r90 := mf_5 J80
              have u91 : (ps_i s80 1131 5).toInt = (ps_i s18 1131 5).toInt := xeq (kp_i K80 5 rfl)
              have r92 := mf_5 J18
              have u93 : (ps_i s18 1131 5).toInt = (ps_i s12 1131 5).toInt := xeq (kp_i K18 5 rfl)
              have r94 := mf_5 J12
              have u95 : (ps_i s12 1131 5).toInt = (ps_i s 1131 5).toInt := xeq (kp_i K12 5 rfl)
              have u96 : (ps_i s80 1131 30).toInt = (ps_i s18 1131 30).toInt := xeq (kp_i K80 30 rfl)
              have u97 : (ps_i s18 1131 30).toInt = (ps_i s12 1131 30).toInt := xeq (kp_i K18 30 rfl)
              have u98 : (ps_i s12 1131 30).toInt = (ps_i s 1131 30).toInt := xeq (kp_i K12 30 rfl)
              have r99 := mf_31 J80
              have u100 : (ps_i s80 1131 31).toInt = (ps_i s18 1131 31).toInt := xeq (kp_i K80 31 rfl)
              have r101 := mf_31 J18
              have u102 : (ps_i s18 1131 31).toInt = (ps_i s12 1131 31).toInt := xeq (kp_i K18 31 rfl)
              have r103 := mf_31 J12
              have u104 : (ps_i s12 1131 31).toInt = ((ps_i s 1131 31) + x5).toInt := xeq (kp_i K12 31 rfl)
              exact k _ J84 K85 (show (ps_i s80 1131 8).toInt ≤ (ps_i s80 1131 4).toInt from by omega) (show 1 ≤ (ps_i s80 1131 5).toInt ∨ ((ps_i s80 1131 29).toInt ≤ 13 ∧ 0 ≤ (ps_i s80 1131 30).toInt ∧ (ps_i s80 1131 30).toInt ≤ 5 ∧ (ps_i s80 1131 31).toInt ≤ 40 ∧ (ps_i s0 1131 31).toInt < (ps_i s80 1131 31).toInt) from by omega) (show (ps_i s0 1131 31).toInt ≤ (ps_i s80 1131 31).toInt from by omega) ((by first | (exfalso; omega) | exact Or.inr ⟨_, hR2, (by
      have n1 : (ps_i s80 1131 29).toInt = (ps_i s18 1131 29).toInt + 1 := by omega
      rcases i11 with z | z
      · refine RQ_c hH (by omega) (by omega) (kS_push (g := ps_a (ps_ua s80 1146 (Int32.toNatClampNeg ((ps_i s80 1131 29) - 1)) (x3 &&& 1)) 1145 (ps_i s18 1131 29).toInt.toNat) ?_) ?_ g4 (g6.trans (by rw [show x3 = 0 from x0 z.1]; decide)) (show (ps_i s80 1131 30).toInt = (ps_i s18 1131 30).toInt + (if x2.toInt.toNat = 4 ∨ x2.toInt.toNat = 5 then 1 else 0) from by rw [if_neg (by omega)]; omega) ⟨fun _ => by omega, fun _ => g7⟩ (fun i hi => ⟨(w44 i).trans (if_neg (by omega)), (w45 i).trans (if_neg (by omega)), g6l i hi, (w47 i).trans (if_neg (by omega))⟩) n1 (show (ps_i s80 1131 31).toInt = ((ps_i s18 1131 31).toInt - x5.toInt) + 1 from by omega) (show (ps_i (ps_ua s80 1146 (Int32.toNatClampNeg ((ps_i s80 1131 29) - 1)) (x3 &&& 1)) 1131 32).toInt = (ps_i s18 1131 32).toInt from u32) (fun _ => by omega)
        · rcases hwv with q | q | q | q
          · omega
          · exact Or.inl ⟨by omega, q.2.2⟩
          · rcases g5 with g | g
            · exact Or.inr (Or.inl ⟨by omega, by omega, q.2.2.2, g.2⟩)
            · exact Or.inr (Or.inr (Or.inl ⟨by omega, q.2.2.2, g.2⟩))
          · rcases g5 with g | g
            · omega
            · exact Or.inr (Or.inr (Or.inr ⟨by omega, by omega, q.2.2.1, g.2⟩))
        · omega
      · exact RQ_not hH (by omega) (by omega) (by omega) (by rcases hwv with q | q | q | q; exact g4.trans q.2; omega; omega; omega) (by rcases g5 with g | g; exact g.2; omega) (by rw [g6, show x3 = 1 from xO1 z.1]; decide) (show (ps_i s80 1131 30).toInt = (ps_i s18 1131 30).toInt from by omega) g7 (fun i hi => ⟨(w44 i).trans (if_neg (by omega)), (w45 i).trans (if_neg (by omega)), g6l i hi, (w47 i).trans (if_neg (by omega))⟩) n1 (show (ps_i s80 1131 31).toInt = ((ps_i s18 1131 31).toInt - x5.toInt) + 2 from by omega) (show (ps_i (ps_ua s80 1146 (Int32.toNatClampNeg ((ps_i s80 1131 29) - 1)) (x3 &&& 1)) 1131 32).toInt = (ps_i s18 1131 32).toInt from u32))⟩)) (hO)
          · have f105 : x2.toInt < (10 : Int) := xlt h29
            have hwv : (x3.toInt = 1 ∧ ((2 : Int32)).toInt = 1) ∨ (x3.toInt = 0 ∧ x2.toInt = 0 ∧ ((2 : Int32)).toInt = 0) ∨ (x3.toInt = 0 ∧ x2.toInt ≠ 0 ∧ x2.toInt < 10 ∧ ((2 : Int32)).toInt = 2) ∨ (x3.toInt = 0 ∧ 10 ≤ x2.toInt ∧ ((2 : Int32)).toInt = σ.2.1 (x2.toInt.toNat - 10) ∧ σ.2.1 (x2.toInt.toNat - 10) ≤ 2) := by first | exact Or.inl ⟨by omega, by decide⟩ | exact Or.inr (Or.inl ⟨by omega, by omega, by decide⟩) | exact Or.inr (Or.inr (Or.inl ⟨by omega, by omega, by omega, by decide⟩)) | exact Or.inr (Or.inr (Or.inr ⟨by omega, by omega, Sg_r hS2 (by omega) (by omega)⟩))
            refine And.intro (fun h106 => ?_) (fun h106 => ?_)
            · have f107 : x2.toInt < (6 : Int) := xlt h106
              have r108 := mf_29 J18
              have u109 : (ps_i s18 1131 29).toInt = (ps_i s12 1131 29).toInt := xeq (kp_i K18 29 rfl)
              have r110 := mf_29 J12
              have u111 : (ps_i s12 1131 29).toInt = (ps_i s 1131 29).toInt := xeq (kp_i K12 29 rfl)
              refine ms_211 J18 (show (ps_i s18 1131 29).toInt ≤ 14 from by omega) (fun s112 J112 K112 p112_0 p112_1 p112_2 p112_3 p112_4 => ?_)
              have K113 := kpt K19 K112 rfl rfl
              have KC := K112
              have hS2 : Sg (ps_a s112 1135) (ps_a s112 1136) (ps_a s112 1138) (ps_a s112 1139) (ps_i s112 1131 22).toInt σ := by rw [show ps_a s112 1135 = ps_a s18 1135 from (K112.2 1135 rfl).1, show ps_a s112 1136 = ps_a s18 1136 from (K112.2 1136 rfl).1, show ps_a s112 1138 = ps_a s18 1138 from (K112.2 1138 rfl).1, show ps_a s112 1139 = ps_a s18 1139 from (K112.2 1139 rfl).1, show ps_i s112 1131 22 = ps_i s18 1131 22 from kp_i K112 22 rfl]; exact hS2
              have hR2 : Rw (ps_a s112 1134) x1.toInt (l ++ [x2.toInt.toNat]) := by rw [show ps_a s112 1134 = ps_a s18 1134 from (K112.2 1134 rfl).1]; exact hR2
              have hO : ∀ i : Nat, (i : Int) < x1.toInt ∨ x1.toInt + 41 ≤ (i : Int) → ps_a s112 1134 i = ps_a s0 1134 i := by rw [show ps_a s112 1134 = ps_a s18 1134 from (K112.2 1134 rfl).1]; exact hO
              have p112_0' : (ps_i s112 1131 29).toInt = (ps_i s18 1131 29).toInt + 1 := p112_0
              have r114 := mf_29 J112
              have w44 : _ := p112_1
              have w45 : _ := p112_2
              have w46 : _ := p112_3
              have w47 : _ := p112_4
              have u30 := xeq (kp_i KC 30 rfl)
              have u31 := xeq (kp_i KC 31 rfl)
              have u32 := xeq (kp_i KC 32 rfl)
              have g5 : (x2.toInt < 6 ∧ ps_a s112 1145 (ps_i s18 1131 29).toInt.toNat = 0) ∨ (6 ≤ x2.toInt ∧ ps_a s112 1145 (ps_i s18 1131 29).toInt.toNat ≠ 0) := by first | exact Or.inl ⟨by omega, ((w45 _).trans (if_pos rfl)).trans (by decide)⟩ | exact Or.inr ⟨by omega, by rw [(w45 _).trans (if_pos rfl)]; decide⟩
              have g7 : ps_a s112 1147 (ps_i s18 1131 29).toInt.toNat = 0 := ((w47 _).trans (if_pos rfl)).trans (by decide)
              have g4 := congrArg Int32.toInt ((w44 (ps_i s18 1131 29).toInt.toNat).trans (if_pos rfl))
              have a115 : ((ps_i s112 1131 29) - 1).toInt = (ps_i s112 1131 29).toInt - (1 : Int) := xIs (show -2147483648 ≤ (ps_i s112 1131 29).toInt - (1 : Int) from by omega) (show (ps_i s112 1131 29).toInt - (1 : Int) < 2147483648 from by omega)
              have e9 : Int32.toNatClampNeg ((ps_i s112 1131 29) - 1) = (ps_i s18 1131 29).toInt.toNat := nx (show ((ps_i s112 1131 29) - 1).toInt = (ps_i s18 1131 29).toInt from by omega)
              refine ps_nd_i (show pm_in ((ps_i s112 1131 29) - 1) 16 = true from xgi (show 0 ≤ ((ps_i s112 1131 29) - 1).toInt from by omega) (show ((ps_i s112 1131 29) - 1).toInt < 16 from by omega)) ?_
              have J116 := mwa_n 1146 (i := (Int32.toNatClampNeg ((ps_i s112 1131 29) - 1))) (v := (x3 &&& 1)) J112 rfl (by decide)
              have K117 := kpa' K113 (r := 1146) (i := (Int32.toNatClampNeg ((ps_i s112 1131 29) - 1))) (v := (x3 &&& 1)) rfl
              have g6 : ps_a (ps_ua s112 1146 (Int32.toNatClampNeg ((ps_i s112 1131 29) - 1)) (x3 &&& 1)) 1146 (ps_i s18 1131 29).toInt.toNat = (x3 &&& 1) := by rw [← e9]; exact ua_eq
              have g6l : ∀ i, i < (ps_i s18 1131 29).toInt.toNat → ps_a (ps_ua s112 1146 (Int32.toNatClampNeg ((ps_i s112 1131 29) - 1)) (x3 &&& 1)) 1146 i = ps_a s18 1146 i := fun i hi => (ua_ne (by omega)).trans ((w46 i).trans (if_neg (by omega)))
              have r118 := mf_8 J112
              have u119 : (ps_i s112 1131 8).toInt = (ps_i s18 1131 8).toInt := xeq (kp_i K112 8 rfl)
              have r120 := mf_4 J112
              have u121 : (ps_i s112 1131 4).toInt = (ps_i s18 1131 4).toInt := xeq (kp_i K112 4 rfl)
              have r122 := mf_5 J112
              have u123 : (ps_i s112 1131 5).toInt = (ps_i s18 1131 5).toInt := xeq (kp_i K112 5 rfl)
              have r124 := mf_5 J18
              have u125 : (ps_i s18 1131 5).toInt = (ps_i s12 1131 5).toInt := xeq (kp_i K18 5 rfl)
              have r126 := mf_5 J12
              have u127 : (ps_i s12 1131 5).toInt = (ps_i s 1131 5).toInt := xeq (kp_i K12 5 rfl)
              have u128 : (ps_i s112 1131 30).toInt = (ps_i s18 1131 30).toInt := xeq (kp_i K112 30 rfl)
              have u129 : (ps_i s18 1131 30).toInt = (ps_i s12 1131 30).toInt := xeq (kp_i K18 30 rfl)
              have u130 : (ps_i s12 1131 30).toInt = (ps_i s 1131 30).toInt := xeq (kp_i K12 30 rfl)
              have r131 := mf_31 J112
              have u132 : (ps_i s112 1131 31).toInt = (ps_i s18 1131 31).toInt := xeq (kp_i K112 31 rfl)
              have r133 := mf_31 J18
              have u134 : (ps_i s18 1131 31).toInt = (ps_i s12 1131 31).toInt := xeq (kp_i K18 31 rfl)
              have r135 := mf_31 J12
              have u136 : (ps_i s12 1131 31).toInt = ((ps_i s 1131 31) + x5).toInt := xeq (kp_i K12 31 rfl)
              exact k _ J116 K117 (show (ps_i s112 1131 8).toInt ≤ (ps_i s112 1131 4).toInt from by omega) (show 1 ≤ (ps_i s112 1131 5).toInt ∨ ((ps_i s112 1131 29).toInt ≤ 13 ∧ 0 ≤ (ps_i s112 1131 30).toInt ∧ (ps_i s112 1131 30).toInt ≤ 5 ∧ (ps_i s112 1131 31).toInt ≤ 40 ∧ (ps_i s0 1131 31).toInt < (ps_i s112 1131 31).toInt) from by omega) (show (ps_i s0 1131 31).toInt ≤ (ps_i s112 1131 31).toInt from by omega) ((by first | (exfalso; omega) | exact Or.inr ⟨_, hR2, (by
      have n1 : (ps_i s112 1131 29).toInt = (ps_i s18 1131 29).toInt + 1 := by omega
      rcases i11 with z | z
      · refine RQ_c hH (by omega) (by omega) (kS_push (g := ps_a (ps_ua s112 1146 (Int32.toNatClampNeg ((ps_i s112 1131 29) - 1)) (x3 &&& 1)) 1145 (ps_i s18 1131 29).toInt.toNat) ?_) ?_ g4 (g6.trans (by rw [show x3 = 0 from x0 z.1]; decide)) (show (ps_i s112 1131 30).toInt = (ps_i s18 1131 30).toInt + (if x2.toInt.toNat = 4 ∨ x2.toInt.toNat = 5 then 1 else 0) from by rw [if_neg (by omega)]; omega) ⟨fun _ => by omega, fun _ => g7⟩ (fun i hi => ⟨(w44 i).trans (if_neg (by omega)), (w45 i).trans (if_neg (by omega)), g6l i hi, (w47 i).trans (if_neg (by omega))⟩) n1 (show (ps_i s112 1131 31).toInt = ((ps_i s18 1131 31).toInt - x5.toInt) + 1 from by omega) (show (ps_i (ps_ua s112 1146 (Int32.toNatClampNeg ((ps_i s112 1131 29) - 1)) (x3 &&& 1)) 1131 32).toInt = (ps_i s18 1131 32).toInt from u32) (fun _ => by omega)
        · rcases hwv with q | q | q | q
          · omega
          · exact Or.inl ⟨by omega, q.2.2⟩
          · rcases g5 with g | g
            · exact Or.inr (Or.inl ⟨by omega, by omega, q.2.2.2, g.2⟩)
            · exact Or.inr (Or.inr (Or.inl ⟨by omega, q.2.2.2, g.2⟩))
          · rcases g5 with g | g
            · omega
            · exact Or.inr (Or.inr (Or.inr ⟨by omega, by omega, q.2.2.1, g.2⟩))
        · omega
      · exact RQ_not hH (by omega) (by omega) (by omega) (by rcases hwv with q | q | q | q; exact g4.trans q.2; omega; omega; omega) (by rcases g5 with g | g; exact g.2; omega) (by rw [g6, show x3 = 1 from xO1 z.1]; decide) (show (ps_i s112 1131 30).toInt = (ps_i s18 1131 30).toInt from by omega) g7 (fun i hi => ⟨(w44 i).trans (if_neg (by omega)), (w45 i).trans (if_neg (by omega)), g6l i hi, (w47 i).trans (if_neg (by omega))⟩) n1 (show (ps_i s112 1131 31).toInt = ((ps_i s18 1131 31).toInt - x5.toInt) + 2 from by omega) (show (ps_i (ps_ua s112 1146 (Int32.toNatClampNeg ((ps_i s112 1131 29) - 1)) (x3 &&& 1)) 1131 32).toInt = (ps_i s18 1131 32).toInt from u32))⟩)) (hO)
            · have f137 : (6 : Int) ≤ x2.toInt := xle h106
              have r138 := mf_29 J18
              have u139 : (ps_i s18 1131 29).toInt = (ps_i s12 1131 29).toInt := xeq (kp_i K18 29 rfl)
              have r140 := mf_29 J12
              have u141 : (ps_i s12 1131 29).toInt = (ps_i s 1131 29).toInt := xeq (kp_i K12 29 rfl)
              refine ms_211 J18 (show (ps_i s18 1131 29).toInt ≤ 14 from by omega) (fun s142 J142 K142 p142_0 p142_1 p142_2 p142_3 p142_4 => ?_)
              have K143 := kpt K19 K142 rfl rfl
              have KC := K142
              have hS2 : Sg (ps_a s142 1135) (ps_a s142 1136) (ps_a s142 1138) (ps_a s142 1139) (ps_i s142 1131 22).toInt σ := by rw [show ps_a s142 1135 = ps_a s18 1135 from (K142.2 1135 rfl).1, show ps_a s142 1136 = ps_a s18 1136 from (K142.2 1136 rfl).1, show ps_a s142 1138 = ps_a s18 1138 from (K142.2 1138 rfl).1, show ps_a s142 1139 = ps_a s18 1139 from (K142.2 1139 rfl).1, show ps_i s142 1131 22 = ps_i s18 1131 22 from kp_i K142 22 rfl]; exact hS2
              have hR2 : Rw (ps_a s142 1134) x1.toInt (l ++ [x2.toInt.toNat]) := by rw [show ps_a s142 1134 = ps_a s18 1134 from (K142.2 1134 rfl).1]; exact hR2
              have hO : ∀ i : Nat, (i : Int) < x1.toInt ∨ x1.toInt + 41 ≤ (i : Int) → ps_a s142 1134 i = ps_a s0 1134 i := by rw [show ps_a s142 1134 = ps_a s18 1134 from (K142.2 1134 rfl).1]; exact hO
              have p142_0' : (ps_i s142 1131 29).toInt = (ps_i s18 1131 29).toInt + 1 := p142_0
              have r144 := mf_29 J142
              have w44 : _ := p142_1
              have w45 : _ := p142_2
              have w46 : _ := p142_3
              have w47 : _ := p142_4
              have u30 := xeq (kp_i KC 30 rfl)
              have u31 := xeq (kp_i KC 31 rfl)
              have u32 := xeq (kp_i KC 32 rfl)
              have g5 : (x2.toInt < 6 ∧ ps_a s142 1145 (ps_i s18 1131 29).toInt.toNat = 0) ∨ (6 ≤ x2.toInt ∧ ps_a s142 1145 (ps_i s18 1131 29).toInt.toNat ≠ 0) := by first | exact Or.inl ⟨by omega, ((w45 _).trans (if_pos rfl)).trans (by decide)⟩ | exact Or.inr ⟨by omega, by rw [(w45 _).trans (if_pos rfl)]; decide⟩
              have g7 : ps_a s142 1147 (ps_i s18 1131 29).toInt.toNat = 0 := ((w47 _).trans (if_pos rfl)).trans (by decide)
              have g4 := congrArg Int32.toInt ((w44 (ps_i s18 1131 29).toInt.toNat).trans (if_pos rfl))
              have a145 : ((ps_i s142 1131 29) - 1).toInt = (ps_i s142 1131 29).toInt - (1 : Int) := xIs (show -2147483648 ≤ (ps_i s142 1131 29).toInt - (1 : Int) from by omega) (show (ps_i s142 1131 29).toInt - (1 : Int) < 2147483648 from by omega)
              have e9 : Int32.toNatClampNeg ((ps_i s142 1131 29) - 1) = (ps_i s18 1131 29).toInt.toNat := nx (show ((ps_i s142 1131 29) - 1).toInt = (ps_i s18 1131 29).toInt from by omega)
              refine ps_nd_i (show pm_in ((ps_i s142 1131 29) - 1) 16 = true from xgi (show 0 ≤ ((ps_i s142 1131 29) - 1).toInt from by omega) (show ((ps_i s142 1131 29) - 1).toInt < 16 from by omega)) ?_
              have J146 := mwa_n 1146 (i := (Int32.toNatClampNeg ((ps_i s142 1131 29) - 1))) (v := (x3 &&& 1)) J142 rfl (by decide)
              have K147 := kpa' K143 (r := 1146) (i := (Int32.toNatClampNeg ((ps_i s142 1131 29) - 1))) (v := (x3 &&& 1)) rfl
              have g6 : ps_a (ps_ua s142 1146 (Int32.toNatClampNeg ((ps_i s142 1131 29) - 1)) (x3 &&& 1)) 1146 (ps_i s18 1131 29).toInt.toNat = (x3 &&& 1) := by rw [← e9]; exact ua_eq
              have g6l : ∀ i, i < (ps_i s18 1131 29).toInt.toNat → ps_a (ps_ua s142 1146 (Int32.toNatClampNeg ((ps_i s142 1131 29) - 1)) (x3 &&& 1)) 1146 i = ps_a s18 1146 i := fun i hi => (ua_ne (by omega)).trans ((w46 i).trans (if_neg (by omega)))
              have r148 := mf_8 J142
              have u149 : (ps_i s142 1131 8).toInt = (ps_i s18 1131 8).toInt := xeq (kp_i K142 8 rfl)
              have r150 := mf_4 J142
              have u151 : (ps_i s142 1131 4).toInt = (ps_i s18 1131 4).toInt := xeq (kp_i K142 4 rfl)
              have r152 := mf_5 J142
              have u153 : (ps_i s142 1131 5).toInt = (ps_i s18 1131 5).toInt := xeq (kp_i K142 5 rfl)
              have r154 := mf_5 J18
              have u155 : (ps_i s18 1131 5).toInt = (ps_i s12 1131 5).toInt := xeq (kp_i K18 5 rfl)
              have r156 := mf_5 J12
              have u157 : (ps_i s12 1131 5).toInt = (ps_i s 1131 5).toInt := xeq (kp_i K12 5 rfl)
              have u158 : (ps_i s142 1131 30).toInt = (ps_i s18 1131 30).toInt := xeq (kp_i K142 30 rfl)
              have u159 : (ps_i s18 1131 30).toInt = (ps_i s12 1131 30).toInt := xeq (kp_i K18 30 rfl)
              have u160 : (ps_i s12 1131 30).toInt = (ps_i s 1131 30).toInt := xeq (kp_i K12 30 rfl)
              have r161 := mf_31 J142
              have u162 : (ps_i s142 1131 31).toInt = (ps_i s18 1131 31).toInt := xeq (kp_i K142 31 rfl)
              have r163 := mf_31 J18
              have u164 : (ps_i s18 1131 31).toInt = (ps_i s12 1131 31).toInt := xeq (kp_i K18 31 rfl)
              have r165 := mf_31 J12
              have u166 : (ps_i s12 1131 31).toInt = ((ps_i s 1131 31) + x5).toInt := xeq (kp_i K12 31 rfl)
              exact k _ J146 K147 (show (ps_i s142 1131 8).toInt ≤ (ps_i s142 1131 4).toInt from by omega) (show 1 ≤ (ps_i s142 1131 5).toInt ∨ ((ps_i s142 1131 29).toInt ≤ 13 ∧ 0 ≤ (ps_i s142 1131 30).toInt ∧ (ps_i s142 1131 30).toInt ≤ 5 ∧ (ps_i s142 1131 31).toInt ≤ 40 ∧ (ps_i s0 1131 31).toInt < (ps_i s142 1131 31).toInt) from by omega) (show (ps_i s0 1131 31).toInt ≤ (ps_i s142 1131 31).toInt from by omega) ((by first | (exfalso; omega) | exact Or.inr ⟨_, hR2, (by
      have n1 : (ps_i s142 1131 29).toInt = (ps_i s18 1131 29).toInt + 1 := by omega
      rcases i11 with z | z
      · refine RQ_c hH (by omega) (by omega) (kS_push (g := ps_a (ps_ua s142 1146 (Int32.toNatClampNeg ((ps_i s142 1131 29) - 1)) (x3 &&& 1)) 1145 (ps_i s18 1131 29).toInt.toNat) ?_) ?_ g4 (g6.trans (by rw [show x3 = 0 from x0 z.1]; decide)) (show (ps_i s142 1131 30).toInt = (ps_i s18 1131 30).toInt + (if x2.toInt.toNat = 4 ∨ x2.toInt.toNat = 5 then 1 else 0) from by rw [if_neg (by omega)]; omega) ⟨fun _ => by omega, fun _ => g7⟩ (fun i hi => ⟨(w44 i).trans (if_neg (by omega)), (w45 i).trans (if_neg (by omega)), g6l i hi, (w47 i).trans (if_neg (by omega))⟩) n1 (show (ps_i s142 1131 31).toInt = ((ps_i s18 1131 31).toInt - x5.toInt) + 1 from by omega) (show (ps_i (ps_ua s142 1146 (Int32.toNatClampNeg ((ps_i s142 1131 29) - 1)) (x3 &&& 1)) 1131 32).toInt = (ps_i s18 1131 32).toInt from u32) (fun _ => by omega)
        · rcases hwv with q | q | q | q
          · omega
          · exact Or.inl ⟨by omega, q.2.2⟩
          · rcases g5 with g | g
            · exact Or.inr (Or.inl ⟨by omega, by omega, q.2.2.2, g.2⟩)
            · exact Or.inr (Or.inr (Or.inl ⟨by omega, q.2.2.2, g.2⟩))
          · rcases g5 with g | g
            · omega
            · exact Or.inr (Or.inr (Or.inr ⟨by omega, by omega, q.2.2.1, g.2⟩))
        · omega
      · exact RQ_not hH (by omega) (by omega) (by omega) (by rcases hwv with q | q | q | q; exact g4.trans q.2; omega; omega; omega) (by rcases g5 with g | g; exact g.2; omega) (by rw [g6, show x3 = 1 from xO1 z.1]; decide) (show (ps_i s142 1131 30).toInt = (ps_i s18 1131 30).toInt from by omega) g7 (fun i hi => ⟨(w44 i).trans (if_neg (by omega)), (w45 i).trans (if_neg (by omega)), g6l i hi, (w47 i).trans (if_neg (by omega))⟩) n1 (show (ps_i s142 1131 31).toInt = ((ps_i s18 1131 31).toInt - x5.toInt) + 2 from by omega) (show (ps_i (ps_ua s142 1146 (Int32.toNatClampNeg ((ps_i s142 1131 29) - 1)) (x3 &&& 1)) 1131 32).toInt = (ps_i s18 1131 32).toInt from u32))⟩)) (hO)
        · have f167 : x2.toInt = (0 : Int) := xeq h27
          have hwv : (x3.toInt = 1 ∧ ((0 : Int32)).toInt = 1) ∨ (x3.toInt = 0 ∧ x2.toInt = 0 ∧ ((0 : Int32)).toInt = 0) ∨ (x3.toInt = 0 ∧ x2.toInt ≠ 0 ∧ x2.toInt < 10 ∧ ((0 : Int32)).toInt = 2) ∨ (x3.toInt = 0 ∧ 10 ≤ x2.toInt ∧ ((0 : Int32)).toInt = σ.2.1 (x2.toInt.toNat - 10) ∧ σ.2.1 (x2.toInt.toNat - 10) ≤ 2) := by first | exact Or.inl ⟨by omega, by decide⟩ | exact Or.inr (Or.inl ⟨by omega, by omega, by decide⟩) | exact Or.inr (Or.inr (Or.inl ⟨by omega, by omega, by omega, by decide⟩)) | exact Or.inr (Or.inr (Or.inr ⟨by omega, by omega, Sg_r hS2 (by omega) (by omega)⟩))
          refine And.intro (fun h168 => ?_) (fun h168 => ?_)
          · have f169 : x2.toInt < (6 : Int) := xlt h168
            have r170 := mf_29 J18
            have u171 : (ps_i s18 1131 29).toInt = (ps_i s12 1131 29).toInt := xeq (kp_i K18 29 rfl)
            have r172 := mf_29 J12
            have u173 : (ps_i s12 1131 29).toInt = (ps_i s 1131 29).toInt := xeq (kp_i K12 29 rfl)
            refine ms_211 J18 (show (ps_i s18 1131 29).toInt ≤ 14 from by omega) (fun s174 J174 K174 p174_0 p174_1 p174_2 p174_3 p174_4 => ?_)
            have K175 := kpt K19 K174 rfl rfl
            have KC := K174
            have hS2 : Sg (ps_a s174 1135) (ps_a s174 1136) (ps_a s174 1138) (ps_a s174 1139) (ps_i s174 1131 22).toInt σ := by rw [show ps_a s174 1135 = ps_a s18 1135 from (K174.2 1135 rfl).1, show ps_a s174 1136 = ps_a s18 1136 from (K174.2 1136 rfl).1, show ps_a s174 1138 = ps_a s18 1138 from (K174.2 1138 rfl).1, show ps_a s174 1139 = ps_a s18 1139 from (K174.2 1139 rfl).1, show ps_i s174 1131 22 = ps_i s18 1131 22 from kp_i K174 22 rfl]; exact hS2
            have hR2 : Rw (ps_a s174 1134) x1.toInt (l ++ [x2.toInt.toNat]) := by rw [show ps_a s174 1134 = ps_a s18 1134 from (K174.2 1134 rfl).1]; exact hR2
            have hO : ∀ i : Nat, (i : Int) < x1.toInt ∨ x1.toInt + 41 ≤ (i : Int) → ps_a s174 1134 i = ps_a s0 1134 i := by rw [show ps_a s174 1134 = ps_a s18 1134 from (K174.2 1134 rfl).1]; exact hO
            have p174_0' : (ps_i s174 1131 29).toInt = (ps_i s18 1131 29).toInt + 1 := p174_0
            have r176 := mf_29 J174
            have w44 : _ := p174_1
            have w45 : _ := p174_2
            have w46 : _ := p174_3
            have w47 : _ := p174_4
            have u30 := xeq (kp_i KC 30 rfl)
            have u31 := xeq (kp_i KC 31 rfl)
            have u32 := xeq (kp_i KC 32 rfl)
            have g5 : (x2.toInt < 6 ∧ ps_a s174 1145 (ps_i s18 1131 29).toInt.toNat = 0) ∨ (6 ≤ x2.toInt ∧ ps_a s174 1145 (ps_i s18 1131 29).toInt.toNat ≠ 0) := by first | exact Or.inl ⟨by omega, ((w45 _).trans (if_pos rfl)).trans (by decide)⟩ | exact Or.inr ⟨by omega, by rw [(w45 _).trans (if_pos rfl)]; decide⟩
            have g7 : ps_a s174 1147 (ps_i s18 1131 29).toInt.toNat = 0 := ((w47 _).trans (if_pos rfl)).trans (by decide)
            have g4 := congrArg Int32.toInt ((w44 (ps_i s18 1131 29).toInt.toNat).trans (if_pos rfl))
            have a177 : ((ps_i s174 1131 29) - 1).toInt = (ps_i s174 1131 29).toInt - (1 : Int) := xIs (show -2147483648 ≤ (ps_i s174 1131 29).toInt - (1 : Int) from by omega) (show (ps_i s174 1131 29).toInt - (1 : Int) < 2147483648 from by omega)
            have e9 : Int32.toNatClampNeg ((ps_i s174 1131 29) - 1) = (ps_i s18 1131 29).toInt.toNat := nx (show ((ps_i s174 1131 29) - 1).toInt = (ps_i s18 1131 29).toInt from by omega)
            refine ps_nd_i (show pm_in ((ps_i s174 1131 29) - 1) 16 = true from xgi (show 0 ≤ ((ps_i s174 1131 29) - 1).toInt from by omega) (show ((ps_i s174 1131 29) - 1).toInt < 16 from by omega)) ?_
            have J178 := mwa_n 1146 (i := (Int32.toNatClampNeg ((ps_i s174 1131 29) - 1))) (v := (x3 &&& 1)) J174 rfl (by decide)
            have K179 := kpa' K175 (r := 1146) (i := (Int32.toNatClampNeg ((ps_i s174 1131 29) - 1))) (v := (x3 &&& 1)) rfl
            have g6 : ps_a (ps_ua s174 1146 (Int32.toNatClampNeg ((ps_i s174 1131 29) - 1)) (x3 &&& 1)) 1146 (ps_i s18 1131 29).toInt.toNat = (x3 &&& 1) := by rw [← e9]; exact ua_eq
            have g6l : ∀ i, i < (ps_i s18 1131 29).toInt.toNat → ps_a (ps_ua s174 1146 (Int32.toNatClampNeg ((ps_i s174 1131 29) - 1)) (x3 &&& 1)) 1146 i = ps_a s18 1146 i := fun i hi => (ua_ne (by omega)).trans ((w46 i).trans (if_neg (by omega)))
            have r180 := mf_8 J174
            have u181 : (ps_i s174 1131 8).toInt = (ps_i s18 1131 8).toInt := xeq (kp_i K174 8 rfl)
            have r182 := mf_4 J174
            have u183 : (ps_i s174 1131 4).toInt = (ps_i s18 1131 4).toInt := xeq (kp_i K174 4 rfl)
            have r184 := mf_5 J174
            have u185 : (ps_i s174 1131 5).toInt = (ps_i s18 1131 5).toInt := xeq (kp_i K174 5 rfl)
            have r186 := mf_5 J18
            have u187 : (ps_i s18 1131 5).toInt = (ps_i s12 1131 5).toInt := xeq (kp_i K18 5 rfl)
            have r188 := mf_5 J12
            have u189 : (ps_i s12 1131 5).toInt = (ps_i s 1131 5).toInt := xeq (kp_i K12 5 rfl)
            have u190 : (ps_i s174 1131 30).toInt = (ps_i s18 1131 30).toInt := xeq (kp_i K174 30 rfl)
            have u191 : (ps_i s18 1131 30).toInt = (ps_i s12 1131 30).toInt := xeq (kp_i K18 30 rfl)
            have u192 : (ps_i s12 1131 30).toInt = (ps_i s 1131 30).toInt := xeq (kp_i K12 30 rfl)
            have r193 := mf_31 J174
            have u194 : (ps_i s174 1131 31).toInt = (ps_i s18 1131 31).toInt := xeq (kp_i K174 31 rfl)
            have r195 := mf_31 J18
            have u196 : (ps_i s18 1131 31).toInt = (ps_i s12 1131 31).toInt := xeq (kp_i K18 31 rfl)
            have r197 := mf_31 J12
            have u198 : (ps_i s12 1131 31).toInt = ((ps_i s 1131 31) + x5).toInt := xeq (kp_i K12 31 rfl)
            exact k _ J178 K179 (show (ps_i s174 1131 8).toInt ≤ (ps_i s174 1131 4).toInt from by omega) (show 1 ≤ (ps_i s174 1131 5).toInt ∨ ((ps_i s174 1131 29).toInt ≤ 13 ∧ 0 ≤ (ps_i s174 1131 30).toInt ∧ (ps_i s174 1131 30).toInt ≤ 5 ∧ (ps_i s174 1131 31).toInt ≤ 40 ∧ (ps_i s0 1131 31).toInt < (ps_i s174 1131 31).toInt) from by omega) (show (ps_i s0 1131 31).toInt ≤ (ps_i s174 1131 31).toInt from by omega) ((by first | (exfalso; omega) | exact Or.inr ⟨_, hR2, (by
      have n1 : (ps_i s174 1131 29).toInt = (ps_i s18 1131 29).toInt + 1 := by omega
      rcases i11 with z | z
      · refine RQ_c hH (by omega) (by omega) (kS_push (g := ps_a (ps_ua s174 1146 (Int32.toNatClampNeg ((ps_i s174 1131 29) - 1)) (x3 &&& 1)) 1145 (ps_i s18 1131 29).toInt.toNat) ?_) ?_ g4 (g6.trans (by rw [show x3 = 0 from x0 z.1]; decide)) (show (ps_i s174 1131 30).toInt = (ps_i s18 1131 30).toInt + (if x2.toInt.toNat = 4 ∨ x2.toInt.toNat = 5 then 1 else 0) from by rw [if_neg (by omega)]; omega) ⟨fun _ => by omega, fun _ => g7⟩ (fun i hi => ⟨(w44 i).trans (if_neg (by omega)), (w45 i).trans (if_neg (by omega)), g6l i hi, (w47 i).trans (if_neg (by omega))⟩) n1 (show (ps_i s174 1131 31).toInt = ((ps_i s18 1131 31).toInt - x5.toInt) + 1 from by omega) (show (ps_i (ps_ua s174 1146 (Int32.toNatClampNeg ((ps_i s174 1131 29) - 1)) (x3 &&& 1)) 1131 32).toInt = (ps_i s18 1131 32).toInt from u32) (fun _ => by omega)
        · rcases hwv with q | q | q | q
          · omega
          · exact Or.inl ⟨by omega, q.2.2⟩
          · rcases g5 with g | g
            · exact Or.inr (Or.inl ⟨by omega, by omega, q.2.2.2, g.2⟩)
            · exact Or.inr (Or.inr (Or.inl ⟨by omega, q.2.2.2, g.2⟩))
          · rcases g5 with g | g
            · omega
            · exact Or.inr (Or.inr (Or.inr ⟨by omega, by omega, q.2.2.1, g.2⟩))
        · omega
      · exact RQ_not hH (by omega) (by omega) (by omega) (by rcases hwv with q | q | q | q; exact g4.trans q.2; omega; omega; omega) (by rcases g5 with g | g; exact g.2; omega) (by rw [g6, show x3 = 1 from xO1 z.1]; decide) (show (ps_i s174 1131 30).toInt = (ps_i s18 1131 30).toInt from by omega) g7 (fun i hi => ⟨(w44 i).trans (if_neg (by omega)), (w45 i).trans (if_neg (by omega)), g6l i hi, (w47 i).trans (if_neg (by omega))⟩) n1 (show (ps_i s174 1131 31).toInt = ((ps_i s18 1131 31).toInt - x5.toInt) + 2 from by omega) (show (ps_i (ps_ua s174 1146 (Int32.toNatClampNeg ((ps_i s174 1131 29) - 1)) (x3 &&& 1)) 1131 32).toInt = (ps_i s18 1131 32).toInt from u32))⟩)) (hO)
          · have f199 : (6 : Int) ≤ x2.toInt := xle h168
            have r200 := mf_29 J18
            have u201 : (ps_i s18 1131 29).toInt = (ps_i s12 1131 29).toInt := xeq (kp_i K18 29 rfl)
            have r202 := mf_29 J12
            have u203 : (ps_i s12 1131 29).toInt = (ps_i s 1131 29).toInt := xeq (kp_i K12 29 rfl)
            refine ms_211 J18 (show (ps_i s18 1131 29).toInt ≤ 14 from by omega) (fun s204 J204 K204 p204_0 p204_1 p204_2 p204_3 p204_4 => ?_)
            have K205 := kpt K19 K204 rfl rfl
            have KC := K204
            have hS2 : Sg (ps_a s204 1135) (ps_a s204 1136) (ps_a s204 1138) (ps_a s204 1139) (ps_i s204 1131 22).toInt σ := by rw [show ps_a s204 1135 = ps_a s18 1135 from (K204.2 1135 rfl).1, show ps_a s204 1136 = ps_a s18 1136 from (K204.2 1136 rfl).1, show ps_a s204 1138 = ps_a s18 1138 from (K204.2 1138 rfl).1, show ps_a s204 1139 = ps_a s18 1139 from (K204.2 1139 rfl).1, show ps_i s204 1131 22 = ps_i s18 1131 22 from kp_i K204 22 rfl]; exact hS2
            have hR2 : Rw (ps_a s204 1134) x1.toInt (l ++ [x2.toInt.toNat]) := by rw [show ps_a s204 1134 = ps_a s18 1134 from (K204.2 1134 rfl).1]; exact hR2
            have hO : ∀ i : Nat, (i : Int) < x1.toInt ∨ x1.toInt + 41 ≤ (i : Int) → ps_a s204 1134 i = ps_a s0 1134 i := by rw [show ps_a s204 1134 = ps_a s18 1134 from (K204.2 1134 rfl).1]; exact hO
            have p204_0' : (ps_i s204 1131 29).toInt = (ps_i s18 1131 29).toInt + 1 := p204_0
            have r206 := mf_29 J204
            have w44 : _ := p204_1
            have w45 : _ := p204_2
            have w46 : _ := p204_3
            have w47 : _ := p204_4
            have u30 := xeq (kp_i KC 30 rfl)
            have u31 := xeq (kp_i KC 31 rfl)
            have u32 := xeq (kp_i KC 32 rfl)
            have g5 : (x2.toInt < 6 ∧ ps_a s204 1145 (ps_i s18 1131 29).toInt.toNat = 0) ∨ (6 ≤ x2.toInt ∧ ps_a s204 1145 (ps_i s18 1131 29).toInt.toNat ≠ 0) := by first | exact Or.inl ⟨by omega, ((w45 _).trans (if_pos rfl)).trans (by decide)⟩ | exact Or.inr ⟨by omega, by rw [(w45 _).trans (if_pos rfl)]; decide⟩
            have g7 : ps_a s204 1147 (ps_i s18 1131 29).toInt.toNat = 0 := ((w47 _).trans (if_pos rfl)).trans (by decide)
            have g4 := congrArg Int32.toInt ((w44 (ps_i s18 1131 29).toInt.toNat).trans (if_pos rfl))
            have a207 : ((ps_i s204 1131 29) - 1).toInt = (ps_i s204 1131 29).toInt - (1 : Int) := xIs (show -2147483648 ≤ (ps_i s204 1131 29).toInt - (1 : Int) from by omega) (show (ps_i s204 1131 29).toInt - (1 : Int) < 2147483648 from by omega)
            have e9 : Int32.toNatClampNeg ((ps_i s204 1131 29) - 1) = (ps_i s18 1131 29).toInt.toNat := nx (show ((ps_i s204 1131 29) - 1).toInt = (ps_i s18 1131 29).toInt from by omega)
            refine ps_nd_i (show pm_in ((ps_i s204 1131 29) - 1) 16 = true from xgi (show 0 ≤ ((ps_i s204 1131 29) - 1).toInt from by omega) (show ((ps_i s204 1131 29) - 1).toInt < 16 from by omega)) ?_
            have J208 := mwa_n 1146 (i := (Int32.toNatClampNeg ((ps_i s204 1131 29) - 1))) (v := (x3 &&& 1)) J204 rfl (by decide)
            have K209 := kpa' K205 (r := 1146) (i := (Int32.toNatClampNeg ((ps_i s204 1131 29) - 1))) (v := (x3 &&& 1)) rfl
            have g6 : ps_a (ps_ua s204 1146 (Int32.toNatClampNeg ((ps_i s204 1131 29) - 1)) (x3 &&& 1)) 1146 (ps_i s18 1131 29).toInt.toNat = (x3 &&& 1) := by rw [← e9]; exact ua_eq
            have g6l : ∀ i, i < (ps_i s18 1131 29).toInt.toNat → ps_a (ps_ua s204 1146 (Int32.toNatClampNeg ((ps_i s204 1131 29) - 1)) (x3 &&& 1)) 1146 i = ps_a s18 1146 i := fun i hi => (ua_ne (by omega)).trans ((w46 i).trans (if_neg (by omega)))
            have r210 := mf_8 J204
            have u211 : (ps_i s204 1131 8).toInt = (ps_i s18 1131 8).toInt := xeq (kp_i K204 8 rfl)
            have r212 := mf_4 J204
            have u213 : (ps_i s204 1131 4).toInt = (ps_i s18 1131 4).toInt := xeq (kp_i K204 4 rfl)
            have r214 := mf_5 J204
            have u215 : (ps_i s204 1131 5).toInt = (ps_i s18 1131 5).toInt := xeq (kp_i K204 5 rfl)
            have r216 := mf_5 J18
            have u217 : (ps_i s18 1131 5).toInt = (ps_i s12 1131 5).toInt := xeq (kp_i K18 5 rfl)
            have r218 := mf_5 J12
            have u219 : (ps_i s12 1131 5).toInt = (ps_i s 1131 5).toInt := xeq (kp_i K12 5 rfl)
            have u220 : (ps_i s204 1131 30).toInt = (ps_i s18 1131 30).toInt := xeq (kp_i K204 30 rfl)
            have u221 : (ps_i s18 1131 30).toInt = (ps_i s12 1131 30).toInt := xeq (kp_i K18 30 rfl)
            have u222 : (ps_i s12 1131 30).toInt = (ps_i s 1131 30).toInt := xeq (kp_i K12 30 rfl)
            have r223 := mf_31 J204
            have u224 : (ps_i s204 1131 31).toInt = (ps_i s18 1131 31).toInt := xeq (kp_i K204 31 rfl)
            have r225 := mf_31 J18
            have u226 : (ps_i s18 1131 31).toInt = (ps_i s12 1131 31).toInt := xeq (kp_i K18 31 rfl)
            have r227 := mf_31 J12
            have u228 : (ps_i s12 1131 31).toInt = ((ps_i s 1131 31) + x5).toInt := xeq (kp_i K12 31 rfl)
            exact k _ J208 K209 (show (ps_i s204 1131 8).toInt ≤ (ps_i s204 1131 4).toInt from by omega) (show 1 ≤ (ps_i s204 1131 5).toInt ∨ ((ps_i s204 1131 29).toInt ≤ 13 ∧ 0 ≤ (ps_i s204 1131 30).toInt ∧ (ps_i s204 1131 30).toInt ≤ 5 ∧ (ps_i s204 1131 31).toInt ≤ 40 ∧ (ps_i s0 1131 31).toInt < (ps_i s204 1131 31).toInt) from by omega) (show (ps_i s0 1131 31).toInt ≤ (ps_i s204 1131 31).toInt from by omega) ((by first | (exfalso; omega) | exact Or.inr ⟨_, hR2, (by
      have n1 : (ps_i s204 1131 29).toInt = (ps_i s18 1131 29).toInt + 1 := by omega
      rcases i11 with z | z
      · refine RQ_c hH (by omega) (by omega) (kS_push (g := ps_a (ps_ua s204 1146 (Int32.toNatClampNeg ((ps_i s204 1131 29) - 1)) (x3 &&& 1)) 1145 (ps_i s18 1131 29).toInt.toNat) ?_) ?_ g4 (g6.trans (by rw [show x3 = 0 from x0 z.1]; decide)) (show (ps_i s204 1131 30).toInt = (ps_i s18 1131 30).toInt + (if x2.toInt.toNat = 4 ∨ x2.toInt.toNat = 5 then 1 else 0) from by rw [if_neg (by omega)]; omega) ⟨fun _ => by omega, fun _ => g7⟩ (fun i hi => ⟨(w44 i).trans (if_neg (by omega)), (w45 i).trans (if_neg (by omega)), g6l i hi, (w47 i).trans (if_neg (by omega))⟩) n1 (show (ps_i s204 1131 31).toInt = ((ps_i s18 1131 31).toInt - x5.toInt) + 1 from by omega) (show (ps_i (ps_ua s204 1146 (Int32.toNatClampNeg ((ps_i s204 1131 29) - 1)) (x3 &&& 1)) 1131 32).toInt = (ps_i s18 1131 32).toInt from u32) (fun _ => by omega)
        · rcases hwv with q | q | q | q
          · omega
          · exact Or.inl ⟨by omega, q.2.2⟩
          · rcases g5 with g | g
            · exact Or.inr (Or.inl ⟨by omega, by omega, q.2.2.2, g.2⟩)
            · exact Or.inr (Or.inr (Or.inl ⟨by omega, q.2.2.2, g.2⟩))
          · rcases g5 with g | g
            · omega
            · exact Or.inr (Or.inr (Or.inr ⟨by omega, by omega, q.2.2.1, g.2⟩))
        · omega
      · exact RQ_not hH (by omega) (by omega) (by omega) (by rcases hwv with q | q | q | q; exact g4.trans q.2; omega; omega; omega) (by rcases g5 with g | g; exact g.2; omega) (by rw [g6, show x3 = 1 from xO1 z.1]; decide) (show (ps_i s204 1131 30).toInt = (ps_i s18 1131 30).toInt from by omega) g7 (fun i hi => ⟨(w44 i).trans (if_neg (by omega)), (w45 i).trans (if_neg (by omega)), g6l i hi, (w47 i).trans (if_neg (by omega))⟩) n1 (show (ps_i s204 1131 31).toInt = ((ps_i s18 1131 31).toInt - x5.toInt) + 2 from by omega) (show (ps_i (ps_ua s204 1146 (Int32.toNatClampNeg ((ps_i s204 1131 29) - 1)) (x3 &&& 1)) 1131 32).toInt = (ps_i s18 1131 32).toInt from u32))⟩)) (hO)
      · have f229 : x3.toInt ≠ (0 : Int) := xne h25
        have hwv : (x3.toInt = 1 ∧ ((1 : Int32)).toInt = 1) ∨ (x3.toInt = 0 ∧ x2.toInt = 0 ∧ ((1 : Int32)).toInt = 0) ∨ (x3.toInt = 0 ∧ x2.toInt ≠ 0 ∧ x2.toInt < 10 ∧ ((1 : Int32)).toInt = 2) ∨ (x3.toInt = 0 ∧ 10 ≤ x2.toInt ∧ ((1 : Int32)).toInt = σ.2.1 (x2.toInt.toNat - 10) ∧ σ.2.1 (x2.toInt.toNat - 10) ≤ 2) := by first | exact Or.inl ⟨by omega, by decide⟩ | exact Or.inr (Or.inl ⟨by omega, by omega, by decide⟩) | exact Or.inr (Or.inr (Or.inl ⟨by omega, by omega, by omega, by decide⟩)) | exact Or.inr (Or.inr (Or.inr ⟨by omega, by omega, Sg_r hS2 (by omega) (by omega)⟩))
        refine And.intro (fun h230 => ?_) (fun h230 => ?_)
        · have f231 : x2.toInt < (6 : Int) := xlt h230
          have r232 := mf_29 J18
          have u233 : (ps_i s18 1131 29).toInt = (ps_i s12 1131 29).toInt := xeq (kp_i K18 29 rfl)
          have r234 := mf_29 J12
          have u235 : (ps_i s12 1131 29).toInt = (ps_i s 1131 29).toInt := xeq (kp_i K12 29 rfl)
          refine ms_211 J18 (show (ps_i s18 1131 29).toInt ≤ 14 from by omega) (fun s236 J236 K236 p236_0 p236_1 p236_2 p236_3 p236_4 => ?_)
          have K237 := kpt K19 K236 rfl rfl
          have KC := K236
          have hS2 : Sg (ps_a s236 1135) (ps_a s236 1136) (ps_a s236 1138) (ps_a s236 1139) (ps_i s236 1131 22).toInt σ := by rw [show ps_a s236 1135 = ps_a s18 1135 from (K236.2 1135 rfl).1, show ps_a s236 1136 = ps_a s18 1136 from (K236.2 1136 rfl).1, show ps_a s236 1138 = ps_a s18 1138 from (K236.2 1138 rfl).1, show ps_a s236 1139 = ps_a s18 1139 from (K236.2 1139 rfl).1, show ps_i s236 1131 22 = ps_i s18 1131 22 from kp_i K236 22 rfl]; exact hS2
          have hR2 : Rw (ps_a s236 1134) x1.toInt (l ++ [x2.toInt.toNat]) := by rw [show ps_a s236 1134 = ps_a s18 1134 from (K236.2 1134 rfl).1]; exact hR2
          have hO : ∀ i : Nat, (i : Int) < x1.toInt ∨ x1.toInt + 41 ≤ (i : Int) → ps_a s236 1134 i = ps_a s0 1134 i := by rw [show ps_a s236 1134 = ps_a s18 1134 from (K236.2 1134 rfl).1]; exact hO
          have p236_0' : (ps_i s236 1131 29).toInt = (ps_i s18 1131 29).toInt + 1 := p236_0
          have r238 := mf_29 J236
          have w44 : _ := p236_1
          have w45 : _ := p236_2
          have w46 : _ := p236_3
          have w47 : _ := p236_4
          have u30 := xeq (kp_i KC 30 rfl)
          have u31 := xeq (kp_i KC 31 rfl)
          have u32 := xeq (kp_i KC 32 rfl)
          have g5 : (x2.toInt < 6 ∧ ps_a s236 1145 (ps_i s18 1131 29).toInt.toNat = 0) ∨ (6 ≤ x2.toInt ∧ ps_a s236 1145 (ps_i s18 1131 29).toInt.toNat ≠ 0) := by first | exact Or.inl ⟨by omega, ((w45 _).trans (if_pos rfl)).trans (by decide)⟩ | exact Or.inr ⟨by omega, by rw [(w45 _).trans (if_pos rfl)]; decide⟩
          have g7 : ps_a s236 1147 (ps_i s18 1131 29).toInt.toNat = 0 := ((w47 _).trans (if_pos rfl)).trans (by decide)
          have g4 := congrArg Int32.toInt ((w44 (ps_i s18 1131 29).toInt.toNat).trans (if_pos rfl))
          have a239 : ((ps_i s236 1131 29) - 1).toInt = (ps_i s236 1131 29).toInt - (1 : Int) := xIs (show -2147483648 ≤ (ps_i s236 1131 29).toInt - (1 : Int) from by omega) (show (ps_i s236 1131 29).toInt - (1 : Int) < 2147483648 from by omega)
          have e9 : Int32.toNatClampNeg ((ps_i s236 1131 29) - 1) = (ps_i s18 1131 29).toInt.toNat := nx (show ((ps_i s236 1131 29) - 1).toInt = (ps_i s18 1131 29).toInt from by omega)
          refine ps_nd_i (show pm_in ((ps_i s236 1131 29) - 1) 16 = true from xgi (show 0 ≤ ((ps_i s236 1131 29) - 1).toInt from by omega) (show ((ps_i s236 1131 29) - 1).toInt < 16 from by omega)) ?_
          have J240 := mwa_n 1146 (i := (Int32.toNatClampNeg ((ps_i s236 1131 29) - 1))) (v := (x3 &&& 1)) J236 rfl (by decide)
          have K241 := kpa' K237 (r := 1146) (i := (Int32.toNatClampNeg ((ps_i s236 1131 29) - 1))) (v := (x3 &&& 1)) rfl
          have g6 : ps_a (ps_ua s236 1146 (Int32.toNatClampNeg ((ps_i s236 1131 29) - 1)) (x3 &&& 1)) 1146 (ps_i s18 1131 29).toInt.toNat = (x3 &&& 1) := by rw [← e9]; exact ua_eq
          have g6l : ∀ i, i < (ps_i s18 1131 29).toInt.toNat → ps_a (ps_ua s236 1146 (Int32.toNatClampNeg ((ps_i s236 1131 29) - 1)) (x3 &&& 1)) 1146 i = ps_a s18 1146 i := fun i hi => (ua_ne (by omega)).trans ((w46 i).trans (if_neg (by omega)))
          have r242 := mf_8 J236
          have u243 : (ps_i s236 1131 8).toInt = (ps_i s18 1131 8).toInt := xeq (kp_i K236 8 rfl)
          have r244 := mf_4 J236
          have u245 : (ps_i s236 1131 4).toInt = (ps_i s18 1131 4).toInt := xeq (kp_i K236 4 rfl)
          have r246 := mf_5 J236
          have u247 : (ps_i s236 1131 5).toInt = (ps_i s18 1131 5).toInt := xeq (kp_i K236 5 rfl)
          have r248 := mf_5 J18
          have u249 : (ps_i s18 1131 5).toInt = (ps_i s12 1131 5).toInt := xeq (kp_i K18 5 rfl)
          have r250 := mf_5 J12
          have u251 : (ps_i s12 1131 5).toInt = (ps_i s 1131 5).toInt := xeq (kp_i K12 5 rfl)
          have u252 : (ps_i s236 1131 30).toInt = (ps_i s18 1131 30).toInt := xeq (kp_i K236 30 rfl)
          have u253 : (ps_i s18 1131 30).toInt = (ps_i s12 1131 30).toInt := xeq (kp_i K18 30 rfl)
          have u254 : (ps_i s12 1131 30).toInt = (ps_i s 1131 30).toInt := xeq (kp_i K12 30 rfl)
          have r255 := mf_31 J236
          have u256 : (ps_i s236 1131 31).toInt = (ps_i s18 1131 31).toInt := xeq (kp_i K236 31 rfl)
          have r257 := mf_31 J18
          have u258 : (ps_i s18 1131 31).toInt = (ps_i s12 1131 31).toInt := xeq (kp_i K18 31 rfl)
          have r259 := mf_31 J12
          have u260 : (ps_i s12 1131 31).toInt = ((ps_i s 1131 31) + x5).toInt := xeq (kp_i K12 31 rfl)
          exact k _ J240 K241 (show (ps_i s236 1131 8).toInt ≤ (ps_i s236 1131 4).toInt from by omega) (show 1 ≤ (ps_i s236 1131 5).toInt ∨ ((ps_i s236 1131 29).toInt ≤ 13 ∧ 0 ≤ (ps_i s236 1131 30).toInt ∧ (ps_i s236 1131 30).toInt ≤ 5 ∧ (ps_i s236 1131 31).toInt ≤ 40 ∧ (ps_i s0 1131 31).toInt < (ps_i s236 1131 31).toInt) from by omega) (show (ps_i s0 1131 31).toInt ≤ (ps_i s236 1131 31).toInt from by omega) ((by first | (exfalso; omega) | exact Or.inr ⟨_, hR2, (by
      have n1 : (ps_i s236 1131 29).toInt = (ps_i s18 1131 29).toInt + 1 := by omega
      rcases i11 with z | z
      · refine RQ_c hH (by omega) (by omega) (kS_push (g := ps_a (ps_ua s236 1146 (Int32.toNatClampNeg ((ps_i s236 1131 29) - 1)) (x3 &&& 1)) 1145 (ps_i s18 1131 29).toInt.toNat) ?_) ?_ g4 (g6.trans (by rw [show x3 = 0 from x0 z.1]; decide)) (show (ps_i s236 1131 30).toInt = (ps_i s18 1131 30).toInt + (if x2.toInt.toNat = 4 ∨ x2.toInt.toNat = 5 then 1 else 0) from by rw [if_neg (by omega)]; omega) ⟨fun _ => by omega, fun _ => g7⟩ (fun i hi => ⟨(w44 i).trans (if_neg (by omega)), (w45 i).trans (if_neg (by omega)), g6l i hi, (w47 i).trans (if_neg (by omega))⟩) n1 (show (ps_i s236 1131 31).toInt = ((ps_i s18 1131 31).toInt - x5.toInt) + 1 from by omega) (show (ps_i (ps_ua s236 1146 (Int32.toNatClampNeg ((ps_i s236 1131 29) - 1)) (x3 &&& 1)) 1131 32).toInt = (ps_i s18 1131 32).toInt from u32) (fun _ => by omega)
        · rcases hwv with q | q | q | q
          · omega
          · exact Or.inl ⟨by omega, q.2.2⟩
          · rcases g5 with g | g
            · exact Or.inr (Or.inl ⟨by omega, by omega, q.2.2.2, g.2⟩)
            · exact Or.inr (Or.inr (Or.inl ⟨by omega, q.2.2.2, g.2⟩))
          · rcases g5 with g | g
            · omega
            · exact Or.inr (Or.inr (Or.inr ⟨by omega, by omega, q.2.2.1, g.2⟩))
        · omega
      · exact RQ_not hH (by omega) (by omega) (by omega) (by rcases hwv with q | q | q | q; exact g4.trans q.2; omega; omega; omega) (by rcases g5 with g | g; exact g.2; omega) (by rw [g6, show x3 = 1 from xO1 z.1]; decide) (show (ps_i s236 1131 30).toInt = (ps_i s18 1131 30).toInt from by omega) g7 (fun i hi => ⟨(w44 i).trans (if_neg (by omega)), (w45 i).trans (if_neg (by omega)), g6l i hi, (w47 i).trans (if_neg (by omega))⟩) n1 (show (ps_i s236 1131 31).toInt = ((ps_i s18 1131 31).toInt - x5.toInt) + 2 from by omega) (show (ps_i (ps_ua s236 1146 (Int32.toNatClampNeg ((ps_i s236 1131 29) - 1)) (x3 &&& 1)) 1131 32).toInt = (ps_i s18 1131 32).toInt from u32))⟩)) (hO)
        · have f261 : (6 : Int) ≤ x2.toInt := xle h230
          have r262 := mf_29 J18
          have u263 : (ps_i s18 1131 29).toInt = (ps_i s12 1131 29).toInt := xeq (kp_i K18 29 rfl)
          have r264 := mf_29 J12
          have u265 : (ps_i s12 1131 29).toInt = (ps_i s 1131 29).toInt := xeq (kp_i K12 29 rfl)
          refine ms_211 J18 (show (ps_i s18 1131 29).toInt ≤ 14 from by omega) (fun s266 J266 K266 p266_0 p266_1 p266_2 p266_3 p266_4 => ?_)
          have K267 := kpt K19 K266 rfl rfl
          have KC := K266
          have hS2 : Sg (ps_a s266 1135) (ps_a s266 1136) (ps_a s266 1138) (ps_a s266 1139) (ps_i s266 1131 22).toInt σ := by rw [show ps_a s266 1135 = ps_a s18 1135 from (K266.2 1135 rfl).1, show ps_a s266 1136 = ps_a s18 1136 from (K266.2 1136 rfl).1, show ps_a s266 1138 = ps_a s18 1138 from (K266.2 1138 rfl).1, show ps_a s266 1139 = ps_a s18 1139 from (K266.2 1139 rfl).1, show ps_i s266 1131 22 = ps_i s18 1131 22 from kp_i K266 22 rfl]; exact hS2
          have hR2 : Rw (ps_a s266 1134) x1.toInt (l ++ [x2.toInt.toNat]) := by rw [show ps_a s266 1134 = ps_a s18 1134 from (K266.2 1134 rfl).1]; exact hR2
          have hO : ∀ i : Nat, (i : Int) < x1.toInt ∨ x1.toInt + 41 ≤ (i : Int) → ps_a s266 1134 i = ps_a s0 1134 i := by rw [show ps_a s266 1134 = ps_a s18 1134 from (K266.2 1134 rfl).1]; exact hO
          have p266_0' : (ps_i s266 1131 29).toInt = (ps_i s18 1131 29).toInt + 1 := p266_0
          have r268 := mf_29 J266
          have w44 : _ := p266_1
          have w45 : _ := p266_2
          have w46 : _ := p266_3
          have w47 : _ := p266_4
          have u30 := xeq (kp_i KC 30 rfl)
          have u31 := xeq (kp_i KC 31 rfl)
          have u32 := xeq (kp_i KC 32 rfl)
          have g5 : (x2.toInt < 6 ∧ ps_a s266 1145 (ps_i s18 1131 29).toInt.toNat = 0) ∨ (6 ≤ x2.toInt ∧ ps_a s266 1145 (ps_i s18 1131 29).toInt.toNat ≠ 0) := by first | exact Or.inl ⟨by omega, ((w45 _).trans (if_pos rfl)).trans (by decide)⟩ | exact Or.inr ⟨by omega, by rw [(w45 _).trans (if_pos rfl)]; decide⟩
          have g7 : ps_a s266 1147 (ps_i s18 1131 29).toInt.toNat = 0 := ((w47 _).trans (if_pos rfl)).trans (by decide)
          have g4 := congrArg Int32.toInt ((w44 (ps_i s18 1131 29).toInt.toNat).trans (if_pos rfl))
          have a269 : ((ps_i s266 1131 29) - 1).toInt = (ps_i s266 1131 29).toInt - (1 : Int) := xIs (show -2147483648 ≤ (ps_i s266 1131 29).toInt - (1 : Int) from by omega) (show (ps_i s266 1131 29).toInt - (1 : Int) < 2147483648 from by omega)
          have e9 : Int32.toNatClampNeg ((ps_i s266 1131 29) - 1) = (ps_i s18 1131 29).toInt.toNat := nx (show ((ps_i s266 1131 29) - 1).toInt = (ps_i s18 1131 29).toInt from by omega)
          refine ps_nd_i (show pm_in ((ps_i s266 1131 29) - 1) 16 = true from xgi (show 0 ≤ ((ps_i s266 1131 29) - 1).toInt from by omega) (show ((ps_i s266 1131 29) - 1).toInt < 16 from by omega)) ?_
          have J270 := mwa_n 1146 (i := (Int32.toNatClampNeg ((ps_i s266 1131 29) - 1))) (v := (x3 &&& 1)) J266 rfl (by decide)
          have K271 := kpa' K267 (r := 1146) (i := (Int32.toNatClampNeg ((ps_i s266 1131 29) - 1))) (v := (x3 &&& 1)) rfl
          have g6 : ps_a (ps_ua s266 1146 (Int32.toNatClampNeg ((ps_i s266 1131 29) - 1)) (x3 &&& 1)) 1146 (ps_i s18 1131 29).toInt.toNat = (x3 &&& 1) := by rw [← e9]; exact ua_eq
          have g6l : ∀ i, i < (ps_i s18 1131 29).toInt.toNat → ps_a (ps_ua s266 1146 (Int32.toNatClampNeg ((ps_i s266 1131 29) - 1)) (x3 &&& 1)) 1146 i = ps_a s18 1146 i := fun i hi => (ua_ne (by omega)).trans ((w46 i).trans (if_neg (by omega)))
          have r272 := mf_8 J266
          have u273 : (ps_i s266 1131 8).toInt = (ps_i s18 1131 8).toInt := xeq (kp_i K266 8 rfl)
          have r274 := mf_4 J266
          have u275 : (ps_i s266 1131 4).toInt = (ps_i s18 1131 4).toInt := xeq (kp_i K266 4 rfl)
          have r276 := mf_5 J266
          have u277 : (ps_i s266 1131 5).toInt = (ps_i s18 1131 5).toInt := xeq (kp_i K266 5 rfl)
          have r278 := mf_5 J18
          have u279 : (ps_i s18 1131 5).toInt = (ps_i s12 1131 5).toInt := xeq (kp_i K18 5 rfl)
          have r280 := mf_5 J12
          have u281 : (ps_i s12 1131 5).toInt = (ps_i s 1131 5).toInt := xeq (kp_i K12 5 rfl)
          have u282 : (ps_i s266 1131 30).toInt = (ps_i s18 1131 30).toInt := xeq (kp_i K266 30 rfl)
          have u283 : (ps_i s18 1131 30).toInt = (ps_i s12 1131 30).toInt := xeq (kp_i K18 30 rfl)
          have u284 : (ps_i s12 1131 30).toInt = (ps_i s 1131 30).toInt := xeq (kp_i K12 30 rfl)
          have r285 := mf_31 J266
          have u286 : (ps_i s266 1131 31).toInt = (ps_i s18 1131 31).toInt := xeq (kp_i K266 31 rfl)
          have r287 := mf_31 J18
          have u288 : (ps_i s18 1131 31).toInt = (ps_i s12 1131 31).toInt := xeq (kp_i K18 31 rfl)
          have r289 := mf_31 J12
          have u290 : (ps_i s12 1131 31).toInt = ((ps_i s 1131 31) + x5).toInt := xeq (kp_i K12 31 rfl)
          exact k _ J270 K271 (show (ps_i s266 1131 8).toInt ≤ (ps_i s266 1131 4).toInt from by omega) (show 1 ≤ (ps_i s266 1131 5).toInt ∨ ((ps_i s266 1131 29).toInt ≤ 13 ∧ 0 ≤ (ps_i s266 1131 30).toInt ∧ (ps_i s266 1131 30).toInt ≤ 5 ∧ (ps_i s266 1131 31).toInt ≤ 40 ∧ (ps_i s0 1131 31).toInt < (ps_i s266 1131 31).toInt) from by omega) (show (ps_i s0 1131 31).toInt ≤ (ps_i s266 1131 31).toInt from by omega) ((by first | (exfalso; omega) | exact Or.inr ⟨_, hR2, (by
      have n1 : (ps_i s266 1131 29).toInt = (ps_i s18 1131 29).toInt + 1 := by omega
      rcases i11 with z | z
      · refine RQ_c hH (by omega) (by omega) (kS_push (g := ps_a (ps_ua s266 1146 (Int32.toNatClampNeg ((ps_i s266 1131 29) - 1)) (x3 &&& 1)) 1145 (ps_i s18 1131 29).toInt.toNat) ?_) ?_ g4 (g6.trans (by rw [show x3 = 0 from x0 z.1]; decide)) (show (ps_i s266 1131 30).toInt = (ps_i s18 1131 30).toInt + (if x2.toInt.toNat = 4 ∨ x2.toInt.toNat = 5 then 1 else 0) from by rw [if_neg (by omega)]; omega) ⟨fun _ => by omega, fun _ => g7⟩ (fun i hi => ⟨(w44 i).trans (if_neg (by omega)), (w45 i).trans (if_neg (by omega)), g6l i hi, (w47 i).trans (if_neg (by omega))⟩) n1 (show (ps_i s266 1131 31).toInt = ((ps_i s18 1131 31).toInt - x5.toInt) + 1 from by omega) (show (ps_i (ps_ua s266 1146 (Int32.toNatClampNeg ((ps_i s266 1131 29) - 1)) (x3 &&& 1)) 1131 32).toInt = (ps_i s18 1131 32).toInt from u32) (fun _ => by omega)
        · rcases hwv with q | q | q | q
          · omega
          · exact Or.inl ⟨by omega, q.2.2⟩
          · rcases g5 with g | g
            · exact Or.inr (Or.inl ⟨by omega, by omega, q.2.2.2, g.2⟩)
            · exact Or.inr (Or.inr (Or.inl ⟨by omega, q.2.2.2, g.2⟩))
          · rcases g5 with g | g
            · omega
            · exact Or.inr (Or.inr (Or.inr ⟨by omega, by omega, q.2.2.1, g.2⟩))
        · omega
      · exact RQ_not hH (by omega) (by omega) (by omega) (by rcases hwv with q | q | q | q; exact g4.trans q.2; omega; omega; omega) (by rcases g5 with g | g; exact g.2; omega) (by rw [g6, show x3 = 1 from xO1 z.1]; decide) (show (ps_i s266 1131 30).toInt = (ps_i s18 1131 30).toInt from by omega) g7 (fun i hi => ⟨(w44 i).trans (if_neg (by omega)), (w45 i).trans (if_neg (by omega)), g6l i hi, (w47 i).trans (if_neg (by omega))⟩) n1 (show (ps_i s266 1131 31).toInt = ((ps_i s18 1131 31).toInt - x5.toInt) + 2 from by omega) (show (ps_i (ps_ua s266 1146 (Int32.toNatClampNeg ((ps_i s266 1131 29) - 1)) (x3 &&& 1)) 1131 32).toInt = (ps_i s18 1131 32).toInt from u32))⟩)) (hO)
    · have f291 : x4.toInt ≠ (0 : Int) := xne h23
      refine ms_208 J18  (fun v292 b292 => ?_)
      refine And.intro (fun h293 => ?_) (fun h293 => ?_)
      · have f294 : v292.toInt ≠ (0 : Int) := xne h293
        have r295 := mf_29 J18
        have u296 : (ps_i s18 1131 29).toInt = (ps_i s12 1131 29).toInt := xeq (kp_i K18 29 rfl)
        have r297 := mf_29 J12
        have u298 : (ps_i s12 1131 29).toInt = (ps_i s 1131 29).toInt := xeq (kp_i K12 29 rfl)
        have u299 : (ps_i s18 1131 30).toInt = (ps_i s12 1131 30).toInt := xeq (kp_i K18 30 rfl)
        have u300 : (ps_i s12 1131 30).toInt = (ps_i s 1131 30).toInt := xeq (kp_i K12 30 rfl)
        have r301 := mf_31 J18
        have u302 : (ps_i s18 1131 31).toInt = (ps_i s12 1131 31).toInt := xeq (kp_i K18 31 rfl)
        have r303 := mf_31 J12
        have u304 : (ps_i s12 1131 31).toInt = ((ps_i s 1131 31) + x5).toInt := xeq (kp_i K12 31 rfl)
        exact ms_214_133 (x1 := x1) (σ := σ) (l := l) (b := b) k  x2.toInt.toNat _ J18 K19 hS2 (hR2) (RH_cnt hH (by omega)) ((by omega)) hO (show (ps_i s18 1131 8).toInt ≤ (ps_i s18 1131 4).toInt from by omega) (show (ps_i s18 1131 29).toInt ≤ 12 from by omega) (show 0 ≤ (ps_i s18 1131 30).toInt from by omega) (show (ps_i s18 1131 30).toInt ≤ 4 from by omega) (show (ps_i s18 1131 31).toInt ≤ 40 from by omega) (show (ps_i s0 1131 31).toInt < (ps_i s18 1131 31).toInt from by omega)
      · have f305 : v292.toInt = (0 : Int) := xeq h293
        refine ms_196 J18  (fun s306 J306 K306 p306_0 => ?_)
        have K307 := kpt K19 K306 rfl rfl
        have KC := K306
        have hS2 : Sg (ps_a s306 1135) (ps_a s306 1136) (ps_a s306 1138) (ps_a s306 1139) (ps_i s306 1131 22).toInt σ := by rw [show ps_a s306 1135 = ps_a s18 1135 from (K306.2 1135 rfl).1, show ps_a s306 1136 = ps_a s18 1136 from (K306.2 1136 rfl).1, show ps_a s306 1138 = ps_a s18 1138 from (K306.2 1138 rfl).1, show ps_a s306 1139 = ps_a s18 1139 from (K306.2 1139 rfl).1, show ps_i s306 1131 22 = ps_i s18 1131 22 from kp_i K306 22 rfl]; exact hS2
        have hH : RH σ (ps_a s306 1144) (ps_a s306 1145) (ps_a s306 1146) (ps_a s306 1147) (ps_i s306 1131 29).toInt (ps_i s306 1131 30).toInt ((ps_i s306 1131 31).toInt - x5.toInt) (ps_i s306 1131 32).toInt (l) b true := by rw [show ps_a s306 1144 = ps_a s18 1144 from (K306.2 1144 rfl).1, show ps_a s306 1145 = ps_a s18 1145 from (K306.2 1145 rfl).1, show ps_a s306 1146 = ps_a s18 1146 from (K306.2 1146 rfl).1, show ps_a s306 1147 = ps_a s18 1147 from (K306.2 1147 rfl).1, show ps_i s306 1131 29 = ps_i s18 1131 29 from kp_i K306 29 rfl, show ps_i s306 1131 30 = ps_i s18 1131 30 from kp_i K306 30 rfl, show ps_i s306 1131 31 = ps_i s18 1131 31 from kp_i K306 31 rfl, show ps_i s306 1131 32 = ps_i s18 1131 32 from kp_i K306 32 rfl]; exact hH
        have hR2 : Rw (ps_a s306 1134) x1.toInt (l ++ [x2.toInt.toNat]) := by rw [show ps_a s306 1134 = ps_a s18 1134 from (K306.2 1134 rfl).1]; exact hR2
        have hO : ∀ i : Nat, (i : Int) < x1.toInt ∨ x1.toInt + 41 ≤ (i : Int) → ps_a s306 1134 i = ps_a s0 1134 i := by rw [show ps_a s306 1134 = ps_a s18 1134 from (K306.2 1134 rfl).1]; exact hO
        have p306_0' : 1 ≤ (ps_i s306 1131 5).toInt := p306_0
        have r308 := mf_5 J306
        have r309 := mf_8 J306
        have u310 : (ps_i s306 1131 8).toInt = (ps_i s18 1131 8).toInt := xeq (kp_i K306 8 rfl)
        have r311 := mf_4 J306
        have u312 : (ps_i s306 1131 4).toInt = (ps_i s18 1131 4).toInt := xeq (kp_i K306 4 rfl)
        have r313 := mf_29 J306
        have u314 : (ps_i s306 1131 29).toInt = (ps_i s18 1131 29).toInt := xeq (kp_i K306 29 rfl)
        have r315 := mf_29 J18
        have u316 : (ps_i s18 1131 29).toInt = (ps_i s12 1131 29).toInt := xeq (kp_i K18 29 rfl)
        have r317 := mf_29 J12
        have u318 : (ps_i s12 1131 29).toInt = (ps_i s 1131 29).toInt := xeq (kp_i K12 29 rfl)
        have u319 : (ps_i s306 1131 30).toInt = (ps_i s18 1131 30).toInt := xeq (kp_i K306 30 rfl)
        have u320 : (ps_i s18 1131 30).toInt = (ps_i s12 1131 30).toInt := xeq (kp_i K18 30 rfl)
        have u321 : (ps_i s12 1131 30).toInt = (ps_i s 1131 30).toInt := xeq (kp_i K12 30 rfl)
        have r322 := mf_31 J306
        have u323 : (ps_i s306 1131 31).toInt = (ps_i s18 1131 31).toInt := xeq (kp_i K306 31 rfl)
        have r324 := mf_31 J18
        have u325 : (ps_i s18 1131 31).toInt = (ps_i s12 1131 31).toInt := xeq (kp_i K18 31 rfl)
        have r326 := mf_31 J12
        have u327 : (ps_i s12 1131 31).toInt = ((ps_i s 1131 31) + x5).toInt := xeq (kp_i K12 31 rfl)
        exact ms_214_133 (x1 := x1) (σ := σ) (l := l) (b := b) k  x2.toInt.toNat _ J306 K307 hS2 (hR2) (RH_cnt hH (by omega)) ((by omega)) hO (show (ps_i s306 1131 8).toInt ≤ (ps_i s306 1131 4).toInt from by omega) (show (ps_i s306 1131 29).toInt ≤ 12 from by omega) (show 0 ≤ (ps_i s306 1131 30).toInt from by omega) (show (ps_i s306 1131 30).toInt ≤ 4 from by omega) (show (ps_i s306 1131 31).toInt ≤ 40 from by omega) (show (ps_i s0 1131 31).toInt < (ps_i s306 1131 31).toInt from by omega)
  · have f328 : v6.toInt = (0 : Int) := xeq h7
    have qz328 : 1 ≤ (ps_i s 1131 5).toInt := by omega
    clear p6_0' p6_0
    exact k _ J K (show (ps_i s 1131 8).toInt ≤ (ps_i s 1131 4).toInt from by omega) (show 1 ≤ (ps_i s 1131 5).toInt ∨ ((ps_i s 1131 29).toInt ≤ 13 ∧ 0 ≤ (ps_i s 1131 30).toInt ∧ (ps_i s 1131 30).toInt ≤ 5 ∧ (ps_i s 1131 31).toInt ≤ 40 ∧ (ps_i s0 1131 31).toInt < (ps_i s 1131 31).toInt) from by omega) (show (ps_i s0 1131 31).toInt ≤ (ps_i s 1131 31).toInt from by omega) (Or.inl (show 1 ≤ (ps_i s 1131 5).toInt from by omega)) (hO)

theorem ms_214_84 {x : Nat → Nat → Nat} {t : Int32} {d : Nat} {s0 : ps_S} {σ : mSig} {l : List Nat} {b : Bool} {x1 : Int32} {Q : Option Value → ps_S → Prop} (k : ∀ (s' : ps_S), mJ x t s' → kp [1134, 1144, 1145, 1146, 1147, 1148] [5, 6, 7, 8, 9, 10, 11, 29, 30, 31] s0 s' → ((ps_i s' 1131 8).toInt ≤ (ps_i s' 1131 4).toInt) → (1 ≤ (ps_i s' 1131 5).toInt ∨ ((ps_i s' 1131 29).toInt ≤ 13 ∧ 0 ≤ (ps_i s' 1131 30).toInt ∧ (ps_i s' 1131 30).toInt ≤ 5 ∧ (ps_i s' 1131 31).toInt ≤ 40 ∧ (ps_i s0 1131 31).toInt < (ps_i s' 1131 31).toInt)) → ((ps_i s0 1131 31).toInt ≤ (ps_i s' 1131 31).toInt) → (1 ≤ (ps_i s' 1131 5).toInt ∨ ∃ l2, Rw (ps_a s' 1134) x1.toInt l2 ∧ RQ σ (ps_a s' 1144) (ps_a s' 1145) (ps_a s' 1146) (ps_a s' 1147) (ps_i s' 1131 29).toInt (ps_i s' 1131 30).toInt (ps_i s' 1131 31).toInt (ps_i s' 1131 32).toInt l2 b) → (∀ i : Nat, (i : Int) < x1.toInt ∨ x1.toInt + 41 ≤ (i : Int) → ps_a s' 1134 i = ps_a s0 1134 i) → Q none s') (x2 : Int32) (x3 : Int32) (x4 : Int32) (x5 : Int32) (s : ps_S) (J : mJ x t s) (K : kp [1134, 1144, 1145, 1146, 1147, 1148] [5, 6, 7, 8, 9, 10, 11, 29, 30, 31] s0 s) (hS2 : Sg (ps_a s 1135) (ps_a s 1136) (ps_a s 1138) (ps_a s 1139) (ps_i s 1131 22).toInt σ) (hR : Rw (ps_a s 1134) x1.toInt (l)) (hH0 : RH σ (ps_a s 1144) (ps_a s 1145) (ps_a s 1146) (ps_a s 1147) (ps_i s 1131 29).toInt (ps_i s 1131 30).toInt (ps_i s 1131 31).toInt (ps_i s 1131 32).toInt (l) b true) (hO : ∀ i : Nat, (i : Int) < x1.toInt ∨ x1.toInt + 41 ≤ (i : Int) → ps_a s 1134 i = ps_a s0 1134 i) (i4 : (ps_i s 1131 8).toInt ≤ (ps_i s 1131 4).toInt) (i5 : (ps_i s 1131 29).toInt ≤ 13) (i6 : 0 ≤ (ps_i s 1131 30).toInt) (i7 : (ps_i s 1131 30).toInt ≤ 5) (i8 : (ps_i s 1131 31).toInt ≤ 40) (i9 : (ps_i s 1131 31).toInt = (ps_i s0 1131 31).toInt) (i10 : x2.toInt = -1 ∨ (0 ≤ x2.toInt ∧ x2.toInt ≤ 6) ∨ (10 ≤ x2.toInt ∧ x2.toInt < 10 + (σ.1.1 : Int))) (i11 : (x3.toInt = 0 ∧ x5.toInt = 1) ∨ (x3.toInt = 1 ∧ x2.toInt = 3 ∧ x5.toInt = 2)) (i12 : (x4.toInt = 1 ∧ (x2.toInt = 4 ∨ x2.toInt = 5)) ∨ (x4.toInt = 0 ∧ x2.toInt ≠ 4 ∧ x2.toInt ≠ 5)) (i13 : (ps_i s 1131 5).toInt = 0) : ps_At (d + 2) 214 84 [(0, .ref 1131), (1, .int x1), (2, .int x2), (3, .int x3), (4, .int x4), (5, .int x5)] [] s Q := by
  have r1 := mf_8 J
  have r2 := mf_4 J
  have r3 := mf_29 J
  have r4 := mf_31 J
  have r5 := mf_5 J
  refine pg_214_84 (d := d + 1) ?_
  refine ms_196 J  (fun s6 J6 K6 p6_0 => ?_)
  have K7 := kpt K K6 rfl rfl
  have KC := K6
  have hS2 : Sg (ps_a s6 1135) (ps_a s6 1136) (ps_a s6 1138) (ps_a s6 1139) (ps_i s6 1131 22).toInt σ := by rw [show ps_a s6 1135 = ps_a s 1135 from (K6.2 1135 rfl).1, show ps_a s6 1136 = ps_a s 1136 from (K6.2 1136 rfl).1, show ps_a s6 1138 = ps_a s 1138 from (K6.2 1138 rfl).1, show ps_a s6 1139 = ps_a s 1139 from (K6.2 1139 rfl).1, show ps_i s6 1131 22 = ps_i s 1131 22 from kp_i K6 22 rfl]; exact hS2
  have hR : Rw (ps_a s6 1134) x1.toInt (l) := by rw [show ps_a s6 1134 = ps_a s 1134 from (K6.2 1134 rfl).1]; exact hR
  have hH0 : RH σ (ps_a s6 1144) (ps_a s6 1145) (ps_a s6 1146) (ps_a s6 1147) (ps_i s6 1131 29).toInt (ps_i s6 1131 30).toInt (ps_i s6 1131 31).toInt (ps_i s6 1131 32).toInt (l) b true := by rw [show ps_a s6 1144 = ps_a s 1144 from (K6.2 1144 rfl).1, show ps_a s6 1145 = ps_a s 1145 from (K6.2 1145 rfl).1, show ps_a s6 1146 = ps_a s 1146 from (K6.2 1146 rfl).1, show ps_a s6 1147 = ps_a s 1147 from (K6.2 1147 rfl).1, show ps_i s6 1131 29 = ps_i s 1131 29 from kp_i K6 29 rfl, show ps_i s6 1131 30 = ps_i s 1131 30 from kp_i K6 30 rfl, show ps_i s6 1131 31 = ps_i s 1131 31 from kp_i K6 31 rfl, show ps_i s6 1131 32 = ps_i s 1131 32 from kp_i K6 32 rfl]; exact hH0
  have hO : ∀ i : Nat, (i : Int) < x1.toInt ∨ x1.toInt + 41 ≤ (i : Int) → ps_a s6 1134 i = ps_a s0 1134 i := by rw [show ps_a s6 1134 = ps_a s 1134 from (K6.2 1134 rfl).1]; exact hO
  have p6_0' : 1 ≤ (ps_i s6 1131 5).toInt := p6_0
  have r8 := mf_5 J6
  have r9 := mf_8 J6
  have u10 : (ps_i s6 1131 8).toInt = (ps_i s 1131 8).toInt := xeq (kp_i K6 8 rfl)
  have r11 := mf_4 J6
  have u12 : (ps_i s6 1131 4).toInt = (ps_i s 1131 4).toInt := xeq (kp_i K6 4 rfl)
  have r13 := mf_29 J6
  have u14 : (ps_i s6 1131 29).toInt = (ps_i s 1131 29).toInt := xeq (kp_i K6 29 rfl)
  have u15 : (ps_i s6 1131 30).toInt = (ps_i s 1131 30).toInt := xeq (kp_i K6 30 rfl)
  have r16 := mf_31 J6
  have u17 : (ps_i s6 1131 31).toInt = (ps_i s 1131 31).toInt := xeq (kp_i K6 31 rfl)
  exact ms_214_88 (x1 := x1) (σ := σ) (l := l) (b := b) k  x2 x3 x4 x5 _ J6 K7 hS2 hR hH0 hO (show (ps_i s6 1131 8).toInt ≤ (ps_i s6 1131 4).toInt from by omega) (show (ps_i s6 1131 29).toInt ≤ 13 from by omega) (show 0 ≤ (ps_i s6 1131 30).toInt from by omega) (show (ps_i s6 1131 30).toInt ≤ 5 from by omega) (show (ps_i s6 1131 31).toInt ≤ 40 from by omega) (show (ps_i s6 1131 31).toInt = (ps_i s0 1131 31).toInt from by omega) (show x2.toInt = -1 ∨ (0 ≤ x2.toInt ∧ x2.toInt ≤ 6) ∨ (10 ≤ x2.toInt ∧ x2.toInt < 10 + (σ.1.1 : Int)) from by omega) (show (x3.toInt = 0 ∧ x5.toInt = 1) ∨ (x3.toInt = 1 ∧ x2.toInt = 3 ∧ x5.toInt = 2) from by omega) (show (x4.toInt = 1 ∧ (x2.toInt = 4 ∨ x2.toInt = 5)) ∨ (x4.toInt = 0 ∧ x2.toInt ≠ 4 ∧ x2.toInt ≠ 5) from by omega) (show 1 ≤ (ps_i s6 1131 5).toInt ∨ (0 ≤ x2.toInt ∧ (ps_i s6 1131 31).toInt + x5.toInt ≤ 40 ∧ (ps_i s6 1131 29).toInt + x5.toInt ≤ 13 ∧ (x4.toInt = 0 ∨ (ps_i s6 1131 30).toInt ≤ 4)) from by omega)

theorem ms_214_23 {x : Nat → Nat → Nat} {t : Int32} {d : Nat} {s0 : ps_S} {σ : mSig} {l : List Nat} {b : Bool} {x1 : Int32} {Q : Option Value → ps_S → Prop} (k : ∀ (s' : ps_S), mJ x t s' → kp [1134, 1144, 1145, 1146, 1147, 1148] [5, 6, 7, 8, 9, 10, 11, 29, 30, 31] s0 s' → ((ps_i s' 1131 8).toInt ≤ (ps_i s' 1131 4).toInt) → (1 ≤ (ps_i s' 1131 5).toInt ∨ ((ps_i s' 1131 29).toInt ≤ 13 ∧ 0 ≤ (ps_i s' 1131 30).toInt ∧ (ps_i s' 1131 30).toInt ≤ 5 ∧ (ps_i s' 1131 31).toInt ≤ 40 ∧ (ps_i s0 1131 31).toInt < (ps_i s' 1131 31).toInt)) → ((ps_i s0 1131 31).toInt ≤ (ps_i s' 1131 31).toInt) → (1 ≤ (ps_i s' 1131 5).toInt ∨ ∃ l2, Rw (ps_a s' 1134) x1.toInt l2 ∧ RQ σ (ps_a s' 1144) (ps_a s' 1145) (ps_a s' 1146) (ps_a s' 1147) (ps_i s' 1131 29).toInt (ps_i s' 1131 30).toInt (ps_i s' 1131 31).toInt (ps_i s' 1131 32).toInt l2 b) → (∀ i : Nat, (i : Int) < x1.toInt ∨ x1.toInt + 41 ≤ (i : Int) → ps_a s' 1134 i = ps_a s0 1134 i) → Q none s') (x2 : Int32) (x3 : Int32) (s : ps_S) (J : mJ x t s) (K : kp [1134, 1144, 1145, 1146, 1147, 1148] [5, 6, 7, 8, 9, 10, 11, 29, 30, 31] s0 s) (hS2 : Sg (ps_a s 1135) (ps_a s 1136) (ps_a s 1138) (ps_a s 1139) (ps_i s 1131 22).toInt σ) (hR : Rw (ps_a s 1134) x1.toInt (l)) (hH0 : RH σ (ps_a s 1144) (ps_a s 1145) (ps_a s 1146) (ps_a s 1147) (ps_i s 1131 29).toInt (ps_i s 1131 30).toInt (ps_i s 1131 31).toInt (ps_i s 1131 32).toInt (l) b true) (hO : ∀ i : Nat, (i : Int) < x1.toInt ∨ x1.toInt + 41 ≤ (i : Int) → ps_a s 1134 i = ps_a s0 1134 i) (i4 : (ps_i s 1131 8).toInt ≤ (ps_i s 1131 4).toInt) (i5 : (ps_i s 1131 29).toInt ≤ 13) (i6 : 0 ≤ (ps_i s 1131 30).toInt) (i7 : (ps_i s 1131 30).toInt ≤ 5) (i8 : (ps_i s 1131 31).toInt ≤ 40) (i9 : (ps_i s 1131 31).toInt = (ps_i s0 1131 31).toInt) (i10 : x2.toInt = -1 ∨ (0 ≤ x2.toInt ∧ x2.toInt ≤ 6) ∨ (10 ≤ x2.toInt ∧ x2.toInt < 10 + (σ.1.1 : Int))) (i11 : (ps_i s 1131 5).toInt = 0) (i12 : x2.toInt = 4 ∨ x2.toInt = 5) (i13 : x3.toInt = 0) : ps_At (d + 2) 214 23 [(0, .ref 1131), (1, .int x1), (2, .int x2), (3, .int x3)] [] s Q := by
  have r1 := mf_8 J
  have r2 := mf_4 J
  have r3 := mf_29 J
  have r4 := mf_31 J
  have r5 := mf_5 J
  refine pg_214_23 (d := d + 1) ?_
  refine And.intro (fun h6 => ?_) (fun h6 => ?_)
  · have f7 : x3.toInt = (0 : Int) := xeq h6
    refine And.intro (fun h8 => ?_) (fun h8 => ?_)
    · have f9 : x2.toInt < (0 : Int) := xlt h8
      exact ms_214_84 (x1 := x1) (σ := σ) (l := l) (b := b) k  x2 x3 (1) (1) _ J K hS2 hR hH0 hO (show (ps_i s 1131 8).toInt ≤ (ps_i s 1131 4).toInt from by omega) (show (ps_i s 1131 29).toInt ≤ 13 from by omega) (show 0 ≤ (ps_i s 1131 30).toInt from by omega) (show (ps_i s 1131 30).toInt ≤ 5 from by omega) (show (ps_i s 1131 31).toInt ≤ 40 from by omega) (show (ps_i s 1131 31).toInt = (ps_i s0 1131 31).toInt from by omega) (show x2.toInt = -1 ∨ (0 ≤ x2.toInt ∧ x2.toInt ≤ 6) ∨ (10 ≤ x2.toInt ∧ x2.toInt < 10 + (σ.1.1 : Int)) from by omega) (show (x3.toInt = 0 ∧ (1 : Int) = 1) ∨ (x3.toInt = 1 ∧ x2.toInt = 3 ∧ (1 : Int) = 2) from by omega) (show ((1 : Int) = 1 ∧ (x2.toInt = 4 ∨ x2.toInt = 5)) ∨ ((1 : Int) = 0 ∧ x2.toInt ≠ 4 ∧ x2.toInt ≠ 5) from by omega) (show (ps_i s 1131 5).toInt = 0 from by omega)
    · have f10 : (0 : Int) ≤ x2.toInt := xle h8
      have a11 : ((ps_i s 1131 31) + 1).toInt = (ps_i s 1131 31).toInt + (1 : Int) := xIa (show -2147483648 ≤ (ps_i s 1131 31).toInt + (1 : Int) from by omega) (show (ps_i s 1131 31).toInt + (1 : Int) < 2147483648 from by omega)
      refine And.intro (fun h12 => ?_) (fun h12 => ?_)
      · have f13 : (40 : Int) < ((ps_i s 1131 31) + 1).toInt := xlt h12
        exact ms_214_84 (x1 := x1) (σ := σ) (l := l) (b := b) k  x2 x3 (1) (1) _ J K hS2 hR hH0 hO (show (ps_i s 1131 8).toInt ≤ (ps_i s 1131 4).toInt from by omega) (show (ps_i s 1131 29).toInt ≤ 13 from by omega) (show 0 ≤ (ps_i s 1131 30).toInt from by omega) (show (ps_i s 1131 30).toInt ≤ 5 from by omega) (show (ps_i s 1131 31).toInt ≤ 40 from by omega) (show (ps_i s 1131 31).toInt = (ps_i s0 1131 31).toInt from by omega) (show x2.toInt = -1 ∨ (0 ≤ x2.toInt ∧ x2.toInt ≤ 6) ∨ (10 ≤ x2.toInt ∧ x2.toInt < 10 + (σ.1.1 : Int)) from by omega) (show (x3.toInt = 0 ∧ (1 : Int) = 1) ∨ (x3.toInt = 1 ∧ x2.toInt = 3 ∧ (1 : Int) = 2) from by omega) (show ((1 : Int) = 1 ∧ (x2.toInt = 4 ∨ x2.toInt = 5)) ∨ ((1 : Int) = 0 ∧ x2.toInt ≠ 4 ∧ x2.toInt ≠ 5) from by omega) (show (ps_i s 1131 5).toInt = 0 from by omega)
      · have f14 : ((ps_i s 1131 31) + 1).toInt ≤ (40 : Int) := xle h12
        have a15 : ((ps_i s 1131 29) + 1).toInt = (ps_i s 1131 29).toInt + (1 : Int) := xIa (show -2147483648 ≤ (ps_i s 1131 29).toInt + (1 : Int) from by omega) (show (ps_i s 1131 29).toInt + (1 : Int) < 2147483648 from by omega)
        have a16 : (((ps_i s 1131 29) + 1) - 1).toInt = ((ps_i s 1131 29) + 1).toInt - (1 : Int) := xIs (show -2147483648 ≤ ((ps_i s 1131 29) + 1).toInt - (1 : Int) from by omega) (show ((ps_i s 1131 29) + 1).toInt - (1 : Int) < 2147483648 from by omega)
        refine And.intro (fun h17 => ?_) (fun h17 => ?_)
        · have f18 : (12 : Int) < (((ps_i s 1131 29) + 1) - 1).toInt := xlt h17
          exact ms_214_84 (x1 := x1) (σ := σ) (l := l) (b := b) k  x2 x3 (1) (1) _ J K hS2 hR hH0 hO (show (ps_i s 1131 8).toInt ≤ (ps_i s 1131 4).toInt from by omega) (show (ps_i s 1131 29).toInt ≤ 13 from by omega) (show 0 ≤ (ps_i s 1131 30).toInt from by omega) (show (ps_i s 1131 30).toInt ≤ 5 from by omega) (show (ps_i s 1131 31).toInt ≤ 40 from by omega) (show (ps_i s 1131 31).toInt = (ps_i s0 1131 31).toInt from by omega) (show x2.toInt = -1 ∨ (0 ≤ x2.toInt ∧ x2.toInt ≤ 6) ∨ (10 ≤ x2.toInt ∧ x2.toInt < 10 + (σ.1.1 : Int)) from by omega) (show (x3.toInt = 0 ∧ (1 : Int) = 1) ∨ (x3.toInt = 1 ∧ x2.toInt = 3 ∧ (1 : Int) = 2) from by omega) (show ((1 : Int) = 1 ∧ (x2.toInt = 4 ∨ x2.toInt = 5)) ∨ ((1 : Int) = 0 ∧ x2.toInt ≠ 4 ∧ x2.toInt ≠ 5) from by omega) (show (ps_i s 1131 5).toInt = 0 from by omega)
        · have f19 : (((ps_i s 1131 29) + 1) - 1).toInt ≤ (12 : Int) := xle h17
          refine And.intro (fun h20 => ?_) (fun h20 => ?_)
          · exact absurd (show (1 : Int32) = (0 : Int32) from h20) (by decide)
          · have f21 : (1 : Int) ≠ (0 : Int) := xne h20
            refine And.intro (fun h22 => ?_) (fun h22 => ?_)
            · have f23 : (ps_i s 1131 30).toInt ≤ (4 : Int) := xle h22
              exact ms_214_88 (x1 := x1) (σ := σ) (l := l) (b := b) k  x2 x3 (1) (1) _ J K hS2 hR hH0 hO (show (ps_i s 1131 8).toInt ≤ (ps_i s 1131 4).toInt from by omega) (show (ps_i s 1131 29).toInt ≤ 13 from by omega) (show 0 ≤ (ps_i s 1131 30).toInt from by omega) (show (ps_i s 1131 30).toInt ≤ 5 from by omega) (show (ps_i s 1131 31).toInt ≤ 40 from by omega) (show (ps_i s 1131 31).toInt = (ps_i s0 1131 31).toInt from by omega) (show x2.toInt = -1 ∨ (0 ≤ x2.toInt ∧ x2.toInt ≤ 6) ∨ (10 ≤ x2.toInt ∧ x2.toInt < 10 + (σ.1.1 : Int)) from by omega) (show (x3.toInt = 0 ∧ (1 : Int) = 1) ∨ (x3.toInt = 1 ∧ x2.toInt = 3 ∧ (1 : Int) = 2) from by omega) (show ((1 : Int) = 1 ∧ (x2.toInt = 4 ∨ x2.toInt = 5)) ∨ ((1 : Int) = 0 ∧ x2.toInt ≠ 4 ∧ x2.toInt ≠ 5) from by omega) (show 1 ≤ (ps_i s 1131 5).toInt ∨ (0 ≤ x2.toInt ∧ (ps_i s 1131 31).toInt + (1 : Int) ≤ 40 ∧ (ps_i s 1131 29).toInt + (1 : Int) ≤ 13 ∧ ((1 : Int) = 0 ∨ (ps_i s 1131 30).toInt ≤ 4)) from by omega)
            · have f24 : (4 : Int) < (ps_i s 1131 30).toInt := xlt h22
              exact ms_214_84 (x1 := x1) (σ := σ) (l := l) (b := b) k  x2 x3 (1) (1) _ J K hS2 hR hH0 hO (show (ps_i s 1131 8).toInt ≤ (ps_i s 1131 4).toInt from by omega) (show (ps_i s 1131 29).toInt ≤ 13 from by omega) (show 0 ≤ (ps_i s 1131 30).toInt from by omega) (show (ps_i s 1131 30).toInt ≤ 5 from by omega) (show (ps_i s 1131 31).toInt ≤ 40 from by omega) (show (ps_i s 1131 31).toInt = (ps_i s0 1131 31).toInt from by omega) (show x2.toInt = -1 ∨ (0 ≤ x2.toInt ∧ x2.toInt ≤ 6) ∨ (10 ≤ x2.toInt ∧ x2.toInt < 10 + (σ.1.1 : Int)) from by omega) (show (x3.toInt = 0 ∧ (1 : Int) = 1) ∨ (x3.toInt = 1 ∧ x2.toInt = 3 ∧ (1 : Int) = 2) from by omega) (show ((1 : Int) = 1 ∧ (x2.toInt = 4 ∨ x2.toInt = 5)) ∨ ((1 : Int) = 0 ∧ x2.toInt ≠ 4 ∧ x2.toInt ≠ 5) from by omega) (show (ps_i s 1131 5).toInt = 0 from by omega)
  · have f25 : x3.toInt ≠ (0 : Int) := xne h6
    refine And.intro (fun h26 => ?_) (fun h26 => ?_)
    · have f27 : x2.toInt < (0 : Int) := xlt h26
      exact ms_214_84 (x1 := x1) (σ := σ) (l := l) (b := b) k  x2 x3 (1) (2) _ J K hS2 hR hH0 hO (show (ps_i s 1131 8).toInt ≤ (ps_i s 1131 4).toInt from by omega) (show (ps_i s 1131 29).toInt ≤ 13 from by omega) (show 0 ≤ (ps_i s 1131 30).toInt from by omega) (show (ps_i s 1131 30).toInt ≤ 5 from by omega) (show (ps_i s 1131 31).toInt ≤ 40 from by omega) (show (ps_i s 1131 31).toInt = (ps_i s0 1131 31).toInt from by omega) (show x2.toInt = -1 ∨ (0 ≤ x2.toInt ∧ x2.toInt ≤ 6) ∨ (10 ≤ x2.toInt ∧ x2.toInt < 10 + (σ.1.1 : Int)) from by omega) (show (x3.toInt = 0 ∧ (2 : Int) = 1) ∨ (x3.toInt = 1 ∧ x2.toInt = 3 ∧ (2 : Int) = 2) from by omega) (show ((1 : Int) = 1 ∧ (x2.toInt = 4 ∨ x2.toInt = 5)) ∨ ((1 : Int) = 0 ∧ x2.toInt ≠ 4 ∧ x2.toInt ≠ 5) from by omega) (show (ps_i s 1131 5).toInt = 0 from by omega)
    · have f28 : (0 : Int) ≤ x2.toInt := xle h26
      have a29 : ((ps_i s 1131 31) + 2).toInt = (ps_i s 1131 31).toInt + (2 : Int) := xIa (show -2147483648 ≤ (ps_i s 1131 31).toInt + (2 : Int) from by omega) (show (ps_i s 1131 31).toInt + (2 : Int) < 2147483648 from by omega)
      refine And.intro (fun h30 => ?_) (fun h30 => ?_)
      · have f31 : (40 : Int) < ((ps_i s 1131 31) + 2).toInt := xlt h30
        exact ms_214_84 (x1 := x1) (σ := σ) (l := l) (b := b) k  x2 x3 (1) (2) _ J K hS2 hR hH0 hO (show (ps_i s 1131 8).toInt ≤ (ps_i s 1131 4).toInt from by omega) (show (ps_i s 1131 29).toInt ≤ 13 from by omega) (show 0 ≤ (ps_i s 1131 30).toInt from by omega) (show (ps_i s 1131 30).toInt ≤ 5 from by omega) (show (ps_i s 1131 31).toInt ≤ 40 from by omega) (show (ps_i s 1131 31).toInt = (ps_i s0 1131 31).toInt from by omega) (show x2.toInt = -1 ∨ (0 ≤ x2.toInt ∧ x2.toInt ≤ 6) ∨ (10 ≤ x2.toInt ∧ x2.toInt < 10 + (σ.1.1 : Int)) from by omega) (show (x3.toInt = 0 ∧ (2 : Int) = 1) ∨ (x3.toInt = 1 ∧ x2.toInt = 3 ∧ (2 : Int) = 2) from by omega) (show ((1 : Int) = 1 ∧ (x2.toInt = 4 ∨ x2.toInt = 5)) ∨ ((1 : Int) = 0 ∧ x2.toInt ≠ 4 ∧ x2.toInt ≠ 5) from by omega) (show (ps_i s 1131 5).toInt = 0 from by omega)
      · have f32 : ((ps_i s 1131 31) + 2).toInt ≤ (40 : Int) := xle h30
        have a33 : ((ps_i s 1131 29) + 2).toInt = (ps_i s 1131 29).toInt + (2 : Int) := xIa (show -2147483648 ≤ (ps_i s 1131 29).toInt + (2 : Int) from by omega) (show (ps_i s 1131 29).toInt + (2 : Int) < 2147483648 from by omega)
        have a34 : (((ps_i s 1131 29) + 2) - 1).toInt = ((ps_i s 1131 29) + 2).toInt - (1 : Int) := xIs (show -2147483648 ≤ ((ps_i s 1131 29) + 2).toInt - (1 : Int) from by omega) (show ((ps_i s 1131 29) + 2).toInt - (1 : Int) < 2147483648 from by omega)
        refine And.intro (fun h35 => ?_) (fun h35 => ?_)
        · have f36 : (12 : Int) < (((ps_i s 1131 29) + 2) - 1).toInt := xlt h35
          exact ms_214_84 (x1 := x1) (σ := σ) (l := l) (b := b) k  x2 x3 (1) (2) _ J K hS2 hR hH0 hO (show (ps_i s 1131 8).toInt ≤ (ps_i s 1131 4).toInt from by omega) (show (ps_i s 1131 29).toInt ≤ 13 from by omega) (show 0 ≤ (ps_i s 1131 30).toInt from by omega) (show (ps_i s 1131 30).toInt ≤ 5 from by omega) (show (ps_i s 1131 31).toInt ≤ 40 from by omega) (show (ps_i s 1131 31).toInt = (ps_i s0 1131 31).toInt from by omega) (show x2.toInt = -1 ∨ (0 ≤ x2.toInt ∧ x2.toInt ≤ 6) ∨ (10 ≤ x2.toInt ∧ x2.toInt < 10 + (σ.1.1 : Int)) from by omega) (show (x3.toInt = 0 ∧ (2 : Int) = 1) ∨ (x3.toInt = 1 ∧ x2.toInt = 3 ∧ (2 : Int) = 2) from by omega) (show ((1 : Int) = 1 ∧ (x2.toInt = 4 ∨ x2.toInt = 5)) ∨ ((1 : Int) = 0 ∧ x2.toInt ≠ 4 ∧ x2.toInt ≠ 5) from by omega) (show (ps_i s 1131 5).toInt = 0 from by omega)
        · have f37 : (((ps_i s 1131 29) + 2) - 1).toInt ≤ (12 : Int) := xle h35
          refine And.intro (fun h38 => ?_) (fun h38 => ?_)
          · exact absurd (show (1 : Int32) = (0 : Int32) from h38) (by decide)
          · have f39 : (1 : Int) ≠ (0 : Int) := xne h38
            refine And.intro (fun h40 => ?_) (fun h40 => ?_)
            · have f41 : (ps_i s 1131 30).toInt ≤ (4 : Int) := xle h40
              exact ms_214_88 (x1 := x1) (σ := σ) (l := l) (b := b) k  x2 x3 (1) (2) _ J K hS2 hR hH0 hO (show (ps_i s 1131 8).toInt ≤ (ps_i s 1131 4).toInt from by omega) (show (ps_i s 1131 29).toInt ≤ 13 from by omega) (show 0 ≤ (ps_i s 1131 30).toInt from by omega) (show (ps_i s 1131 30).toInt ≤ 5 from by omega) (show (ps_i s 1131 31).toInt ≤ 40 from by omega) (show (ps_i s 1131 31).toInt = (ps_i s0 1131 31).toInt from by omega) (show x2.toInt = -1 ∨ (0 ≤ x2.toInt ∧ x2.toInt ≤ 6) ∨ (10 ≤ x2.toInt ∧ x2.toInt < 10 + (σ.1.1 : Int)) from by omega) (show (x3.toInt = 0 ∧ (2 : Int) = 1) ∨ (x3.toInt = 1 ∧ x2.toInt = 3 ∧ (2 : Int) = 2) from by omega) (show ((1 : Int) = 1 ∧ (x2.toInt = 4 ∨ x2.toInt = 5)) ∨ ((1 : Int) = 0 ∧ x2.toInt ≠ 4 ∧ x2.toInt ≠ 5) from by omega) (show 1 ≤ (ps_i s 1131 5).toInt ∨ (0 ≤ x2.toInt ∧ (ps_i s 1131 31).toInt + (2 : Int) ≤ 40 ∧ (ps_i s 1131 29).toInt + (2 : Int) ≤ 13 ∧ ((1 : Int) = 0 ∨ (ps_i s 1131 30).toInt ≤ 4)) from by omega)
            · have f42 : (4 : Int) < (ps_i s 1131 30).toInt := xlt h40
              exact ms_214_84 (x1 := x1) (σ := σ) (l := l) (b := b) k  x2 x3 (1) (2) _ J K hS2 hR hH0 hO (show (ps_i s 1131 8).toInt ≤ (ps_i s 1131 4).toInt from by omega) (show (ps_i s 1131 29).toInt ≤ 13 from by omega) (show 0 ≤ (ps_i s 1131 30).toInt from by omega) (show (ps_i s 1131 30).toInt ≤ 5 from by omega) (show (ps_i s 1131 31).toInt ≤ 40 from by omega) (show (ps_i s 1131 31).toInt = (ps_i s0 1131 31).toInt from by omega) (show x2.toInt = -1 ∨ (0 ≤ x2.toInt ∧ x2.toInt ≤ 6) ∨ (10 ≤ x2.toInt ∧ x2.toInt < 10 + (σ.1.1 : Int)) from by omega) (show (x3.toInt = 0 ∧ (2 : Int) = 1) ∨ (x3.toInt = 1 ∧ x2.toInt = 3 ∧ (2 : Int) = 2) from by omega) (show ((1 : Int) = 1 ∧ (x2.toInt = 4 ∨ x2.toInt = 5)) ∨ ((1 : Int) = 0 ∧ x2.toInt ≠ 4 ∧ x2.toInt ≠ 5) from by omega) (show (ps_i s 1131 5).toInt = 0 from by omega)

theorem ms_214 {x : Nat → Nat → Nat} {t : Int32} {s : ps_S} {d : Nat} {x1 : Int32} {f : ps_S → Prop} (J : mJ x t s) {σ : mSig} {l : List Nat} {b : Bool} (hS2 : Sg (ps_a s 1135) (ps_a s 1136) (ps_a s 1138) (ps_a s 1139) (ps_i s 1131 22).toInt σ) (hR : Rw (ps_a s 1134) x1.toInt (l)) (hH0 : RH σ (ps_a s 1144) (ps_a s 1145) (ps_a s 1146) (ps_a s 1147) (ps_i s 1131 29).toInt (ps_i s 1131 30).toInt (ps_i s 1131 31).toInt (ps_i s 1131 32).toInt (l) b true) (q3 : (ps_i s 1131 8).toInt ≤ (ps_i s 1131 4).toInt) (q4 : (ps_i s 1131 5).toInt = 0) (q5 : (ps_i s 1131 29).toInt ≤ 13) (q6 : 0 ≤ (ps_i s 1131 30).toInt) (q7 : (ps_i s 1131 30).toInt ≤ 5) (q8 : (ps_i s 1131 31).toInt ≤ 40) (k : ∀ (s' : ps_S), mJ x t s' → kp [1134, 1144, 1145, 1146, 1147, 1148] [5, 6, 7, 8, 9, 10, 11, 29, 30, 31] s s' → ((ps_i s' 1131 8).toInt ≤ (ps_i s' 1131 4).toInt) → (1 ≤ (ps_i s' 1131 5).toInt ∨ ((ps_i s' 1131 29).toInt ≤ 13 ∧ 0 ≤ (ps_i s' 1131 30).toInt ∧ (ps_i s' 1131 30).toInt ≤ 5 ∧ (ps_i s' 1131 31).toInt ≤ 40 ∧ (ps_i s 1131 31).toInt < (ps_i s' 1131 31).toInt)) → ((ps_i s 1131 31).toInt ≤ (ps_i s' 1131 31).toInt) → (1 ≤ (ps_i s' 1131 5).toInt ∨ ∃ l2, Rw (ps_a s' 1134) x1.toInt l2 ∧ RQ σ (ps_a s' 1144) (ps_a s' 1145) (ps_a s' 1146) (ps_a s' 1147) (ps_i s' 1131 29).toInt (ps_i s' 1131 30).toInt (ps_i s' 1131 31).toInt (ps_i s' 1131 32).toInt l2 b) → (∀ i : Nat, (i : Int) < x1.toInt ∨ x1.toInt + 41 ≤ (i : Int) → ps_a s' 1134 i = ps_a s 1134 i) → f s') : ps_Cl (d + 2) 214 [.ref 1131, .int x1] s (ps_rV f) := by
  have r1 := mf_8 J
  have r2 := mf_4 J
  have r3 := mf_5 J
  have r4 := mf_29 J
  have r5 := mf_31 J
  have K : kp [1134, 1144, 1145, 1146, 1147, 1148] [5, 6, 7, 8, 9, 10, 11, 29, 30, 31] s s := kp_refl
  refine pg_214_0 (d := d + 1) ?_
  have hO : ∀ i : Nat, (i : Int) < x1.toInt ∨ x1.toInt + 41 ≤ (i : Int) → ps_a s 1134 i = ps_a s 1134 i := fun i _ => rfl
  refine ms_213 J  (fun v6 p6_0 p6_1 => ?_)
  have p6_0' : v6.toInt = -1 ∨ (0 ≤ v6.toInt ∧ v6.toInt ≤ 6) ∨ (10 ≤ v6.toInt ∧ v6.toInt < 10 + (ps_a s 1135 (Int32.toNatClampNeg (ps_i s 1131 22))).toInt) := p6_0
  have r7 := mf_22 J
  have r8 : 0 ≤ (ps_a s 1135 (Int32.toNatClampNeg (ps_i s 1131 22))).toInt ∧ (ps_a s 1135 (Int32.toNatClampNeg (ps_i s 1131 22))).toInt ≤ 6 := ma_1135 (i := (ps_i s 1131 22)) J (show 0 ≤ (ps_i s 1131 22).toInt from by omega) (show (ps_i s 1131 22).toInt < 2 from by omega)
  have hnot : _ := p6_1
  obtain ⟨hb0, hb1, h5, hR6, h6, hF, h8, h9⟩ := id hS2
  have h5x : (ps_a s 1135 (Int32.toNatClampNeg (ps_i s 1131 22))).toInt = (σ.1.1 : Int) := h5
  refine mx_195 J  (fun v9 p9_0 p9_1 p9_2 p9_3 b9 => ?_)
  have p9_0' : 0 ≤ v9.toInt := p9_0
  have p9_1' : v9.toInt ≤ 1 := p9_1
  have hw9 : _ := p9_2
  have hnn : (v9).toInt = 0 ∨ ((v9).toInt = 1 ∧ v6.toInt = 3) := by rcases hw9 with z | z; exact Or.inl z; exact Or.inr ⟨by omega, hnot z⟩
  refine And.intro (fun h10 => ?_) (fun h10 => ?_)
  · have f11 : v6.toInt = (4 : Int) := xeq h10
    exact ms_214_23 (x1 := x1) (σ := σ) (l := l) (b := b) k  v6 v9 _ J K hS2 hR hH0 hO (show (ps_i s 1131 8).toInt ≤ (ps_i s 1131 4).toInt from by omega) (show (ps_i s 1131 29).toInt ≤ 13 from by omega) (show 0 ≤ (ps_i s 1131 30).toInt from by omega) (show (ps_i s 1131 30).toInt ≤ 5 from by omega) (show (ps_i s 1131 31).toInt ≤ 40 from by omega) (show (ps_i s 1131 31).toInt = (ps_i s 1131 31).toInt from by omega) (show v6.toInt = -1 ∨ (0 ≤ v6.toInt ∧ v6.toInt ≤ 6) ∨ (10 ≤ v6.toInt ∧ v6.toInt < 10 + (σ.1.1 : Int)) from by omega) (show (ps_i s 1131 5).toInt = 0 from by omega) (show v6.toInt = 4 ∨ v6.toInt = 5 from by omega) (show v9.toInt = 0 from by omega)
  · have f12 : v6.toInt ≠ (4 : Int) := xne h10
    refine And.intro (fun h13 => ?_) (fun h13 => ?_)
    · have f14 : v6.toInt ≠ (5 : Int) := xne h13
      refine And.intro (fun h15 => ?_) (fun h15 => ?_)
      · have f16 : v9.toInt = (0 : Int) := xeq h15
        refine And.intro (fun h17 => ?_) (fun h17 => ?_)
        · have f18 : v6.toInt < (0 : Int) := xlt h17
          exact ms_214_84 (x1 := x1) (σ := σ) (l := l) (b := b) k  v6 v9 (0) (1) _ J K hS2 hR hH0 hO (show (ps_i s 1131 8).toInt ≤ (ps_i s 1131 4).toInt from by omega) (show (ps_i s 1131 29).toInt ≤ 13 from by omega) (show 0 ≤ (ps_i s 1131 30).toInt from by omega) (show (ps_i s 1131 30).toInt ≤ 5 from by omega) (show (ps_i s 1131 31).toInt ≤ 40 from by omega) (show (ps_i s 1131 31).toInt = (ps_i s 1131 31).toInt from by omega) (show v6.toInt = -1 ∨ (0 ≤ v6.toInt ∧ v6.toInt ≤ 6) ∨ (10 ≤ v6.toInt ∧ v6.toInt < 10 + (σ.1.1 : Int)) from by omega) (show (v9.toInt = 0 ∧ (1 : Int) = 1) ∨ (v9.toInt = 1 ∧ v6.toInt = 3 ∧ (1 : Int) = 2) from by omega) (show ((0 : Int) = 1 ∧ (v6.toInt = 4 ∨ v6.toInt = 5)) ∨ ((0 : Int) = 0 ∧ v6.toInt ≠ 4 ∧ v6.toInt ≠ 5) from by omega) (show (ps_i s 1131 5).toInt = 0 from by omega)
        · have f19 : (0 : Int) ≤ v6.toInt := xle h17
          have a20 : ((ps_i s 1131 31) + 1).toInt = (ps_i s 1131 31).toInt + (1 : Int) := xIa (show -2147483648 ≤ (ps_i s 1131 31).toInt + (1 : Int) from by omega) (show (ps_i s 1131 31).toInt + (1 : Int) < 2147483648 from by omega)
          refine And.intro (fun h21 => ?_) (fun h21 => ?_)
          · have f22 : (40 : Int) < ((ps_i s 1131 31) + 1).toInt := xlt h21
            exact ms_214_84 (x1 := x1) (σ := σ) (l := l) (b := b) k  v6 v9 (0) (1) _ J K hS2 hR hH0 hO (show (ps_i s 1131 8).toInt ≤ (ps_i s 1131 4).toInt from by omega) (show (ps_i s 1131 29).toInt ≤ 13 from by omega) (show 0 ≤ (ps_i s 1131 30).toInt from by omega) (show (ps_i s 1131 30).toInt ≤ 5 from by omega) (show (ps_i s 1131 31).toInt ≤ 40 from by omega) (show (ps_i s 1131 31).toInt = (ps_i s 1131 31).toInt from by omega) (show v6.toInt = -1 ∨ (0 ≤ v6.toInt ∧ v6.toInt ≤ 6) ∨ (10 ≤ v6.toInt ∧ v6.toInt < 10 + (σ.1.1 : Int)) from by omega) (show (v9.toInt = 0 ∧ (1 : Int) = 1) ∨ (v9.toInt = 1 ∧ v6.toInt = 3 ∧ (1 : Int) = 2) from by omega) (show ((0 : Int) = 1 ∧ (v6.toInt = 4 ∨ v6.toInt = 5)) ∨ ((0 : Int) = 0 ∧ v6.toInt ≠ 4 ∧ v6.toInt ≠ 5) from by omega) (show (ps_i s 1131 5).toInt = 0 from by omega)
          · have f23 : ((ps_i s 1131 31) + 1).toInt ≤ (40 : Int) := xle h21
            have a24 : ((ps_i s 1131 29) + 1).toInt = (ps_i s 1131 29).toInt + (1 : Int) := xIa (show -2147483648 ≤ (ps_i s 1131 29).toInt + (1 : Int) from by omega) (show (ps_i s 1131 29).toInt + (1 : Int) < 2147483648 from by omega)
            have a25 : (((ps_i s 1131 29) + 1) - 1).toInt = ((ps_i s 1131 29) + 1).toInt - (1 : Int) := xIs (show -2147483648 ≤ ((ps_i s 1131 29) + 1).toInt - (1 : Int) from by omega) (show ((ps_i s 1131 29) + 1).toInt - (1 : Int) < 2147483648 from by omega)
            refine And.intro (fun h26 => ?_) (fun h26 => ?_)
            · have f27 : (12 : Int) < (((ps_i s 1131 29) + 1) - 1).toInt := xlt h26
              exact ms_214_84 (x1 := x1) (σ := σ) (l := l) (b := b) k  v6 v9 (0) (1) _ J K hS2 hR hH0 hO (show (ps_i s 1131 8).toInt ≤ (ps_i s 1131 4).toInt from by omega) (show (ps_i s 1131 29).toInt ≤ 13 from by omega) (show 0 ≤ (ps_i s 1131 30).toInt from by omega) (show (ps_i s 1131 30).toInt ≤ 5 from by omega) (show (ps_i s 1131 31).toInt ≤ 40 from by omega) (show (ps_i s 1131 31).toInt = (ps_i s 1131 31).toInt from by omega) (show v6.toInt = -1 ∨ (0 ≤ v6.toInt ∧ v6.toInt ≤ 6) ∨ (10 ≤ v6.toInt ∧ v6.toInt < 10 + (σ.1.1 : Int)) from by omega) (show (v9.toInt = 0 ∧ (1 : Int) = 1) ∨ (v9.toInt = 1 ∧ v6.toInt = 3 ∧ (1 : Int) = 2) from by omega) (show ((0 : Int) = 1 ∧ (v6.toInt = 4 ∨ v6.toInt = 5)) ∨ ((0 : Int) = 0 ∧ v6.toInt ≠ 4 ∧ v6.toInt ≠ 5) from by omega) (show (ps_i s 1131 5).toInt = 0 from by omega)
            · have f28 : (((ps_i s 1131 29) + 1) - 1).toInt ≤ (12 : Int) := xle h26
              refine And.intro (fun h29 => ?_) (fun h29 => ?_)
              · exact ms_214_88 (x1 := x1) (σ := σ) (l := l) (b := b) k  v6 v9 (0) (1) _ J K hS2 hR hH0 hO (show (ps_i s 1131 8).toInt ≤ (ps_i s 1131 4).toInt from by omega) (show (ps_i s 1131 29).toInt ≤ 13 from by omega) (show 0 ≤ (ps_i s 1131 30).toInt from by omega) (show (ps_i s 1131 30).toInt ≤ 5 from by omega) (show (ps_i s 1131 31).toInt ≤ 40 from by omega) (show (ps_i s 1131 31).toInt = (ps_i s 1131 31).toInt from by omega) (show v6.toInt = -1 ∨ (0 ≤ v6.toInt ∧ v6.toInt ≤ 6) ∨ (10 ≤ v6.toInt ∧ v6.toInt < 10 + (σ.1.1 : Int)) from by omega) (show (v9.toInt = 0 ∧ (1 : Int) = 1) ∨ (v9.toInt = 1 ∧ v6.toInt = 3 ∧ (1 : Int) = 2) from by omega) (show ((0 : Int) = 1 ∧ (v6.toInt = 4 ∨ v6.toInt = 5)) ∨ ((0 : Int) = 0 ∧ v6.toInt ≠ 4 ∧ v6.toInt ≠ 5) from by omega) (show 1 ≤ (ps_i s 1131 5).toInt ∨ (0 ≤ v6.toInt ∧ (ps_i s 1131 31).toInt + (1 : Int) ≤ 40 ∧ (ps_i s 1131 29).toInt + (1 : Int) ≤ 13 ∧ ((0 : Int) = 0 ∨ (ps_i s 1131 30).toInt ≤ 4)) from by omega)
              · exact absurd (show (0 : Int32) ≠ (0 : Int32) from h29) (by decide)
      · have f30 : v9.toInt ≠ (0 : Int) := xne h15
        refine And.intro (fun h31 => ?_) (fun h31 => ?_)
        · have f32 : v6.toInt < (0 : Int) := xlt h31
          exact ms_214_84 (x1 := x1) (σ := σ) (l := l) (b := b) k  v6 v9 (0) (2) _ J K hS2 hR hH0 hO (show (ps_i s 1131 8).toInt ≤ (ps_i s 1131 4).toInt from by omega) (show (ps_i s 1131 29).toInt ≤ 13 from by omega) (show 0 ≤ (ps_i s 1131 30).toInt from by omega) (show (ps_i s 1131 30).toInt ≤ 5 from by omega) (show (ps_i s 1131 31).toInt ≤ 40 from by omega) (show (ps_i s 1131 31).toInt = (ps_i s 1131 31).toInt from by omega) (show v6.toInt = -1 ∨ (0 ≤ v6.toInt ∧ v6.toInt ≤ 6) ∨ (10 ≤ v6.toInt ∧ v6.toInt < 10 + (σ.1.1 : Int)) from by omega) (show (v9.toInt = 0 ∧ (2 : Int) = 1) ∨ (v9.toInt = 1 ∧ v6.toInt = 3 ∧ (2 : Int) = 2) from by omega) (show ((0 : Int) = 1 ∧ (v6.toInt = 4 ∨ v6.toInt = 5)) ∨ ((0 : Int) = 0 ∧ v6.toInt ≠ 4 ∧ v6.toInt ≠ 5) from by omega) (show (ps_i s 1131 5).toInt = 0 from by omega)
        · have f33 : (0 : Int) ≤ v6.toInt := xle h31
          have a34 : ((ps_i s 1131 31) + 2).toInt = (ps_i s 1131 31).toInt + (2 : Int) := xIa (show -2147483648 ≤ (ps_i s 1131 31).toInt + (2 : Int) from by omega) (show (ps_i s 1131 31).toInt + (2 : Int) < 2147483648 from by omega)
          refine And.intro (fun h35 => ?_) (fun h35 => ?_)
          · have f36 : (40 : Int) < ((ps_i s 1131 31) + 2).toInt := xlt h35
            exact ms_214_84 (x1 := x1) (σ := σ) (l := l) (b := b) k  v6 v9 (0) (2) _ J K hS2 hR hH0 hO (show (ps_i s 1131 8).toInt ≤ (ps_i s 1131 4).toInt from by omega) (show (ps_i s 1131 29).toInt ≤ 13 from by omega) (show 0 ≤ (ps_i s 1131 30).toInt from by omega) (show (ps_i s 1131 30).toInt ≤ 5 from by omega) (show (ps_i s 1131 31).toInt ≤ 40 from by omega) (show (ps_i s 1131 31).toInt = (ps_i s 1131 31).toInt from by omega) (show v6.toInt = -1 ∨ (0 ≤ v6.toInt ∧ v6.toInt ≤ 6) ∨ (10 ≤ v6.toInt ∧ v6.toInt < 10 + (σ.1.1 : Int)) from by omega) (show (v9.toInt = 0 ∧ (2 : Int) = 1) ∨ (v9.toInt = 1 ∧ v6.toInt = 3 ∧ (2 : Int) = 2) from by omega) (show ((0 : Int) = 1 ∧ (v6.toInt = 4 ∨ v6.toInt = 5)) ∨ ((0 : Int) = 0 ∧ v6.toInt ≠ 4 ∧ v6.toInt ≠ 5) from by omega) (show (ps_i s 1131 5).toInt = 0 from by omega)
          · have f37 : ((ps_i s 1131 31) + 2).toInt ≤ (40 : Int) := xle h35
            have a38 : ((ps_i s 1131 29) + 2).toInt = (ps_i s 1131 29).toInt + (2 : Int) := xIa (show -2147483648 ≤ (ps_i s 1131 29).toInt + (2 : Int) from by omega) (show (ps_i s 1131 29).toInt + (2 : Int) < 2147483648 from by omega)
            have a39 : (((ps_i s 1131 29) + 2) - 1).toInt = ((ps_i s 1131 29) + 2).toInt - (1 : Int) := xIs (show -2147483648 ≤ ((ps_i s 1131 29) + 2).toInt - (1 : Int) from by omega) (show ((ps_i s 1131 29) + 2).toInt - (1 : Int) < 2147483648 from by omega)
            refine And.intro (fun h40 => ?_) (fun h40 => ?_)
            · have f41 : (12 : Int) < (((ps_i s 1131 29) + 2) - 1).toInt := xlt h40
              exact ms_214_84 (x1 := x1) (σ := σ) (l := l) (b := b) k  v6 v9 (0) (2) _ J K hS2 hR hH0 hO (show (ps_i s 1131 8).toInt ≤ (ps_i s 1131 4).toInt from by omega) (show (ps_i s 1131 29).toInt ≤ 13 from by omega) (show 0 ≤ (ps_i s 1131 30).toInt from by omega) (show (ps_i s 1131 30).toInt ≤ 5 from by omega) (show (ps_i s 1131 31).toInt ≤ 40 from by omega) (show (ps_i s 1131 31).toInt = (ps_i s 1131 31).toInt from by omega) (show v6.toInt = -1 ∨ (0 ≤ v6.toInt ∧ v6.toInt ≤ 6) ∨ (10 ≤ v6.toInt ∧ v6.toInt < 10 + (σ.1.1 : Int)) from by omega) (show (v9.toInt = 0 ∧ (2 : Int) = 1) ∨ (v9.toInt = 1 ∧ v6.toInt = 3 ∧ (2 : Int) = 2) from by omega) (show ((0 : Int) = 1 ∧ (v6.toInt = 4 ∨ v6.toInt = 5)) ∨ ((0 : Int) = 0 ∧ v6.toInt ≠ 4 ∧ v6.toInt ≠ 5) from by omega) (show (ps_i s 1131 5).toInt = 0 from by omega)
            · have f42 : (((ps_i s 1131 29) + 2) - 1).toInt ≤ (12 : Int) := xle h40
              refine And.intro (fun h43 => ?_) (fun h43 => ?_)
              · exact ms_214_88 (x1 := x1) (σ := σ) (l := l) (b := b) k  v6 v9 (0) (2) _ J K hS2 hR hH0 hO (show (ps_i s 1131 8).toInt ≤ (ps_i s 1131 4).toInt from by omega) (show (ps_i s 1131 29).toInt ≤ 13 from by omega) (show 0 ≤ (ps_i s 1131 30).toInt from by omega) (show (ps_i s 1131 30).toInt ≤ 5 from by omega) (show (ps_i s 1131 31).toInt ≤ 40 from by omega) (show (ps_i s 1131 31).toInt = (ps_i s 1131 31).toInt from by omega) (show v6.toInt = -1 ∨ (0 ≤ v6.toInt ∧ v6.toInt ≤ 6) ∨ (10 ≤ v6.toInt ∧ v6.toInt < 10 + (σ.1.1 : Int)) from by omega) (show (v9.toInt = 0 ∧ (2 : Int) = 1) ∨ (v9.toInt = 1 ∧ v6.toInt = 3 ∧ (2 : Int) = 2) from by omega) (show ((0 : Int) = 1 ∧ (v6.toInt = 4 ∨ v6.toInt = 5)) ∨ ((0 : Int) = 0 ∧ v6.toInt ≠ 4 ∧ v6.toInt ≠ 5) from by omega) (show 1 ≤ (ps_i s 1131 5).toInt ∨ (0 ≤ v6.toInt ∧ (ps_i s 1131 31).toInt + (2 : Int) ≤ 40 ∧ (ps_i s 1131 29).toInt + (2 : Int) ≤ 13 ∧ ((0 : Int) = 0 ∨ (ps_i s 1131 30).toInt ≤ 4)) from by omega)
              · exact absurd (show (0 : Int32) ≠ (0 : Int32) from h43) (by decide)
    · have f44 : v6.toInt = (5 : Int) := xeq h13
      exact ms_214_23 (x1 := x1) (σ := σ) (l := l) (b := b) k  v6 v9 _ J K hS2 hR hH0 hO (show (ps_i s 1131 8).toInt ≤ (ps_i s 1131 4).toInt from by omega) (show (ps_i s 1131 29).toInt ≤ 13 from by omega) (show 0 ≤ (ps_i s 1131 30).toInt from by omega) (show (ps_i s 1131 30).toInt ≤ 5 from by omega) (show (ps_i s 1131 31).toInt ≤ 40 from by omega) (show (ps_i s 1131 31).toInt = (ps_i s 1131 31).toInt from by omega) (show v6.toInt = -1 ∨ (0 ≤ v6.toInt ∧ v6.toInt ≤ 6) ∨ (10 ≤ v6.toInt ∧ v6.toInt < 10 + (σ.1.1 : Int)) from by omega) (show (ps_i s 1131 5).toInt = 0 from by omega) (show v6.toInt = 4 ∨ v6.toInt = 5 from by omega) (show v9.toInt = 0 from by omega)
end
section
set_option maxRecDepth 100000
-- ProofBenchModel.beginsTerm(I)V
theorem pg_215_0 {d : Nat} {x1 : Int32} {s : ps_S} {Q : Option Value → ps_S → Prop} (h :
  ((ps_i s 1131 9) ≠ 2 →
    ps_At (d + 1) 215 19 [(0, .ref 1131), (1, .int x1)] [] s Q) ∧
  ((ps_i s 1131 9) = 2 →
    ps_Cl d 206 [.ref 1131] s (ps_rI (fun v1 s1 =>
      (0 ≤ v1 →
        ps_At (d + 1) 215 19 [(0, .ref 1131), (1, .int x1)] [] s1 Q) ∧
      (v1 < 0 →
        ((1 : Int32) = 0 →
          ps_At (d + 1) 215 45 [(0, .ref 1131), (1, .int x1)] [] s1 Q) ∧
        ((1 : Int32) ≠ 0 →
          (40 < ((ps_i s1 1131 31) + 1) →
            ps_At (d + 1) 215 45 [(0, .ref 1131), (1, .int x1)] [] s1 Q) ∧
          (((ps_i s1 1131 31) + 1) ≤ 40 →
            ((ps_i s1 1131 29) ≤ 12 →
              ps_At (d + 1) 215 49 [(0, .ref 1131), (1, .int x1)] [] s1 Q) ∧
            (12 < (ps_i s1 1131 29) →
              ps_At (d + 1) 215 45 [(0, .ref 1131), (1, .int x1)] [] s1 Q)))))))) : ps_At (d + 1) 215 0 [(0, .ref 1131), (1, .int x1)] [] s Q :=
  ps_wp_at (stops := [(19, [0, 1]), (45, [0, 1]), (49, [0, 1])]) (n := 24) h rfl

theorem pg_215_19 {d : Nat} {x1 : Int32} {s : ps_S} {Q : Option Value → ps_S → Prop} (h :
  ((0 : Int32) = 0 →
    ps_At (d + 1) 215 45 [(0, .ref 1131), (1, .int x1)] [] s Q) ∧
  ((0 : Int32) ≠ 0 →
    (40 < ((ps_i s 1131 31) + 1) →
      ps_At (d + 1) 215 45 [(0, .ref 1131), (1, .int x1)] [] s Q) ∧
    (((ps_i s 1131 31) + 1) ≤ 40 →
      ((ps_i s 1131 29) ≤ 12 →
        ps_At (d + 1) 215 49 [(0, .ref 1131), (1, .int x1)] [] s Q) ∧
      (12 < (ps_i s 1131 29) →
        ps_At (d + 1) 215 45 [(0, .ref 1131), (1, .int x1)] [] s Q)))) : ps_At (d + 1) 215 19 [(0, .ref 1131), (1, .int x1)] [] s Q :=
  ps_wp_at (stops := [(19, [0, 1]), (45, [0, 1]), (49, [0, 1])]) (n := 16) h rfl

theorem pg_215_45 {d : Nat} {x1 : Int32} {s : ps_S} {Q : Option Value → ps_S → Prop} (h :
  ps_Cl d 196 [.ref 1131] s (ps_rV (fun s1 =>
    ps_At (d + 1) 215 49 [(0, .ref 1131), (1, .int x1)] [] s1 Q))) : ps_At (d + 1) 215 45 [(0, .ref 1131), (1, .int x1)] [] s Q :=
  ps_wp_at (stops := [(19, [0, 1]), (45, [0, 1]), (49, [0, 1])]) (n := 4) h rfl

theorem pg_215_49 {d : Nat} {x1 : Int32} {s : ps_S} {Q : Option Value → ps_S → Prop} (h :
  ps_Cl d 192 [.ref 1131] s (ps_rI (fun v1 s1 =>
    (v1 ≠ 0 →
      ps_Cl d 207 [.ref 1131] s1 (ps_rI (fun v2 s2 =>
        (0 ≤ v2 →
          ps_Cl d 192 [.ref 1131] s2 (ps_rI (fun v3 s3 =>
            (v3 ≠ 0 →
              (0 ≤ v2 →
                ps_Cl d 210 [.ref 1131, .int x1, .int ((20 : Int32) + v2)] (ps_ui s3 1131 31 ((ps_i s3 1131 31) + 1)) (ps_rV (fun s4 =>
                  ps_Cl d 194 [.ref 1131] s4 (ps_rV (fun s5 =>
                    (0 ≤ v2 →
                      ps_nd (pm_in (((4 : Int32) * (ps_i s5 1131 22)) + v2) 8) (ps_Cl d 211 [.ref 1131, .int (ps_a s5 1139 (Int32.toNatClampNeg (((4 : Int32) * (ps_i s5 1131 22)) + v2))), .int 1] s5 (ps_rV (fun s6 =>
                        Q none s6)))) ∧
                    (v2 < 0 →
                      ps_Cl d 211 [.ref 1131, .int 0, .int 1] s5 (ps_rV (fun s7 =>
                        Q none s7)))))))) ∧
              (v2 < 0 →
                ps_Cl d 210 [.ref 1131, .int x1, .int 0] (ps_ui s3 1131 31 ((ps_i s3 1131 31) + 1)) (ps_rV (fun s8 =>
                  ps_Cl d 194 [.ref 1131] s8 (ps_rV (fun s9 =>
                    (0 ≤ v2 →
                      ps_nd (pm_in (((4 : Int32) * (ps_i s9 1131 22)) + v2) 8) (ps_Cl d 211 [.ref 1131, .int (ps_a s9 1139 (Int32.toNatClampNeg (((4 : Int32) * (ps_i s9 1131 22)) + v2))), .int 1] s9 (ps_rV (fun s10 =>
                        Q none s10)))) ∧
                    (v2 < 0 →
                      ps_Cl d 211 [.ref 1131, .int 0, .int 1] s9 (ps_rV (fun s11 =>
                        Q none s11))))))))) ∧
            (v3 = 0 →
              Q none s3)))) ∧
        (v2 < 0 →
          ps_Cl d 216 [.ref 1131] s2 (ps_rI (fun v12 s12 =>
            ps_Cl d 192 [.ref 1131] s12 (ps_rI (fun v13 s13 =>
              (v13 ≠ 0 →
                (0 ≤ v2 →
                  ps_Cl d 210 [.ref 1131, .int x1, .int ((20 : Int32) + v2)] (ps_ui s13 1131 31 ((ps_i s13 1131 31) + 1)) (ps_rV (fun s14 =>
                    ps_Cl d 194 [.ref 1131] s14 (ps_rV (fun s15 =>
                      (0 ≤ v2 →
                        ps_nd (pm_in (((4 : Int32) * (ps_i s15 1131 22)) + v2) 8) (ps_Cl d 211 [.ref 1131, .int (ps_a s15 1139 (Int32.toNatClampNeg (((4 : Int32) * (ps_i s15 1131 22)) + v2))), .int 1] s15 (ps_rV (fun s16 =>
                          Q none s16)))) ∧
                      (v2 < 0 →
                        ps_Cl d 211 [.ref 1131, .int 0, .int 1] s15 (ps_rV (fun s17 =>
                          Q none s17)))))))) ∧
                (v2 < 0 →
                  ps_Cl d 210 [.ref 1131, .int x1, .int v12] (ps_ui s13 1131 31 ((ps_i s13 1131 31) + 1)) (ps_rV (fun s18 =>
                    ps_Cl d 194 [.ref 1131] s18 (ps_rV (fun s19 =>
                      (0 ≤ v2 →
                        ps_nd (pm_in (((4 : Int32) * (ps_i s19 1131 22)) + v2) 8) (ps_Cl d 211 [.ref 1131, .int (ps_a s19 1139 (Int32.toNatClampNeg (((4 : Int32) * (ps_i s19 1131 22)) + v2))), .int 1] s19 (ps_rV (fun s20 =>
                          Q none s20)))) ∧
                      (v2 < 0 →
                        ps_Cl d 211 [.ref 1131, .int 0, .int 1] s19 (ps_rV (fun s21 =>
                          Q none s21))))))))) ∧
              (v13 = 0 →
                Q none s13))))))))) ∧
    (v1 = 0 →
      Q none s1)))) : ps_At (d + 1) 215 49 [(0, .ref 1131), (1, .int x1)] [] s Q :=
  ps_wp_at (stops := [(19, [0, 1]), (45, [0, 1]), (49, [0, 1])]) (n := 147) h rfl

theorem ms_215_49 {x : Nat → Nat → Nat} {t : Int32} {d : Nat} {s0 : ps_S} {σ : mSig} {l : List Nat} {b : Bool} {x1 : Int32} {Q : Option Value → ps_S → Prop} (k : ∀ (s' : ps_S), mJ x t s' → kp [1134, 1143, 1144, 1145, 1146, 1147] [5, 6, 7, 8, 9, 10, 11, 23, 29, 31] s0 s' → ((ps_i s' 1131 8).toInt ≤ (ps_i s' 1131 4).toInt) → (1 ≤ (ps_i s' 1131 5).toInt ∨ ((ps_i s' 1131 29).toInt ≤ 13 ∧ 0 ≤ (ps_i s' 1131 30).toInt ∧ (ps_i s' 1131 30).toInt ≤ 5 ∧ (ps_i s' 1131 31).toInt ≤ 40 ∧ (ps_i s0 1131 31).toInt < (ps_i s' 1131 31).toInt)) → ((ps_i s0 1131 31).toInt ≤ (ps_i s' 1131 31).toInt) → (1 ≤ (ps_i s' 1131 5).toInt ∨ ∃ l2, Rw (ps_a s' 1134) x1.toInt l2 ∧ RQ σ (ps_a s' 1144) (ps_a s' 1145) (ps_a s' 1146) (ps_a s' 1147) (ps_i s' 1131 29).toInt (ps_i s' 1131 30).toInt (ps_i s' 1131 31).toInt (ps_i s' 1131 32).toInt l2 b) → (∀ i : Nat, (i : Int) < x1.toInt ∨ x1.toInt + 41 ≤ (i : Int) → ps_a s' 1134 i = ps_a s0 1134 i) → Q none s') (s : ps_S) (J : mJ x t s) (K : kp [1134, 1143, 1144, 1145, 1146, 1147] [5, 6, 7, 8, 9, 10, 11, 23, 29, 31] s0 s) (hS2 : Sg (ps_a s 1135) (ps_a s 1136) (ps_a s 1138) (ps_a s 1139) (ps_i s 1131 22).toInt σ) (hR : Rw (ps_a s 1134) x1.toInt (l)) (hH0 : RH σ (ps_a s 1144) (ps_a s 1145) (ps_a s 1146) (ps_a s 1147) (ps_i s 1131 29).toInt (ps_i s 1131 30).toInt (ps_i s 1131 31).toInt (ps_i s 1131 32).toInt (l) b false) (hO : ∀ i : Nat, (i : Int) < x1.toInt ∨ x1.toInt + 41 ≤ (i : Int) → ps_a s 1134 i = ps_a s0 1134 i) (i4 : (ps_i s 1131 8).toInt ≤ (ps_i s 1131 4).toInt) (i5 : (ps_i s 1131 29).toInt ≤ 13) (i6 : 0 ≤ (ps_i s 1131 30).toInt) (i7 : (ps_i s 1131 30).toInt ≤ 5) (i8 : (ps_i s 1131 31).toInt ≤ 40) (i9 : (ps_i s 1131 31).toInt = (ps_i s0 1131 31).toInt) (i10 : 1 ≤ (ps_i s 1131 5).toInt ∨ ((ps_i s 1131 31).toInt + 1 ≤ 40 ∧ (ps_i s 1131 29).toInt ≤ 12)) : ps_At (d + 4) 215 49 [(0, .ref 1131), (1, .int x1)] [] s Q := by
  have r1 := mf_8 J
  have r2 := mf_4 J
  have r3 := mf_29 J
  have r4 := mf_31 J
  have r5 := mf_5 J
  refine pg_215_49 (d := d + 3) ?_
  obtain ⟨hb0, hb1, h5, hR6, h6, hF, h8, h9⟩ := id hS2
  have h6x : (ps_a s 1136 (Int32.toNatClampNeg (ps_i s 1131 22))).toInt = (σ.1.2 : Int) := h6
  refine ms_192 J  (fun v6 p6_0 b6 => ?_)
  have p6_0' : (v6.toInt = 0 ∧ 1 ≤ (ps_i s 1131 5).toInt) ∨ (v6.toInt = 1 ∧ (ps_i s 1131 5).toInt = 0) := p6_0
  refine And.intro (fun h7 => ?_) (fun h7 => ?_)
  · have f8 : v6.toInt ≠ (0 : Int) := xne h7
    have qz8 : (ps_i s 1131 5).toInt = 0 := by omega
    clear p6_0' p6_0
    refine ms_207 J  (fun v9 p9_0 p9_1 => ?_)
    have p9_0' : -1 ≤ v9.toInt := p9_0
    have p9_1' : v9.toInt < (ps_a s 1136 (Int32.toNatClampNeg (ps_i s 1131 22))).toInt := p9_1
    have r10 := mf_22 J
    have r11 : 0 ≤ (ps_a s 1136 (Int32.toNatClampNeg (ps_i s 1131 22))).toInt ∧ (ps_a s 1136 (Int32.toNatClampNeg (ps_i s 1131 22))).toInt ≤ 4 := ma_1136 (i := (ps_i s 1131 22)) J (show 0 ≤ (ps_i s 1131 22).toInt from by omega) (show (ps_i s 1131 22).toInt < 2 from by omega)
    refine And.intro (fun h12 => ?_) (fun h12 => ?_)
    · have f13 : (0 : Int) ≤ v9.toInt := xle h12
      refine ms_192 J  (fun v14 p14_0 b14 => ?_)
      have p14_0' : (v14.toInt = 0 ∧ 1 ≤ (ps_i s 1131 5).toInt) ∨ (v14.toInt = 1 ∧ (ps_i s 1131 5).toInt = 0) := p14_0
      refine And.intro (fun h15 => ?_) (fun h15 => ?_)
      · have f16 : v14.toInt ≠ (0 : Int) := xne h15
        have qz16 : (ps_i s 1131 5).toInt = 0 := by omega
        clear p14_0' p14_0
        have a17 : ((ps_i s 1131 31) + 1).toInt = (ps_i s 1131 31).toInt + (1 : Int) := xIa (show -2147483648 ≤ (ps_i s 1131 31).toInt + (1 : Int) from by omega) (show (ps_i s 1131 31).toInt + (1 : Int) < 2147483648 from by omega)
        have J18 := mwi_31 (v := ((ps_i s 1131 31) + 1)) J (show 0 ≤ ((ps_i s 1131 31) + 1).toInt from by omega) (show ((ps_i s 1131 31) + 1).toInt ≤ 42 from by omega)
        have K19 := kpi K (q := 31) (v := ((ps_i s 1131 31) + 1)) rfl
        have hH : RH σ (ps_a (ps_ui s 1131 31 ((ps_i s 1131 31) + 1)) 1144) (ps_a (ps_ui s 1131 31 ((ps_i s 1131 31) + 1)) 1145) (ps_a (ps_ui s 1131 31 ((ps_i s 1131 31) + 1)) 1146) (ps_a (ps_ui s 1131 31 ((ps_i s 1131 31) + 1)) 1147) (ps_i (ps_ui s 1131 31 ((ps_i s 1131 31) + 1)) 1131 29).toInt (ps_i (ps_ui s 1131 31 ((ps_i s 1131 31) + 1)) 1131 30).toInt ((ps_i (ps_ui s 1131 31 ((ps_i s 1131 31) + 1)) 1131 31).toInt - 1) (ps_i (ps_ui s 1131 31 ((ps_i s 1131 31) + 1)) 1131 32).toInt (l) b false := RH_cnt hH0 (show ((ps_i s 1131 31) + 1).toInt - 1 = (ps_i _ 1131 31).toInt from by omega)
        refine And.intro (fun h20 => ?_) (fun h20 => ?_)
        · have f21 : (0 : Int) ≤ v9.toInt := xle h20
          have a22 : ((20 : Int32) + v9).toInt = (20 : Int) + v9.toInt := xIa (show -2147483648 ≤ (20 : Int) + v9.toInt from by omega) (show (20 : Int) + v9.toInt < 2147483648 from by omega)
          obtain ⟨c, hc⟩ : ∃ c : Nat, (((20 : Int32) + v9)).toInt = (c : Int) := ⟨(((20 : Int32) + v9)).toInt.toNat, by omega⟩
          have hcc : (40 ≤ c ∧ c < 72 ∧ v9.toInt < 0 ∧ (60 ≤ c → (ps_i s 1131 32).toInt = 0)) ∨ (20 ≤ c ∧ c < 20 + σ.1.2 ∧ 0 ≤ v9.toInt ∧ c = 20 + v9.toInt.toNat) := by omega
          have hc2 : 60 ≤ c → (ps_i (ps_ui s 1131 31 ((ps_i s 1131 31) + 1)) 1131 32).toInt = 0 := fun z => (show (ps_i s 1131 32).toInt = 0 from by omega)
          refine ms_210 (l := l) (p := c) J18 hR ((by have z := RH_len hH0; omega)) (hc) (fun s23 J23 K23 p23_0 p23_1 => ?_)
          have K24 := kpt K19 K23 rfl rfl
          have KC := K23
          have hS2 : Sg (ps_a s23 1135) (ps_a s23 1136) (ps_a s23 1138) (ps_a s23 1139) (ps_i s23 1131 22).toInt σ := by rw [show ps_a s23 1135 = ps_a (ps_ui s 1131 31 ((ps_i s 1131 31) + 1)) 1135 from (K23.2 1135 rfl).1, show ps_a s23 1136 = ps_a (ps_ui s 1131 31 ((ps_i s 1131 31) + 1)) 1136 from (K23.2 1136 rfl).1, show ps_a s23 1138 = ps_a (ps_ui s 1131 31 ((ps_i s 1131 31) + 1)) 1138 from (K23.2 1138 rfl).1, show ps_a s23 1139 = ps_a (ps_ui s 1131 31 ((ps_i s 1131 31) + 1)) 1139 from (K23.2 1139 rfl).1, show ps_i s23 1131 22 = ps_i (ps_ui s 1131 31 ((ps_i s 1131 31) + 1)) 1131 22 from kp_i K23 22 rfl]; exact hS2
          have hH : RH σ (ps_a s23 1144) (ps_a s23 1145) (ps_a s23 1146) (ps_a s23 1147) (ps_i s23 1131 29).toInt (ps_i s23 1131 30).toInt ((ps_i s23 1131 31).toInt - 1) (ps_i s23 1131 32).toInt (l) b false := by rw [show ps_a s23 1144 = ps_a (ps_ui s 1131 31 ((ps_i s 1131 31) + 1)) 1144 from (K23.2 1144 rfl).1, show ps_a s23 1145 = ps_a (ps_ui s 1131 31 ((ps_i s 1131 31) + 1)) 1145 from (K23.2 1145 rfl).1, show ps_a s23 1146 = ps_a (ps_ui s 1131 31 ((ps_i s 1131 31) + 1)) 1146 from (K23.2 1146 rfl).1, show ps_a s23 1147 = ps_a (ps_ui s 1131 31 ((ps_i s 1131 31) + 1)) 1147 from (K23.2 1147 rfl).1, show ps_i s23 1131 29 = ps_i (ps_ui s 1131 31 ((ps_i s 1131 31) + 1)) 1131 29 from kp_i K23 29 rfl, show ps_i s23 1131 30 = ps_i (ps_ui s 1131 31 ((ps_i s 1131 31) + 1)) 1131 30 from kp_i K23 30 rfl, show ps_i s23 1131 31 = ps_i (ps_ui s 1131 31 ((ps_i s 1131 31) + 1)) 1131 31 from kp_i K23 31 rfl, show ps_i s23 1131 32 = ps_i (ps_ui s 1131 31 ((ps_i s 1131 31) + 1)) 1131 32 from kp_i K23 32 rfl]; exact hH
          have hc2 : 60 ≤ c → (ps_i s23 1131 32).toInt = 0 := by rw [show ps_i s23 1131 32 = ps_i (ps_ui s 1131 31 ((ps_i s 1131 31) + 1)) 1131 32 from kp_i K23 32 rfl]; exact hc2
          have hR2 : Rw (ps_a s23 1134) x1.toInt (l ++ [c]) := p23_0
          have ho : _ := p23_1
          have hO : ∀ i : Nat, (i : Int) < x1.toInt ∨ x1.toInt + 41 ≤ (i : Int) → ps_a s23 1134 i = ps_a s0 1134 i := fun i hi => (ho i hi).trans (hO i hi)
          have r25 := mf_8 J23
          have u26 : (ps_i s23 1131 8).toInt = (ps_i s 1131 8).toInt := xeq (kp_i K23 8 rfl)
          have r27 := mf_4 J23
          have u28 : (ps_i s23 1131 4).toInt = (ps_i s 1131 4).toInt := xeq (kp_i K23 4 rfl)
          refine ms_194 J23 (show (ps_i s23 1131 8).toInt ≤ (ps_i s23 1131 4).toInt from by omega) (fun s29 J29 K29 p29_0 => ?_)
          have K30 := kpt K24 K29 rfl rfl
          have KC := K29
          have hS2 : Sg (ps_a s29 1135) (ps_a s29 1136) (ps_a s29 1138) (ps_a s29 1139) (ps_i s29 1131 22).toInt σ := by rw [show ps_a s29 1135 = ps_a s23 1135 from (K29.2 1135 rfl).1, show ps_a s29 1136 = ps_a s23 1136 from (K29.2 1136 rfl).1, show ps_a s29 1138 = ps_a s23 1138 from (K29.2 1138 rfl).1, show ps_a s29 1139 = ps_a s23 1139 from (K29.2 1139 rfl).1, show ps_i s29 1131 22 = ps_i s23 1131 22 from kp_i K29 22 rfl]; exact hS2
          have hH : RH σ (ps_a s29 1144) (ps_a s29 1145) (ps_a s29 1146) (ps_a s29 1147) (ps_i s29 1131 29).toInt (ps_i s29 1131 30).toInt ((ps_i s29 1131 31).toInt - 1) (ps_i s29 1131 32).toInt (l) b false := by rw [show ps_a s29 1144 = ps_a s23 1144 from (K29.2 1144 rfl).1, show ps_a s29 1145 = ps_a s23 1145 from (K29.2 1145 rfl).1, show ps_a s29 1146 = ps_a s23 1146 from (K29.2 1146 rfl).1, show ps_a s29 1147 = ps_a s23 1147 from (K29.2 1147 rfl).1, show ps_i s29 1131 29 = ps_i s23 1131 29 from kp_i K29 29 rfl, show ps_i s29 1131 30 = ps_i s23 1131 30 from kp_i K29 30 rfl, show ps_i s29 1131 31 = ps_i s23 1131 31 from kp_i K29 31 rfl, show ps_i s29 1131 32 = ps_i s23 1131 32 from kp_i K29 32 rfl]; exact hH
          have hc2 : 60 ≤ c → (ps_i s29 1131 32).toInt = 0 := by rw [show ps_i s29 1131 32 = ps_i s23 1131 32 from kp_i K29 32 rfl]; exact hc2
          have hR2 : Rw (ps_a s29 1134) x1.toInt (l ++ [c]) := by rw [show ps_a s29 1134 = ps_a s23 1134 from (K29.2 1134 rfl).1]; exact hR2
          have hO : ∀ i : Nat, (i : Int) < x1.toInt ∨ x1.toInt + 41 ≤ (i : Int) → ps_a s29 1134 i = ps_a s0 1134 i := by rw [show ps_a s29 1134 = ps_a s23 1134 from (K29.2 1134 rfl).1]; exact hO
          have p29_0' : (ps_i s29 1131 8).toInt ≤ (ps_i s29 1131 4).toInt := p29_0
          have r31 := mf_8 J29
          have r32 := mf_4 J29
          have u33 : (ps_i s29 1131 4).toInt = (ps_i s23 1131 4).toInt := xeq (kp_i K29 4 rfl)
          refine And.intro (fun h34 => ?_) (fun h34 => ?_)
          · have f35 : (0 : Int) ≤ v9.toInt := xle h34
            have r36 := mf_22 J29
            have u37 : (ps_i s29 1131 22).toInt = (ps_i s23 1131 22).toInt := xeq (kp_i K29 22 rfl)
            have r38 := mf_22 J23
            have u39 : (ps_i s23 1131 22).toInt = (ps_i s 1131 22).toInt := xeq (kp_i K23 22 rfl)
            have a40 : ((4 : Int32) * (ps_i s29 1131 22)).toInt = (4 : Int) * (ps_i s29 1131 22).toInt := xIm (show -2147483648 ≤ (4 : Int) * (ps_i s29 1131 22).toInt from by omega) (show (4 : Int) * (ps_i s29 1131 22).toInt < 2147483648 from by omega)
            have a41 : (((4 : Int32) * (ps_i s29 1131 22)) + v9).toInt = ((4 : Int32) * (ps_i s29 1131 22)).toInt + v9.toInt := xIa (show -2147483648 ≤ ((4 : Int32) * (ps_i s29 1131 22)).toInt + v9.toInt from by omega) (show ((4 : Int32) * (ps_i s29 1131 22)).toInt + v9.toInt < 2147483648 from by omega)
            refine ps_nd_i (show pm_in (((4 : Int32) * (ps_i s29 1131 22)) + v9) 8 = true from xgi (show 0 ≤ (((4 : Int32) * (ps_i s29 1131 22)) + v9).toInt from by omega) (show (((4 : Int32) * (ps_i s29 1131 22)) + v9).toInt < 8 from by omega)) ?_
            have r42 : 0 ≤ (ps_a s29 1139 (Int32.toNatClampNeg (((4 : Int32) * (ps_i s29 1131 22)) + v9))).toInt ∧ (ps_a s29 1139 (Int32.toNatClampNeg (((4 : Int32) * (ps_i s29 1131 22)) + v9))).toInt ≤ 9999 := ma_1139 (i := (((4 : Int32) * (ps_i s29 1131 22)) + v9)) J29 (show 0 ≤ (((4 : Int32) * (ps_i s29 1131 22)) + v9).toInt from by omega) (show (((4 : Int32) * (ps_i s29 1131 22)) + v9).toInt < 8 from by omega)
            have u43 : (ps_a s29 1139 (Int32.toNatClampNeg (((4 : Int32) * (ps_i s29 1131 22)) + v9))).toInt = (ps_a s23 1139 (Int32.toNatClampNeg (((4 : Int32) * (ps_i s29 1131 22)) + v9))).toInt := xeq (kp_a K29 1139 rfl _)
            have r44 : 0 ≤ (ps_a s23 1139 (Int32.toNatClampNeg (((4 : Int32) * (ps_i s29 1131 22)) + v9))).toInt ∧ (ps_a s23 1139 (Int32.toNatClampNeg (((4 : Int32) * (ps_i s29 1131 22)) + v9))).toInt ≤ 9999 := ma_1139 (i := (((4 : Int32) * (ps_i s29 1131 22)) + v9)) J23 (show 0 ≤ (((4 : Int32) * (ps_i s29 1131 22)) + v9).toInt from by omega) (show (((4 : Int32) * (ps_i s29 1131 22)) + v9).toInt < 8 from by omega)
            have u45 : (ps_a s23 1139 (Int32.toNatClampNeg (((4 : Int32) * (ps_i s29 1131 22)) + v9))).toInt = (ps_a s 1139 (Int32.toNatClampNeg (((4 : Int32) * (ps_i s29 1131 22)) + v9))).toInt := xeq (kp_a K23 1139 rfl _)
            have r46 : 0 ≤ (ps_a s 1139 (Int32.toNatClampNeg (((4 : Int32) * (ps_i s29 1131 22)) + v9))).toInt ∧ (ps_a s 1139 (Int32.toNatClampNeg (((4 : Int32) * (ps_i s29 1131 22)) + v9))).toInt ≤ 9999 := ma_1139 (i := (((4 : Int32) * (ps_i s29 1131 22)) + v9)) J (show 0 ≤ (((4 : Int32) * (ps_i s29 1131 22)) + v9).toInt from by omega) (show (((4 : Int32) * (ps_i s29 1131 22)) + v9).toInt < 8 from by omega)
            have hwv : (40 ≤ c ∧ c < 72 ∧ ((ps_a s29 1139 (Int32.toNatClampNeg (((4 : Int32) * (ps_i s29 1131 22)) + v9)))).toInt = 0) ∨ (20 ≤ c ∧ c < 20 + σ.1.2 ∧ ((ps_a s29 1139 (Int32.toNatClampNeg (((4 : Int32) * (ps_i s29 1131 22)) + v9)))).toInt = σ.2.2 (c - 20) ∧ σ.2.2 (c - 20) ≤ 2) := by first | exact Or.inl ⟨by omega, by omega, by decide⟩ | exact Or.inr ⟨by omega, by omega, Sg_f hS2 (by omega) (by omega)⟩
            have r47 := mf_29 J29
            have u48 : (ps_i s29 1131 29).toInt = (ps_i s23 1131 29).toInt := xeq (kp_i K29 29 rfl)
            have r49 := mf_29 J23
            have u50 : (ps_i s23 1131 29).toInt = (ps_i s 1131 29).toInt := xeq (kp_i K23 29 rfl)
            refine ms_211 J29 (show (ps_i s29 1131 29).toInt ≤ 14 from by omega) (fun s51 J51 K51 p51_0 p51_1 p51_2 p51_3 p51_4 => ?_)
            have K52 := kpt K30 K51 rfl rfl
            have KC := K51
            have hS2 : Sg (ps_a s51 1135) (ps_a s51 1136) (ps_a s51 1138) (ps_a s51 1139) (ps_i s51 1131 22).toInt σ := by rw [show ps_a s51 1135 = ps_a s29 1135 from (K51.2 1135 rfl).1, show ps_a s51 1136 = ps_a s29 1136 from (K51.2 1136 rfl).1, show ps_a s51 1138 = ps_a s29 1138 from (K51.2 1138 rfl).1, show ps_a s51 1139 = ps_a s29 1139 from (K51.2 1139 rfl).1, show ps_i s51 1131 22 = ps_i s29 1131 22 from kp_i K51 22 rfl]; exact hS2
            have hc2 : 60 ≤ c → (ps_i s51 1131 32).toInt = 0 := by rw [show ps_i s51 1131 32 = ps_i s29 1131 32 from kp_i K51 32 rfl]; exact hc2
            have hR2 : Rw (ps_a s51 1134) x1.toInt (l ++ [c]) := by rw [show ps_a s51 1134 = ps_a s29 1134 from (K51.2 1134 rfl).1]; exact hR2
            have hO : ∀ i : Nat, (i : Int) < x1.toInt ∨ x1.toInt + 41 ≤ (i : Int) → ps_a s51 1134 i = ps_a s0 1134 i := by rw [show ps_a s51 1134 = ps_a s29 1134 from (K51.2 1134 rfl).1]; exact hO
            have p51_0' : (ps_i s51 1131 29).toInt = (ps_i s29 1131 29).toInt + 1 := p51_0
            have r53 := mf_29 J51
            have w44 : _ := p51_1
            have w45 : _ := p51_2
            have w46 : _ := p51_3
            have w47 : _ := p51_4
            have u30 := xeq (kp_i KC 30 rfl)
            have u31 := xeq (kp_i KC 31 rfl)
            have u32 := xeq (kp_i KC 32 rfl)
            have g5 : ps_a s51 1145 (ps_i s29 1131 29).toInt.toNat ≠ 0 := by rw [(w45 _).trans (if_pos rfl)]; decide
            have g7 : ps_a s51 1147 (ps_i s29 1131 29).toInt.toNat = 0 := ((w47 _).trans (if_pos rfl)).trans (by decide)
            have g6 : ps_a s51 1146 (ps_i s29 1131 29).toInt.toNat = 0 := ((w46 _).trans (if_pos rfl)).trans (by decide)
            have g4 := congrArg Int32.toInt ((w44 (ps_i s29 1131 29).toInt.toNat).trans (if_pos rfl))
            have r54 := mf_8 J51
            have u55 : (ps_i s51 1131 8).toInt = (ps_i s29 1131 8).toInt := xeq (kp_i K51 8 rfl)
            have r56 := mf_4 J51
            have u57 : (ps_i s51 1131 4).toInt = (ps_i s29 1131 4).toInt := xeq (kp_i K51 4 rfl)
            have r58 := mf_5 J51
            have u59 : (ps_i s51 1131 5).toInt = (ps_i s29 1131 5).toInt := xeq (kp_i K51 5 rfl)
            have r60 := mf_5 J29
            have u61 : (ps_i s29 1131 5).toInt = (ps_i s23 1131 5).toInt := xeq (kp_i K29 5 rfl)
            have r62 := mf_5 J23
            have u63 : (ps_i s23 1131 5).toInt = (ps_i s 1131 5).toInt := xeq (kp_i K23 5 rfl)
            have u64 : (ps_i s51 1131 30).toInt = (ps_i s29 1131 30).toInt := xeq (kp_i K51 30 rfl)
            have u65 : (ps_i s29 1131 30).toInt = (ps_i s23 1131 30).toInt := xeq (kp_i K29 30 rfl)
            have u66 : (ps_i s23 1131 30).toInt = (ps_i s 1131 30).toInt := xeq (kp_i K23 30 rfl)
            have r67 := mf_31 J51
            have u68 : (ps_i s51 1131 31).toInt = (ps_i s29 1131 31).toInt := xeq (kp_i K51 31 rfl)
            have r69 := mf_31 J29
            have u70 : (ps_i s29 1131 31).toInt = (ps_i s23 1131 31).toInt := xeq (kp_i K29 31 rfl)
            have r71 := mf_31 J23
            have u72 : (ps_i s23 1131 31).toInt = ((ps_i s 1131 31) + 1).toInt := xeq (kp_i K23 31 rfl)
            exact k _ J51 K52 (show (ps_i s51 1131 8).toInt ≤ (ps_i s51 1131 4).toInt from by omega) (show 1 ≤ (ps_i s51 1131 5).toInt ∨ ((ps_i s51 1131 29).toInt ≤ 13 ∧ 0 ≤ (ps_i s51 1131 30).toInt ∧ (ps_i s51 1131 30).toInt ≤ 5 ∧ (ps_i s51 1131 31).toInt ≤ 40 ∧ (ps_i s0 1131 31).toInt < (ps_i s51 1131 31).toInt) from by omega) (show (ps_i s0 1131 31).toInt ≤ (ps_i s51 1131 31).toInt from by omega) ((by first | (exfalso; omega) | exact Or.inr ⟨_, hR2, RQ_c hH (by omega) (by omega) (kS_pusht hF g5 (hwv.imp id (fun q => ⟨q.1, q.2.1, q.2.2.1⟩))) (by omega) g4 g6 (show (ps_i s51 1131 30).toInt = (ps_i s29 1131 30).toInt + (if c = 4 ∨ c = 5 then 1 else 0) from by rw [if_neg (by omega)]; omega) ⟨fun _ => by omega, fun _ => g7⟩ (fun i hi => ⟨(w44 i).trans (if_neg (by omega)), (w45 i).trans (if_neg (by omega)), (w46 i).trans (if_neg (by omega)), (w47 i).trans (if_neg (by omega))⟩) (show (ps_i s51 1131 29).toInt = (ps_i s29 1131 29).toInt + 1 from by omega) (show (ps_i s51 1131 31).toInt = ((ps_i s29 1131 31).toInt - 1) + 1 from by omega) (show (ps_i s51 1131 32).toInt = (ps_i s29 1131 32).toInt from u32) (fun z => by omega)⟩)) (hO)
          · have f73 : v9.toInt < (0 : Int) := xlt h34
            have hwv : (40 ≤ c ∧ c < 72 ∧ ((0 : Int32)).toInt = 0) ∨ (20 ≤ c ∧ c < 20 + σ.1.2 ∧ ((0 : Int32)).toInt = σ.2.2 (c - 20) ∧ σ.2.2 (c - 20) ≤ 2) := by first | exact Or.inl ⟨by omega, by omega, by decide⟩ | exact Or.inr ⟨by omega, by omega, Sg_f hS2 (by omega) (by omega)⟩
            have r74 := mf_29 J29
            have u75 : (ps_i s29 1131 29).toInt = (ps_i s23 1131 29).toInt := xeq (kp_i K29 29 rfl)
            have r76 := mf_29 J23
            have u77 : (ps_i s23 1131 29).toInt = (ps_i s 1131 29).toInt := xeq (kp_i K23 29 rfl)
            refine ms_211 J29 (show (ps_i s29 1131 29).toInt ≤ 14 from by omega) (fun s78 J78 K78 p78_0 p78_1 p78_2 p78_3 p78_4 => ?_)
            have K79 := kpt K30 K78 rfl rfl
            have KC := K78
            have hS2 : Sg (ps_a s78 1135) (ps_a s78 1136) (ps_a s78 1138) (ps_a s78 1139) (ps_i s78 1131 22).toInt σ := by rw [show ps_a s78 1135 = ps_a s29 1135 from (K78.2 1135 rfl).1, show ps_a s78 1136 = ps_a s29 1136 from (K78.2 1136 rfl).1, show ps_a s78 1138 = ps_a s29 1138 from (K78.2 1138 rfl).1, show ps_a s78 1139 = ps_a s29 1139 from (K78.2 1139 rfl).1, show ps_i s78 1131 22 = ps_i s29 1131 22 from kp_i K78 22 rfl]; exact hS2
            have hc2 : 60 ≤ c → (ps_i s78 1131 32).toInt = 0 := by rw [show ps_i s78 1131 32 = ps_i s29 1131 32 from kp_i K78 32 rfl]; exact hc2
            have hR2 : Rw (ps_a s78 1134) x1.toInt (l ++ [c]) := by rw [show ps_a s78 1134 = ps_a s29 1134 from (K78.2 1134 rfl).1]; exact hR2
            have hO : ∀ i : Nat, (i : Int) < x1.toInt ∨ x1.toInt + 41 ≤ (i : Int) → ps_a s78 1134 i = ps_a s0 1134 i := by rw [show ps_a s78 1134 = ps_a s29 1134 from (K78.2 1134 rfl).1]; exact hO
            have p78_0' : (ps_i s78 1131 29).toInt = (ps_i s29 1131 29).toInt + 1 := p78_0
            have r80 := mf_29 J78
            have w44 : _ := p78_1
            have w45 : _ := p78_2
            have w46 : _ := p78_3
            have w47 : _ := p78_4
            have u30 := xeq (kp_i KC 30 rfl)
            have u31 := xeq (kp_i KC 31 rfl)
            have u32 := xeq (kp_i KC 32 rfl)
            have g5 : ps_a s78 1145 (ps_i s29 1131 29).toInt.toNat ≠ 0 := by rw [(w45 _).trans (if_pos rfl)]; decide
            have g7 : ps_a s78 1147 (ps_i s29 1131 29).toInt.toNat = 0 := ((w47 _).trans (if_pos rfl)).trans (by decide)
            have g6 : ps_a s78 1146 (ps_i s29 1131 29).toInt.toNat = 0 := ((w46 _).trans (if_pos rfl)).trans (by decide)
            have g4 := congrArg Int32.toInt ((w44 (ps_i s29 1131 29).toInt.toNat).trans (if_pos rfl))
            have r81 := mf_8 J78
            have u82 : (ps_i s78 1131 8).toInt = (ps_i s29 1131 8).toInt := xeq (kp_i K78 8 rfl)
            have r83 := mf_4 J78
            have u84 : (ps_i s78 1131 4).toInt = (ps_i s29 1131 4).toInt := xeq (kp_i K78 4 rfl)
            have r85 := mf_5 J78
            have u86 : (ps_i s78 1131 5).toInt = (ps_i s29 1131 5).toInt := xeq (kp_i K78 5 rfl)
            have r87 := mf_5 J29
            have u88 : (ps_i s29 1131 5).toInt = (ps_i s23 1131 5).toInt := xeq (kp_i K29 5 rfl)
            have r89 := mf_5 J23
            have u90 : (ps_i s23 1131 5).toInt = (ps_i s 1131 5).toInt := xeq (kp_i K23 5 rfl)
            have u91 : (ps_i s78 1131 30).toInt = (ps_i s29 1131 30).toInt := xeq (kp_i K78 30 rfl)
            have u92 : (ps_i s29 1131 30).toInt = (ps_i s23 1131 30).toInt := xeq (kp_i K29 30 rfl)
            have u93 : (ps_i s23 1131 30).toInt = (ps_i s 1131 30).toInt := xeq (kp_i K23 30 rfl)
            have r94 := mf_31 J78
            have u95 : (ps_i s78 1131 31).toInt = (ps_i s29 1131 31).toInt := xeq (kp_i K78 31 rfl)
            have r96 := mf_31 J29
            have u97 : (ps_i s29 1131 31).toInt = (ps_i s23 1131 31).toInt := xeq (kp_i K29 31 rfl)
            have r98 := mf_31 J23
            have u99 : (ps_i s23 1131 31).toInt = ((ps_i s 1131 31) + 1).toInt := xeq (kp_i K23 31 rfl)
            exact k _ J78 K79 (show (ps_i s78 1131 8).toInt ≤ (ps_i s78 1131 4).toInt from by omega) (show 1 ≤ (ps_i s78 1131 5).toInt ∨ ((ps_i s78 1131 29).toInt ≤ 13 ∧ 0 ≤ (ps_i s78 1131 30).toInt ∧ (ps_i s78 1131 30).toInt ≤ 5 ∧ (ps_i s78 1131 31).toInt ≤ 40 ∧ (ps_i s0 1131 31).toInt < (ps_i s78 1131 31).toInt) from by omega) (show (ps_i s0 1131 31).toInt ≤ (ps_i s78 1131 31).toInt from by omega) ((by first | (exfalso; omega) | exact Or.inr ⟨_, hR2, RQ_c hH (by omega) (by omega) (kS_pusht hF g5 (hwv.imp id (fun q => ⟨q.1, q.2.1, q.2.2.1⟩))) (by omega) g4 g6 (show (ps_i s78 1131 30).toInt = (ps_i s29 1131 30).toInt + (if c = 4 ∨ c = 5 then 1 else 0) from by rw [if_neg (by omega)]; omega) ⟨fun _ => by omega, fun _ => g7⟩ (fun i hi => ⟨(w44 i).trans (if_neg (by omega)), (w45 i).trans (if_neg (by omega)), (w46 i).trans (if_neg (by omega)), (w47 i).trans (if_neg (by omega))⟩) (show (ps_i s78 1131 29).toInt = (ps_i s29 1131 29).toInt + 1 from by omega) (show (ps_i s78 1131 31).toInt = ((ps_i s29 1131 31).toInt - 1) + 1 from by omega) (show (ps_i s78 1131 32).toInt = (ps_i s29 1131 32).toInt from u32) (fun z => by omega)⟩)) (hO)
        · have f100 : v9.toInt < (0 : Int) := xlt h20
          obtain ⟨c, hc⟩ : ∃ c : Nat, ((0 : Int32)).toInt = (c : Int) := ⟨((0 : Int32)).toInt.toNat, by omega⟩
          have hcc : (40 ≤ c ∧ c < 72 ∧ v9.toInt < 0 ∧ (60 ≤ c → (ps_i s 1131 32).toInt = 0)) ∨ (20 ≤ c ∧ c < 20 + σ.1.2 ∧ 0 ≤ v9.toInt ∧ c = 20 + v9.toInt.toNat) := by omega
          have hc2 : 60 ≤ c → (ps_i (ps_ui s 1131 31 ((ps_i s 1131 31) + 1)) 1131 32).toInt = 0 := fun z => (show (ps_i s 1131 32).toInt = 0 from by omega)
          refine ms_210 (l := l) (p := c) J18 hR ((by have z := RH_len hH0; omega)) (hc) (fun s101 J101 K101 p101_0 p101_1 => ?_)
          have K102 := kpt K19 K101 rfl rfl
          have KC := K101
          have hS2 : Sg (ps_a s101 1135) (ps_a s101 1136) (ps_a s101 1138) (ps_a s101 1139) (ps_i s101 1131 22).toInt σ := by rw [show ps_a s101 1135 = ps_a (ps_ui s 1131 31 ((ps_i s 1131 31) + 1)) 1135 from (K101.2 1135 rfl).1, show ps_a s101 1136 = ps_a (ps_ui s 1131 31 ((ps_i s 1131 31) + 1)) 1136 from (K101.2 1136 rfl).1, show ps_a s101 1138 = ps_a (ps_ui s 1131 31 ((ps_i s 1131 31) + 1)) 1138 from (K101.2 1138 rfl).1, show ps_a s101 1139 = ps_a (ps_ui s 1131 31 ((ps_i s 1131 31) + 1)) 1139 from (K101.2 1139 rfl).1, show ps_i s101 1131 22 = ps_i (ps_ui s 1131 31 ((ps_i s 1131 31) + 1)) 1131 22 from kp_i K101 22 rfl]; exact hS2
          have hH : RH σ (ps_a s101 1144) (ps_a s101 1145) (ps_a s101 1146) (ps_a s101 1147) (ps_i s101 1131 29).toInt (ps_i s101 1131 30).toInt ((ps_i s101 1131 31).toInt - 1) (ps_i s101 1131 32).toInt (l) b false := by rw [show ps_a s101 1144 = ps_a (ps_ui s 1131 31 ((ps_i s 1131 31) + 1)) 1144 from (K101.2 1144 rfl).1, show ps_a s101 1145 = ps_a (ps_ui s 1131 31 ((ps_i s 1131 31) + 1)) 1145 from (K101.2 1145 rfl).1, show ps_a s101 1146 = ps_a (ps_ui s 1131 31 ((ps_i s 1131 31) + 1)) 1146 from (K101.2 1146 rfl).1, show ps_a s101 1147 = ps_a (ps_ui s 1131 31 ((ps_i s 1131 31) + 1)) 1147 from (K101.2 1147 rfl).1, show ps_i s101 1131 29 = ps_i (ps_ui s 1131 31 ((ps_i s 1131 31) + 1)) 1131 29 from kp_i K101 29 rfl, show ps_i s101 1131 30 = ps_i (ps_ui s 1131 31 ((ps_i s 1131 31) + 1)) 1131 30 from kp_i K101 30 rfl, show ps_i s101 1131 31 = ps_i (ps_ui s 1131 31 ((ps_i s 1131 31) + 1)) 1131 31 from kp_i K101 31 rfl, show ps_i s101 1131 32 = ps_i (ps_ui s 1131 31 ((ps_i s 1131 31) + 1)) 1131 32 from kp_i K101 32 rfl]; exact hH
          have hc2 : 60 ≤ c → (ps_i s101 1131 32).toInt = 0 := by rw [show ps_i s101 1131 32 = ps_i (ps_ui s 1131 31 ((ps_i s 1131 31) + 1)) 1131 32 from kp_i K101 32 rfl]; exact hc2
          have hR2 : Rw (ps_a s101 1134) x1.toInt (l ++ [c]) := p101_0
          have ho : _ := p101_1
          have hO : ∀ i : Nat, (i : Int) < x1.toInt ∨ x1.toInt + 41 ≤ (i : Int) → ps_a s101 1134 i = ps_a s0 1134 i := fun i hi => (ho i hi).trans (hO i hi)
          have r103 := mf_8 J101
          have u104 : (ps_i s101 1131 8).toInt = (ps_i s 1131 8).toInt := xeq (kp_i K101 8 rfl)
          have r105 := mf_4 J101
          have u106 : (ps_i s101 1131 4).toInt = (ps_i s 1131 4).toInt := xeq (kp_i K101 4 rfl)
          refine ms_194 J101 (show (ps_i s101 1131 8).toInt ≤ (ps_i s101 1131 4).toInt from by omega) (fun s107 J107 K107 p107_0 => ?_)
          have K108 := kpt K102 K107 rfl rfl
          have KC := K107
          have hS2 : Sg (ps_a s107 1135) (ps_a s107 1136) (ps_a s107 1138) (ps_a s107 1139) (ps_i s107 1131 22).toInt σ := by rw [show ps_a s107 1135 = ps_a s101 1135 from (K107.2 1135 rfl).1, show ps_a s107 1136 = ps_a s101 1136 from (K107.2 1136 rfl).1, show ps_a s107 1138 = ps_a s101 1138 from (K107.2 1138 rfl).1, show ps_a s107 1139 = ps_a s101 1139 from (K107.2 1139 rfl).1, show ps_i s107 1131 22 = ps_i s101 1131 22 from kp_i K107 22 rfl]; exact hS2
          have hH : RH σ (ps_a s107 1144) (ps_a s107 1145) (ps_a s107 1146) (ps_a s107 1147) (ps_i s107 1131 29).toInt (ps_i s107 1131 30).toInt ((ps_i s107 1131 31).toInt - 1) (ps_i s107 1131 32).toInt (l) b false := by rw [show ps_a s107 1144 = ps_a s101 1144 from (K107.2 1144 rfl).1, show ps_a s107 1145 = ps_a s101 1145 from (K107.2 1145 rfl).1, show ps_a s107 1146 = ps_a s101 1146 from (K107.2 1146 rfl).1, show ps_a s107 1147 = ps_a s101 1147 from (K107.2 1147 rfl).1, show ps_i s107 1131 29 = ps_i s101 1131 29 from kp_i K107 29 rfl, show ps_i s107 1131 30 = ps_i s101 1131 30 from kp_i K107 30 rfl, show ps_i s107 1131 31 = ps_i s101 1131 31 from kp_i K107 31 rfl, show ps_i s107 1131 32 = ps_i s101 1131 32 from kp_i K107 32 rfl]; exact hH
          have hc2 : 60 ≤ c → (ps_i s107 1131 32).toInt = 0 := by rw [show ps_i s107 1131 32 = ps_i s101 1131 32 from kp_i K107 32 rfl]; exact hc2
          have hR2 : Rw (ps_a s107 1134) x1.toInt (l ++ [c]) := by rw [show ps_a s107 1134 = ps_a s101 1134 from (K107.2 1134 rfl).1]; exact hR2
          have hO : ∀ i : Nat, (i : Int) < x1.toInt ∨ x1.toInt + 41 ≤ (i : Int) → ps_a s107 1134 i = ps_a s0 1134 i := by rw [show ps_a s107 1134 = ps_a s101 1134 from (K107.2 1134 rfl).1]; exact hO
          have p107_0' : (ps_i s107 1131 8).toInt ≤ (ps_i s107 1131 4).toInt := p107_0
          have r109 := mf_8 J107
          have r110 := mf_4 J107
          have u111 : (ps_i s107 1131 4).toInt = (ps_i s101 1131 4).toInt := xeq (kp_i K107 4 rfl)
          refine And.intro (fun h112 => ?_) (fun h112 => ?_)
          · have f113 : (0 : Int) ≤ v9.toInt := xle h112
            have r114 := mf_22 J107
            have u115 : (ps_i s107 1131 22).toInt = (ps_i s101 1131 22).toInt := xeq (kp_i K107 22 rfl)
            have r116 := mf_22 J101
            have u117 : (ps_i s101 1131 22).toInt = (ps_i s 1131 22).toInt := xeq (kp_i K101 22 rfl)
            have a118 : ((4 : Int32) * (ps_i s107 1131 22)).toInt = (4 : Int) * (ps_i s107 1131 22).toInt := xIm (show -2147483648 ≤ (4 : Int) * (ps_i s107 1131 22).toInt from by omega) (show (4 : Int) * (ps_i s107 1131 22).toInt < 2147483648 from by omega)
            have a119 : (((4 : Int32) * (ps_i s107 1131 22)) + v9).toInt = ((4 : Int32) * (ps_i s107 1131 22)).toInt + v9.toInt := xIa (show -2147483648 ≤ ((4 : Int32) * (ps_i s107 1131 22)).toInt + v9.toInt from by omega) (show ((4 : Int32) * (ps_i s107 1131 22)).toInt + v9.toInt < 2147483648 from by omega)
            refine ps_nd_i (show pm_in (((4 : Int32) * (ps_i s107 1131 22)) + v9) 8 = true from xgi (show 0 ≤ (((4 : Int32) * (ps_i s107 1131 22)) + v9).toInt from by omega) (show (((4 : Int32) * (ps_i s107 1131 22)) + v9).toInt < 8 from by omega)) ?_
            have r120 : 0 ≤ (ps_a s107 1139 (Int32.toNatClampNeg (((4 : Int32) * (ps_i s107 1131 22)) + v9))).toInt ∧ (ps_a s107 1139 (Int32.toNatClampNeg (((4 : Int32) * (ps_i s107 1131 22)) + v9))).toInt ≤ 9999 := ma_1139 (i := (((4 : Int32) * (ps_i s107 1131 22)) + v9)) J107 (show 0 ≤ (((4 : Int32) * (ps_i s107 1131 22)) + v9).toInt from by omega) (show (((4 : Int32) * (ps_i s107 1131 22)) + v9).toInt < 8 from by omega)
            have u121 : (ps_a s107 1139 (Int32.toNatClampNeg (((4 : Int32) * (ps_i s107 1131 22)) + v9))).toInt = (ps_a s101 1139 (Int32.toNatClampNeg (((4 : Int32) * (ps_i s107 1131 22)) + v9))).toInt := xeq (kp_a K107 1139 rfl _)
            have r122 : 0 ≤ (ps_a s101 1139 (Int32.toNatClampNeg (((4 : Int32) * (ps_i s107 1131 22)) + v9))).toInt ∧ (ps_a s101 1139 (Int32.toNatClampNeg (((4 : Int32) * (ps_i s107 1131 22)) + v9))).toInt ≤ 9999 := ma_1139 (i := (((4 : Int32) * (ps_i s107 1131 22)) + v9)) J101 (show 0 ≤ (((4 : Int32) * (ps_i s107 1131 22)) + v9).toInt from by omega) (show (((4 : Int32) * (ps_i s107 1131 22)) + v9).toInt < 8 from by omega)
            have u123 : (ps_a s101 1139 (Int32.toNatClampNeg (((4 : Int32) * (ps_i s107 1131 22)) + v9))).toInt = (ps_a s 1139 (Int32.toNatClampNeg (((4 : Int32) * (ps_i s107 1131 22)) + v9))).toInt := xeq (kp_a K101 1139 rfl _)
            have r124 : 0 ≤ (ps_a s 1139 (Int32.toNatClampNeg (((4 : Int32) * (ps_i s107 1131 22)) + v9))).toInt ∧ (ps_a s 1139 (Int32.toNatClampNeg (((4 : Int32) * (ps_i s107 1131 22)) + v9))).toInt ≤ 9999 := ma_1139 (i := (((4 : Int32) * (ps_i s107 1131 22)) + v9)) J (show 0 ≤ (((4 : Int32) * (ps_i s107 1131 22)) + v9).toInt from by omega) (show (((4 : Int32) * (ps_i s107 1131 22)) + v9).toInt < 8 from by omega)
            have hwv : (40 ≤ c ∧ c < 72 ∧ ((ps_a s107 1139 (Int32.toNatClampNeg (((4 : Int32) * (ps_i s107 1131 22)) + v9)))).toInt = 0) ∨ (20 ≤ c ∧ c < 20 + σ.1.2 ∧ ((ps_a s107 1139 (Int32.toNatClampNeg (((4 : Int32) * (ps_i s107 1131 22)) + v9)))).toInt = σ.2.2 (c - 20) ∧ σ.2.2 (c - 20) ≤ 2) := by first | exact Or.inl ⟨by omega, by omega, by decide⟩ | exact Or.inr ⟨by omega, by omega, Sg_f hS2 (by omega) (by omega)⟩
            have r125 := mf_29 J107
            have u126 : (ps_i s107 1131 29).toInt = (ps_i s101 1131 29).toInt := xeq (kp_i K107 29 rfl)
            have r127 := mf_29 J101
            have u128 : (ps_i s101 1131 29).toInt = (ps_i s 1131 29).toInt := xeq (kp_i K101 29 rfl)
            refine ms_211 J107 (show (ps_i s107 1131 29).toInt ≤ 14 from by omega) (fun s129 J129 K129 p129_0 p129_1 p129_2 p129_3 p129_4 => ?_)
            have K130 := kpt K108 K129 rfl rfl
            have KC := K129
            have hS2 : Sg (ps_a s129 1135) (ps_a s129 1136) (ps_a s129 1138) (ps_a s129 1139) (ps_i s129 1131 22).toInt σ := by rw [show ps_a s129 1135 = ps_a s107 1135 from (K129.2 1135 rfl).1, show ps_a s129 1136 = ps_a s107 1136 from (K129.2 1136 rfl).1, show ps_a s129 1138 = ps_a s107 1138 from (K129.2 1138 rfl).1, show ps_a s129 1139 = ps_a s107 1139 from (K129.2 1139 rfl).1, show ps_i s129 1131 22 = ps_i s107 1131 22 from kp_i K129 22 rfl]; exact hS2
            have hc2 : 60 ≤ c → (ps_i s129 1131 32).toInt = 0 := by rw [show ps_i s129 1131 32 = ps_i s107 1131 32 from kp_i K129 32 rfl]; exact hc2
            have hR2 : Rw (ps_a s129 1134) x1.toInt (l ++ [c]) := by rw [show ps_a s129 1134 = ps_a s107 1134 from (K129.2 1134 rfl).1]; exact hR2
            have hO : ∀ i : Nat, (i : Int) < x1.toInt ∨ x1.toInt + 41 ≤ (i : Int) → ps_a s129 1134 i = ps_a s0 1134 i := by rw [show ps_a s129 1134 = ps_a s107 1134 from (K129.2 1134 rfl).1]; exact hO
            have p129_0' : (ps_i s129 1131 29).toInt = (ps_i s107 1131 29).toInt + 1 := p129_0
            have r131 := mf_29 J129
            have w44 : _ := p129_1
            have w45 : _ := p129_2
            have w46 : _ := p129_3
            have w47 : _ := p129_4
            have u30 := xeq (kp_i KC 30 rfl)
            have u31 := xeq (kp_i KC 31 rfl)
            have u32 := xeq (kp_i KC 32 rfl)
            have g5 : ps_a s129 1145 (ps_i s107 1131 29).toInt.toNat ≠ 0 := by rw [(w45 _).trans (if_pos rfl)]; decide
            have g7 : ps_a s129 1147 (ps_i s107 1131 29).toInt.toNat = 0 := ((w47 _).trans (if_pos rfl)).trans (by decide)
            have g6 : ps_a s129 1146 (ps_i s107 1131 29).toInt.toNat = 0 := ((w46 _).trans (if_pos rfl)).trans (by decide)
            have g4 := congrArg Int32.toInt ((w44 (ps_i s107 1131 29).toInt.toNat).trans (if_pos rfl))
            have r132 := mf_8 J129
            have u133 : (ps_i s129 1131 8).toInt = (ps_i s107 1131 8).toInt := xeq (kp_i K129 8 rfl)
            have r134 := mf_4 J129
            have u135 : (ps_i s129 1131 4).toInt = (ps_i s107 1131 4).toInt := xeq (kp_i K129 4 rfl)
            have r136 := mf_5 J129
            have u137 : (ps_i s129 1131 5).toInt = (ps_i s107 1131 5).toInt := xeq (kp_i K129 5 rfl)
            have r138 := mf_5 J107
            have u139 : (ps_i s107 1131 5).toInt = (ps_i s101 1131 5).toInt := xeq (kp_i K107 5 rfl)
            have r140 := mf_5 J101
            have u141 : (ps_i s101 1131 5).toInt = (ps_i s 1131 5).toInt := xeq (kp_i K101 5 rfl)
            have u142 : (ps_i s129 1131 30).toInt = (ps_i s107 1131 30).toInt := xeq (kp_i K129 30 rfl)
            have u143 : (ps_i s107 1131 30).toInt = (ps_i s101 1131 30).toInt := xeq (kp_i K107 30 rfl)
            have u144 : (ps_i s101 1131 30).toInt = (ps_i s 1131 30).toInt := xeq (kp_i K101 30 rfl)
            have r145 := mf_31 J129
            have u146 : (ps_i s129 1131 31).toInt = (ps_i s107 1131 31).toInt := xeq (kp_i K129 31 rfl)
            have r147 := mf_31 J107
            have u148 : (ps_i s107 1131 31).toInt = (ps_i s101 1131 31).toInt := xeq (kp_i K107 31 rfl)
            have r149 := mf_31 J101
            have u150 : (ps_i s101 1131 31).toInt = ((ps_i s 1131 31) + 1).toInt := xeq (kp_i K101 31 rfl)
            exact k _ J129 K130 (show (ps_i s129 1131 8).toInt ≤ (ps_i s129 1131 4).toInt from by omega) (show 1 ≤ (ps_i s129 1131 5).toInt ∨ ((ps_i s129 1131 29).toInt ≤ 13 ∧ 0 ≤ (ps_i s129 1131 30).toInt ∧ (ps_i s129 1131 30).toInt ≤ 5 ∧ (ps_i s129 1131 31).toInt ≤ 40 ∧ (ps_i s0 1131 31).toInt < (ps_i s129 1131 31).toInt) from by omega) (show (ps_i s0 1131 31).toInt ≤ (ps_i s129 1131 31).toInt from by omega) ((by first | (exfalso; omega) | exact Or.inr ⟨_, hR2, RQ_c hH (by omega) (by omega) (kS_pusht hF g5 (hwv.imp id (fun q => ⟨q.1, q.2.1, q.2.2.1⟩))) (by omega) g4 g6 (show (ps_i s129 1131 30).toInt = (ps_i s107 1131 30).toInt + (if c = 4 ∨ c = 5 then 1 else 0) from by rw [if_neg (by omega)]; omega) ⟨fun _ => by omega, fun _ => g7⟩ (fun i hi => ⟨(w44 i).trans (if_neg (by omega)), (w45 i).trans (if_neg (by omega)), (w46 i).trans (if_neg (by omega)), (w47 i).trans (if_neg (by omega))⟩) (show (ps_i s129 1131 29).toInt = (ps_i s107 1131 29).toInt + 1 from by omega) (show (ps_i s129 1131 31).toInt = ((ps_i s107 1131 31).toInt - 1) + 1 from by omega) (show (ps_i s129 1131 32).toInt = (ps_i s107 1131 32).toInt from u32) (fun z => by omega)⟩)) (hO)
          · have f151 : v9.toInt < (0 : Int) := xlt h112
            have hwv : (40 ≤ c ∧ c < 72 ∧ ((0 : Int32)).toInt = 0) ∨ (20 ≤ c ∧ c < 20 + σ.1.2 ∧ ((0 : Int32)).toInt = σ.2.2 (c - 20) ∧ σ.2.2 (c - 20) ≤ 2) := by first | exact Or.inl ⟨by omega, by omega, by decide⟩ | exact Or.inr ⟨by omega, by omega, Sg_f hS2 (by omega) (by omega)⟩
            have r152 := mf_29 J107
            have u153 : (ps_i s107 1131 29).toInt = (ps_i s101 1131 29).toInt := xeq (kp_i K107 29 rfl)
            have r154 := mf_29 J101
            have u155 : (ps_i s101 1131 29).toInt = (ps_i s 1131 29).toInt := xeq (kp_i K101 29 rfl)
            refine ms_211 J107 (show (ps_i s107 1131 29).toInt ≤ 14 from by omega) (fun s156 J156 K156 p156_0 p156_1 p156_2 p156_3 p156_4 => ?_)
            have K157 := kpt K108 K156 rfl rfl
            have KC := K156
            have hS2 : Sg (ps_a s156 1135) (ps_a s156 1136) (ps_a s156 1138) (ps_a s156 1139) (ps_i s156 1131 22).toInt σ := by rw [show ps_a s156 1135 = ps_a s107 1135 from (K156.2 1135 rfl).1, show ps_a s156 1136 = ps_a s107 1136 from (K156.2 1136 rfl).1, show ps_a s156 1138 = ps_a s107 1138 from (K156.2 1138 rfl).1, show ps_a s156 1139 = ps_a s107 1139 from (K156.2 1139 rfl).1, show ps_i s156 1131 22 = ps_i s107 1131 22 from kp_i K156 22 rfl]; exact hS2
            have hc2 : 60 ≤ c → (ps_i s156 1131 32).toInt = 0 := by rw [show ps_i s156 1131 32 = ps_i s107 1131 32 from kp_i K156 32 rfl]; exact hc2
            have hR2 : Rw (ps_a s156 1134) x1.toInt (l ++ [c]) := by rw [show ps_a s156 1134 = ps_a s107 1134 from (K156.2 1134 rfl).1]; exact hR2
            have hO : ∀ i : Nat, (i : Int) < x1.toInt ∨ x1.toInt + 41 ≤ (i : Int) → ps_a s156 1134 i = ps_a s0 1134 i := by rw [show ps_a s156 1134 = ps_a s107 1134 from (K156.2 1134 rfl).1]; exact hO
            have p156_0' : (ps_i s156 1131 29).toInt = (ps_i s107 1131 29).toInt + 1 := p156_0
            have r158 := mf_29 J156
            have w44 : _ := p156_1
            have w45 : _ := p156_2
            have w46 : _ := p156_3
            have w47 : _ := p156_4
            have u30 := xeq (kp_i KC 30 rfl)
            have u31 := xeq (kp_i KC 31 rfl)
            have u32 := xeq (kp_i KC 32 rfl)
            have g5 : ps_a s156 1145 (ps_i s107 1131 29).toInt.toNat ≠ 0 := by rw [(w45 _).trans (if_pos rfl)]; decide
            have g7 : ps_a s156 1147 (ps_i s107 1131 29).toInt.toNat = 0 := ((w47 _).trans (if_pos rfl)).trans (by decide)
            have g6 : ps_a s156 1146 (ps_i s107 1131 29).toInt.toNat = 0 := ((w46 _).trans (if_pos rfl)).trans (by decide)
            have g4 := congrArg Int32.toInt ((w44 (ps_i s107 1131 29).toInt.toNat).trans (if_pos rfl))
            have r159 := mf_8 J156
            have u160 : (ps_i s156 1131 8).toInt = (ps_i s107 1131 8).toInt := xeq (kp_i K156 8 rfl)
            have r161 := mf_4 J156
            have u162 : (ps_i s156 1131 4).toInt = (ps_i s107 1131 4).toInt := xeq (kp_i K156 4 rfl)
            have r163 := mf_5 J156
            have u164 : (ps_i s156 1131 5).toInt = (ps_i s107 1131 5).toInt := xeq (kp_i K156 5 rfl)
            have r165 := mf_5 J107
            have u166 : (ps_i s107 1131 5).toInt = (ps_i s101 1131 5).toInt := xeq (kp_i K107 5 rfl)
            have r167 := mf_5 J101
            have u168 : (ps_i s101 1131 5).toInt = (ps_i s 1131 5).toInt := xeq (kp_i K101 5 rfl)
            have u169 : (ps_i s156 1131 30).toInt = (ps_i s107 1131 30).toInt := xeq (kp_i K156 30 rfl)
            have u170 : (ps_i s107 1131 30).toInt = (ps_i s101 1131 30).toInt := xeq (kp_i K107 30 rfl)
            have u171 : (ps_i s101 1131 30).toInt = (ps_i s 1131 30).toInt := xeq (kp_i K101 30 rfl)
            have r172 := mf_31 J156
            have u173 : (ps_i s156 1131 31).toInt = (ps_i s107 1131 31).toInt := xeq (kp_i K156 31 rfl)
            have r174 := mf_31 J107
            have u175 : (ps_i s107 1131 31).toInt = (ps_i s101 1131 31).toInt := xeq (kp_i K107 31 rfl)
            have r176 := mf_31 J101
            have u177 : (ps_i s101 1131 31).toInt = ((ps_i s 1131 31) + 1).toInt := xeq (kp_i K101 31 rfl)
            exact k _ J156 K157 (show (ps_i s156 1131 8).toInt ≤ (ps_i s156 1131 4).toInt from by omega) (show 1 ≤ (ps_i s156 1131 5).toInt ∨ ((ps_i s156 1131 29).toInt ≤ 13 ∧ 0 ≤ (ps_i s156 1131 30).toInt ∧ (ps_i s156 1131 30).toInt ≤ 5 ∧ (ps_i s156 1131 31).toInt ≤ 40 ∧ (ps_i s0 1131 31).toInt < (ps_i s156 1131 31).toInt) from by omega) (show (ps_i s0 1131 31).toInt ≤ (ps_i s156 1131 31).toInt from by omega) ((by first | (exfalso; omega) | exact Or.inr ⟨_, hR2, RQ_c hH (by omega) (by omega) (kS_pusht hF g5 (hwv.imp id (fun q => ⟨q.1, q.2.1, q.2.2.1⟩))) (by omega) g4 g6 (show (ps_i s156 1131 30).toInt = (ps_i s107 1131 30).toInt + (if c = 4 ∨ c = 5 then 1 else 0) from by rw [if_neg (by omega)]; omega) ⟨fun _ => by omega, fun _ => g7⟩ (fun i hi => ⟨(w44 i).trans (if_neg (by omega)), (w45 i).trans (if_neg (by omega)), (w46 i).trans (if_neg (by omega)), (w47 i).trans (if_neg (by omega))⟩) (show (ps_i s156 1131 29).toInt = (ps_i s107 1131 29).toInt + 1 from by omega) (show (ps_i s156 1131 31).toInt = ((ps_i s107 1131 31).toInt - 1) + 1 from by omega) (show (ps_i s156 1131 32).toInt = (ps_i s107 1131 32).toInt from u32) (fun z => by omega)⟩)) (hO)
      · have f178 : v14.toInt = (0 : Int) := xeq h15
        have qz178 : 1 ≤ (ps_i s 1131 5).toInt := by omega
        clear p14_0' p14_0
        exact k _ J K (show (ps_i s 1131 8).toInt ≤ (ps_i s 1131 4).toInt from by omega) (show 1 ≤ (ps_i s 1131 5).toInt ∨ ((ps_i s 1131 29).toInt ≤ 13 ∧ 0 ≤ (ps_i s 1131 30).toInt ∧ (ps_i s 1131 30).toInt ≤ 5 ∧ (ps_i s 1131 31).toInt ≤ 40 ∧ (ps_i s0 1131 31).toInt < (ps_i s 1131 31).toInt) from by omega) (show (ps_i s0 1131 31).toInt ≤ (ps_i s 1131 31).toInt from by omega) (Or.inl (show 1 ≤ (ps_i s 1131 5).toInt from by omega)) (hO)
    · have f179 : v9.toInt < (0 : Int) := xlt h12
      refine ms_216 J  (fun v180 s180 J180 K180 p180_0 p180_1 => ?_)
      have K181 := kpt K K180 rfl rfl
      have KC := K180
      have hS2 : Sg (ps_a s180 1135) (ps_a s180 1136) (ps_a s180 1138) (ps_a s180 1139) (ps_i s180 1131 22).toInt σ := by rw [show ps_a s180 1135 = ps_a s 1135 from (K180.2 1135 rfl).1, show ps_a s180 1136 = ps_a s 1136 from (K180.2 1136 rfl).1, show ps_a s180 1138 = ps_a s 1138 from (K180.2 1138 rfl).1, show ps_a s180 1139 = ps_a s 1139 from (K180.2 1139 rfl).1, show ps_i s180 1131 22 = ps_i s 1131 22 from kp_i K180 22 rfl]; exact hS2
      have hR : Rw (ps_a s180 1134) x1.toInt (l) := by rw [show ps_a s180 1134 = ps_a s 1134 from (K180.2 1134 rfl).1]; exact hR
      have hH0 : RH σ (ps_a s180 1144) (ps_a s180 1145) (ps_a s180 1146) (ps_a s180 1147) (ps_i s180 1131 29).toInt (ps_i s180 1131 30).toInt (ps_i s180 1131 31).toInt (ps_i s180 1131 32).toInt (l) b false := by rw [show ps_a s180 1144 = ps_a s 1144 from (K180.2 1144 rfl).1, show ps_a s180 1145 = ps_a s 1145 from (K180.2 1145 rfl).1, show ps_a s180 1146 = ps_a s 1146 from (K180.2 1146 rfl).1, show ps_a s180 1147 = ps_a s 1147 from (K180.2 1147 rfl).1, show ps_i s180 1131 29 = ps_i s 1131 29 from kp_i K180 29 rfl, show ps_i s180 1131 30 = ps_i s 1131 30 from kp_i K180 30 rfl, show ps_i s180 1131 31 = ps_i s 1131 31 from kp_i K180 31 rfl, show ps_i s180 1131 32 = ps_i s 1131 32 from kp_i K180 32 rfl]; exact hH0
      have hO : ∀ i : Nat, (i : Int) < x1.toInt ∨ x1.toInt + 41 ≤ (i : Int) → ps_a s180 1134 i = ps_a s0 1134 i := by rw [show ps_a s180 1134 = ps_a s 1134 from (K180.2 1134 rfl).1]; exact hO
      have p180_0' : (v180.toInt = 0 ∧ 1 ≤ (ps_i s180 1131 5).toInt) ∨ (40 ≤ v180.toInt ∧ v180.toInt < 60) ∨ (60 ≤ v180.toInt ∧ v180.toInt ≤ 71 ∧ (ps_i s180 1131 32).toInt = 0) := p180_0
      have r182 := mf_5 J180
      have u183 : (ps_i s180 1131 32).toInt = (ps_i s 1131 32).toInt := xeq (kp_i K180 32 rfl)
      have p180_1' : 1 ≤ (ps_i s 1131 5).toInt → 1 ≤ (ps_i s180 1131 5).toInt := p180_1
      refine ms_192 J180  (fun v184 p184_0 b184 => ?_)
      have p184_0' : (v184.toInt = 0 ∧ 1 ≤ (ps_i s180 1131 5).toInt) ∨ (v184.toInt = 1 ∧ (ps_i s180 1131 5).toInt = 0) := p184_0
      refine And.intro (fun h185 => ?_) (fun h185 => ?_)
      · have f186 : v184.toInt ≠ (0 : Int) := xne h185
        have qz186 : (ps_i s180 1131 5).toInt = 0 := by omega
        clear p184_0' p184_0
        have r187 := mf_31 J180
        have u188 : (ps_i s180 1131 31).toInt = (ps_i s 1131 31).toInt := xeq (kp_i K180 31 rfl)
        have a189 : ((ps_i s180 1131 31) + 1).toInt = (ps_i s180 1131 31).toInt + (1 : Int) := xIa (show -2147483648 ≤ (ps_i s180 1131 31).toInt + (1 : Int) from by omega) (show (ps_i s180 1131 31).toInt + (1 : Int) < 2147483648 from by omega)
        have J190 := mwi_31 (v := ((ps_i s180 1131 31) + 1)) J180 (show 0 ≤ ((ps_i s180 1131 31) + 1).toInt from by omega) (show ((ps_i s180 1131 31) + 1).toInt ≤ 42 from by omega)
        have K191 := kpi K181 (q := 31) (v := ((ps_i s180 1131 31) + 1)) rfl
        have hH : RH σ (ps_a (ps_ui s180 1131 31 ((ps_i s180 1131 31) + 1)) 1144) (ps_a (ps_ui s180 1131 31 ((ps_i s180 1131 31) + 1)) 1145) (ps_a (ps_ui s180 1131 31 ((ps_i s180 1131 31) + 1)) 1146) (ps_a (ps_ui s180 1131 31 ((ps_i s180 1131 31) + 1)) 1147) (ps_i (ps_ui s180 1131 31 ((ps_i s180 1131 31) + 1)) 1131 29).toInt (ps_i (ps_ui s180 1131 31 ((ps_i s180 1131 31) + 1)) 1131 30).toInt ((ps_i (ps_ui s180 1131 31 ((ps_i s180 1131 31) + 1)) 1131 31).toInt - 1) (ps_i (ps_ui s180 1131 31 ((ps_i s180 1131 31) + 1)) 1131 32).toInt (l) b false := RH_cnt hH0 (show ((ps_i s180 1131 31) + 1).toInt - 1 = (ps_i _ 1131 31).toInt from by omega)
        refine And.intro (fun h192 => ?_) (fun h192 => ?_)
        · have f193 : (0 : Int) ≤ v9.toInt := xle h192
          have a194 : ((20 : Int32) + v9).toInt = (20 : Int) + v9.toInt := xIa (show -2147483648 ≤ (20 : Int) + v9.toInt from by omega) (show (20 : Int) + v9.toInt < 2147483648 from by omega)
          obtain ⟨c, hc⟩ : ∃ c : Nat, (((20 : Int32) + v9)).toInt = (c : Int) := ⟨(((20 : Int32) + v9)).toInt.toNat, by omega⟩
          have hcc : (40 ≤ c ∧ c < 72 ∧ v9.toInt < 0 ∧ (60 ≤ c → (ps_i s180 1131 32).toInt = 0)) ∨ (20 ≤ c ∧ c < 20 + σ.1.2 ∧ 0 ≤ v9.toInt ∧ c = 20 + v9.toInt.toNat) := by omega
          have hc2 : 60 ≤ c → (ps_i (ps_ui s180 1131 31 ((ps_i s180 1131 31) + 1)) 1131 32).toInt = 0 := fun z => (show (ps_i s180 1131 32).toInt = 0 from by omega)
          refine ms_210 (l := l) (p := c) J190 hR ((by have z := RH_len hH0; omega)) (hc) (fun s195 J195 K195 p195_0 p195_1 => ?_)
          have K196 := kpt K191 K195 rfl rfl
          have KC := K195
          have hS2 : Sg (ps_a s195 1135) (ps_a s195 1136) (ps_a s195 1138) (ps_a s195 1139) (ps_i s195 1131 22).toInt σ := by rw [show ps_a s195 1135 = ps_a (ps_ui s180 1131 31 ((ps_i s180 1131 31) + 1)) 1135 from (K195.2 1135 rfl).1, show ps_a s195 1136 = ps_a (ps_ui s180 1131 31 ((ps_i s180 1131 31) + 1)) 1136 from (K195.2 1136 rfl).1, show ps_a s195 1138 = ps_a (ps_ui s180 1131 31 ((ps_i s180 1131 31) + 1)) 1138 from (K195.2 1138 rfl).1, show ps_a s195 1139 = ps_a (ps_ui s180 1131 31 ((ps_i s180 1131 31) + 1)) 1139 from (K195.2 1139 rfl).1, show ps_i s195 1131 22 = ps_i (ps_ui s180 1131 31 ((ps_i s180 1131 31) + 1)) 1131 22 from kp_i K195 22 rfl]; exact hS2
          have hH : RH σ (ps_a s195 1144) (ps_a s195 1145) (ps_a s195 1146) (ps_a s195 1147) (ps_i s195 1131 29).toInt (ps_i s195 1131 30).toInt ((ps_i s195 1131 31).toInt - 1) (ps_i s195 1131 32).toInt (l) b false := by rw [show ps_a s195 1144 = ps_a (ps_ui s180 1131 31 ((ps_i s180 1131 31) + 1)) 1144 from (K195.2 1144 rfl).1, show ps_a s195 1145 = ps_a (ps_ui s180 1131 31 ((ps_i s180 1131 31) + 1)) 1145 from (K195.2 1145 rfl).1, show ps_a s195 1146 = ps_a (ps_ui s180 1131 31 ((ps_i s180 1131 31) + 1)) 1146 from (K195.2 1146 rfl).1, show ps_a s195 1147 = ps_a (ps_ui s180 1131 31 ((ps_i s180 1131 31) + 1)) 1147 from (K195.2 1147 rfl).1, show ps_i s195 1131 29 = ps_i (ps_ui s180 1131 31 ((ps_i s180 1131 31) + 1)) 1131 29 from kp_i K195 29 rfl, show ps_i s195 1131 30 = ps_i (ps_ui s180 1131 31 ((ps_i s180 1131 31) + 1)) 1131 30 from kp_i K195 30 rfl, show ps_i s195 1131 31 = ps_i (ps_ui s180 1131 31 ((ps_i s180 1131 31) + 1)) 1131 31 from kp_i K195 31 rfl, show ps_i s195 1131 32 = ps_i (ps_ui s180 1131 31 ((ps_i s180 1131 31) + 1)) 1131 32 from kp_i K195 32 rfl]; exact hH
          have hc2 : 60 ≤ c → (ps_i s195 1131 32).toInt = 0 := by rw [show ps_i s195 1131 32 = ps_i (ps_ui s180 1131 31 ((ps_i s180 1131 31) + 1)) 1131 32 from kp_i K195 32 rfl]; exact hc2
          have hR2 : Rw (ps_a s195 1134) x1.toInt (l ++ [c]) := p195_0
          have ho : _ := p195_1
          have hO : ∀ i : Nat, (i : Int) < x1.toInt ∨ x1.toInt + 41 ≤ (i : Int) → ps_a s195 1134 i = ps_a s0 1134 i := fun i hi => (ho i hi).trans (hO i hi)
          have r197 := mf_8 J195
          have u198 : (ps_i s195 1131 8).toInt = (ps_i s180 1131 8).toInt := xeq (kp_i K195 8 rfl)
          have r199 := mf_8 J180
          have u200 : (ps_i s180 1131 8).toInt = (ps_i s 1131 8).toInt := xeq (kp_i K180 8 rfl)
          have r201 := mf_4 J195
          have u202 : (ps_i s195 1131 4).toInt = (ps_i s180 1131 4).toInt := xeq (kp_i K195 4 rfl)
          have r203 := mf_4 J180
          have u204 : (ps_i s180 1131 4).toInt = (ps_i s 1131 4).toInt := xeq (kp_i K180 4 rfl)
          refine ms_194 J195 (show (ps_i s195 1131 8).toInt ≤ (ps_i s195 1131 4).toInt from by omega) (fun s205 J205 K205 p205_0 => ?_)
          have K206 := kpt K196 K205 rfl rfl
          have KC := K205
          have hS2 : Sg (ps_a s205 1135) (ps_a s205 1136) (ps_a s205 1138) (ps_a s205 1139) (ps_i s205 1131 22).toInt σ := by rw [show ps_a s205 1135 = ps_a s195 1135 from (K205.2 1135 rfl).1, show ps_a s205 1136 = ps_a s195 1136 from (K205.2 1136 rfl).1, show ps_a s205 1138 = ps_a s195 1138 from (K205.2 1138 rfl).1, show ps_a s205 1139 = ps_a s195 1139 from (K205.2 1139 rfl).1, show ps_i s205 1131 22 = ps_i s195 1131 22 from kp_i K205 22 rfl]; exact hS2
          have hH : RH σ (ps_a s205 1144) (ps_a s205 1145) (ps_a s205 1146) (ps_a s205 1147) (ps_i s205 1131 29).toInt (ps_i s205 1131 30).toInt ((ps_i s205 1131 31).toInt - 1) (ps_i s205 1131 32).toInt (l) b false := by rw [show ps_a s205 1144 = ps_a s195 1144 from (K205.2 1144 rfl).1, show ps_a s205 1145 = ps_a s195 1145 from (K205.2 1145 rfl).1, show ps_a s205 1146 = ps_a s195 1146 from (K205.2 1146 rfl).1, show ps_a s205 1147 = ps_a s195 1147 from (K205.2 1147 rfl).1, show ps_i s205 1131 29 = ps_i s195 1131 29 from kp_i K205 29 rfl, show ps_i s205 1131 30 = ps_i s195 1131 30 from kp_i K205 30 rfl, show ps_i s205 1131 31 = ps_i s195 1131 31 from kp_i K205 31 rfl, show ps_i s205 1131 32 = ps_i s195 1131 32 from kp_i K205 32 rfl]; exact hH
          have hc2 : 60 ≤ c → (ps_i s205 1131 32).toInt = 0 := by rw [show ps_i s205 1131 32 = ps_i s195 1131 32 from kp_i K205 32 rfl]; exact hc2
          have hR2 : Rw (ps_a s205 1134) x1.toInt (l ++ [c]) := by rw [show ps_a s205 1134 = ps_a s195 1134 from (K205.2 1134 rfl).1]; exact hR2
          have hO : ∀ i : Nat, (i : Int) < x1.toInt ∨ x1.toInt + 41 ≤ (i : Int) → ps_a s205 1134 i = ps_a s0 1134 i := by rw [show ps_a s205 1134 = ps_a s195 1134 from (K205.2 1134 rfl).1]; exact hO
          have p205_0' : (ps_i s205 1131 8).toInt ≤ (ps_i s205 1131 4).toInt := p205_0
          have r207 := mf_8 J205
          have r208 := mf_4 J205
          have u209 : (ps_i s205 1131 4).toInt = (ps_i s195 1131 4).toInt := xeq (kp_i K205 4 rfl)
          refine And.intro (fun h210 => ?_) (fun h210 => ?_)
          · have f211 : (0 : Int) ≤ v9.toInt := xle h210
            have r212 := mf_22 J205
            have u213 : (ps_i s205 1131 22).toInt = (ps_i s195 1131 22).toInt := xeq (kp_i K205 22 rfl)
            have r214 := mf_22 J195
            have u215 : (ps_i s195 1131 22).toInt = (ps_i s180 1131 22).toInt := xeq (kp_i K195 22 rfl)
            have r216 := mf_22 J180
            have u217 : (ps_i s180 1131 22).toInt = (ps_i s 1131 22).toInt := xeq (kp_i K180 22 rfl)
            have a218 : ((4 : Int32) * (ps_i s205 1131 22)).toInt = (4 : Int) * (ps_i s205 1131 22).toInt := xIm (show -2147483648 ≤ (4 : Int) * (ps_i s205 1131 22).toInt from by omega) (show (4 : Int) * (ps_i s205 1131 22).toInt < 2147483648 from by omega)
            have a219 : (((4 : Int32) * (ps_i s205 1131 22)) + v9).toInt = ((4 : Int32) * (ps_i s205 1131 22)).toInt + v9.toInt := xIa (show -2147483648 ≤ ((4 : Int32) * (ps_i s205 1131 22)).toInt + v9.toInt from by omega) (show ((4 : Int32) * (ps_i s205 1131 22)).toInt + v9.toInt < 2147483648 from by omega)
            refine ps_nd_i (show pm_in (((4 : Int32) * (ps_i s205 1131 22)) + v9) 8 = true from xgi (show 0 ≤ (((4 : Int32) * (ps_i s205 1131 22)) + v9).toInt from by omega) (show (((4 : Int32) * (ps_i s205 1131 22)) + v9).toInt < 8 from by omega)) ?_
            have r220 : 0 ≤ (ps_a s205 1139 (Int32.toNatClampNeg (((4 : Int32) * (ps_i s205 1131 22)) + v9))).toInt ∧ (ps_a s205 1139 (Int32.toNatClampNeg (((4 : Int32) * (ps_i s205 1131 22)) + v9))).toInt ≤ 9999 := ma_1139 (i := (((4 : Int32) * (ps_i s205 1131 22)) + v9)) J205 (show 0 ≤ (((4 : Int32) * (ps_i s205 1131 22)) + v9).toInt from by omega) (show (((4 : Int32) * (ps_i s205 1131 22)) + v9).toInt < 8 from by omega)
            have u221 : (ps_a s205 1139 (Int32.toNatClampNeg (((4 : Int32) * (ps_i s205 1131 22)) + v9))).toInt = (ps_a s195 1139 (Int32.toNatClampNeg (((4 : Int32) * (ps_i s205 1131 22)) + v9))).toInt := xeq (kp_a K205 1139 rfl _)
            have r222 : 0 ≤ (ps_a s195 1139 (Int32.toNatClampNeg (((4 : Int32) * (ps_i s205 1131 22)) + v9))).toInt ∧ (ps_a s195 1139 (Int32.toNatClampNeg (((4 : Int32) * (ps_i s205 1131 22)) + v9))).toInt ≤ 9999 := ma_1139 (i := (((4 : Int32) * (ps_i s205 1131 22)) + v9)) J195 (show 0 ≤ (((4 : Int32) * (ps_i s205 1131 22)) + v9).toInt from by omega) (show (((4 : Int32) * (ps_i s205 1131 22)) + v9).toInt < 8 from by omega)
            have u223 : (ps_a s195 1139 (Int32.toNatClampNeg (((4 : Int32) * (ps_i s205 1131 22)) + v9))).toInt = (ps_a s180 1139 (Int32.toNatClampNeg (((4 : Int32) * (ps_i s205 1131 22)) + v9))).toInt := xeq (kp_a K195 1139 rfl _)
            have r224 : 0 ≤ (ps_a s180 1139 (Int32.toNatClampNeg (((4 : Int32) * (ps_i s205 1131 22)) + v9))).toInt ∧ (ps_a s180 1139 (Int32.toNatClampNeg (((4 : Int32) * (ps_i s205 1131 22)) + v9))).toInt ≤ 9999 := ma_1139 (i := (((4 : Int32) * (ps_i s205 1131 22)) + v9)) J180 (show 0 ≤ (((4 : Int32) * (ps_i s205 1131 22)) + v9).toInt from by omega) (show (((4 : Int32) * (ps_i s205 1131 22)) + v9).toInt < 8 from by omega)
            have u225 : (ps_a s180 1139 (Int32.toNatClampNeg (((4 : Int32) * (ps_i s205 1131 22)) + v9))).toInt = (ps_a s 1139 (Int32.toNatClampNeg (((4 : Int32) * (ps_i s205 1131 22)) + v9))).toInt := xeq (kp_a K180 1139 rfl _)
            have r226 : 0 ≤ (ps_a s 1139 (Int32.toNatClampNeg (((4 : Int32) * (ps_i s205 1131 22)) + v9))).toInt ∧ (ps_a s 1139 (Int32.toNatClampNeg (((4 : Int32) * (ps_i s205 1131 22)) + v9))).toInt ≤ 9999 := ma_1139 (i := (((4 : Int32) * (ps_i s205 1131 22)) + v9)) J (show 0 ≤ (((4 : Int32) * (ps_i s205 1131 22)) + v9).toInt from by omega) (show (((4 : Int32) * (ps_i s205 1131 22)) + v9).toInt < 8 from by omega)
            have hwv : (40 ≤ c ∧ c < 72 ∧ ((ps_a s205 1139 (Int32.toNatClampNeg (((4 : Int32) * (ps_i s205 1131 22)) + v9)))).toInt = 0) ∨ (20 ≤ c ∧ c < 20 + σ.1.2 ∧ ((ps_a s205 1139 (Int32.toNatClampNeg (((4 : Int32) * (ps_i s205 1131 22)) + v9)))).toInt = σ.2.2 (c - 20) ∧ σ.2.2 (c - 20) ≤ 2) := by first | exact Or.inl ⟨by omega, by omega, by decide⟩ | exact Or.inr ⟨by omega, by omega, Sg_f hS2 (by omega) (by omega)⟩
            have r227 := mf_29 J205
            have u228 : (ps_i s205 1131 29).toInt = (ps_i s195 1131 29).toInt := xeq (kp_i K205 29 rfl)
            have r229 := mf_29 J195
            have u230 : (ps_i s195 1131 29).toInt = (ps_i s180 1131 29).toInt := xeq (kp_i K195 29 rfl)
            have r231 := mf_29 J180
            have u232 : (ps_i s180 1131 29).toInt = (ps_i s 1131 29).toInt := xeq (kp_i K180 29 rfl)
            refine ms_211 J205 (show (ps_i s205 1131 29).toInt ≤ 14 from by omega) (fun s233 J233 K233 p233_0 p233_1 p233_2 p233_3 p233_4 => ?_)
            have K234 := kpt K206 K233 rfl rfl
            have KC := K233
            have hS2 : Sg (ps_a s233 1135) (ps_a s233 1136) (ps_a s233 1138) (ps_a s233 1139) (ps_i s233 1131 22).toInt σ := by rw [show ps_a s233 1135 = ps_a s205 1135 from (K233.2 1135 rfl).1, show ps_a s233 1136 = ps_a s205 1136 from (K233.2 1136 rfl).1, show ps_a s233 1138 = ps_a s205 1138 from (K233.2 1138 rfl).1, show ps_a s233 1139 = ps_a s205 1139 from (K233.2 1139 rfl).1, show ps_i s233 1131 22 = ps_i s205 1131 22 from kp_i K233 22 rfl]; exact hS2
            have hc2 : 60 ≤ c → (ps_i s233 1131 32).toInt = 0 := by rw [show ps_i s233 1131 32 = ps_i s205 1131 32 from kp_i K233 32 rfl]; exact hc2
            have hR2 : Rw (ps_a s233 1134) x1.toInt (l ++ [c]) := by rw [show ps_a s233 1134 = ps_a s205 1134 from (K233.2 1134 rfl).1]; exact hR2
            have hO : ∀ i : Nat, (i : Int) < x1.toInt ∨ x1.toInt + 41 ≤ (i : Int) → ps_a s233 1134 i = ps_a s0 1134 i := by rw [show ps_a s233 1134 = ps_a s205 1134 from (K233.2 1134 rfl).1]; exact hO
            have p233_0' : (ps_i s233 1131 29).toInt = (ps_i s205 1131 29).toInt + 1 := p233_0
            have r235 := mf_29 J233
            have w44 : _ := p233_1
            have w45 : _ := p233_2
            have w46 : _ := p233_3
            have w47 : _ := p233_4
            have u30 := xeq (kp_i KC 30 rfl)
            have u31 := xeq (kp_i KC 31 rfl)
            have u32 := xeq (kp_i KC 32 rfl)
            have g5 : ps_a s233 1145 (ps_i s205 1131 29).toInt.toNat ≠ 0 := by rw [(w45 _).trans (if_pos rfl)]; decide
            have g7 : ps_a s233 1147 (ps_i s205 1131 29).toInt.toNat = 0 := ((w47 _).trans (if_pos rfl)).trans (by decide)
            have g6 : ps_a s233 1146 (ps_i s205 1131 29).toInt.toNat = 0 := ((w46 _).trans (if_pos rfl)).trans (by decide)
            have g4 := congrArg Int32.toInt ((w44 (ps_i s205 1131 29).toInt.toNat).trans (if_pos rfl))
            have r236 := mf_8 J233
            have u237 : (ps_i s233 1131 8).toInt = (ps_i s205 1131 8).toInt := xeq (kp_i K233 8 rfl)
            have r238 := mf_4 J233
            have u239 : (ps_i s233 1131 4).toInt = (ps_i s205 1131 4).toInt := xeq (kp_i K233 4 rfl)
            have r240 := mf_5 J233
            have u241 : (ps_i s233 1131 5).toInt = (ps_i s205 1131 5).toInt := xeq (kp_i K233 5 rfl)
            have r242 := mf_5 J205
            have u243 : (ps_i s205 1131 5).toInt = (ps_i s195 1131 5).toInt := xeq (kp_i K205 5 rfl)
            have r244 := mf_5 J195
            have u245 : (ps_i s195 1131 5).toInt = (ps_i s180 1131 5).toInt := xeq (kp_i K195 5 rfl)
            have u246 : (ps_i s233 1131 30).toInt = (ps_i s205 1131 30).toInt := xeq (kp_i K233 30 rfl)
            have u247 : (ps_i s205 1131 30).toInt = (ps_i s195 1131 30).toInt := xeq (kp_i K205 30 rfl)
            have u248 : (ps_i s195 1131 30).toInt = (ps_i s180 1131 30).toInt := xeq (kp_i K195 30 rfl)
            have u249 : (ps_i s180 1131 30).toInt = (ps_i s 1131 30).toInt := xeq (kp_i K180 30 rfl)
            have r250 := mf_31 J233
            have u251 : (ps_i s233 1131 31).toInt = (ps_i s205 1131 31).toInt := xeq (kp_i K233 31 rfl)
            have r252 := mf_31 J205
            have u253 : (ps_i s205 1131 31).toInt = (ps_i s195 1131 31).toInt := xeq (kp_i K205 31 rfl)
            have r254 := mf_31 J195
            have u255 : (ps_i s195 1131 31).toInt = ((ps_i s180 1131 31) + 1).toInt := xeq (kp_i K195 31 rfl)
            exact k _ J233 K234 (show (ps_i s233 1131 8).toInt ≤ (ps_i s233 1131 4).toInt from by omega) (show 1 ≤ (ps_i s233 1131 5).toInt ∨ ((ps_i s233 1131 29).toInt ≤ 13 ∧ 0 ≤ (ps_i s233 1131 30).toInt ∧ (ps_i s233 1131 30).toInt ≤ 5 ∧ (ps_i s233 1131 31).toInt ≤ 40 ∧ (ps_i s0 1131 31).toInt < (ps_i s233 1131 31).toInt) from by omega) (show (ps_i s0 1131 31).toInt ≤ (ps_i s233 1131 31).toInt from by omega) ((by first | (exfalso; omega) | exact Or.inr ⟨_, hR2, RQ_c hH (by omega) (by omega) (kS_pusht hF g5 (hwv.imp id (fun q => ⟨q.1, q.2.1, q.2.2.1⟩))) (by omega) g4 g6 (show (ps_i s233 1131 30).toInt = (ps_i s205 1131 30).toInt + (if c = 4 ∨ c = 5 then 1 else 0) from by rw [if_neg (by omega)]; omega) ⟨fun _ => by omega, fun _ => g7⟩ (fun i hi => ⟨(w44 i).trans (if_neg (by omega)), (w45 i).trans (if_neg (by omega)), (w46 i).trans (if_neg (by omega)), (w47 i).trans (if_neg (by omega))⟩) (show (ps_i s233 1131 29).toInt = (ps_i s205 1131 29).toInt + 1 from by omega) (show (ps_i s233 1131 31).toInt = ((ps_i s205 1131 31).toInt - 1) + 1 from by omega) (show (ps_i s233 1131 32).toInt = (ps_i s205 1131 32).toInt from u32) (fun z => by omega)⟩)) (hO)
          · have f256 : v9.toInt < (0 : Int) := xlt h210
            have hwv : (40 ≤ c ∧ c < 72 ∧ ((0 : Int32)).toInt = 0) ∨ (20 ≤ c ∧ c < 20 + σ.1.2 ∧ ((0 : Int32)).toInt = σ.2.2 (c - 20) ∧ σ.2.2 (c - 20) ≤ 2) := by first | exact Or.inl ⟨by omega, by omega, by decide⟩ | exact Or.inr ⟨by omega, by omega, Sg_f hS2 (by omega) (by omega)⟩
            have r257 := mf_29 J205
            have u258 : (ps_i s205 1131 29).toInt = (ps_i s195 1131 29).toInt := xeq (kp_i K205 29 rfl)
            have r259 := mf_29 J195
            have u260 : (ps_i s195 1131 29).toInt = (ps_i s180 1131 29).toInt := xeq (kp_i K195 29 rfl)
            have r261 := mf_29 J180
            have u262 : (ps_i s180 1131 29).toInt = (ps_i s 1131 29).toInt := xeq (kp_i K180 29 rfl)
            refine ms_211 J205 (show (ps_i s205 1131 29).toInt ≤ 14 from by omega) (fun s263 J263 K263 p263_0 p263_1 p263_2 p263_3 p263_4 => ?_)
            have K264 := kpt K206 K263 rfl rfl
            have KC := K263
            have hS2 : Sg (ps_a s263 1135) (ps_a s263 1136) (ps_a s263 1138) (ps_a s263 1139) (ps_i s263 1131 22).toInt σ := by rw [show ps_a s263 1135 = ps_a s205 1135 from (K263.2 1135 rfl).1, show ps_a s263 1136 = ps_a s205 1136 from (K263.2 1136 rfl).1, show ps_a s263 1138 = ps_a s205 1138 from (K263.2 1138 rfl).1, show ps_a s263 1139 = ps_a s205 1139 from (K263.2 1139 rfl).1, show ps_i s263 1131 22 = ps_i s205 1131 22 from kp_i K263 22 rfl]; exact hS2
            have hc2 : 60 ≤ c → (ps_i s263 1131 32).toInt = 0 := by rw [show ps_i s263 1131 32 = ps_i s205 1131 32 from kp_i K263 32 rfl]; exact hc2
            have hR2 : Rw (ps_a s263 1134) x1.toInt (l ++ [c]) := by rw [show ps_a s263 1134 = ps_a s205 1134 from (K263.2 1134 rfl).1]; exact hR2
            have hO : ∀ i : Nat, (i : Int) < x1.toInt ∨ x1.toInt + 41 ≤ (i : Int) → ps_a s263 1134 i = ps_a s0 1134 i := by rw [show ps_a s263 1134 = ps_a s205 1134 from (K263.2 1134 rfl).1]; exact hO
            have p263_0' : (ps_i s263 1131 29).toInt = (ps_i s205 1131 29).toInt + 1 := p263_0
            have r265 := mf_29 J263
            have w44 : _ := p263_1
            have w45 : _ := p263_2
            have w46 : _ := p263_3
            have w47 : _ := p263_4
            have u30 := xeq (kp_i KC 30 rfl)
            have u31 := xeq (kp_i KC 31 rfl)
            have u32 := xeq (kp_i KC 32 rfl)
            have g5 : ps_a s263 1145 (ps_i s205 1131 29).toInt.toNat ≠ 0 := by rw [(w45 _).trans (if_pos rfl)]; decide
            have g7 : ps_a s263 1147 (ps_i s205 1131 29).toInt.toNat = 0 := ((w47 _).trans (if_pos rfl)).trans (by decide)
            have g6 : ps_a s263 1146 (ps_i s205 1131 29).toInt.toNat = 0 := ((w46 _).trans (if_pos rfl)).trans (by decide)
            have g4 := congrArg Int32.toInt ((w44 (ps_i s205 1131 29).toInt.toNat).trans (if_pos rfl))
            have r266 := mf_8 J263
            have u267 : (ps_i s263 1131 8).toInt = (ps_i s205 1131 8).toInt := xeq (kp_i K263 8 rfl)
            have r268 := mf_4 J263
            have u269 : (ps_i s263 1131 4).toInt = (ps_i s205 1131 4).toInt := xeq (kp_i K263 4 rfl)
            have r270 := mf_5 J263
            have u271 : (ps_i s263 1131 5).toInt = (ps_i s205 1131 5).toInt := xeq (kp_i K263 5 rfl)
            have r272 := mf_5 J205
            have u273 : (ps_i s205 1131 5).toInt = (ps_i s195 1131 5).toInt := xeq (kp_i K205 5 rfl)
            have r274 := mf_5 J195
            have u275 : (ps_i s195 1131 5).toInt = (ps_i s180 1131 5).toInt := xeq (kp_i K195 5 rfl)
            have u276 : (ps_i s263 1131 30).toInt = (ps_i s205 1131 30).toInt := xeq (kp_i K263 30 rfl)
            have u277 : (ps_i s205 1131 30).toInt = (ps_i s195 1131 30).toInt := xeq (kp_i K205 30 rfl)
            have u278 : (ps_i s195 1131 30).toInt = (ps_i s180 1131 30).toInt := xeq (kp_i K195 30 rfl)
            have u279 : (ps_i s180 1131 30).toInt = (ps_i s 1131 30).toInt := xeq (kp_i K180 30 rfl)
            have r280 := mf_31 J263
            have u281 : (ps_i s263 1131 31).toInt = (ps_i s205 1131 31).toInt := xeq (kp_i K263 31 rfl)
            have r282 := mf_31 J205
            have u283 : (ps_i s205 1131 31).toInt = (ps_i s195 1131 31).toInt := xeq (kp_i K205 31 rfl)
            have r284 := mf_31 J195
            have u285 : (ps_i s195 1131 31).toInt = ((ps_i s180 1131 31) + 1).toInt := xeq (kp_i K195 31 rfl)
            exact k _ J263 K264 (show (ps_i s263 1131 8).toInt ≤ (ps_i s263 1131 4).toInt from by omega) (show 1 ≤ (ps_i s263 1131 5).toInt ∨ ((ps_i s263 1131 29).toInt ≤ 13 ∧ 0 ≤ (ps_i s263 1131 30).toInt ∧ (ps_i s263 1131 30).toInt ≤ 5 ∧ (ps_i s263 1131 31).toInt ≤ 40 ∧ (ps_i s0 1131 31).toInt < (ps_i s263 1131 31).toInt) from by omega) (show (ps_i s0 1131 31).toInt ≤ (ps_i s263 1131 31).toInt from by omega) ((by first | (exfalso; omega) | exact Or.inr ⟨_, hR2, RQ_c hH (by omega) (by omega) (kS_pusht hF g5 (hwv.imp id (fun q => ⟨q.1, q.2.1, q.2.2.1⟩))) (by omega) g4 g6 (show (ps_i s263 1131 30).toInt = (ps_i s205 1131 30).toInt + (if c = 4 ∨ c = 5 then 1 else 0) from by rw [if_neg (by omega)]; omega) ⟨fun _ => by omega, fun _ => g7⟩ (fun i hi => ⟨(w44 i).trans (if_neg (by omega)), (w45 i).trans (if_neg (by omega)), (w46 i).trans (if_neg (by omega)), (w47 i).trans (if_neg (by omega))⟩) (show (ps_i s263 1131 29).toInt = (ps_i s205 1131 29).toInt + 1 from by omega) (show (ps_i s263 1131 31).toInt = ((ps_i s205 1131 31).toInt - 1) + 1 from by omega) (show (ps_i s263 1131 32).toInt = (ps_i s205 1131 32).toInt from u32) (fun z => by omega)⟩)) (hO)
        · have f286 : v9.toInt < (0 : Int) := xlt h192
          obtain ⟨c, hc⟩ : ∃ c : Nat, (v180).toInt = (c : Int) := ⟨(v180).toInt.toNat, by omega⟩
          have hcc : (40 ≤ c ∧ c < 72 ∧ v9.toInt < 0 ∧ (60 ≤ c → (ps_i s180 1131 32).toInt = 0)) ∨ (20 ≤ c ∧ c < 20 + σ.1.2 ∧ 0 ≤ v9.toInt ∧ c = 20 + v9.toInt.toNat) := by omega
          have hc2 : 60 ≤ c → (ps_i (ps_ui s180 1131 31 ((ps_i s180 1131 31) + 1)) 1131 32).toInt = 0 := fun z => (show (ps_i s180 1131 32).toInt = 0 from by omega)
          refine ms_210 (l := l) (p := c) J190 hR ((by have z := RH_len hH0; omega)) (hc) (fun s287 J287 K287 p287_0 p287_1 => ?_)
          have K288 := kpt K191 K287 rfl rfl
          have KC := K287
          have hS2 : Sg (ps_a s287 1135) (ps_a s287 1136) (ps_a s287 1138) (ps_a s287 1139) (ps_i s287 1131 22).toInt σ := by rw [show ps_a s287 1135 = ps_a (ps_ui s180 1131 31 ((ps_i s180 1131 31) + 1)) 1135 from (K287.2 1135 rfl).1, show ps_a s287 1136 = ps_a (ps_ui s180 1131 31 ((ps_i s180 1131 31) + 1)) 1136 from (K287.2 1136 rfl).1, show ps_a s287 1138 = ps_a (ps_ui s180 1131 31 ((ps_i s180 1131 31) + 1)) 1138 from (K287.2 1138 rfl).1, show ps_a s287 1139 = ps_a (ps_ui s180 1131 31 ((ps_i s180 1131 31) + 1)) 1139 from (K287.2 1139 rfl).1, show ps_i s287 1131 22 = ps_i (ps_ui s180 1131 31 ((ps_i s180 1131 31) + 1)) 1131 22 from kp_i K287 22 rfl]; exact hS2
          have hH : RH σ (ps_a s287 1144) (ps_a s287 1145) (ps_a s287 1146) (ps_a s287 1147) (ps_i s287 1131 29).toInt (ps_i s287 1131 30).toInt ((ps_i s287 1131 31).toInt - 1) (ps_i s287 1131 32).toInt (l) b false := by rw [show ps_a s287 1144 = ps_a (ps_ui s180 1131 31 ((ps_i s180 1131 31) + 1)) 1144 from (K287.2 1144 rfl).1, show ps_a s287 1145 = ps_a (ps_ui s180 1131 31 ((ps_i s180 1131 31) + 1)) 1145 from (K287.2 1145 rfl).1, show ps_a s287 1146 = ps_a (ps_ui s180 1131 31 ((ps_i s180 1131 31) + 1)) 1146 from (K287.2 1146 rfl).1, show ps_a s287 1147 = ps_a (ps_ui s180 1131 31 ((ps_i s180 1131 31) + 1)) 1147 from (K287.2 1147 rfl).1, show ps_i s287 1131 29 = ps_i (ps_ui s180 1131 31 ((ps_i s180 1131 31) + 1)) 1131 29 from kp_i K287 29 rfl, show ps_i s287 1131 30 = ps_i (ps_ui s180 1131 31 ((ps_i s180 1131 31) + 1)) 1131 30 from kp_i K287 30 rfl, show ps_i s287 1131 31 = ps_i (ps_ui s180 1131 31 ((ps_i s180 1131 31) + 1)) 1131 31 from kp_i K287 31 rfl, show ps_i s287 1131 32 = ps_i (ps_ui s180 1131 31 ((ps_i s180 1131 31) + 1)) 1131 32 from kp_i K287 32 rfl]; exact hH
          have hc2 : 60 ≤ c → (ps_i s287 1131 32).toInt = 0 := by rw [show ps_i s287 1131 32 = ps_i (ps_ui s180 1131 31 ((ps_i s180 1131 31) + 1)) 1131 32 from kp_i K287 32 rfl]; exact hc2
          have hR2 : Rw (ps_a s287 1134) x1.toInt (l ++ [c]) := p287_0
          have ho : _ := p287_1
          have hO : ∀ i : Nat, (i : Int) < x1.toInt ∨ x1.toInt + 41 ≤ (i : Int) → ps_a s287 1134 i = ps_a s0 1134 i := fun i hi => (ho i hi).trans (hO i hi)
          have r289 := mf_8 J287
          have u290 : (ps_i s287 1131 8).toInt = (ps_i s180 1131 8).toInt := xeq (kp_i K287 8 rfl)
          have r291 := mf_8 J180
          have u292 : (ps_i s180 1131 8).toInt = (ps_i s 1131 8).toInt := xeq (kp_i K180 8 rfl)
          have r293 := mf_4 J287
          have u294 : (ps_i s287 1131 4).toInt = (ps_i s180 1131 4).toInt := xeq (kp_i K287 4 rfl)
          have r295 := mf_4 J180
          have u296 : (ps_i s180 1131 4).toInt = (ps_i s 1131 4).toInt := xeq (kp_i K180 4 rfl)
          refine ms_194 J287 (show (ps_i s287 1131 8).toInt ≤ (ps_i s287 1131 4).toInt from by omega) (fun s297 J297 K297 p297_0 => ?_)
          have K298 := kpt K288 K297 rfl rfl
          have KC := K297
          have hS2 : Sg (ps_a s297 1135) (ps_a s297 1136) (ps_a s297 1138) (ps_a s297 1139) (ps_i s297 1131 22).toInt σ := by rw [show ps_a s297 1135 = ps_a s287 1135 from (K297.2 1135 rfl).1, show ps_a s297 1136 = ps_a s287 1136 from (K297.2 1136 rfl).1, show ps_a s297 1138 = ps_a s287 1138 from (K297.2 1138 rfl).1, show ps_a s297 1139 = ps_a s287 1139 from (K297.2 1139 rfl).1, show ps_i s297 1131 22 = ps_i s287 1131 22 from kp_i K297 22 rfl]; exact hS2
          have hH : RH σ (ps_a s297 1144) (ps_a s297 1145) (ps_a s297 1146) (ps_a s297 1147) (ps_i s297 1131 29).toInt (ps_i s297 1131 30).toInt ((ps_i s297 1131 31).toInt - 1) (ps_i s297 1131 32).toInt (l) b false := by rw [show ps_a s297 1144 = ps_a s287 1144 from (K297.2 1144 rfl).1, show ps_a s297 1145 = ps_a s287 1145 from (K297.2 1145 rfl).1, show ps_a s297 1146 = ps_a s287 1146 from (K297.2 1146 rfl).1, show ps_a s297 1147 = ps_a s287 1147 from (K297.2 1147 rfl).1, show ps_i s297 1131 29 = ps_i s287 1131 29 from kp_i K297 29 rfl, show ps_i s297 1131 30 = ps_i s287 1131 30 from kp_i K297 30 rfl, show ps_i s297 1131 31 = ps_i s287 1131 31 from kp_i K297 31 rfl, show ps_i s297 1131 32 = ps_i s287 1131 32 from kp_i K297 32 rfl]; exact hH
          have hc2 : 60 ≤ c → (ps_i s297 1131 32).toInt = 0 := by rw [show ps_i s297 1131 32 = ps_i s287 1131 32 from kp_i K297 32 rfl]; exact hc2
          have hR2 : Rw (ps_a s297 1134) x1.toInt (l ++ [c]) := by rw [show ps_a s297 1134 = ps_a s287 1134 from (K297.2 1134 rfl).1]; exact hR2
          have hO : ∀ i : Nat, (i : Int) < x1.toInt ∨ x1.toInt + 41 ≤ (i : Int) → ps_a s297 1134 i = ps_a s0 1134 i := by rw [show ps_a s297 1134 = ps_a s287 1134 from (K297.2 1134 rfl).1]; exact hO
          have p297_0' : (ps_i s297 1131 8).toInt ≤ (ps_i s297 1131 4).toInt := p297_0
          have r299 := mf_8 J297
          have r300 := mf_4 J297
          have u301 : (ps_i s297 1131 4).toInt = (ps_i s287 1131 4).toInt := xeq (kp_i K297 4 rfl)
          refine And.intro (fun h302 => ?_) (fun h302 => ?_)
          · have f303 : (0 : Int) ≤ v9.toInt := xle h302
            have r304 := mf_22 J297
            have u305 : (ps_i s297 1131 22).toInt = (ps_i s287 1131 22).toInt := xeq (kp_i K297 22 rfl)
            have r306 := mf_22 J287
            have u307 : (ps_i s287 1131 22).toInt = (ps_i s180 1131 22).toInt := xeq (kp_i K287 22 rfl)
            have r308 := mf_22 J180
            have u309 : (ps_i s180 1131 22).toInt = (ps_i s 1131 22).toInt := xeq (kp_i K180 22 rfl)
            have a310 : ((4 : Int32) * (ps_i s297 1131 22)).toInt = (4 : Int) * (ps_i s297 1131 22).toInt := xIm (show -2147483648 ≤ (4 : Int) * (ps_i s297 1131 22).toInt from by omega) (show (4 : Int) * (ps_i s297 1131 22).toInt < 2147483648 from by omega)
            have a311 : (((4 : Int32) * (ps_i s297 1131 22)) + v9).toInt = ((4 : Int32) * (ps_i s297 1131 22)).toInt + v9.toInt := xIa (show -2147483648 ≤ ((4 : Int32) * (ps_i s297 1131 22)).toInt + v9.toInt from by omega) (show ((4 : Int32) * (ps_i s297 1131 22)).toInt + v9.toInt < 2147483648 from by omega)
            refine ps_nd_i (show pm_in (((4 : Int32) * (ps_i s297 1131 22)) + v9) 8 = true from xgi (show 0 ≤ (((4 : Int32) * (ps_i s297 1131 22)) + v9).toInt from by omega) (show (((4 : Int32) * (ps_i s297 1131 22)) + v9).toInt < 8 from by omega)) ?_
            have r312 : 0 ≤ (ps_a s297 1139 (Int32.toNatClampNeg (((4 : Int32) * (ps_i s297 1131 22)) + v9))).toInt ∧ (ps_a s297 1139 (Int32.toNatClampNeg (((4 : Int32) * (ps_i s297 1131 22)) + v9))).toInt ≤ 9999 := ma_1139 (i := (((4 : Int32) * (ps_i s297 1131 22)) + v9)) J297 (show 0 ≤ (((4 : Int32) * (ps_i s297 1131 22)) + v9).toInt from by omega) (show (((4 : Int32) * (ps_i s297 1131 22)) + v9).toInt < 8 from by omega)
            have u313 : (ps_a s297 1139 (Int32.toNatClampNeg (((4 : Int32) * (ps_i s297 1131 22)) + v9))).toInt = (ps_a s287 1139 (Int32.toNatClampNeg (((4 : Int32) * (ps_i s297 1131 22)) + v9))).toInt := xeq (kp_a K297 1139 rfl _)
            have r314 : 0 ≤ (ps_a s287 1139 (Int32.toNatClampNeg (((4 : Int32) * (ps_i s297 1131 22)) + v9))).toInt ∧ (ps_a s287 1139 (Int32.toNatClampNeg (((4 : Int32) * (ps_i s297 1131 22)) + v9))).toInt ≤ 9999 := ma_1139 (i := (((4 : Int32) * (ps_i s297 1131 22)) + v9)) J287 (show 0 ≤ (((4 : Int32) * (ps_i s297 1131 22)) + v9).toInt from by omega) (show (((4 : Int32) * (ps_i s297 1131 22)) + v9).toInt < 8 from by omega)
            have u315 : (ps_a s287 1139 (Int32.toNatClampNeg (((4 : Int32) * (ps_i s297 1131 22)) + v9))).toInt = (ps_a s180 1139 (Int32.toNatClampNeg (((4 : Int32) * (ps_i s297 1131 22)) + v9))).toInt := xeq (kp_a K287 1139 rfl _)
            have r316 : 0 ≤ (ps_a s180 1139 (Int32.toNatClampNeg (((4 : Int32) * (ps_i s297 1131 22)) + v9))).toInt ∧ (ps_a s180 1139 (Int32.toNatClampNeg (((4 : Int32) * (ps_i s297 1131 22)) + v9))).toInt ≤ 9999 := ma_1139 (i := (((4 : Int32) * (ps_i s297 1131 22)) + v9)) J180 (show 0 ≤ (((4 : Int32) * (ps_i s297 1131 22)) + v9).toInt from by omega) (show (((4 : Int32) * (ps_i s297 1131 22)) + v9).toInt < 8 from by omega)
            have u317 : (ps_a s180 1139 (Int32.toNatClampNeg (((4 : Int32) * (ps_i s297 1131 22)) + v9))).toInt = (ps_a s 1139 (Int32.toNatClampNeg (((4 : Int32) * (ps_i s297 1131 22)) + v9))).toInt := xeq (kp_a K180 1139 rfl _)
            have r318 : 0 ≤ (ps_a s 1139 (Int32.toNatClampNeg (((4 : Int32) * (ps_i s297 1131 22)) + v9))).toInt ∧ (ps_a s 1139 (Int32.toNatClampNeg (((4 : Int32) * (ps_i s297 1131 22)) + v9))).toInt ≤ 9999 := ma_1139 (i := (((4 : Int32) * (ps_i s297 1131 22)) + v9)) J (show 0 ≤ (((4 : Int32) * (ps_i s297 1131 22)) + v9).toInt from by omega) (show (((4 : Int32) * (ps_i s297 1131 22)) + v9).toInt < 8 from by omega)
            have hwv : (40 ≤ c ∧ c < 72 ∧ ((ps_a s297 1139 (Int32.toNatClampNeg (((4 : Int32) * (ps_i s297 1131 22)) + v9)))).toInt = 0) ∨ (20 ≤ c ∧ c < 20 + σ.1.2 ∧ ((ps_a s297 1139 (Int32.toNatClampNeg (((4 : Int32) * (ps_i s297 1131 22)) + v9)))).toInt = σ.2.2 (c - 20) ∧ σ.2.2 (c - 20) ≤ 2) := by first | exact Or.inl ⟨by omega, by omega, by decide⟩ | exact Or.inr ⟨by omega, by omega, Sg_f hS2 (by omega) (by omega)⟩
            have r319 := mf_29 J297
            have u320 : (ps_i s297 1131 29).toInt = (ps_i s287 1131 29).toInt := xeq (kp_i K297 29 rfl)
            have r321 := mf_29 J287
            have u322 : (ps_i s287 1131 29).toInt = (ps_i s180 1131 29).toInt := xeq (kp_i K287 29 rfl)
            have r323 := mf_29 J180
            have u324 : (ps_i s180 1131 29).toInt = (ps_i s 1131 29).toInt := xeq (kp_i K180 29 rfl)
            refine ms_211 J297 (show (ps_i s297 1131 29).toInt ≤ 14 from by omega) (fun s325 J325 K325 p325_0 p325_1 p325_2 p325_3 p325_4 => ?_)
            have K326 := kpt K298 K325 rfl rfl
            have KC := K325
            have hS2 : Sg (ps_a s325 1135) (ps_a s325 1136) (ps_a s325 1138) (ps_a s325 1139) (ps_i s325 1131 22).toInt σ := by rw [show ps_a s325 1135 = ps_a s297 1135 from (K325.2 1135 rfl).1, show ps_a s325 1136 = ps_a s297 1136 from (K325.2 1136 rfl).1, show ps_a s325 1138 = ps_a s297 1138 from (K325.2 1138 rfl).1, show ps_a s325 1139 = ps_a s297 1139 from (K325.2 1139 rfl).1, show ps_i s325 1131 22 = ps_i s297 1131 22 from kp_i K325 22 rfl]; exact hS2
            have hc2 : 60 ≤ c → (ps_i s325 1131 32).toInt = 0 := by rw [show ps_i s325 1131 32 = ps_i s297 1131 32 from kp_i K325 32 rfl]; exact hc2
            have hR2 : Rw (ps_a s325 1134) x1.toInt (l ++ [c]) := by rw [show ps_a s325 1134 = ps_a s297 1134 from (K325.2 1134 rfl).1]; exact hR2
            have hO : ∀ i : Nat, (i : Int) < x1.toInt ∨ x1.toInt + 41 ≤ (i : Int) → ps_a s325 1134 i = ps_a s0 1134 i := by rw [show ps_a s325 1134 = ps_a s297 1134 from (K325.2 1134 rfl).1]; exact hO
            have p325_0' : (ps_i s325 1131 29).toInt = (ps_i s297 1131 29).toInt + 1 := p325_0
            have r327 := mf_29 J325
            have w44 : _ := p325_1
            have w45 : _ := p325_2
            have w46 : _ := p325_3
            have w47 : _ := p325_4
            have u30 := xeq (kp_i KC 30 rfl)
            have u31 := xeq (kp_i KC 31 rfl)
            have u32 := xeq (kp_i KC 32 rfl)
            have g5 : ps_a s325 1145 (ps_i s297 1131 29).toInt.toNat ≠ 0 := by rw [(w45 _).trans (if_pos rfl)]; decide
            have g7 : ps_a s325 1147 (ps_i s297 1131 29).toInt.toNat = 0 := ((w47 _).trans (if_pos rfl)).trans (by decide)
            have g6 : ps_a s325 1146 (ps_i s297 1131 29).toInt.toNat = 0 := ((w46 _).trans (if_pos rfl)).trans (by decide)
            have g4 := congrArg Int32.toInt ((w44 (ps_i s297 1131 29).toInt.toNat).trans (if_pos rfl))
            have r328 := mf_8 J325
            have u329 : (ps_i s325 1131 8).toInt = (ps_i s297 1131 8).toInt := xeq (kp_i K325 8 rfl)
            have r330 := mf_4 J325
            have u331 : (ps_i s325 1131 4).toInt = (ps_i s297 1131 4).toInt := xeq (kp_i K325 4 rfl)
            have r332 := mf_5 J325
            have u333 : (ps_i s325 1131 5).toInt = (ps_i s297 1131 5).toInt := xeq (kp_i K325 5 rfl)
            have r334 := mf_5 J297
            have u335 : (ps_i s297 1131 5).toInt = (ps_i s287 1131 5).toInt := xeq (kp_i K297 5 rfl)
            have r336 := mf_5 J287
            have u337 : (ps_i s287 1131 5).toInt = (ps_i s180 1131 5).toInt := xeq (kp_i K287 5 rfl)
            have u338 : (ps_i s325 1131 30).toInt = (ps_i s297 1131 30).toInt := xeq (kp_i K325 30 rfl)
            have u339 : (ps_i s297 1131 30).toInt = (ps_i s287 1131 30).toInt := xeq (kp_i K297 30 rfl)
            have u340 : (ps_i s287 1131 30).toInt = (ps_i s180 1131 30).toInt := xeq (kp_i K287 30 rfl)
            have u341 : (ps_i s180 1131 30).toInt = (ps_i s 1131 30).toInt := xeq (kp_i K180 30 rfl)
            have r342 := mf_31 J325
            have u343 : (ps_i s325 1131 31).toInt = (ps_i s297 1131 31).toInt := xeq (kp_i K325 31 rfl)
            have r344 := mf_31 J297
            have u345 : (ps_i s297 1131 31).toInt = (ps_i s287 1131 31).toInt := xeq (kp_i K297 31 rfl)
            have r346 := mf_31 J287
            have u347 : (ps_i s287 1131 31).toInt = ((ps_i s180 1131 31) + 1).toInt := xeq (kp_i K287 31 rfl)
            exact k _ J325 K326 (show (ps_i s325 1131 8).toInt ≤ (ps_i s325 1131 4).toInt from by omega) (show 1 ≤ (ps_i s325 1131 5).toInt ∨ ((ps_i s325 1131 29).toInt ≤ 13 ∧ 0 ≤ (ps_i s325 1131 30).toInt ∧ (ps_i s325 1131 30).toInt ≤ 5 ∧ (ps_i s325 1131 31).toInt ≤ 40 ∧ (ps_i s0 1131 31).toInt < (ps_i s325 1131 31).toInt) from by omega) (show (ps_i s0 1131 31).toInt ≤ (ps_i s325 1131 31).toInt from by omega) ((by first | (exfalso; omega) | exact Or.inr ⟨_, hR2, RQ_c hH (by omega) (by omega) (kS_pusht hF g5 (hwv.imp id (fun q => ⟨q.1, q.2.1, q.2.2.1⟩))) (by omega) g4 g6 (show (ps_i s325 1131 30).toInt = (ps_i s297 1131 30).toInt + (if c = 4 ∨ c = 5 then 1 else 0) from by rw [if_neg (by omega)]; omega) ⟨fun _ => by omega, fun _ => g7⟩ (fun i hi => ⟨(w44 i).trans (if_neg (by omega)), (w45 i).trans (if_neg (by omega)), (w46 i).trans (if_neg (by omega)), (w47 i).trans (if_neg (by omega))⟩) (show (ps_i s325 1131 29).toInt = (ps_i s297 1131 29).toInt + 1 from by omega) (show (ps_i s325 1131 31).toInt = ((ps_i s297 1131 31).toInt - 1) + 1 from by omega) (show (ps_i s325 1131 32).toInt = (ps_i s297 1131 32).toInt from u32) (fun z => by omega)⟩)) (hO)
          · have f348 : v9.toInt < (0 : Int) := xlt h302
            have hwv : (40 ≤ c ∧ c < 72 ∧ ((0 : Int32)).toInt = 0) ∨ (20 ≤ c ∧ c < 20 + σ.1.2 ∧ ((0 : Int32)).toInt = σ.2.2 (c - 20) ∧ σ.2.2 (c - 20) ≤ 2) := by first | exact Or.inl ⟨by omega, by omega, by decide⟩ | exact Or.inr ⟨by omega, by omega, Sg_f hS2 (by omega) (by omega)⟩
            have r349 := mf_29 J297
            have u350 : (ps_i s297 1131 29).toInt = (ps_i s287 1131 29).toInt := xeq (kp_i K297 29 rfl)
            have r351 := mf_29 J287
            have u352 : (ps_i s287 1131 29).toInt = (ps_i s180 1131 29).toInt := xeq (kp_i K287 29 rfl)
            have r353 := mf_29 J180
            have u354 : (ps_i s180 1131 29).toInt = (ps_i s 1131 29).toInt := xeq (kp_i K180 29 rfl)
            refine ms_211 J297 (show (ps_i s297 1131 29).toInt ≤ 14 from by omega) (fun s355 J355 K355 p355_0 p355_1 p355_2 p355_3 p355_4 => ?_)
            have K356 := kpt K298 K355 rfl rfl
            have KC := K355
            have hS2 : Sg (ps_a s355 1135) (ps_a s355 1136) (ps_a s355 1138) (ps_a s355 1139) (ps_i s355 1131 22).toInt σ := by rw [show ps_a s355 1135 = ps_a s297 1135 from (K355.2 1135 rfl).1, show ps_a s355 1136 = ps_a s297 1136 from (K355.2 1136 rfl).1, show ps_a s355 1138 = ps_a s297 1138 from (K355.2 1138 rfl).1, show ps_a s355 1139 = ps_a s297 1139 from (K355.2 1139 rfl).1, show ps_i s355 1131 22 = ps_i s297 1131 22 from kp_i K355 22 rfl]; exact hS2
            have hc2 : 60 ≤ c → (ps_i s355 1131 32).toInt = 0 := by rw [show ps_i s355 1131 32 = ps_i s297 1131 32 from kp_i K355 32 rfl]; exact hc2
            have hR2 : Rw (ps_a s355 1134) x1.toInt (l ++ [c]) := by rw [show ps_a s355 1134 = ps_a s297 1134 from (K355.2 1134 rfl).1]; exact hR2
            have hO : ∀ i : Nat, (i : Int) < x1.toInt ∨ x1.toInt + 41 ≤ (i : Int) → ps_a s355 1134 i = ps_a s0 1134 i := by rw [show ps_a s355 1134 = ps_a s297 1134 from (K355.2 1134 rfl).1]; exact hO
            have p355_0' : (ps_i s355 1131 29).toInt = (ps_i s297 1131 29).toInt + 1 := p355_0
            have r357 := mf_29 J355
            have w44 : _ := p355_1
            have w45 : _ := p355_2
            have w46 : _ := p355_3
            have w47 : _ := p355_4
            have u30 := xeq (kp_i KC 30 rfl)
            have u31 := xeq (kp_i KC 31 rfl)
            have u32 := xeq (kp_i KC 32 rfl)
            have g5 : ps_a s355 1145 (ps_i s297 1131 29).toInt.toNat ≠ 0 := by rw [(w45 _).trans (if_pos rfl)]; decide
            have g7 : ps_a s355 1147 (ps_i s297 1131 29).toInt.toNat = 0 := ((w47 _).trans (if_pos rfl)).trans (by decide)
            have g6 : ps_a s355 1146 (ps_i s297 1131 29).toInt.toNat = 0 := ((w46 _).trans (if_pos rfl)).trans (by decide)
            have g4 := congrArg Int32.toInt ((w44 (ps_i s297 1131 29).toInt.toNat).trans (if_pos rfl))
            have r358 := mf_8 J355
            have u359 : (ps_i s355 1131 8).toInt = (ps_i s297 1131 8).toInt := xeq (kp_i K355 8 rfl)
            have r360 := mf_4 J355
            have u361 : (ps_i s355 1131 4).toInt = (ps_i s297 1131 4).toInt := xeq (kp_i K355 4 rfl)
            have r362 := mf_5 J355
            have u363 : (ps_i s355 1131 5).toInt = (ps_i s297 1131 5).toInt := xeq (kp_i K355 5 rfl)
            have r364 := mf_5 J297
            have u365 : (ps_i s297 1131 5).toInt = (ps_i s287 1131 5).toInt := xeq (kp_i K297 5 rfl)
            have r366 := mf_5 J287
            have u367 : (ps_i s287 1131 5).toInt = (ps_i s180 1131 5).toInt := xeq (kp_i K287 5 rfl)
            have u368 : (ps_i s355 1131 30).toInt = (ps_i s297 1131 30).toInt := xeq (kp_i K355 30 rfl)
            have u369 : (ps_i s297 1131 30).toInt = (ps_i s287 1131 30).toInt := xeq (kp_i K297 30 rfl)
            have u370 : (ps_i s287 1131 30).toInt = (ps_i s180 1131 30).toInt := xeq (kp_i K287 30 rfl)
            have u371 : (ps_i s180 1131 30).toInt = (ps_i s 1131 30).toInt := xeq (kp_i K180 30 rfl)
            have r372 := mf_31 J355
            have u373 : (ps_i s355 1131 31).toInt = (ps_i s297 1131 31).toInt := xeq (kp_i K355 31 rfl)
            have r374 := mf_31 J297
            have u375 : (ps_i s297 1131 31).toInt = (ps_i s287 1131 31).toInt := xeq (kp_i K297 31 rfl)
            have r376 := mf_31 J287
            have u377 : (ps_i s287 1131 31).toInt = ((ps_i s180 1131 31) + 1).toInt := xeq (kp_i K287 31 rfl)
            exact k _ J355 K356 (show (ps_i s355 1131 8).toInt ≤ (ps_i s355 1131 4).toInt from by omega) (show 1 ≤ (ps_i s355 1131 5).toInt ∨ ((ps_i s355 1131 29).toInt ≤ 13 ∧ 0 ≤ (ps_i s355 1131 30).toInt ∧ (ps_i s355 1131 30).toInt ≤ 5 ∧ (ps_i s355 1131 31).toInt ≤ 40 ∧ (ps_i s0 1131 31).toInt < (ps_i s355 1131 31).toInt) from by omega) (show (ps_i s0 1131 31).toInt ≤ (ps_i s355 1131 31).toInt from by omega) ((by first | (exfalso; omega) | exact Or.inr ⟨_, hR2, RQ_c hH (by omega) (by omega) (kS_pusht hF g5 (hwv.imp id (fun q => ⟨q.1, q.2.1, q.2.2.1⟩))) (by omega) g4 g6 (show (ps_i s355 1131 30).toInt = (ps_i s297 1131 30).toInt + (if c = 4 ∨ c = 5 then 1 else 0) from by rw [if_neg (by omega)]; omega) ⟨fun _ => by omega, fun _ => g7⟩ (fun i hi => ⟨(w44 i).trans (if_neg (by omega)), (w45 i).trans (if_neg (by omega)), (w46 i).trans (if_neg (by omega)), (w47 i).trans (if_neg (by omega))⟩) (show (ps_i s355 1131 29).toInt = (ps_i s297 1131 29).toInt + 1 from by omega) (show (ps_i s355 1131 31).toInt = ((ps_i s297 1131 31).toInt - 1) + 1 from by omega) (show (ps_i s355 1131 32).toInt = (ps_i s297 1131 32).toInt from u32) (fun z => by omega)⟩)) (hO)
      · have f378 : v184.toInt = (0 : Int) := xeq h185
        have qz378 : 1 ≤ (ps_i s180 1131 5).toInt := by omega
        clear p184_0' p184_0
        have r379 := mf_8 J180
        have u380 : (ps_i s180 1131 8).toInt = (ps_i s 1131 8).toInt := xeq (kp_i K180 8 rfl)
        have r381 := mf_4 J180
        have u382 : (ps_i s180 1131 4).toInt = (ps_i s 1131 4).toInt := xeq (kp_i K180 4 rfl)
        have r383 := mf_29 J180
        have u384 : (ps_i s180 1131 29).toInt = (ps_i s 1131 29).toInt := xeq (kp_i K180 29 rfl)
        have u385 : (ps_i s180 1131 30).toInt = (ps_i s 1131 30).toInt := xeq (kp_i K180 30 rfl)
        have r386 := mf_31 J180
        have u387 : (ps_i s180 1131 31).toInt = (ps_i s 1131 31).toInt := xeq (kp_i K180 31 rfl)
        exact k _ J180 K181 (show (ps_i s180 1131 8).toInt ≤ (ps_i s180 1131 4).toInt from by omega) (show 1 ≤ (ps_i s180 1131 5).toInt ∨ ((ps_i s180 1131 29).toInt ≤ 13 ∧ 0 ≤ (ps_i s180 1131 30).toInt ∧ (ps_i s180 1131 30).toInt ≤ 5 ∧ (ps_i s180 1131 31).toInt ≤ 40 ∧ (ps_i s0 1131 31).toInt < (ps_i s180 1131 31).toInt) from by omega) (show (ps_i s0 1131 31).toInt ≤ (ps_i s180 1131 31).toInt from by omega) (Or.inl (show 1 ≤ (ps_i s180 1131 5).toInt from by omega)) (hO)
  · have f388 : v6.toInt = (0 : Int) := xeq h7
    have qz388 : 1 ≤ (ps_i s 1131 5).toInt := by omega
    clear p6_0' p6_0
    exact k _ J K (show (ps_i s 1131 8).toInt ≤ (ps_i s 1131 4).toInt from by omega) (show 1 ≤ (ps_i s 1131 5).toInt ∨ ((ps_i s 1131 29).toInt ≤ 13 ∧ 0 ≤ (ps_i s 1131 30).toInt ∧ (ps_i s 1131 30).toInt ≤ 5 ∧ (ps_i s 1131 31).toInt ≤ 40 ∧ (ps_i s0 1131 31).toInt < (ps_i s 1131 31).toInt) from by omega) (show (ps_i s0 1131 31).toInt ≤ (ps_i s 1131 31).toInt from by omega) (Or.inl (show 1 ≤ (ps_i s 1131 5).toInt from by omega)) (hO)

theorem ms_215_45 {x : Nat → Nat → Nat} {t : Int32} {d : Nat} {s0 : ps_S} {σ : mSig} {l : List Nat} {b : Bool} {x1 : Int32} {Q : Option Value → ps_S → Prop} (k : ∀ (s' : ps_S), mJ x t s' → kp [1134, 1143, 1144, 1145, 1146, 1147] [5, 6, 7, 8, 9, 10, 11, 23, 29, 31] s0 s' → ((ps_i s' 1131 8).toInt ≤ (ps_i s' 1131 4).toInt) → (1 ≤ (ps_i s' 1131 5).toInt ∨ ((ps_i s' 1131 29).toInt ≤ 13 ∧ 0 ≤ (ps_i s' 1131 30).toInt ∧ (ps_i s' 1131 30).toInt ≤ 5 ∧ (ps_i s' 1131 31).toInt ≤ 40 ∧ (ps_i s0 1131 31).toInt < (ps_i s' 1131 31).toInt)) → ((ps_i s0 1131 31).toInt ≤ (ps_i s' 1131 31).toInt) → (1 ≤ (ps_i s' 1131 5).toInt ∨ ∃ l2, Rw (ps_a s' 1134) x1.toInt l2 ∧ RQ σ (ps_a s' 1144) (ps_a s' 1145) (ps_a s' 1146) (ps_a s' 1147) (ps_i s' 1131 29).toInt (ps_i s' 1131 30).toInt (ps_i s' 1131 31).toInt (ps_i s' 1131 32).toInt l2 b) → (∀ i : Nat, (i : Int) < x1.toInt ∨ x1.toInt + 41 ≤ (i : Int) → ps_a s' 1134 i = ps_a s0 1134 i) → Q none s') (s : ps_S) (J : mJ x t s) (K : kp [1134, 1143, 1144, 1145, 1146, 1147] [5, 6, 7, 8, 9, 10, 11, 23, 29, 31] s0 s) (hS2 : Sg (ps_a s 1135) (ps_a s 1136) (ps_a s 1138) (ps_a s 1139) (ps_i s 1131 22).toInt σ) (hR : Rw (ps_a s 1134) x1.toInt (l)) (hH0 : RH σ (ps_a s 1144) (ps_a s 1145) (ps_a s 1146) (ps_a s 1147) (ps_i s 1131 29).toInt (ps_i s 1131 30).toInt (ps_i s 1131 31).toInt (ps_i s 1131 32).toInt (l) b false) (hO : ∀ i : Nat, (i : Int) < x1.toInt ∨ x1.toInt + 41 ≤ (i : Int) → ps_a s 1134 i = ps_a s0 1134 i) (i4 : (ps_i s 1131 8).toInt ≤ (ps_i s 1131 4).toInt) (i5 : (ps_i s 1131 29).toInt ≤ 13) (i6 : 0 ≤ (ps_i s 1131 30).toInt) (i7 : (ps_i s 1131 30).toInt ≤ 5) (i8 : (ps_i s 1131 31).toInt ≤ 40) (i9 : (ps_i s 1131 31).toInt = (ps_i s0 1131 31).toInt) (i10 : (ps_i s 1131 5).toInt = 0) : ps_At (d + 4) 215 45 [(0, .ref 1131), (1, .int x1)] [] s Q := by
  have r1 := mf_8 J
  have r2 := mf_4 J
  have r3 := mf_29 J
  have r4 := mf_31 J
  have r5 := mf_5 J
  refine pg_215_45 (d := d + 3) ?_
  refine ms_196 J  (fun s6 J6 K6 p6_0 => ?_)
  have K7 := kpt K K6 rfl rfl
  have KC := K6
  have hS2 : Sg (ps_a s6 1135) (ps_a s6 1136) (ps_a s6 1138) (ps_a s6 1139) (ps_i s6 1131 22).toInt σ := by rw [show ps_a s6 1135 = ps_a s 1135 from (K6.2 1135 rfl).1, show ps_a s6 1136 = ps_a s 1136 from (K6.2 1136 rfl).1, show ps_a s6 1138 = ps_a s 1138 from (K6.2 1138 rfl).1, show ps_a s6 1139 = ps_a s 1139 from (K6.2 1139 rfl).1, show ps_i s6 1131 22 = ps_i s 1131 22 from kp_i K6 22 rfl]; exact hS2
  have hR : Rw (ps_a s6 1134) x1.toInt (l) := by rw [show ps_a s6 1134 = ps_a s 1134 from (K6.2 1134 rfl).1]; exact hR
  have hH0 : RH σ (ps_a s6 1144) (ps_a s6 1145) (ps_a s6 1146) (ps_a s6 1147) (ps_i s6 1131 29).toInt (ps_i s6 1131 30).toInt (ps_i s6 1131 31).toInt (ps_i s6 1131 32).toInt (l) b false := by rw [show ps_a s6 1144 = ps_a s 1144 from (K6.2 1144 rfl).1, show ps_a s6 1145 = ps_a s 1145 from (K6.2 1145 rfl).1, show ps_a s6 1146 = ps_a s 1146 from (K6.2 1146 rfl).1, show ps_a s6 1147 = ps_a s 1147 from (K6.2 1147 rfl).1, show ps_i s6 1131 29 = ps_i s 1131 29 from kp_i K6 29 rfl, show ps_i s6 1131 30 = ps_i s 1131 30 from kp_i K6 30 rfl, show ps_i s6 1131 31 = ps_i s 1131 31 from kp_i K6 31 rfl, show ps_i s6 1131 32 = ps_i s 1131 32 from kp_i K6 32 rfl]; exact hH0
  have hO : ∀ i : Nat, (i : Int) < x1.toInt ∨ x1.toInt + 41 ≤ (i : Int) → ps_a s6 1134 i = ps_a s0 1134 i := by rw [show ps_a s6 1134 = ps_a s 1134 from (K6.2 1134 rfl).1]; exact hO
  have p6_0' : 1 ≤ (ps_i s6 1131 5).toInt := p6_0
  have r8 := mf_5 J6
  have r9 := mf_8 J6
  have u10 : (ps_i s6 1131 8).toInt = (ps_i s 1131 8).toInt := xeq (kp_i K6 8 rfl)
  have r11 := mf_4 J6
  have u12 : (ps_i s6 1131 4).toInt = (ps_i s 1131 4).toInt := xeq (kp_i K6 4 rfl)
  have r13 := mf_29 J6
  have u14 : (ps_i s6 1131 29).toInt = (ps_i s 1131 29).toInt := xeq (kp_i K6 29 rfl)
  have u15 : (ps_i s6 1131 30).toInt = (ps_i s 1131 30).toInt := xeq (kp_i K6 30 rfl)
  have r16 := mf_31 J6
  have u17 : (ps_i s6 1131 31).toInt = (ps_i s 1131 31).toInt := xeq (kp_i K6 31 rfl)
  exact ms_215_49 (x1 := x1) (σ := σ) (l := l) (b := b) k   _ J6 K7 hS2 hR hH0 hO (show (ps_i s6 1131 8).toInt ≤ (ps_i s6 1131 4).toInt from by omega) (show (ps_i s6 1131 29).toInt ≤ 13 from by omega) (show 0 ≤ (ps_i s6 1131 30).toInt from by omega) (show (ps_i s6 1131 30).toInt ≤ 5 from by omega) (show (ps_i s6 1131 31).toInt ≤ 40 from by omega) (show (ps_i s6 1131 31).toInt = (ps_i s0 1131 31).toInt from by omega) (show 1 ≤ (ps_i s6 1131 5).toInt ∨ ((ps_i s6 1131 31).toInt + 1 ≤ 40 ∧ (ps_i s6 1131 29).toInt ≤ 12) from by omega)

theorem ms_215_19 {x : Nat → Nat → Nat} {t : Int32} {d : Nat} {s0 : ps_S} {σ : mSig} {l : List Nat} {b : Bool} {x1 : Int32} {Q : Option Value → ps_S → Prop} (k : ∀ (s' : ps_S), mJ x t s' → kp [1134, 1143, 1144, 1145, 1146, 1147] [5, 6, 7, 8, 9, 10, 11, 23, 29, 31] s0 s' → ((ps_i s' 1131 8).toInt ≤ (ps_i s' 1131 4).toInt) → (1 ≤ (ps_i s' 1131 5).toInt ∨ ((ps_i s' 1131 29).toInt ≤ 13 ∧ 0 ≤ (ps_i s' 1131 30).toInt ∧ (ps_i s' 1131 30).toInt ≤ 5 ∧ (ps_i s' 1131 31).toInt ≤ 40 ∧ (ps_i s0 1131 31).toInt < (ps_i s' 1131 31).toInt)) → ((ps_i s0 1131 31).toInt ≤ (ps_i s' 1131 31).toInt) → (1 ≤ (ps_i s' 1131 5).toInt ∨ ∃ l2, Rw (ps_a s' 1134) x1.toInt l2 ∧ RQ σ (ps_a s' 1144) (ps_a s' 1145) (ps_a s' 1146) (ps_a s' 1147) (ps_i s' 1131 29).toInt (ps_i s' 1131 30).toInt (ps_i s' 1131 31).toInt (ps_i s' 1131 32).toInt l2 b) → (∀ i : Nat, (i : Int) < x1.toInt ∨ x1.toInt + 41 ≤ (i : Int) → ps_a s' 1134 i = ps_a s0 1134 i) → Q none s') (s : ps_S) (J : mJ x t s) (K : kp [1134, 1143, 1144, 1145, 1146, 1147] [5, 6, 7, 8, 9, 10, 11, 23, 29, 31] s0 s) (hS2 : Sg (ps_a s 1135) (ps_a s 1136) (ps_a s 1138) (ps_a s 1139) (ps_i s 1131 22).toInt σ) (hR : Rw (ps_a s 1134) x1.toInt (l)) (hH0 : RH σ (ps_a s 1144) (ps_a s 1145) (ps_a s 1146) (ps_a s 1147) (ps_i s 1131 29).toInt (ps_i s 1131 30).toInt (ps_i s 1131 31).toInt (ps_i s 1131 32).toInt (l) b false) (hO : ∀ i : Nat, (i : Int) < x1.toInt ∨ x1.toInt + 41 ≤ (i : Int) → ps_a s 1134 i = ps_a s0 1134 i) (i4 : (ps_i s 1131 8).toInt ≤ (ps_i s 1131 4).toInt) (i5 : (ps_i s 1131 29).toInt ≤ 13) (i6 : 0 ≤ (ps_i s 1131 30).toInt) (i7 : (ps_i s 1131 30).toInt ≤ 5) (i8 : (ps_i s 1131 31).toInt ≤ 40) (i9 : (ps_i s 1131 31).toInt = (ps_i s0 1131 31).toInt) (i10 : (ps_i s 1131 5).toInt = 0) : ps_At (d + 4) 215 19 [(0, .ref 1131), (1, .int x1)] [] s Q := by
  have r1 := mf_8 J
  have r2 := mf_4 J
  have r3 := mf_29 J
  have r4 := mf_31 J
  have r5 := mf_5 J
  refine pg_215_19 (d := d + 3) ?_
  refine And.intro (fun h6 => ?_) (fun h6 => ?_)
  · exact ms_215_45 (x1 := x1) (σ := σ) (l := l) (b := b) k   _ J K hS2 hR hH0 hO (show (ps_i s 1131 8).toInt ≤ (ps_i s 1131 4).toInt from by omega) (show (ps_i s 1131 29).toInt ≤ 13 from by omega) (show 0 ≤ (ps_i s 1131 30).toInt from by omega) (show (ps_i s 1131 30).toInt ≤ 5 from by omega) (show (ps_i s 1131 31).toInt ≤ 40 from by omega) (show (ps_i s 1131 31).toInt = (ps_i s0 1131 31).toInt from by omega) (show (ps_i s 1131 5).toInt = 0 from by omega)
  · exact absurd (show (0 : Int32) ≠ (0 : Int32) from h6) (by decide)

theorem ms_215 {x : Nat → Nat → Nat} {t : Int32} {s : ps_S} {d : Nat} {x1 : Int32} {f : ps_S → Prop} (J : mJ x t s) {σ : mSig} {l : List Nat} {b : Bool} (hS2 : Sg (ps_a s 1135) (ps_a s 1136) (ps_a s 1138) (ps_a s 1139) (ps_i s 1131 22).toInt σ) (hR : Rw (ps_a s 1134) x1.toInt (l)) (hH0 : RH σ (ps_a s 1144) (ps_a s 1145) (ps_a s 1146) (ps_a s 1147) (ps_i s 1131 29).toInt (ps_i s 1131 30).toInt (ps_i s 1131 31).toInt (ps_i s 1131 32).toInt (l) b false) (q3 : (ps_i s 1131 8).toInt ≤ (ps_i s 1131 4).toInt) (q4 : (ps_i s 1131 5).toInt = 0) (q5 : (ps_i s 1131 29).toInt ≤ 13) (q6 : 0 ≤ (ps_i s 1131 30).toInt) (q7 : (ps_i s 1131 30).toInt ≤ 5) (q8 : (ps_i s 1131 31).toInt ≤ 40) (k : ∀ (s' : ps_S), mJ x t s' → kp [1134, 1143, 1144, 1145, 1146, 1147] [5, 6, 7, 8, 9, 10, 11, 23, 29, 31] s s' → ((ps_i s' 1131 8).toInt ≤ (ps_i s' 1131 4).toInt) → (1 ≤ (ps_i s' 1131 5).toInt ∨ ((ps_i s' 1131 29).toInt ≤ 13 ∧ 0 ≤ (ps_i s' 1131 30).toInt ∧ (ps_i s' 1131 30).toInt ≤ 5 ∧ (ps_i s' 1131 31).toInt ≤ 40 ∧ (ps_i s 1131 31).toInt < (ps_i s' 1131 31).toInt)) → ((ps_i s 1131 31).toInt ≤ (ps_i s' 1131 31).toInt) → (1 ≤ (ps_i s' 1131 5).toInt ∨ ∃ l2, Rw (ps_a s' 1134) x1.toInt l2 ∧ RQ σ (ps_a s' 1144) (ps_a s' 1145) (ps_a s' 1146) (ps_a s' 1147) (ps_i s' 1131 29).toInt (ps_i s' 1131 30).toInt (ps_i s' 1131 31).toInt (ps_i s' 1131 32).toInt l2 b) → (∀ i : Nat, (i : Int) < x1.toInt ∨ x1.toInt + 41 ≤ (i : Int) → ps_a s' 1134 i = ps_a s 1134 i) → f s') : ps_Cl (d + 4) 215 [.ref 1131, .int x1] s (ps_rV f) := by
  have r1 := mf_8 J
  have r2 := mf_4 J
  have r3 := mf_5 J
  have r4 := mf_29 J
  have r5 := mf_31 J
  have K : kp [1134, 1143, 1144, 1145, 1146, 1147] [5, 6, 7, 8, 9, 10, 11, 23, 29, 31] s s := kp_refl
  refine pg_215_0 (d := d + 3) ?_
  have hO : ∀ i : Nat, (i : Int) < x1.toInt ∨ x1.toInt + 41 ≤ (i : Int) → ps_a s 1134 i = ps_a s 1134 i := fun i _ => rfl
  have r6 := mf_9 J
  refine And.intro (fun h7 => ?_) (fun h7 => ?_)
  · have f8 : (ps_i s 1131 9).toInt ≠ (2 : Int) := xne h7
    exact ms_215_19 (x1 := x1) (σ := σ) (l := l) (b := b) k   _ J K hS2 hR hH0 hO (show (ps_i s 1131 8).toInt ≤ (ps_i s 1131 4).toInt from by omega) (show (ps_i s 1131 29).toInt ≤ 13 from by omega) (show 0 ≤ (ps_i s 1131 30).toInt from by omega) (show (ps_i s 1131 30).toInt ≤ 5 from by omega) (show (ps_i s 1131 31).toInt ≤ 40 from by omega) (show (ps_i s 1131 31).toInt = (ps_i s 1131 31).toInt from by omega) (show (ps_i s 1131 5).toInt = 0 from by omega)
  · have f9 : (ps_i s 1131 9).toInt = (2 : Int) := xeq h7
    refine ms_206 J  (fun v10 p10_0 p10_1 => ?_)
    have p10_0' : -1 ≤ v10.toInt := p10_0
    have p10_1' : v10.toInt < (ps_a s 1135 (Int32.toNatClampNeg (ps_i s 1131 22))).toInt := p10_1
    have r11 := mf_22 J
    have r12 : 0 ≤ (ps_a s 1135 (Int32.toNatClampNeg (ps_i s 1131 22))).toInt ∧ (ps_a s 1135 (Int32.toNatClampNeg (ps_i s 1131 22))).toInt ≤ 6 := ma_1135 (i := (ps_i s 1131 22)) J (show 0 ≤ (ps_i s 1131 22).toInt from by omega) (show (ps_i s 1131 22).toInt < 2 from by omega)
    refine And.intro (fun h13 => ?_) (fun h13 => ?_)
    · have f14 : (0 : Int) ≤ v10.toInt := xle h13
      exact ms_215_19 (x1 := x1) (σ := σ) (l := l) (b := b) k   _ J K hS2 hR hH0 hO (show (ps_i s 1131 8).toInt ≤ (ps_i s 1131 4).toInt from by omega) (show (ps_i s 1131 29).toInt ≤ 13 from by omega) (show 0 ≤ (ps_i s 1131 30).toInt from by omega) (show (ps_i s 1131 30).toInt ≤ 5 from by omega) (show (ps_i s 1131 31).toInt ≤ 40 from by omega) (show (ps_i s 1131 31).toInt = (ps_i s 1131 31).toInt from by omega) (show (ps_i s 1131 5).toInt = 0 from by omega)
    · have f15 : v10.toInt < (0 : Int) := xlt h13
      refine And.intro (fun h16 => ?_) (fun h16 => ?_)
      · exact absurd (show (1 : Int32) = (0 : Int32) from h16) (by decide)
      · have f17 : (1 : Int) ≠ (0 : Int) := xne h16
        have a18 : ((ps_i s 1131 31) + 1).toInt = (ps_i s 1131 31).toInt + (1 : Int) := xIa (show -2147483648 ≤ (ps_i s 1131 31).toInt + (1 : Int) from by omega) (show (ps_i s 1131 31).toInt + (1 : Int) < 2147483648 from by omega)
        refine And.intro (fun h19 => ?_) (fun h19 => ?_)
        · have f20 : (40 : Int) < ((ps_i s 1131 31) + 1).toInt := xlt h19
          exact ms_215_45 (x1 := x1) (σ := σ) (l := l) (b := b) k   _ J K hS2 hR hH0 hO (show (ps_i s 1131 8).toInt ≤ (ps_i s 1131 4).toInt from by omega) (show (ps_i s 1131 29).toInt ≤ 13 from by omega) (show 0 ≤ (ps_i s 1131 30).toInt from by omega) (show (ps_i s 1131 30).toInt ≤ 5 from by omega) (show (ps_i s 1131 31).toInt ≤ 40 from by omega) (show (ps_i s 1131 31).toInt = (ps_i s 1131 31).toInt from by omega) (show (ps_i s 1131 5).toInt = 0 from by omega)
        · have f21 : ((ps_i s 1131 31) + 1).toInt ≤ (40 : Int) := xle h19
          refine And.intro (fun h22 => ?_) (fun h22 => ?_)
          · have f23 : (ps_i s 1131 29).toInt ≤ (12 : Int) := xle h22
            exact ms_215_49 (x1 := x1) (σ := σ) (l := l) (b := b) k   _ J K hS2 hR hH0 hO (show (ps_i s 1131 8).toInt ≤ (ps_i s 1131 4).toInt from by omega) (show (ps_i s 1131 29).toInt ≤ 13 from by omega) (show 0 ≤ (ps_i s 1131 30).toInt from by omega) (show (ps_i s 1131 30).toInt ≤ 5 from by omega) (show (ps_i s 1131 31).toInt ≤ 40 from by omega) (show (ps_i s 1131 31).toInt = (ps_i s 1131 31).toInt from by omega) (show 1 ≤ (ps_i s 1131 5).toInt ∨ ((ps_i s 1131 31).toInt + 1 ≤ 40 ∧ (ps_i s 1131 29).toInt ≤ 12) from by omega)
          · have f24 : (12 : Int) < (ps_i s 1131 29).toInt := xlt h22
            exact ms_215_45 (x1 := x1) (σ := σ) (l := l) (b := b) k   _ J K hS2 hR hH0 hO (show (ps_i s 1131 8).toInt ≤ (ps_i s 1131 4).toInt from by omega) (show (ps_i s 1131 29).toInt ≤ 13 from by omega) (show 0 ≤ (ps_i s 1131 30).toInt from by omega) (show (ps_i s 1131 30).toInt ≤ 5 from by omega) (show (ps_i s 1131 31).toInt ≤ 40 from by omega) (show (ps_i s 1131 31).toInt = (ps_i s 1131 31).toInt from by omega) (show (ps_i s 1131 5).toInt = 0 from by omega)
end
section
set_option maxRecDepth 100000
-- ProofBenchModel.readRow(IZZ)V
theorem pg_209_0 {d : Nat} {x1 : Int32} {x2 : Int32} {x3 : Int32} {s : ps_S} {Q : Option Value → ps_S → Prop} (h :
  ps_nd (pm_in x1 27400) (ps_nd (decide (x3 &&& 1 = x3)) (ps_At (d + 1) 209 30 [(0, .ref 1131), (1, .int x1), (2, .int x2), (4, .int 1)] [] (ps_ui (ps_ui (ps_ui (ps_ui (ps_ua s 1134 (Int32.toNatClampNeg x1) 0) 1131 29 0) 1131 30 0) 1131 31 0) 1131 32 x3) Q))) : ps_At (d + 1) 209 0 [(0, .ref 1131), (1, .int x1), (2, .int x2), (3, .int x3)] [] s Q :=
  ps_wp_at (stops := [(30, [0, 1, 2, 4]), (92, [0, 1, 2])]) (n := 21) h rfl

theorem pg_209_30 {d : Nat} {x1 : Int32} {x2 : Int32} {x4 : Int32} {s : ps_S} {Q : Option Value → ps_S → Prop} (h :
  ps_Cl d 192 [.ref 1131] s (ps_rI (fun v1 s1 =>
    (v1 = 0 →
      Q none s1) ∧
    (v1 ≠ 0 →
      (x4 = 0 →
        Q none s1) ∧
      (x4 ≠ 0 →
        ((ps_i s1 1131 29) ≠ 0 →
          ps_nd (pm_in ((ps_i s1 1131 29) - 1) 16) (((ps_a s1 1145 (Int32.toNatClampNeg ((ps_i s1 1131 29) - 1))) ≠ 0 →
            ((0 : Int32) = 0 →
              ps_Cl d 215 [.ref 1131, .int x1] s1 (ps_rV (fun s2 =>
                ps_At (d + 1) 209 92 [(0, .ref 1131), (1, .int x1), (2, .int x2)] [] s2 Q))) ∧
            ((0 : Int32) ≠ 0 →
              ps_Cl d 214 [.ref 1131, .int x1] s1 (ps_rV (fun s3 =>
                ps_At (d + 1) 209 92 [(0, .ref 1131), (1, .int x1), (2, .int x2)] [] s3 Q)))) ∧
          ((ps_a s1 1145 (Int32.toNatClampNeg ((ps_i s1 1131 29) - 1))) = 0 →
            ((1 : Int32) = 0 →
              ps_Cl d 215 [.ref 1131, .int x1] s1 (ps_rV (fun s4 =>
                ps_At (d + 1) 209 92 [(0, .ref 1131), (1, .int x1), (2, .int x2)] [] s4 Q))) ∧
            ((1 : Int32) ≠ 0 →
              ps_Cl d 214 [.ref 1131, .int x1] s1 (ps_rV (fun s5 =>
                ps_At (d + 1) 209 92 [(0, .ref 1131), (1, .int x1), (2, .int x2)] [] s5 Q)))))) ∧
        ((ps_i s1 1131 29) = 0 →
          (x2 = 0 →
            ps_Cl d 215 [.ref 1131, .int x1] s1 (ps_rV (fun s6 =>
              ps_At (d + 1) 209 92 [(0, .ref 1131), (1, .int x1), (2, .int x2)] [] s6 Q))) ∧
          (x2 ≠ 0 →
            ps_Cl d 214 [.ref 1131, .int x1] s1 (ps_rV (fun s7 =>
              ps_At (d + 1) 209 92 [(0, .ref 1131), (1, .int x1), (2, .int x2)] [] s7 Q))))))))) : ps_At (d + 1) 209 30 [(0, .ref 1131), (1, .int x1), (2, .int x2), (4, .int x4)] [] s Q :=
  ps_wp_at (stops := [(30, [0, 1, 2, 4]), (92, [0, 1, 2])]) (n := 55) h rfl

theorem pg_209_92 {d : Nat} {x1 : Int32} {x2 : Int32} {s : ps_S} {Q : Option Value → ps_S → Prop} (h :
  ps_Cl d 192 [.ref 1131] s (ps_rI (fun v1 s1 =>
    (v1 = 0 →
      ps_At (d + 1) 209 30 [(0, .ref 1131), (1, .int x1), (2, .int x2), (4, .int 0)] [] s1 Q) ∧
    (v1 ≠ 0 →
      ps_Cl d 212 [.ref 1131, .int x1] s1 (ps_rI (fun v2 s2 =>
        (v2 = 0 →
          ps_At (d + 1) 209 30 [(0, .ref 1131), (1, .int x1), (2, .int x2), (4, .int 0)] [] s2 Q) ∧
        (v2 ≠ 0 →
          ps_At (d + 1) 209 30 [(0, .ref 1131), (1, .int x1), (2, .int x2), (4, .int 1)] [] s2 Q))))))) : ps_At (d + 1) 209 92 [(0, .ref 1131), (1, .int x1), (2, .int x2)] [] s Q :=
  ps_wp_at (stops := [(30, [0, 1, 2, 4]), (92, [0, 1, 2])]) (n := 19) h rfl

theorem ms_209_92 {x : Nat → Nat → Nat} {t : Int32} {d : Nat} {s0 : ps_S} {σ : mSig} {b : Bool} {x1 : Int32} {x2 : Int32} {x3 : Int32} {Q : Option Value → ps_S → Prop} (k : ∀ (s' : ps_S), mJ x t s' → kp [1134, 1143, 1144, 1145, 1146, 1147, 1148] [5, 6, 7, 8, 9, 10, 11, 23, 29, 30, 31, 32] s0 s' → ((ps_i s' 1131 8).toInt ≤ (ps_i s' 1131 4).toInt) → (1 ≤ (ps_i s0 1131 5).toInt → 1 ≤ (ps_i s' 1131 5).toInt) → (∀ i : Nat, (i : Int) < x1.toInt ∨ x1.toInt + 41 ≤ (i : Int) → ps_a s' 1134 i = ps_a s0 1134 i) → (1 ≤ (ps_i s' 1131 5).toInt ∨ ∃ l2, Rw (ps_a s' 1134) x1.toInt l2 ∧ wf σ 5 l2 [(b, 0)] ∧ (x3.toInt ≠ 0 → ∀ p, p ∈ l2 → p < 60)) → Q none s') (n30 : Nat) (KH30 : ∀ (x4 : Int32) (s : ps_S), (mJ x t s) → (kp [1134, 1143, 1144, 1145, 1146, 1147, 1148] [5, 6, 7, 8, 9, 10, 11, 23, 29, 30, 31, 32] s0 s) → (Sg (ps_a s 1135) (ps_a s 1136) (ps_a s 1138) (ps_a s 1139) (ps_i s 1131 22).toInt σ) → (∀ i : Nat, (i : Int) < x1.toInt ∨ x1.toInt + 41 ≤ (i : Int) → ps_a s 1134 i = ps_a s0 1134 i) → ((ps_i s 1131 8).toInt ≤ (ps_i s 1131 4).toInt) → ((ps_i s 1131 32).toInt = x3.toInt) → ((x2.toInt ≠ 0 ∧ b = true) ∨ (x2.toInt = 0 ∧ b = false)) → (x4.toInt = 0 ∨ x4.toInt = 1) → (1 ≤ (ps_i s 1131 5).toInt ∨ ((ps_i s 1131 29).toInt ≤ 13 ∧ 0 ≤ (ps_i s 1131 30).toInt ∧ (ps_i s 1131 30).toInt ≤ 5 ∧ (ps_i s 1131 31).toInt ≤ 40)) → (1 ≤ (ps_i s 1131 5).toInt ∨ (x4.toInt = 0 ∧ ∃ l2, Rw (ps_a s 1134) x1.toInt l2 ∧ wf σ 5 l2 [(b, 0)] ∧ ((ps_i s 1131 32).toInt ≠ 0 → ∀ p, p ∈ l2 → p < 60)) ∨ (x4.toInt ≠ 0 ∧ ∃ l2 b0, Rw (ps_a s 1134) x1.toInt l2 ∧ RH σ (ps_a s 1144) (ps_a s 1145) (ps_a s 1146) (ps_a s 1147) (ps_i s 1131 29).toInt (ps_i s 1131 30).toInt (ps_i s 1131 31).toInt (ps_i s 1131 32).toInt l2 b b0 ∧ ((ps_i s 1131 29).toInt = 0 → b0 = b) ∧ (0 < (ps_i s 1131 29).toInt → b0 = decide (ps_a s 1145 ((ps_i s 1131 29).toInt - 1).toNat = 0)))) → (1 ≤ (ps_i s0 1131 5).toInt → 1 ≤ (ps_i s 1131 5).toInt) → (2 * (42 - (ps_i s 1131 31).toInt) + 6 * x4.toInt ≤ (n30 : Int) - 1) → ps_At (d + 5) 209 30 [(0, .ref 1131), (1, .int x1), (2, .int x2), (4, .int x4)] [] s Q) (s : ps_S) (J : mJ x t s) (K : kp [1134, 1143, 1144, 1145, 1146, 1147, 1148] [5, 6, 7, 8, 9, 10, 11, 23, 29, 30, 31, 32] s0 s) (hS2 : Sg (ps_a s 1135) (ps_a s 1136) (ps_a s 1138) (ps_a s 1139) (ps_i s 1131 22).toInt σ) (hO : ∀ i : Nat, (i : Int) < x1.toInt ∨ x1.toInt + 41 ≤ (i : Int) → ps_a s 1134 i = ps_a s0 1134 i) (i2 : (ps_i s 1131 8).toInt ≤ (ps_i s 1131 4).toInt) (i3 : (ps_i s 1131 32).toInt = x3.toInt) (i4 : (x2.toInt ≠ 0 ∧ b = true) ∨ (x2.toInt = 0 ∧ b = false)) (i5 : 1 ≤ (ps_i s 1131 5).toInt ∨ ((ps_i s 1131 29).toInt ≤ 13 ∧ 0 ≤ (ps_i s 1131 30).toInt ∧ (ps_i s 1131 30).toInt ≤ 5 ∧ (ps_i s 1131 31).toInt ≤ 40)) (i6 : 1 ≤ (ps_i s 1131 5).toInt ∨ ∃ l2, Rw (ps_a s 1134) x1.toInt l2 ∧ RQ σ (ps_a s 1144) (ps_a s 1145) (ps_a s 1146) (ps_a s 1147) (ps_i s 1131 29).toInt (ps_i s 1131 30).toInt (ps_i s 1131 31).toInt (ps_i s 1131 32).toInt l2 b) (i7 : 1 ≤ (ps_i s0 1131 5).toInt → 1 ≤ (ps_i s 1131 5).toInt) (hm30 : 2 * (42 - (ps_i s 1131 31).toInt) + 7 - (ps_i s 1131 5).toInt ≤ (n30 : Int)) : ps_At (d + 5) 209 92 [(0, .ref 1131), (1, .int x1), (2, .int x2)] [] s Q := by
  have r1 := mf_8 J
  have r2 := mf_4 J
  have r3 := mf_5 J
  have r4 := mf_29 J
  have r5 := mf_31 J
  refine pg_209_92 (d := d + 4) ?_
  refine ms_192 J  (fun v6 p6_0 b6 => ?_)
  have p6_0' : (v6.toInt = 0 ∧ 1 ≤ (ps_i s 1131 5).toInt) ∨ (v6.toInt = 1 ∧ (ps_i s 1131 5).toInt = 0) := p6_0
  refine And.intro (fun h7 => ?_) (fun h7 => ?_)
  · have f8 : v6.toInt = (0 : Int) := xeq h7
    exact KH30 (0) _ J K hS2 ((by first | exact fun i hi => (ho i hi).trans (hO i hi) | exact hO)) (show (ps_i s 1131 8).toInt ≤ (ps_i s 1131 4).toInt from by omega) (show (ps_i s 1131 32).toInt = x3.toInt from by omega) (i4) (show (0 : Int) = 0 ∨ (0 : Int) = 1 from by omega) (show 1 ≤ (ps_i s 1131 5).toInt ∨ ((ps_i s 1131 29).toInt ≤ 13 ∧ 0 ≤ (ps_i s 1131 30).toInt ∧ (ps_i s 1131 30).toInt ≤ 5 ∧ (ps_i s 1131 31).toInt ≤ 40) from by omega) ((by first | exact Or.inl (show 1 ≤ (ps_i s 1131 5).toInt from by omega) | (rcases hv with z | z <;> first | exact Or.inr (Or.inl ⟨by decide, z.2⟩) | exact Or.inr (Or.inr ⟨by decide, z.2⟩) | (have q := z.1; exfalso; omega)))) (show 1 ≤ (ps_i s0 1131 5).toInt → 1 ≤ (ps_i s 1131 5).toInt from by omega) (show 2 * (42 - (ps_i s 1131 31).toInt) + 6 * (0 : Int) ≤ (n30 : Int) - 1 from by omega)
  · have f9 : v6.toInt ≠ (0 : Int) := xne h7
    have hE : ∃ l2, Rw (ps_a s 1134) x1.toInt l2 ∧ RQ σ (ps_a s 1144) (ps_a s 1145) (ps_a s 1146) (ps_a s 1147) (ps_i s 1131 29).toInt (ps_i s 1131 30).toInt (ps_i s 1131 31).toInt (ps_i s 1131 32).toInt l2 b := i6.resolve_left (by omega)
    refine ms_212 J hE (show (ps_i s 1131 29).toInt ≤ 13 from by omega) (show 0 ≤ (ps_i s 1131 30).toInt from by omega) (show (ps_i s 1131 30).toInt ≤ 5 from by omega) (show (ps_i s 1131 31).toInt ≤ 40 from by omega) (fun v10 s10 J10 K10 p10_0 p10_1 p10_2 p10_3 p10_4 b10 => ?_)
    have K11 := kpt K K10 rfl rfl
    have hS2 : Sg (ps_a s10 1135) (ps_a s10 1136) (ps_a s10 1138) (ps_a s10 1139) (ps_i s10 1131 22).toInt σ := by rw [show ps_a s10 1135 = ps_a s 1135 from (K10.2 1135 rfl).1, show ps_a s10 1136 = ps_a s 1136 from (K10.2 1136 rfl).1, show ps_a s10 1138 = ps_a s 1138 from (K10.2 1138 rfl).1, show ps_a s10 1139 = ps_a s 1139 from (K10.2 1139 rfl).1, show ps_i s10 1131 22 = ps_i s 1131 22 from kp_i K10 22 rfl]; exact hS2
    have p10_0' : (ps_i s10 1131 29).toInt ≤ 13 := p10_0
    have r12 := mf_29 J10
    have p10_1' : 0 ≤ (ps_i s10 1131 30).toInt := p10_1
    have p10_2' : (ps_i s10 1131 30).toInt ≤ 5 := p10_2
    have hv : _ := p10_3
    have ho : _ := p10_4
    refine And.intro (fun h13 => ?_) (fun h13 => ?_)
    · have f14 : v10.toInt = (0 : Int) := xeq h13
      have r15 := mf_8 J10
      have u16 : (ps_i s10 1131 8).toInt = (ps_i s 1131 8).toInt := xeq (kp_i K10 8 rfl)
      have r17 := mf_4 J10
      have u18 : (ps_i s10 1131 4).toInt = (ps_i s 1131 4).toInt := xeq (kp_i K10 4 rfl)
      have u19 : (ps_i s10 1131 32).toInt = (ps_i s 1131 32).toInt := xeq (kp_i K10 32 rfl)
      have r20 := mf_5 J10
      have u21 : (ps_i s10 1131 5).toInt = (ps_i s 1131 5).toInt := xeq (kp_i K10 5 rfl)
      have r22 := mf_31 J10
      have u23 : (ps_i s10 1131 31).toInt = (ps_i s 1131 31).toInt := xeq (kp_i K10 31 rfl)
      exact KH30 (0) _ J10 K11 hS2 ((by first | exact fun i hi => (ho i hi).trans (hO i hi) | exact hO)) (show (ps_i s10 1131 8).toInt ≤ (ps_i s10 1131 4).toInt from by omega) (show (ps_i s10 1131 32).toInt = x3.toInt from by omega) (i4) (show (0 : Int) = 0 ∨ (0 : Int) = 1 from by omega) (show 1 ≤ (ps_i s10 1131 5).toInt ∨ ((ps_i s10 1131 29).toInt ≤ 13 ∧ 0 ≤ (ps_i s10 1131 30).toInt ∧ (ps_i s10 1131 30).toInt ≤ 5 ∧ (ps_i s10 1131 31).toInt ≤ 40) from by omega) ((by first | exact Or.inl (show 1 ≤ (ps_i s10 1131 5).toInt from by omega) | (rcases hv with z | z <;> first | exact Or.inr (Or.inl ⟨by decide, z.2⟩) | exact Or.inr (Or.inr ⟨by decide, z.2⟩) | (have q := z.1; exfalso; omega)))) (show 1 ≤ (ps_i s0 1131 5).toInt → 1 ≤ (ps_i s10 1131 5).toInt from by omega) (show 2 * (42 - (ps_i s10 1131 31).toInt) + 6 * (0 : Int) ≤ (n30 : Int) - 1 from by omega)
    · have f24 : v10.toInt ≠ (0 : Int) := xne h13
      have r25 := mf_8 J10
      have u26 : (ps_i s10 1131 8).toInt = (ps_i s 1131 8).toInt := xeq (kp_i K10 8 rfl)
      have r27 := mf_4 J10
      have u28 : (ps_i s10 1131 4).toInt = (ps_i s 1131 4).toInt := xeq (kp_i K10 4 rfl)
      have u29 : (ps_i s10 1131 32).toInt = (ps_i s 1131 32).toInt := xeq (kp_i K10 32 rfl)
      have r30 := mf_5 J10
      have u31 : (ps_i s10 1131 5).toInt = (ps_i s 1131 5).toInt := xeq (kp_i K10 5 rfl)
      have r32 := mf_31 J10
      have u33 : (ps_i s10 1131 31).toInt = (ps_i s 1131 31).toInt := xeq (kp_i K10 31 rfl)
      exact KH30 (1) _ J10 K11 hS2 ((by first | exact fun i hi => (ho i hi).trans (hO i hi) | exact hO)) (show (ps_i s10 1131 8).toInt ≤ (ps_i s10 1131 4).toInt from by omega) (show (ps_i s10 1131 32).toInt = x3.toInt from by omega) (i4) (show (1 : Int) = 0 ∨ (1 : Int) = 1 from by omega) (show 1 ≤ (ps_i s10 1131 5).toInt ∨ ((ps_i s10 1131 29).toInt ≤ 13 ∧ 0 ≤ (ps_i s10 1131 30).toInt ∧ (ps_i s10 1131 30).toInt ≤ 5 ∧ (ps_i s10 1131 31).toInt ≤ 40) from by omega) ((by first | exact Or.inl (show 1 ≤ (ps_i s10 1131 5).toInt from by omega) | (rcases hv with z | z <;> first | exact Or.inr (Or.inl ⟨by decide, z.2⟩) | exact Or.inr (Or.inr ⟨by decide, z.2⟩) | (have q := z.1; exfalso; omega)))) (show 1 ≤ (ps_i s0 1131 5).toInt → 1 ≤ (ps_i s10 1131 5).toInt from by omega) (show 2 * (42 - (ps_i s10 1131 31).toInt) + 6 * (1 : Int) ≤ (n30 : Int) - 1 from by omega)

theorem ms_209_30 {x : Nat → Nat → Nat} {t : Int32} {d : Nat} {s0 : ps_S} {σ : mSig} {b : Bool} {x1 : Int32} {x2 : Int32} {x3 : Int32} {Q : Option Value → ps_S → Prop} (k : ∀ (s' : ps_S), mJ x t s' → kp [1134, 1143, 1144, 1145, 1146, 1147, 1148] [5, 6, 7, 8, 9, 10, 11, 23, 29, 30, 31, 32] s0 s' → ((ps_i s' 1131 8).toInt ≤ (ps_i s' 1131 4).toInt) → (1 ≤ (ps_i s0 1131 5).toInt → 1 ≤ (ps_i s' 1131 5).toInt) → (∀ i : Nat, (i : Int) < x1.toInt ∨ x1.toInt + 41 ≤ (i : Int) → ps_a s' 1134 i = ps_a s0 1134 i) → (1 ≤ (ps_i s' 1131 5).toInt ∨ ∃ l2, Rw (ps_a s' 1134) x1.toInt l2 ∧ wf σ 5 l2 [(b, 0)] ∧ (x3.toInt ≠ 0 → ∀ p, p ∈ l2 → p < 60)) → Q none s') : ∀ (n : Nat) (x4 : Int32) (s : ps_S), (mJ x t s) → (kp [1134, 1143, 1144, 1145, 1146, 1147, 1148] [5, 6, 7, 8, 9, 10, 11, 23, 29, 30, 31, 32] s0 s) → (Sg (ps_a s 1135) (ps_a s 1136) (ps_a s 1138) (ps_a s 1139) (ps_i s 1131 22).toInt σ) → (∀ i : Nat, (i : Int) < x1.toInt ∨ x1.toInt + 41 ≤ (i : Int) → ps_a s 1134 i = ps_a s0 1134 i) → ((ps_i s 1131 8).toInt ≤ (ps_i s 1131 4).toInt) → ((ps_i s 1131 32).toInt = x3.toInt) → ((x2.toInt ≠ 0 ∧ b = true) ∨ (x2.toInt = 0 ∧ b = false)) → (x4.toInt = 0 ∨ x4.toInt = 1) → (1 ≤ (ps_i s 1131 5).toInt ∨ ((ps_i s 1131 29).toInt ≤ 13 ∧ 0 ≤ (ps_i s 1131 30).toInt ∧ (ps_i s 1131 30).toInt ≤ 5 ∧ (ps_i s 1131 31).toInt ≤ 40)) → (1 ≤ (ps_i s 1131 5).toInt ∨ (x4.toInt = 0 ∧ ∃ l2, Rw (ps_a s 1134) x1.toInt l2 ∧ wf σ 5 l2 [(b, 0)] ∧ ((ps_i s 1131 32).toInt ≠ 0 → ∀ p, p ∈ l2 → p < 60)) ∨ (x4.toInt ≠ 0 ∧ ∃ l2 b0, Rw (ps_a s 1134) x1.toInt l2 ∧ RH σ (ps_a s 1144) (ps_a s 1145) (ps_a s 1146) (ps_a s 1147) (ps_i s 1131 29).toInt (ps_i s 1131 30).toInt (ps_i s 1131 31).toInt (ps_i s 1131 32).toInt l2 b b0 ∧ ((ps_i s 1131 29).toInt = 0 → b0 = b) ∧ (0 < (ps_i s 1131 29).toInt → b0 = decide (ps_a s 1145 ((ps_i s 1131 29).toInt - 1).toNat = 0)))) → (1 ≤ (ps_i s0 1131 5).toInt → 1 ≤ (ps_i s 1131 5).toInt) → 2 * (42 - (ps_i s 1131 31).toInt) + 6 * x4.toInt ≤ (n : Int) → ps_At (d + 5) 209 30 [(0, .ref 1131), (1, .int x1), (2, .int x2), (4, .int x4)] [] s Q := by
  refine xstr (fun n ih => ?_)
  intro x4 s J K hS2 hO i2 i3 i4 i5 i6 i7 i8 hm
  have r1 := mf_8 J
  have r2 := mf_4 J
  have r3 := mf_5 J
  have r4 := mf_29 J
  have r5 := mf_31 J
  refine pg_209_30 (d := d + 4) ?_
  refine ms_192 J  (fun v6 p6_0 b6 => ?_)
  have p6_0' : (v6.toInt = 0 ∧ 1 ≤ (ps_i s 1131 5).toInt) ∨ (v6.toInt = 1 ∧ (ps_i s 1131 5).toInt = 0) := p6_0
  refine And.intro (fun h7 => ?_) (fun h7 => ?_)
  · have f8 : v6.toInt = (0 : Int) := xeq h7
    exact k _ J K (show (ps_i s 1131 8).toInt ≤ (ps_i s 1131 4).toInt from by omega) (show 1 ≤ (ps_i s0 1131 5).toInt → 1 ≤ (ps_i s 1131 5).toInt from by omega) (hO) ((by first | exact Or.inl (show 1 ≤ (ps_i s 1131 5).toInt from by omega) | (rcases i7 with z | ⟨z1, z2⟩ | ⟨z1, z2⟩; exact Or.inl z; exact Or.inr (by obtain ⟨l2, g1, g2, g3⟩ := z2; exact ⟨l2, g1, g2, fun q => g3 (by omega)⟩); exfalso; omega)))
  · have f9 : v6.toInt ≠ (0 : Int) := xne h7
    have q5 : (ps_i s 1131 5).toInt = 0 := by omega
    clear p6_0' p6_0
    have q8 : ¬ 1 ≤ (ps_i s0 1131 5).toInt := fun z => by have z2 := i8 z; omega
    refine And.intro (fun h10 => ?_) (fun h10 => ?_)
    · have f11 : x4.toInt = (0 : Int) := xeq h10
      exact k _ J K (show (ps_i s 1131 8).toInt ≤ (ps_i s 1131 4).toInt from by omega) (show 1 ≤ (ps_i s0 1131 5).toInt → 1 ≤ (ps_i s 1131 5).toInt from by omega) (hO) ((by first | exact Or.inl (show 1 ≤ (ps_i s 1131 5).toInt from by omega) | (rcases i7 with z | ⟨z1, z2⟩ | ⟨z1, z2⟩; exact Or.inl z; exact Or.inr (by obtain ⟨l2, g1, g2, g3⟩ := z2; exact ⟨l2, g1, g2, fun q => g3 (by omega)⟩); exfalso; omega)))
    · have f12 : x4.toInt ≠ (0 : Int) := xne h10
      obtain ⟨-, l, b0, hR, hH, hb1, hb2⟩ := (i7.resolve_left (by omega)).resolve_left (fun z => absurd z.1 (by omega))
      have q4 : x4.toInt = 1 := by omega
      have q6 := i6.resolve_left (by omega)
      clear i5 i6 i8
      refine And.intro (fun h13 => ?_) (fun h13 => ?_)
      · have f14 : (ps_i s 1131 29).toInt ≠ (0 : Int) := xne h13
        have a15 : ((ps_i s 1131 29) - 1).toInt = (ps_i s 1131 29).toInt - (1 : Int) := xIs (show -2147483648 ≤ (ps_i s 1131 29).toInt - (1 : Int) from by omega) (show (ps_i s 1131 29).toInt - (1 : Int) < 2147483648 from by omega)
        have e6 : Int32.toNatClampNeg ((ps_i s 1131 29) - 1) = ((ps_i s 1131 29).toInt - 1).toNat := nx (by omega)
        refine ps_nd_i (show pm_in ((ps_i s 1131 29) - 1) 16 = true from xgi (show 0 ≤ ((ps_i s 1131 29) - 1).toInt from by omega) (show ((ps_i s 1131 29) - 1).toInt < 16 from by omega)) ?_
        refine And.intro (fun h16 => ?_) (fun h16 => ?_)
        · have f17 : (ps_a s 1145 (Int32.toNatClampNeg ((ps_i s 1131 29) - 1))).toInt ≠ (0 : Int) := xne h16
          refine And.intro (fun h18 => ?_) (fun h18 => ?_)
          · have hb0 : b0 = false := by first | (have z := hb1 (by omega); rw [z]; rcases i4 with q | q; exfalso; omega; exact q.2) | (have z := hb2 (by omega); exact z.trans (decide_eq_false (fun q => by rw [← e6] at q; have q2 := congrArg Int32.toInt q; rw [Int32.toInt_zero] at q2; omega)))
            subst hb0
            have hH0 := hH
            clear hb1 hb2 i7
            try clear e6
            refine ms_215 J hS2 hR hH0 (show (ps_i s 1131 8).toInt ≤ (ps_i s 1131 4).toInt from by omega) (show (ps_i s 1131 5).toInt = 0 from by omega) (show (ps_i s 1131 29).toInt ≤ 13 from by omega) (show 0 ≤ (ps_i s 1131 30).toInt from by omega) (show (ps_i s 1131 30).toInt ≤ 5 from by omega) (show (ps_i s 1131 31).toInt ≤ 40 from by omega) (fun s19 J19 K19 p19_0 p19_1 p19_2 p19_3 p19_4 => ?_)
            have K20 := kpt K K19 rfl rfl
            have hS2 : Sg (ps_a s19 1135) (ps_a s19 1136) (ps_a s19 1138) (ps_a s19 1139) (ps_i s19 1131 22).toInt σ := by rw [show ps_a s19 1135 = ps_a s 1135 from (K19.2 1135 rfl).1, show ps_a s19 1136 = ps_a s 1136 from (K19.2 1136 rfl).1, show ps_a s19 1138 = ps_a s 1138 from (K19.2 1138 rfl).1, show ps_a s19 1139 = ps_a s 1139 from (K19.2 1139 rfl).1, show ps_i s19 1131 22 = ps_i s 1131 22 from kp_i K19 22 rfl]; exact hS2
            have p19_0' : (ps_i s19 1131 8).toInt ≤ (ps_i s19 1131 4).toInt := p19_0
            have r21 := mf_8 J19
            have r22 := mf_4 J19
            have u23 : (ps_i s19 1131 4).toInt = (ps_i s 1131 4).toInt := xeq (kp_i K19 4 rfl)
            have p19_1' : 1 ≤ (ps_i s19 1131 5).toInt ∨ ((ps_i s19 1131 29).toInt ≤ 13 ∧ 0 ≤ (ps_i s19 1131 30).toInt ∧ (ps_i s19 1131 30).toInt ≤ 5 ∧ (ps_i s19 1131 31).toInt ≤ 40 ∧ (ps_i s 1131 31).toInt < (ps_i s19 1131 31).toInt) := p19_1
            have r24 := mf_5 J19
            have r25 := mf_29 J19
            have u26 : (ps_i s19 1131 30).toInt = (ps_i s 1131 30).toInt := xeq (kp_i K19 30 rfl)
            have r27 := mf_31 J19
            have p19_2' : (ps_i s 1131 31).toInt ≤ (ps_i s19 1131 31).toInt := p19_2
            have hq : _ := p19_3
            have ho : _ := p19_4
            have u28 : (ps_i s19 1131 32).toInt = (ps_i s 1131 32).toInt := xeq (kp_i K19 32 rfl)
            exact ms_209_92 (x1 := x1) (x2 := x2) (x3 := x3) (σ := σ) (b := b) k n (fun x4z sz Jz Kz i0z i1z i2z i3z i4z i5z i6z i7z i8z hm => ih (n - 1) (show n - 1 < n from by omega) x4z sz Jz Kz i0z i1z i2z i3z i4z i5z i6z i7z i8z (show _ ≤ ((n - 1 : Nat) : Int) from by omega))  _ J19 K20 hS2 ((fun i hi => (ho i hi).trans (hO i hi))) (show (ps_i s19 1131 8).toInt ≤ (ps_i s19 1131 4).toInt from by omega) (show (ps_i s19 1131 32).toInt = x3.toInt from by omega) (i4) (p19_1.imp_right (fun z => ⟨z.1, z.2.1, z.2.2.1, z.2.2.2.1⟩)) (hq) (show 1 ≤ (ps_i s0 1131 5).toInt → 1 ≤ (ps_i s19 1131 5).toInt from by omega) (show 2 * (42 - (ps_i s19 1131 31).toInt) + 7 - (ps_i s19 1131 5).toInt ≤ ((n : Nat) : Int) from by omega)
          · exact absurd (show (0 : Int32) ≠ (0 : Int32) from h18) (by decide)
        · have f29 : (ps_a s 1145 (Int32.toNatClampNeg ((ps_i s 1131 29) - 1))).toInt = (0 : Int) := xeq h16
          refine And.intro (fun h30 => ?_) (fun h30 => ?_)
          · exact absurd (show (1 : Int32) = (0 : Int32) from h30) (by decide)
          · have f31 : (1 : Int) ≠ (0 : Int) := xne h30
            have hb0 : b0 = true := by first | (have z := hb1 (by omega); rw [z]; rcases i4 with q | q; exact q.2; exfalso; omega) | (have z := hb2 (by omega); exact z.trans (decide_eq_true (by rw [← e6]; exact x0 (by omega))))
            subst hb0
            have hH0 := hH
            clear hb1 hb2 i7
            try clear e6
            refine ms_214 J hS2 hR hH0 (show (ps_i s 1131 8).toInt ≤ (ps_i s 1131 4).toInt from by omega) (show (ps_i s 1131 5).toInt = 0 from by omega) (show (ps_i s 1131 29).toInt ≤ 13 from by omega) (show 0 ≤ (ps_i s 1131 30).toInt from by omega) (show (ps_i s 1131 30).toInt ≤ 5 from by omega) (show (ps_i s 1131 31).toInt ≤ 40 from by omega) (fun s32 J32 K32 p32_0 p32_1 p32_2 p32_3 p32_4 => ?_)
            have K33 := kpt K K32 rfl rfl
            have hS2 : Sg (ps_a s32 1135) (ps_a s32 1136) (ps_a s32 1138) (ps_a s32 1139) (ps_i s32 1131 22).toInt σ := by rw [show ps_a s32 1135 = ps_a s 1135 from (K32.2 1135 rfl).1, show ps_a s32 1136 = ps_a s 1136 from (K32.2 1136 rfl).1, show ps_a s32 1138 = ps_a s 1138 from (K32.2 1138 rfl).1, show ps_a s32 1139 = ps_a s 1139 from (K32.2 1139 rfl).1, show ps_i s32 1131 22 = ps_i s 1131 22 from kp_i K32 22 rfl]; exact hS2
            have p32_0' : (ps_i s32 1131 8).toInt ≤ (ps_i s32 1131 4).toInt := p32_0
            have r34 := mf_8 J32
            have r35 := mf_4 J32
            have u36 : (ps_i s32 1131 4).toInt = (ps_i s 1131 4).toInt := xeq (kp_i K32 4 rfl)
            have p32_1' : 1 ≤ (ps_i s32 1131 5).toInt ∨ ((ps_i s32 1131 29).toInt ≤ 13 ∧ 0 ≤ (ps_i s32 1131 30).toInt ∧ (ps_i s32 1131 30).toInt ≤ 5 ∧ (ps_i s32 1131 31).toInt ≤ 40 ∧ (ps_i s 1131 31).toInt < (ps_i s32 1131 31).toInt) := p32_1
            have r37 := mf_5 J32
            have r38 := mf_29 J32
            have r39 := mf_31 J32
            have p32_2' : (ps_i s 1131 31).toInt ≤ (ps_i s32 1131 31).toInt := p32_2
            have hq : _ := p32_3
            have ho : _ := p32_4
            have u40 : (ps_i s32 1131 32).toInt = (ps_i s 1131 32).toInt := xeq (kp_i K32 32 rfl)
            exact ms_209_92 (x1 := x1) (x2 := x2) (x3 := x3) (σ := σ) (b := b) k n (fun x4z sz Jz Kz i0z i1z i2z i3z i4z i5z i6z i7z i8z hm => ih (n - 1) (show n - 1 < n from by omega) x4z sz Jz Kz i0z i1z i2z i3z i4z i5z i6z i7z i8z (show _ ≤ ((n - 1 : Nat) : Int) from by omega))  _ J32 K33 hS2 ((fun i hi => (ho i hi).trans (hO i hi))) (show (ps_i s32 1131 8).toInt ≤ (ps_i s32 1131 4).toInt from by omega) (show (ps_i s32 1131 32).toInt = x3.toInt from by omega) (i4) (p32_1.imp_right (fun z => ⟨z.1, z.2.1, z.2.2.1, z.2.2.2.1⟩)) (hq) (show 1 ≤ (ps_i s0 1131 5).toInt → 1 ≤ (ps_i s32 1131 5).toInt from by omega) (show 2 * (42 - (ps_i s32 1131 31).toInt) + 7 - (ps_i s32 1131 5).toInt ≤ ((n : Nat) : Int) from by omega)
      · have f41 : (ps_i s 1131 29).toInt = (0 : Int) := xeq h13
        refine And.intro (fun h42 => ?_) (fun h42 => ?_)
        · have f43 : x2.toInt = (0 : Int) := xeq h42
          have hb0 : b0 = false := by first | (have z := hb1 (by omega); rw [z]; rcases i4 with q | q; exfalso; omega; exact q.2) | (have z := hb2 (by omega); exact z.trans (decide_eq_false (fun q => by rw [← e6] at q; have q2 := congrArg Int32.toInt q; rw [Int32.toInt_zero] at q2; omega)))
          subst hb0
          have hH0 := hH
          clear hb1 hb2 i7
          try clear e6
          refine ms_215 J hS2 hR hH0 (show (ps_i s 1131 8).toInt ≤ (ps_i s 1131 4).toInt from by omega) (show (ps_i s 1131 5).toInt = 0 from by omega) (show (ps_i s 1131 29).toInt ≤ 13 from by omega) (show 0 ≤ (ps_i s 1131 30).toInt from by omega) (show (ps_i s 1131 30).toInt ≤ 5 from by omega) (show (ps_i s 1131 31).toInt ≤ 40 from by omega) (fun s44 J44 K44 p44_0 p44_1 p44_2 p44_3 p44_4 => ?_)
          have K45 := kpt K K44 rfl rfl
          have hS2 : Sg (ps_a s44 1135) (ps_a s44 1136) (ps_a s44 1138) (ps_a s44 1139) (ps_i s44 1131 22).toInt σ := by rw [show ps_a s44 1135 = ps_a s 1135 from (K44.2 1135 rfl).1, show ps_a s44 1136 = ps_a s 1136 from (K44.2 1136 rfl).1, show ps_a s44 1138 = ps_a s 1138 from (K44.2 1138 rfl).1, show ps_a s44 1139 = ps_a s 1139 from (K44.2 1139 rfl).1, show ps_i s44 1131 22 = ps_i s 1131 22 from kp_i K44 22 rfl]; exact hS2
          have p44_0' : (ps_i s44 1131 8).toInt ≤ (ps_i s44 1131 4).toInt := p44_0
          have r46 := mf_8 J44
          have r47 := mf_4 J44
          have u48 : (ps_i s44 1131 4).toInt = (ps_i s 1131 4).toInt := xeq (kp_i K44 4 rfl)
          have p44_1' : 1 ≤ (ps_i s44 1131 5).toInt ∨ ((ps_i s44 1131 29).toInt ≤ 13 ∧ 0 ≤ (ps_i s44 1131 30).toInt ∧ (ps_i s44 1131 30).toInt ≤ 5 ∧ (ps_i s44 1131 31).toInt ≤ 40 ∧ (ps_i s 1131 31).toInt < (ps_i s44 1131 31).toInt) := p44_1
          have r49 := mf_5 J44
          have r50 := mf_29 J44
          have u51 : (ps_i s44 1131 30).toInt = (ps_i s 1131 30).toInt := xeq (kp_i K44 30 rfl)
          have r52 := mf_31 J44
          have p44_2' : (ps_i s 1131 31).toInt ≤ (ps_i s44 1131 31).toInt := p44_2
          have hq : _ := p44_3
          have ho : _ := p44_4
          have u53 : (ps_i s44 1131 32).toInt = (ps_i s 1131 32).toInt := xeq (kp_i K44 32 rfl)
          exact ms_209_92 (x1 := x1) (x2 := x2) (x3 := x3) (σ := σ) (b := b) k n (fun x4z sz Jz Kz i0z i1z i2z i3z i4z i5z i6z i7z i8z hm => ih (n - 1) (show n - 1 < n from by omega) x4z sz Jz Kz i0z i1z i2z i3z i4z i5z i6z i7z i8z (show _ ≤ ((n - 1 : Nat) : Int) from by omega))  _ J44 K45 hS2 ((fun i hi => (ho i hi).trans (hO i hi))) (show (ps_i s44 1131 8).toInt ≤ (ps_i s44 1131 4).toInt from by omega) (show (ps_i s44 1131 32).toInt = x3.toInt from by omega) (i4) (p44_1.imp_right (fun z => ⟨z.1, z.2.1, z.2.2.1, z.2.2.2.1⟩)) (hq) (show 1 ≤ (ps_i s0 1131 5).toInt → 1 ≤ (ps_i s44 1131 5).toInt from by omega) (show 2 * (42 - (ps_i s44 1131 31).toInt) + 7 - (ps_i s44 1131 5).toInt ≤ ((n : Nat) : Int) from by omega)
        · have f54 : x2.toInt ≠ (0 : Int) := xne h42
          have hb0 : b0 = true := by first | (have z := hb1 (by omega); rw [z]; rcases i4 with q | q; exact q.2; exfalso; omega) | (have z := hb2 (by omega); exact z.trans (decide_eq_true (by rw [← e6]; exact x0 (by omega))))
          subst hb0
          have hH0 := hH
          clear hb1 hb2 i7
          try clear e6
          refine ms_214 J hS2 hR hH0 (show (ps_i s 1131 8).toInt ≤ (ps_i s 1131 4).toInt from by omega) (show (ps_i s 1131 5).toInt = 0 from by omega) (show (ps_i s 1131 29).toInt ≤ 13 from by omega) (show 0 ≤ (ps_i s 1131 30).toInt from by omega) (show (ps_i s 1131 30).toInt ≤ 5 from by omega) (show (ps_i s 1131 31).toInt ≤ 40 from by omega) (fun s55 J55 K55 p55_0 p55_1 p55_2 p55_3 p55_4 => ?_)
          have K56 := kpt K K55 rfl rfl
          have hS2 : Sg (ps_a s55 1135) (ps_a s55 1136) (ps_a s55 1138) (ps_a s55 1139) (ps_i s55 1131 22).toInt σ := by rw [show ps_a s55 1135 = ps_a s 1135 from (K55.2 1135 rfl).1, show ps_a s55 1136 = ps_a s 1136 from (K55.2 1136 rfl).1, show ps_a s55 1138 = ps_a s 1138 from (K55.2 1138 rfl).1, show ps_a s55 1139 = ps_a s 1139 from (K55.2 1139 rfl).1, show ps_i s55 1131 22 = ps_i s 1131 22 from kp_i K55 22 rfl]; exact hS2
          have p55_0' : (ps_i s55 1131 8).toInt ≤ (ps_i s55 1131 4).toInt := p55_0
          have r57 := mf_8 J55
          have r58 := mf_4 J55
          have u59 : (ps_i s55 1131 4).toInt = (ps_i s 1131 4).toInt := xeq (kp_i K55 4 rfl)
          have p55_1' : 1 ≤ (ps_i s55 1131 5).toInt ∨ ((ps_i s55 1131 29).toInt ≤ 13 ∧ 0 ≤ (ps_i s55 1131 30).toInt ∧ (ps_i s55 1131 30).toInt ≤ 5 ∧ (ps_i s55 1131 31).toInt ≤ 40 ∧ (ps_i s 1131 31).toInt < (ps_i s55 1131 31).toInt) := p55_1
          have r60 := mf_5 J55
          have r61 := mf_29 J55
          have r62 := mf_31 J55
          have p55_2' : (ps_i s 1131 31).toInt ≤ (ps_i s55 1131 31).toInt := p55_2
          have hq : _ := p55_3
          have ho : _ := p55_4
          have u63 : (ps_i s55 1131 32).toInt = (ps_i s 1131 32).toInt := xeq (kp_i K55 32 rfl)
          exact ms_209_92 (x1 := x1) (x2 := x2) (x3 := x3) (σ := σ) (b := b) k n (fun x4z sz Jz Kz i0z i1z i2z i3z i4z i5z i6z i7z i8z hm => ih (n - 1) (show n - 1 < n from by omega) x4z sz Jz Kz i0z i1z i2z i3z i4z i5z i6z i7z i8z (show _ ≤ ((n - 1 : Nat) : Int) from by omega))  _ J55 K56 hS2 ((fun i hi => (ho i hi).trans (hO i hi))) (show (ps_i s55 1131 8).toInt ≤ (ps_i s55 1131 4).toInt from by omega) (show (ps_i s55 1131 32).toInt = x3.toInt from by omega) (i4) (p55_1.imp_right (fun z => ⟨z.1, z.2.1, z.2.2.1, z.2.2.2.1⟩)) (hq) (show 1 ≤ (ps_i s0 1131 5).toInt → 1 ≤ (ps_i s55 1131 5).toInt from by omega) (show 2 * (42 - (ps_i s55 1131 31).toInt) + 7 - (ps_i s55 1131 5).toInt ≤ ((n : Nat) : Int) from by omega)

theorem ms_209 {x : Nat → Nat → Nat} {t : Int32} {s : ps_S} {d : Nat} {x1 : Int32} {x2 : Int32} {x3 : Int32} {f : ps_S → Prop} (J : mJ x t s) {σ : mSig} {b : Bool} (hS2 : Sg (ps_a s 1135) (ps_a s 1136) (ps_a s 1138) (ps_a s 1139) (ps_i s 1131 22).toInt σ) (q1 : x1.toInt % 41 = 0) (q2 : 0 ≤ x1.toInt) (q3 : x1.toInt < 27306) (q4 : (ps_i s 1131 8).toInt ≤ (ps_i s 1131 4).toInt) (q5 : (x2.toInt ≠ 0 ∧ b = true) ∨ (x2.toInt = 0 ∧ b = false)) (q6 : x3 &&& 1 = x3) (k : ∀ (s' : ps_S), mJ x t s' → kp [1134, 1143, 1144, 1145, 1146, 1147, 1148] [5, 6, 7, 8, 9, 10, 11, 23, 29, 30, 31, 32] s s' → ((ps_i s' 1131 8).toInt ≤ (ps_i s' 1131 4).toInt) → (1 ≤ (ps_i s 1131 5).toInt → 1 ≤ (ps_i s' 1131 5).toInt) → (∀ i : Nat, (i : Int) < x1.toInt ∨ x1.toInt + 41 ≤ (i : Int) → ps_a s' 1134 i = ps_a s 1134 i) → (1 ≤ (ps_i s' 1131 5).toInt ∨ ∃ l2, Rw (ps_a s' 1134) x1.toInt l2 ∧ wf σ 5 l2 [(b, 0)] ∧ (x3.toInt ≠ 0 → ∀ p, p ∈ l2 → p < 60)) → f s') : ps_Cl (d + 5) 209 [.ref 1131, .int x1, .int x2, .int x3] s (ps_rV f) := by
  have r1 := mf_8 J
  have r2 := mf_4 J
  have K : kp [1134, 1143, 1144, 1145, 1146, 1147, 1148] [5, 6, 7, 8, 9, 10, 11, 23, 29, 30, 31, 32] s s := kp_refl
  refine pg_209_0 (d := d + 4) ?_
  refine ps_nd_i (show pm_in x1 27400 = true from xgi (show 0 ≤ x1.toInt from by omega) (show x1.toInt < 27400 from by omega)) ?_
  have J3 := mw_p (i := x1) (v := (0 : Int32)) J (show x1.toInt % 41 = 0 → 0 ≤ (0 : Int) ∧ (0 : Int) ≤ 40 from by omega) (show 0 ≤ x1.toInt from by omega)
  have K4 := kpa' K (r := 1134) (i := (Int32.toNatClampNeg x1)) (v := (0 : Int32)) rfl
  have hR : Rw (ps_a (ps_ua s 1134 (Int32.toNatClampNeg x1) 0) 1134) x1.toInt ([]) := Rw_zero (by omega) (by omega) (by omega) (by rw [show ps_a (ps_ua s 1134 (Int32.toNatClampNeg x1) 0) 1134 x1.toInt.toNat = 0 from ua_eq]; rfl)
  have ex : Int32.toNatClampNeg x1 = x1.toInt.toNat := rfl
  have hO : ∀ i : Nat, (i : Int) < x1.toInt ∨ x1.toInt + 41 ≤ (i : Int) → ps_a (ps_ua s 1134 (Int32.toNatClampNeg x1) 0) 1134 i = ps_a s 1134 i := fun i hi => ua_ne (by omega)
  have J5 := mwi_29 (v := (0 : Int32)) J3 (show 0 ≤ (0 : Int) from by omega) (show (0 : Int) ≤ 16 from by omega)
  have K6 := kpi K4 (q := 29) (v := (0 : Int32)) rfl
  have J7 := mwi_n 30 (v := (0 : Int32)) J5 rfl
  have K8 := kpi K6 (q := 30) (v := (0 : Int32)) rfl
  have J9 := mwi_31 (v := (0 : Int32)) J7 (show 0 ≤ (0 : Int) from by omega) (show (0 : Int) ≤ 42 from by omega)
  have K10 := kpi K8 (q := 31) (v := (0 : Int32)) rfl
  refine ps_nd_i (decide_eq_true q6) ?_
  have J11 := mwi_n 32 (v := x3) J9 rfl
  have K12 := kpi K10 (q := 32) (v := x3) rfl
  have r13 := mf_5 J
  exact ms_209_30 (x1 := x1) (x2 := x2) (x3 := x3) (σ := σ) (b := b) k  (2 * (42 - (0 : Int)) + 6 * (1 : Int)).toNat (1) _ J11 K12 hS2 hO (show (ps_i s 1131 8).toInt ≤ (ps_i s 1131 4).toInt from by omega) (show x3.toInt = x3.toInt from by omega) (q5) (show (1 : Int) = 0 ∨ (1 : Int) = 1 from by omega) (show 1 ≤ (ps_i s 1131 5).toInt ∨ ((0 : Int) ≤ 13 ∧ 0 ≤ (0 : Int) ∧ (0 : Int) ≤ 5 ∧ (0 : Int) ≤ 40) from by omega) (Or.inr (Or.inr ⟨by decide, [], b, hR, RH_00 rfl rfl rfl, fun _ => rfl, fun z => absurd (show (0 : Int) < (0 : Int32).toInt from z) (by decide)⟩)) (show 1 ≤ (ps_i s 1131 5).toInt → 1 ≤ (ps_i s 1131 5).toInt from by omega) (show 2 * (42 - (0 : Int)) + 6 * (1 : Int) ≤ (((2 * (42 - (0 : Int)) + 6 * (1 : Int)).toNat : Nat) : Int) from by omega)
end
section
/-! a step as it was read -/
def SR (σ : mSig) (g : Nat → Int32) (kd one ax j : Int) : Prop := (kd ≠ 0 → kd ≠ 15 → 0 ≤ one) ∧ (kd = 0 ∨ kd = 6 ∨ kd = 7 ∨ kd = 10 ∨ kd = 13 ∨ 16 ≤ kd → Fm σ g (22468 + 41 * j)) ∧ (kd = 12 ∨ kd = 13 ∨ kd = 15 → Tm σ g (24108 + 41 * j)) ∧ (kd = 1 → 0 ≤ one ∧ one < ax)
def SRs (σ : mSig) (g gk g1 : Nat → Int32) (ax n : Int) : Prop := ∀ j : Nat, (j : Int) < n → SR σ g (gk j).toInt (g1 j).toInt ax j
theorem SR_keep {σ : mSig} {g g' : Nat → Int32} {kd one ax j : Int} (h : SR σ g kd one ax j) (h1 : ∀ k : Nat, 22468 + 41 * j ≤ (k : Int) → (k : Int) < 22468 + 41 * j + 41 → g' k = g k) (h2 : ∀ k : Nat, 24108 + 41 * j ≤ (k : Int) → (k : Int) < 24108 + 41 * j + 41 → g' k = g k) : SR σ g' kd one ax j := ⟨h.1, fun z => Fm_keep (h.2.1 z) h1, fun z => Tm_keep (h.2.2.1 z) h2, h.2.2.2⟩
theorem SRs_0 {σ : mSig} {g gk g1 : Nat → Int32} {ax n : Int} (h : n = 0) : SRs σ g gk g1 ax n := fun j hj => by omega
theorem SRs_n {σ : mSig} {g gk g1 : Nat → Int32} {ax ax' n n' : Int} (h : SRs σ g gk g1 ax n) (e : n' = n) (e2 : ax' = ax) : SRs σ g gk g1 ax' n' := by rw [e, e2]; exact h
theorem SRs_row {σ : mSig} {g g' gk g1 : Nat → Int32} {ax n a i : Int} (h : SRs σ g gk g1 ax n) (ho : ∀ k : Nat, (k : Int) < a ∨ a + 41 ≤ (k : Int) → g' k = g k) (ha : a = 22468 + 41 * i ∨ a = 24108 + 41 * i) (hn : n ≤ i) (h40 : i < 40) : SRs σ g' gk g1 ax n := fun j hj => SR_keep (h j hj) (fun k h1 h2 => ho k (by omega)) (fun k h1 h2 => ho k (by omega))
theorem SRs_ho {σ : mSig} {g g' gk g1 : Nat → Int32} {ax n : Int} (h : SRs σ g gk g1 ax n) (ho : ∀ k : Nat, 21320 ≤ k → g' k = g k) : SRs σ g' gk g1 ax n := fun j hj => SR_keep (h j hj) (fun k h1 h2 => ho k (by omega)) (fun k h1 h2 => ho k (by omega))
theorem SRs_set {σ : mSig} {g gk g1 gk' g1' : Nat → Int32} {ax n : Int} {i : Nat} (h : SRs σ g gk g1 ax n) (hk : ∀ j, j ≠ i → gk' j = gk j) (h1 : ∀ j, j ≠ i → g1' j = g1 j) (hi : n ≤ (i : Int)) : SRs σ g gk' g1' ax n := fun j hj => by
  have e : j ≠ i := by omega
  rw [hk j e, h1 j e]
  exact h j hj
theorem SRs_up {σ : mSig} {g gk g1 : Nat → Int32} {ax n kd one : Int} (h : SRs σ g gk g1 ax n) (h0 : 0 ≤ n) (hk : (gk n.toNat).toInt = kd) (h1 : (g1 n.toNat).toInt = one) (hs : SR σ g kd one ax n) : SRs σ g gk g1 ax (n + 1) := fun j hj => by
  by_cases e : (j : Int) = n
  · have e2 : j = n.toNat := by omega
    rw [e2, hk, h1, show ((n.toNat : Nat) : Int) = n from by omega]
    exact hs
  · exact h j (by omega)
/-- a formula without free names -/
def FmC (σ : mSig) (g : Nat → Int32) (a : Int) : Prop := ∃ l, Rw g a l ∧ wf σ 5 l [(true, 0)] ∧ ∀ p, p ∈ l → p < 60
theorem FmC_Fm {σ : mSig} {g : Nat → Int32} {a : Int} (h : FmC σ g a) : Fm σ g a := by
  obtain ⟨l, h1, h2, h3⟩ := h
  exact ⟨l, h1, h2⟩
theorem FmC_keep {σ : mSig} {g g' : Nat → Int32} {a : Int} (h : FmC σ g a) (hj : ∀ i : Nat, a ≤ i → (i : Int) < a + 41 → g' i = g i) : FmC σ g' a := by
  obtain ⟨l, h1, h2, h3⟩ := h
  exact ⟨l, Rw_keep h1 hj, h2, h3⟩
/-- what stands between two calls -/
def MI (σ : mSig) (g g5 g6 g7 g8 g9 ga gx : Nat → Int32) (b st th : Int) : Prop := Sg g5 g6 g8 g9 b σ ∧ PSt σ g ga st ∧ (∀ k : Nat, (k : Int) < th → k < 12 → Fm σ g (21320 + 41 * k)) ∧ (∀ k : Nat, (k : Int) < (g7 b.toNat).toInt → k < 8 → FmC σ g (21812 + 41 * (8 * b + k))) ∧ ((g 25748).toInt = 0 ∨ Fm σ g 25748) ∧ (∀ i k : Nat, i < 3 → (k : Int) < (gx i).toInt → k < 12 → Fm σ g (25830 + 41 * (12 * i + k)))
theorem SR_SB {σ : mSig} {g g5 g6 g7 g8 g9 ga gx gk g1 : Nat → Int32} {b st th ax n i : Int} (h : MI σ g g5 g6 g7 g8 g9 ga gx b st th) (hs : SRs σ g gk g1 ax n) (hi : 0 ≤ i) (hn : i < n) (ha : ax = (g7 b.toNat).toInt) (h8 : ax ≤ 8) (h12 : th ≤ 12) : SB σ g gk g1 b th i := by
  have q := hs i.toNat (by omega)
  rw [show ((i.toNat : Nat) : Int) = i from by omega] at q
  refine ⟨q.1, q.2.1, q.2.2.1, fun z => ?_, fun k hk => h.2.2.1 k hk (by omega)⟩
  have q2 := q.2.2.2 z
  have q3 := h.2.2.2.1 (g1 i.toNat).toInt.toNat (by omega) (by omega)
  rw [show ((((g1 i.toNat).toInt.toNat : Nat)) : Int) = (g1 i.toNat).toInt from by omega] at q3
  exact FmC_Fm q3
theorem PSt_keep {σ : mSig} {g g' ga : Nat → Int32} {i : Int} (h : PSt σ g ga i) (h40 : i ≤ 40) (ho : ∀ k : Nat, (k : Int) < 21320 → g' k = g k) : PSt σ g' ga i := by
  intro j hj
  obtain ⟨h1, h2⟩ := h j hj
  exact ⟨Fm_keep h1 (fun k _ _ => ho k (by omega)), fun k hk h12 => Fm_keep (h2 k hk h12) (fun q _ _ => ho q (by omega))⟩
theorem MI_pool {σ : mSig} {g g' g5 g6 g7 g8 g9 ga gx : Nat → Int32} {b st th : Int} (h : MI σ g g5 g6 g7 g8 g9 ga gx b st th) (h40 : st ≤ 40) (ho : ∀ k : Nat, (k : Int) < 22468 ∨ 25748 ≤ (k : Int) → g' k = g k) : MI σ g' g5 g6 g7 g8 g9 ga gx b st th := by
  obtain ⟨h1, h2, h3, h4, h5, h6⟩ := h
  obtain ⟨b0, b1, -⟩ := id h1
  refine ⟨h1, PSt_keep h2 h40 (fun k hk => ho k (by omega)), fun k hk q => Fm_keep (h3 k hk q) (fun j _ _ => ho j (by omega)), fun k hk q => FmC_keep (h4 k hk q) (fun j _ _ => ho j (by omega)), ?_, fun i k q hk q2 => Fm_keep (h6 i k q hk q2) (fun j _ _ => ho j (by omega))⟩
  rcases h5 with z | z
  · left; rw [ho 25748 (by omega)]; exact z
  · exact Or.inr (Fm_keep z (fun j _ _ => ho j (by omega)))
theorem MI_read {σ : mSig} {g g' g5 g6 g7 g8 g9 ga gx : Nat → Int32} {b st th : Int} (h : MI σ g g5 g6 g7 g8 g9 ga gx b st th) (h40 : st ≤ 40) (ho : ∀ k : Nat, (k : Int) < 25748 ∨ 25830 ≤ (k : Int) → g' k = g k) (hr : (g' 25748).toInt = 0 ∨ Fm σ g' 25748) : MI σ g' g5 g6 g7 g8 g9 ga gx b st th := by
  obtain ⟨h1, h2, h3, h4, h5, h6⟩ := h
  obtain ⟨b0, b1, -⟩ := id h1
  exact ⟨h1, PSt_keep h2 h40 (fun k hk => ho k (by omega)), fun k hk q => Fm_keep (h3 k hk q) (fun j _ _ => ho j (by omega)), fun k hk q => FmC_keep (h4 k hk q) (fun j _ _ => ho j (by omega)), hr, fun i k q hk q2 => Fm_keep (h6 i k q hk q2) (fun j _ _ => ho j (by omega))⟩
theorem MI_norm {σ : mSig} {g g' g5 g6 g7 g8 g9 ga gx : Nat → Int32} {b st th : Int} (h : MI σ g g5 g6 g7 g8 g9 ga gx b st th) (h40 : st ≤ 40) (ho : ∀ k : Nat, (k : Int) < 25789 ∨ 25830 ≤ (k : Int) → g' k = g k) : MI σ g' g5 g6 g7 g8 g9 ga gx b st th := by
  refine MI_read h h40 (fun k hk => ho k (by omega)) ?_
  rcases h.2.2.2.2.1 with z | z
  · left; rw [ho 25748 (by omega)]; exact z
  · exact Or.inr (Fm_keep z (fun j _ _ => ho j (by omega)))
theorem MI_take {σ : mSig} {g g' g5 g6 g7 g8 g9 ga ga' gx : Nat → Int32} {b st st' th : Int} (h : MI σ g g5 g6 g7 g8 g9 ga gx b st th) (ho : ∀ k : Nat, 21320 ≤ k → g' k = g k) (hP : PSt σ g' ga' st') : MI σ g' g5 g6 g7 g8 g9 ga' gx b st' th := by
  obtain ⟨h1, h2, h3, h4, h5, h6⟩ := h
  obtain ⟨b0, b1, -⟩ := id h1
  refine ⟨h1, hP, fun k hk q => Fm_keep (h3 k hk q) (fun j _ _ => ho j (by omega)), fun k hk q => FmC_keep (h4 k hk q) (fun j _ _ => ho j (by omega)), ?_, fun i k q hk q2 => Fm_keep (h6 i k q hk q2) (fun j _ _ => ho j (by omega))⟩
  rcases h5 with z | z
  · left; rw [ho 25748 (by omega)]; exact z
  · exact Or.inr (Fm_keep z (fun j _ _ => ho j (by omega)))
theorem MI_st {σ : mSig} {g g5 g6 g7 g8 g9 ga gx : Nat → Int32} {b st st' th th' : Int} (h : MI σ g g5 g6 g7 g8 g9 ga gx b st th) (hs : st' ≤ st) (ht : th' ≤ th) : MI σ g g5 g6 g7 g8 g9 ga gx b st' th' := by
  obtain ⟨h1, h2, h3, h4, h5, h6⟩ := h
  exact ⟨h1, fun j hj => h2 j (by omega), fun k hk q => h3 k (by omega) q, h4, h5, h6⟩
theorem MI_S {σ : mSig} {g g5 g6 g7 g8 g9 ga gx : Nat → Int32} {b st th : Int} (h : MI σ g g5 g6 g7 g8 g9 ga gx b st th) : Sg g5 g6 g8 g9 b σ := h.1
theorem MI_P {σ : mSig} {g g5 g6 g7 g8 g9 ga gx : Nat → Int32} {b st th : Int} (h : MI σ g g5 g6 g7 g8 g9 ga gx b st th) : PSt σ g ga st := h.2.1
end
