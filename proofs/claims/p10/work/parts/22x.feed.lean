set_option maxRecDepth 100000
-- ProofBench.end(I)I
theorem pg_150_0 {d : Nat} {x1 : Int32} {s : ps_S} {Q : Option Value → ps_S → Prop} (h :
  (x1 < 0 →
    Q (some (.int (-1))) s) ∧
  (0 ≤ x1 →
    (x1 ≤ (ps_i s 0 1) →
      Q (some (.int x1)) (ps_ui s 0 1 x1)) ∧
    ((ps_i s 0 1) < x1 →
      Q (some (.int (-1))) s))) : ps_At d 150 0 [(0, .ref 0), (1, .int x1)] [] s Q :=
  ps_wp_at (stops := []) (n := 17) h rfl

-- ProofBench.putNumber(I)V
theorem pg_179_0 {d : Nat} {x1 : Int32} {s : ps_S} {Q : Option Value → ps_S → Prop} (h :
  ps_At d 179 3 [(0, .ref 0), (1, .int x1), (2, .int 24)] [] s Q) : ps_At d 179 0 [(0, .ref 0), (1, .int x1)] [] s Q :=
  ps_wp_at (stops := [(3, [0, 1, 2])]) (n := 4) h rfl

theorem pg_179_3 {d : Nat} {x1 : Int32} {x2 : Int32} {s : ps_S} {Q : Option Value → ps_S → Prop} (h :
  (x2 < 0 →
    Q none s) ∧
  (0 ≤ x2 →
    ((ps_i s 0 1) < 0 →
      ps_At d 179 3 [(0, .ref 0), (1, .int x1), (2, .int (x2 + (-8)))] [] s Q) ∧
    (0 ≤ (ps_i s 0 1) →
      ((nI 1600) ≤ (ps_i s 0 1) →
        ps_At d 179 3 [(0, .ref 0), (1, .int x1), (2, .int (x2 + (-8)))] [] s Q) ∧
      ((ps_i s 0 1) < (nI 1600) →
        ps_nd (pm_in (ps_i s 0 1) 1600) (ps_At d 179 3 [(0, .ref 0), (1, .int x1), (2, .int (x2 + (-8)))] [] (ps_ui (ps_ua s 1 (Int32.toNatClampNeg (ps_i s 0 1)) (Int8.toInt32 (Int32.toInt8 (Int8.toInt32 (Int32.toInt8 (x1 >>> (x2 &&& 31))))))) 0 1 ((ps_i (ps_ua s 1 (Int32.toNatClampNeg (ps_i s 0 1)) (Int8.toInt32 (Int32.toInt8 (Int8.toInt32 (Int32.toInt8 (x1 >>> (x2 &&& 31))))))) 0 1) + 1)) Q))))) : ps_At d 179 3 [(0, .ref 0), (1, .int x1), (2, .int x2)] [] s Q :=
  ps_wp_at (stops := [(3, [0, 1, 2])]) (n := 35) h rfl

-- ProofBench.feed(IIIII)I
theorem pg_149_0 {d : Nat} {x1 : Int32} {x2 : Int32} {x3 : Int32} {x4 : Int32} {x5 : Int32} {s : ps_S} {Q : Option Value → ps_S → Prop} (h :
  (((ps_i s 0 1) + 20) ≤ 1600 →
    ps_Cl d 179 [.ref 0, .int x1] s (ps_rV (fun s1 =>
      ps_Cl d 179 [.ref 0, .int x2] s1 (ps_rV (fun s2 =>
        ps_Cl d 179 [.ref 0, .int x3] s2 (ps_rV (fun s3 =>
          ps_Cl d 179 [.ref 0, .int x4] s3 (ps_rV (fun s4 =>
            ps_Cl d 179 [.ref 0, .int x5] s4 (ps_rV (fun s5 =>
              Q (some (.int (ps_i s5 0 1))) s5))))))))))) ∧
  (1600 < ((ps_i s 0 1) + 20) →
    Q (some (.int (-1))) s)) : ps_At (d + 1) 149 0 [(0, .ref 0), (1, .int x1), (2, .int x2), (3, .int x3), (4, .int x4), (5, .int x5)] [] s Q :=
  ps_wp_at (stops := []) (n := 28) h rfl

theorem xs_150 {m s : ps_S} {t : Int32} {d : Nat} {x1 : Int32} {f : Int32 → ps_S → Prop} (J : xJ m t s) (k : ∀ (v : Int32) (s' : ps_S) (t' : Int32), xJ m t' s' → (v.toInt = -1 ∧ t' = t ∧ (x1.toInt < 0 ∨ t.toInt < x1.toInt)) ∨ (v = x1 ∧ t' = x1 ∧ 0 ≤ x1.toInt ∧ x1.toInt ≤ t.toInt) → f v s') : ps_Cl d 150 [.ref 0, .int x1] s (ps_rI f) := by
  have e : ps_i s 0 1 = t := J.2.1
  refine pg_150_0 (And.intro (fun h1 => ?_) (fun h1 => And.intro (fun h2 => ?_) (fun h2 => ?_)))
  · exact k (-1) s t J (Or.inl ⟨by decide, rfl, Or.inl (xlt h1)⟩)
  · rw [e] at h2
    exact k x1 _ x1 (xw_tape J) (Or.inr ⟨rfl, rfl, xle h1, xle h2⟩)
  · rw [e] at h2
    exact k (-1) s t J (Or.inl ⟨by decide, rfl, Or.inr (xlt h2)⟩)
theorem xm8 : (-8 : Int32).toInt = -8 := by decide
theorem xs_179_3 {m : ps_S} {d : Nat} {x1 : Int32} {Q : Option Value → ps_S → Prop} : ∀ (n : Nat) (x2 t : Int32) (s : ps_S), x2.toInt = 8 * (n : Int) - 8 → xJ m t s → 0 ≤ t.toInt → t.toInt + n ≤ 1600 → (∀ (s' : ps_S) (t' : Int32), xJ m t' s' → t'.toInt = t.toInt + n → Q none s') → ps_At d 179 3 [(0, .ref 0), (1, .int x1), (2, .int x2)] [] s Q := by
  intro n
  induction n with
  | zero =>
    intro x2 t s hx J h0 h1 k
    refine pg_179_3 (And.intro (fun h2 => ?_) (fun h2 => ?_))
    · exact k s t J (by omega)
    · have f2 : (0 : Int) ≤ x2.toInt := xle h2
      omega
  | succ n ih =>
    intro x2 t s hx J h0 h1 k
    have e : ps_i s 0 1 = t := J.2.1
    refine pg_179_3 (And.intro (fun h2 => ?_) (fun h2 => And.intro (fun h3 => ?_) (fun h3 => And.intro (fun h4 => ?_) (fun h4 => ?_))))
    · have f2 : x2.toInt < (0 : Int) := xlt h2
      omega
    · rw [e] at h3
      have f2 : t.toInt < (0 : Int) := xlt h3
      omega
    · rw [e] at h4
      have f2 : (nI 1600).toInt ≤ t.toInt := xle h4
      rw [nI_toInt (by decide)] at f2
      omega
    · refine ps_nd_i (xgi (by rw [e]; exact h0) (by rw [e]; omega)) ?_
      have et : ((ps_i s 0 1) + 1).toInt = t.toInt + 1 := by rw [e, xI_add (by rw [xone]; omega) (by rw [xone]; omega), xone]
      refine ih (x2 + (-8)) ((ps_i s 0 1) + 1) _ ?_ (xw_tape (xw_a (r := 1) (by decide) J)) (by omega) (by omega) (fun s' t' J' ht => k s' t' J' (by omega))
      rw [xI_add (by rw [xm8]; omega) (by rw [xm8]; omega), xm8]
      omega
theorem xs_179 {m s : ps_S} {t : Int32} {d : Nat} {x1 : Int32} {f : ps_S → Prop} (J : xJ m t s) (h0 : 0 ≤ t.toInt) (h1 : t.toInt + 4 ≤ 1600) (k : ∀ (s' : ps_S) (t' : Int32), xJ m t' s' → t'.toInt = t.toInt + 4 → f s') : ps_Cl d 179 [.ref 0, .int x1] s (ps_rV f) :=
  pg_179_0 (xs_179_3 (m := m) 4 24 t s (by decide) J h0 h1 k)
theorem xs_149 {m s : ps_S} {t : Int32} {d : Nat} {x1 x2 x3 x4 x5 : Int32} {f : Int32 → ps_S → Prop} (J : xJ m t s) (h0 : 0 ≤ t.toInt) (h1 : t.toInt ≤ 1600) (k : ∀ (v : Int32) (s' : ps_S) (t' : Int32), xJ m t' s' → (v.toInt = -1 ∧ t' = t ∧ 1580 < t.toInt) ∨ (v = t' ∧ t'.toInt = t.toInt + 20 ∧ t.toInt ≤ 1580) → f v s') : ps_Cl (d + 1) 149 [.ref 0, .int x1, .int x2, .int x3, .int x4, .int x5] s (ps_rI f) := by
  have e : ps_i s 0 1 = t := J.2.1
  have e20 : (20 : Int32).toInt = 20 := by decide
  have et : ((ps_i s 0 1) + 20).toInt = t.toInt + 20 := by rw [e, xI_add (by rw [e20]; omega) (by rw [e20]; omega), e20]
  refine pg_149_0 (d := d) (And.intro (fun h2 => ?_) (fun h2 => ?_))
  · have f2 : ((ps_i s 0 1) + 20).toInt ≤ (1600 : Int) := xle h2
    refine xs_179 J h0 (by omega) (fun s1 t1 J1 q1 => ?_)
    refine xs_179 J1 (by omega) (by omega) (fun s2 t2 J2 q2 => ?_)
    refine xs_179 J2 (by omega) (by omega) (fun s3 t3 J3 q3 => ?_)
    refine xs_179 J3 (by omega) (by omega) (fun s4 t4 J4 q4 => ?_)
    refine xs_179 J4 (by omega) (by omega) (fun s5 t5 J5 q5 => ?_)
    exact k _ s5 t5 J5 (Or.inr ⟨J5.2.1, by omega, by omega⟩)
  · have f2 : (1600 : Int) < ((ps_i s 0 1) + 20).toInt := xlt h2
    exact k (-1) s t J (Or.inl ⟨by decide, rfl, by omega⟩)
