set_option maxRecDepth 100000
-- ProofBenchModel.isRule(I)Z
theorem pg_284_0 {d : Nat} {x1 : Int32} {s : ps_S} {Q : Option Value → ps_S → Prop} (h :
  ps_Cl d 283 [.int (ps_i s 1131 21), .int x1] s (ps_rI (fun v1 s1 =>
    ps_At (d + 1) 284 11 [(0, .ref 1131), (2, .int v1), (3, .int 0)] [] s1 Q))) : ps_At (d + 1) 284 0 [(0, .ref 1131), (1, .int x1)] [] s Q :=
  ps_wp_at (stops := [(11, [0, 2, 3]), (91, [0, 2, 4]), (126, [0, 2, 4, 5, 6]), (170, [0, 2, 4, 5])]) (n := 9) h rfl

theorem pg_284_11 {d : Nat} {x2 : Int32} {x3 : Int32} {s : ps_S} {Q : Option Value → ps_S → Prop} (h :
  ps_Cl d 220 [.ref 1131, .int x2, .int x3] s (ps_rI (fun v1 s1 =>
    (v1 ≠ 4 →
      ps_Cl d 220 [.ref 1131, .int x2, .int x3] s1 (ps_rI (fun v2 s2 =>
        (v2 ≠ 6 →
          Q (some (.int 0)) s2) ∧
        (v2 = 6 →
          ps_Cl d 220 [.ref 1131, .int x2, .int (x3 + 1)] s2 (ps_rI (fun v3 s3 =>
            (v3 < 20 →
              Q (some (.int 0)) s3) ∧
            (20 ≤ v3 →
              ps_Cl d 220 [.ref 1131, .int x2, .int (x3 + 1)] s3 (ps_rI (fun v4 s4 =>
                (v4 < 40 →
                  ps_Cl d 221 [.ref 1131, .int x2, .int (x3 + 1)] (ps_ui s4 1131 63 (x3 + 1)) (ps_rI (fun v5 s5 =>
                    ps_At (d + 1) 284 91 [(0, .ref 1131), (2, .int x2), (4, .int (ps_i (ps_ui s5 1131 64 v5) 1131 64))] [] (ps_ui s5 1131 64 v5) Q))) ∧
                (40 ≤ v4 →
                  Q (some (.int 0)) s4)))))))))) ∧
    (v1 = 4 →
      ps_At (d + 1) 284 11 [(0, .ref 1131), (2, .int x2), (3, .int (x3 + 1))] [] s1 Q)))) : ps_At (d + 1) 284 11 [(0, .ref 1131), (2, .int x2), (3, .int x3)] [] s Q :=
  ps_wp_at (stops := [(11, [0, 2, 3]), (91, [0, 2, 4]), (126, [0, 2, 4, 5, 6]), (170, [0, 2, 4, 5])]) (n := 54) h rfl

theorem pg_284_91 {d : Nat} {x2 : Int32} {x4 : Int32} {s : ps_S} {Q : Option Value → ps_S → Prop} (h :
  ps_Cl d 219 [.ref 1131, .int x2] s (ps_rI (fun v1 s1 =>
    (v1 ≤ x4 →
      Q (some (.int 1)) s1) ∧
    (x4 < v1 →
      ps_Cl d 220 [.ref 1131, .int x2, .int x4] s1 (ps_rI (fun v2 s2 =>
        (40 ≤ v2 →
          ps_At (d + 1) 284 126 [(0, .ref 1131), (2, .int x2), (4, .int x4), (5, .int 0), (6, .int (ps_i s2 1131 63))] [] s2 Q) ∧
        (v2 < 40 →
          ps_At (d + 1) 284 126 [(0, .ref 1131), (2, .int x2), (4, .int x4), (5, .int 1), (6, .int (ps_i s2 1131 63))] [] s2 Q))))))) : ps_At (d + 1) 284 91 [(0, .ref 1131), (2, .int x2), (4, .int x4)] [] s Q :=
  ps_wp_at (stops := [(11, [0, 2, 3]), (91, [0, 2, 4]), (126, [0, 2, 4, 5, 6]), (170, [0, 2, 4, 5])]) (n := 26) h rfl

theorem pg_284_126 {d : Nat} {x2 : Int32} {x4 : Int32} {x5 : Int32} {x6 : Int32} {s : ps_S} {Q : Option Value → ps_S → Prop} (h :
  ((ps_i s 1131 64) ≤ x6 →
    ps_At (d + 1) 284 170 [(0, .ref 1131), (2, .int x2), (4, .int x4), (5, .int x5)] [] s Q) ∧
  (x6 < (ps_i s 1131 64) →
    (x5 ≠ 0 →
      ps_At (d + 1) 284 170 [(0, .ref 1131), (2, .int x2), (4, .int x4), (5, .int x5)] [] s Q) ∧
    (x5 = 0 →
      ps_Cl d 220 [.ref 1131, .int x2, .int x6] s (ps_rI (fun v1 s1 =>
        ps_Cl d 220 [.ref 1131, .int x2, .int x4] s1 (ps_rI (fun v2 s2 =>
          (v1 ≠ v2 →
            ps_At (d + 1) 284 126 [(0, .ref 1131), (2, .int x2), (4, .int x4), (5, .int 0), (6, .int (x6 + 1))] [] s2 Q) ∧
          (v1 = v2 →
            ps_At (d + 1) 284 126 [(0, .ref 1131), (2, .int x2), (4, .int x4), (5, .int 1), (6, .int (x6 + 1))] [] s2 Q)))))))) : ps_At (d + 1) 284 126 [(0, .ref 1131), (2, .int x2), (4, .int x4), (5, .int x5), (6, .int x6)] [] s Q :=
  ps_wp_at (stops := [(11, [0, 2, 3]), (91, [0, 2, 4]), (126, [0, 2, 4, 5, 6]), (170, [0, 2, 4, 5])]) (n := 26) h rfl

theorem pg_284_170 {d : Nat} {x2 : Int32} {x4 : Int32} {x5 : Int32} {s : ps_S} {Q : Option Value → ps_S → Prop} (h :
  (x5 ≠ 0 →
    ps_At (d + 1) 284 91 [(0, .ref 1131), (2, .int x2), (4, .int (x4 + 1))] [] s Q) ∧
  (x5 = 0 →
    Q (some (.int 0)) s)) : ps_At (d + 1) 284 170 [(0, .ref 1131), (2, .int x2), (4, .int x4), (5, .int x5)] [] s Q :=
  ps_wp_at (stops := [(11, [0, 2, 3]), (91, [0, 2, 4]), (126, [0, 2, 4, 5, 6]), (170, [0, 2, 4, 5])]) (n := 8) h rfl

theorem ms_284_170 {x : Nat → Nat → Nat} {t : Int32} {d : Nat} {s0 : ps_S} {σ : mSig} {l : List Nat} {x1 : Int32} {Q : Option Value → ps_S → Prop} (k : ∀ (v : Int32) (s' : ps_S), mJ x t s' → kp [] [63, 64] s0 s' → (v.toInt ≠ 0 → ∃ l0 p q, RL σ l l0 p q (ps_i s' 1131 63).toInt (ps_i s' 1131 64).toInt) → v &&& 1 = v → Q (some (.int v)) s') (n91 : Nat) (KH91 : ∀ (x2 : Int32) (x4 : Int32) (l0 : List Nat) (p : List Nat) (q : List Nat) (q1 : List Nat) (q2 : List Nat) (s : ps_S), (mJ x t s) → (kp [] [63, 64] s0 s) → (Rw (ps_a s 1134) x2.toInt l) → (l = l0 ++ 6 :: (p ++ q)) → (q = q1 ++ q2) → (x4.toInt = (l0.length : Int) + 1 + (p.length : Int) + (q1.length : Int)) → ((ps_i s 1131 63).toInt = (l0.length : Int) + 1) → ((ps_i s 1131 64).toInt = (l0.length : Int) + 1 + (p.length : Int)) → (ws σ p [false]) → (ws σ q [false]) → (∀ x, x ∈ q1 → 40 ≤ x → x ∈ p) → ((q2.length : Int) ≤ (n91 : Int) - 1) → ps_At (d + 2) 284 91 [(0, .ref 1131), (2, .int x2), (4, .int x4)] [] s Q) (x2 : Int32) (x4 : Int32) (x5 : Int32) (l0 : List Nat) (p : List Nat) (q : List Nat) (q1 : List Nat) (c : Nat) (q3 : List Nat) (s : ps_S) (J : mJ x t s) (K : kp [] [63, 64] s0 s) (hR : Rw (ps_a s 1134) x2.toInt l) (i1 : l = l0 ++ 6 :: (p ++ q)) (i2 : q = q1 ++ c :: q3) (i3 : x4.toInt = (l0.length : Int) + 1 + (p.length : Int) + (q1.length : Int)) (i4 : (ps_i s 1131 63).toInt = (l0.length : Int) + 1) (i5 : (ps_i s 1131 64).toInt = (l0.length : Int) + 1 + (p.length : Int)) (i6 : ws σ p [false]) (i7 : ws σ q [false]) (i8 : ∀ x, x ∈ q1 → 40 ≤ x → x ∈ p) (i9 : x5.toInt = 0 ∨ (x5.toInt = 1 ∧ (c < 40 ∨ c ∈ p))) (hm91 : (q3.length : Int) + 1 ≤ (n91 : Int)) : ps_At (d + 2) 284 170 [(0, .ref 1131), (2, .int x2), (4, .int x4), (5, .int x5)] [] s Q := by
  refine pg_284_170 (d := d + 1) ?_
  obtain ⟨hr1, hr2, hr3, hr4, hr5, hr6⟩ := id hR
  have hr1 : x2.toInt % 41 = 0 := hr1
  have hr2 : 0 ≤ x2.toInt := hr2
  have hr3 : x2.toInt < 27306 := hr3
  have hr4 : l.length ≤ 40 := hr4
  have hn : (ps_a s 1134 (Int32.toNatClampNeg x2)).toInt = (l.length : Int) := Rw_n hR
  have hl : (l.length : Int) = l0.length + (p.length + q.length + 1) := by rw [i1, llen, llenc, llen]
  have i3 : x4.toInt = (l0.length : Int) + 1 + (p.length : Int) + (q1.length : Int) := i3
  have i4 : (ps_i s 1131 63).toInt = (l0.length : Int) + 1 := i4
  have i5 : (ps_i s 1131 64).toInt = (l0.length : Int) + 1 + (p.length : Int) := i5
  have hq : (q.length : Int) = q1.length + (q3.length + 1) := by rw [i2, llen, llenc]
  refine And.intro (fun h1 => ?_) (fun h1 => ?_)
  · have f2 : x5.toInt ≠ (0 : Int) := xne h1
    have a3 : (x4 + 1).toInt = x4.toInt + (1 : Int) := xIa (show -2147483648 ≤ x4.toInt + (1 : Int) from by omega) (show x4.toInt + (1 : Int) < 2147483648 from by omega)
    exact KH91 x2 (x4 + 1) l0 p q (q1 ++ [c]) q3 _ J K hR (by assumption) (i2.trans (lcat q1 c q3)) ((show ((x4 + 1)).toInt = (l0.length : Int) + 1 + (p.length : Int) + ((q1 ++ [c]).length : Int) from by rw [l1c]; omega)) (by assumption) (by assumption) (by assumption) (by assumption) (memS i8 (i9.elim (fun z => absurd z (by omega)) (fun z => z.2))) (show (q3.length : Int) ≤ (n91 : Int) - 1 from by omega)
  · have f4 : x5.toInt = (0 : Int) := xeq h1
    exact k (0 : Int32) _ J K (fun z => absurd Int32.toInt_zero z) (by decide)

theorem ms_284_126 {x : Nat → Nat → Nat} {t : Int32} {d : Nat} {s0 : ps_S} {σ : mSig} {l : List Nat} {x1 : Int32} {Q : Option Value → ps_S → Prop} (k : ∀ (v : Int32) (s' : ps_S), mJ x t s' → kp [] [63, 64] s0 s' → (v.toInt ≠ 0 → ∃ l0 p q, RL σ l l0 p q (ps_i s' 1131 63).toInt (ps_i s' 1131 64).toInt) → v &&& 1 = v → Q (some (.int v)) s') (n91 : Nat) (KH91 : ∀ (x2 : Int32) (x4 : Int32) (l0 : List Nat) (p : List Nat) (q : List Nat) (q1 : List Nat) (q2 : List Nat) (s : ps_S), (mJ x t s) → (kp [] [63, 64] s0 s) → (Rw (ps_a s 1134) x2.toInt l) → (l = l0 ++ 6 :: (p ++ q)) → (q = q1 ++ q2) → (x4.toInt = (l0.length : Int) + 1 + (p.length : Int) + (q1.length : Int)) → ((ps_i s 1131 63).toInt = (l0.length : Int) + 1) → ((ps_i s 1131 64).toInt = (l0.length : Int) + 1 + (p.length : Int)) → (ws σ p [false]) → (ws σ q [false]) → (∀ x, x ∈ q1 → 40 ≤ x → x ∈ p) → ((q2.length : Int) ≤ (n91 : Int) - 1) → ps_At (d + 2) 284 91 [(0, .ref 1131), (2, .int x2), (4, .int x4)] [] s Q) : ∀ (n : Nat) (x2 : Int32) (x4 : Int32) (x5 : Int32) (x6 : Int32) (l0 : List Nat) (p : List Nat) (q : List Nat) (q1 : List Nat) (c : Nat) (q3 : List Nat) (p1 : List Nat) (p2 : List Nat) (s : ps_S), (mJ x t s) → (kp [] [63, 64] s0 s) → (Rw (ps_a s 1134) x2.toInt l) → (l = l0 ++ 6 :: (p ++ q)) → (q = q1 ++ c :: q3) → (x4.toInt = (l0.length : Int) + 1 + (p.length : Int) + (q1.length : Int)) → ((ps_i s 1131 63).toInt = (l0.length : Int) + 1) → ((ps_i s 1131 64).toInt = (l0.length : Int) + 1 + (p.length : Int)) → (ws σ p [false]) → (ws σ q [false]) → (∀ x, x ∈ q1 → 40 ≤ x → x ∈ p) → (p = p1 ++ p2) → (x6.toInt = (l0.length : Int) + 1 + (p1.length : Int)) → (x5.toInt = 0 ∨ (x5.toInt = 1 ∧ (c < 40 ∨ c ∈ p))) → ((q3.length : Int) + 1 ≤ (n91 : Int)) → (p2.length : Int) ≤ (n : Int) → ps_At (d + 2) 284 126 [(0, .ref 1131), (2, .int x2), (4, .int x4), (5, .int x5), (6, .int x6)] [] s Q := by
  refine xstr (fun n ih => ?_)
  intro x2 x4 x5 x6 l0 p q q1 c q3 p1 p2 s J K hR i1 i2 i3 i4 i5 i6 i7 i8 i9 i10 i11 hm91 hm
  refine pg_284_126 (d := d + 1) ?_
  obtain ⟨hr1, hr2, hr3, hr4, hr5, hr6⟩ := id hR
  have hr1 : x2.toInt % 41 = 0 := hr1
  have hr2 : 0 ≤ x2.toInt := hr2
  have hr3 : x2.toInt < 27306 := hr3
  have hr4 : l.length ≤ 40 := hr4
  have hn : (ps_a s 1134 (Int32.toNatClampNeg x2)).toInt = (l.length : Int) := Rw_n hR
  have hl : (l.length : Int) = l0.length + (p.length + q.length + 1) := by rw [i1, llen, llenc, llen]
  have i3 : x4.toInt = (l0.length : Int) + 1 + (p.length : Int) + (q1.length : Int) := i3
  have i4 : (ps_i s 1131 63).toInt = (l0.length : Int) + 1 := i4
  have i5 : (ps_i s 1131 64).toInt = (l0.length : Int) + 1 + (p.length : Int) := i5
  have hq : (q.length : Int) = q1.length + (q3.length + 1) := by rw [i2, llen, llenc]
  have hpl : (p.length : Int) = p1.length + p2.length := by rw [i9]; exact llen
  have i10 : x6.toInt = (l0.length : Int) + 1 + (p1.length : Int) := i10
  have r1 := mf_64 J
  refine And.intro (fun h2 => ?_) (fun h2 => ?_)
  · have f3 : (ps_i s 1131 64).toInt ≤ x6.toInt := xle h2
    exact ms_284_170 (x1 := x1) (σ := σ) (l := l) k n91 KH91 x2 x4 x5 l0 p q q1 c q3 _ J K hR (by assumption) (by assumption) (by assumption) (by assumption) (by assumption) (by assumption) (by assumption) (by assumption) (i11) (show (q3.length : Int) + 1 ≤ (n91 : Int) from by omega)
  · have f4 : x6.toInt < (ps_i s 1131 64).toInt := xlt h2
    refine And.intro (fun h5 => ?_) (fun h5 => ?_)
    · have f6 : x5.toInt ≠ (0 : Int) := xne h5
      exact ms_284_170 (x1 := x1) (σ := σ) (l := l) k n91 KH91 x2 x4 x5 l0 p q q1 c q3 _ J K hR (by assumption) (by assumption) (by assumption) (by assumption) (by assumption) (by assumption) (by assumption) (by assumption) (i11) (show (q3.length : Int) + 1 ≤ (n91 : Int) from by omega)
    · have f7 : x5.toInt = (0 : Int) := xeq h5
      obtain ⟨d, p3, rfl⟩ := lpos (W := p2) (by omega)
      rw [llenc] at hpl hm
      refine pg_220_0 ?_
      have a8 : (x2 + 1).toInt = x2.toInt + (1 : Int) := xIa (show -2147483648 ≤ x2.toInt + (1 : Int) from by omega) (show x2.toInt + (1 : Int) < 2147483648 from by omega)
      have a9 : ((x2 + 1) + x6).toInt = (x2 + 1).toInt + x6.toInt := xIa (show -2147483648 ≤ (x2 + 1).toInt + x6.toInt from by omega) (show (x2 + 1).toInt + x6.toInt < 2147483648 from by omega)
      refine ps_nd_i (show pm_in ((x2 + 1) + x6) 27400 = true from xgi (show 0 ≤ ((x2 + 1) + x6).toInt from by omega) (show ((x2 + 1) + x6).toInt < 27400 from by omega)) ?_
      have r10 : ((x2 + 1) + x6).toInt % 41 = 0 → ((x2 + 1) + x6).toInt < 27306 → 0 ≤ (ps_a s 1134 (Int32.toNatClampNeg ((x2 + 1) + x6))).toInt ∧ (ps_a s 1134 (Int32.toNatClampNeg ((x2 + 1) + x6))).toInt ≤ 40 := fun z1 z2 => mp_row (i := ((x2 + 1) + x6)) J z1 (show 0 ≤ ((x2 + 1) + x6).toInt from by omega) z2
      have hp1 : ((ps_a s 1134 (Int32.toNatClampNeg ((x2 + 1) + x6)))).toInt = (d : Int) := Rw_p (l1 := l0 ++ 6 :: p1) (l2 := p3 ++ q) hR (by rw [i1, i9]; simp) (by rw [llen, llenc]; omega)
      refine pg_220_0 ?_
      have a11 : ((x2 + 1) + x4).toInt = (x2 + 1).toInt + x4.toInt := xIa (show -2147483648 ≤ (x2 + 1).toInt + x4.toInt from by omega) (show (x2 + 1).toInt + x4.toInt < 2147483648 from by omega)
      refine ps_nd_i (show pm_in ((x2 + 1) + x4) 27400 = true from xgi (show 0 ≤ ((x2 + 1) + x4).toInt from by omega) (show ((x2 + 1) + x4).toInt < 27400 from by omega)) ?_
      have r12 : ((x2 + 1) + x4).toInt % 41 = 0 → ((x2 + 1) + x4).toInt < 27306 → 0 ≤ (ps_a s 1134 (Int32.toNatClampNeg ((x2 + 1) + x4))).toInt ∧ (ps_a s 1134 (Int32.toNatClampNeg ((x2 + 1) + x4))).toInt ≤ 40 := fun z1 z2 => mp_row (i := ((x2 + 1) + x4)) J z1 (show 0 ≤ ((x2 + 1) + x4).toInt from by omega) z2
      have hp2 : ((ps_a s 1134 (Int32.toNatClampNeg ((x2 + 1) + x4)))).toInt = (c : Int) := Rw_p (l1 := l0 ++ 6 :: (p ++ q1)) (l2 := q3) hR (by rw [i1, i2]; simp) (by rw [llen, llenc, llen]; omega)
      refine And.intro (fun h13 => ?_) (fun h13 => ?_)
      · have f14 : (ps_a s 1134 (Int32.toNatClampNeg ((x2 + 1) + x6))).toInt ≠ (ps_a s 1134 (Int32.toNatClampNeg ((x2 + 1) + x4))).toInt := xne h13
        have a15 : (x6 + 1).toInt = x6.toInt + (1 : Int) := xIa (show -2147483648 ≤ x6.toInt + (1 : Int) from by omega) (show x6.toInt + (1 : Int) < 2147483648 from by omega)
        exact ih (n - 1) (show n - 1 < n from by omega) x2 x4 (0) (x6 + 1) l0 p q q1 c q3 (p1 ++ [d]) p3 _ J K hR (by assumption) (by assumption) (by assumption) (by assumption) (by assumption) (by assumption) (by assumption) (by assumption) (i9.trans (lcat p1 d p3)) ((show ((x6 + 1)).toInt = (l0.length : Int) + 1 + ((p1 ++ [d]).length : Int) from by rw [l1c]; omega)) ((by first | exact Or.inr ⟨by decide, Or.inr (memD i9 (by omega))⟩ | exact Or.inl (by decide))) (show (q3.length : Int) + 1 ≤ (n91 : Int) from by omega) (show (p3.length : Int) ≤ ((n - 1 : Nat) : Int) from by omega)
      · have f16 : (ps_a s 1134 (Int32.toNatClampNeg ((x2 + 1) + x6))).toInt = (ps_a s 1134 (Int32.toNatClampNeg ((x2 + 1) + x4))).toInt := xeq h13
        have a17 : (x6 + 1).toInt = x6.toInt + (1 : Int) := xIa (show -2147483648 ≤ x6.toInt + (1 : Int) from by omega) (show x6.toInt + (1 : Int) < 2147483648 from by omega)
        exact ih (n - 1) (show n - 1 < n from by omega) x2 x4 (1) (x6 + 1) l0 p q q1 c q3 (p1 ++ [d]) p3 _ J K hR (by assumption) (by assumption) (by assumption) (by assumption) (by assumption) (by assumption) (by assumption) (by assumption) (i9.trans (lcat p1 d p3)) ((show ((x6 + 1)).toInt = (l0.length : Int) + 1 + ((p1 ++ [d]).length : Int) from by rw [l1c]; omega)) ((by first | exact Or.inr ⟨by decide, Or.inr (memD i9 (by omega))⟩ | exact Or.inl (by decide))) (show (q3.length : Int) + 1 ≤ (n91 : Int) from by omega) (show (p3.length : Int) ≤ ((n - 1 : Nat) : Int) from by omega)

theorem ms_284_91 {x : Nat → Nat → Nat} {t : Int32} {d : Nat} {s0 : ps_S} {σ : mSig} {l : List Nat} {x1 : Int32} {Q : Option Value → ps_S → Prop} (k : ∀ (v : Int32) (s' : ps_S), mJ x t s' → kp [] [63, 64] s0 s' → (v.toInt ≠ 0 → ∃ l0 p q, RL σ l l0 p q (ps_i s' 1131 63).toInt (ps_i s' 1131 64).toInt) → v &&& 1 = v → Q (some (.int v)) s') : ∀ (n : Nat) (x2 : Int32) (x4 : Int32) (l0 : List Nat) (p : List Nat) (q : List Nat) (q1 : List Nat) (q2 : List Nat) (s : ps_S), (mJ x t s) → (kp [] [63, 64] s0 s) → (Rw (ps_a s 1134) x2.toInt l) → (l = l0 ++ 6 :: (p ++ q)) → (q = q1 ++ q2) → (x4.toInt = (l0.length : Int) + 1 + (p.length : Int) + (q1.length : Int)) → ((ps_i s 1131 63).toInt = (l0.length : Int) + 1) → ((ps_i s 1131 64).toInt = (l0.length : Int) + 1 + (p.length : Int)) → (ws σ p [false]) → (ws σ q [false]) → (∀ x, x ∈ q1 → 40 ≤ x → x ∈ p) → (q2.length : Int) ≤ (n : Int) → ps_At (d + 2) 284 91 [(0, .ref 1131), (2, .int x2), (4, .int x4)] [] s Q := by
  refine xstr (fun n ih => ?_)
  intro x2 x4 l0 p q q1 q2 s J K hR i1 i2 i3 i4 i5 i6 i7 i8 hm
  refine pg_284_91 (d := d + 1) ?_
  obtain ⟨hr1, hr2, hr3, hr4, hr5, hr6⟩ := id hR
  have hr1 : x2.toInt % 41 = 0 := hr1
  have hr2 : 0 ≤ x2.toInt := hr2
  have hr3 : x2.toInt < 27306 := hr3
  have hr4 : l.length ≤ 40 := hr4
  have hn : (ps_a s 1134 (Int32.toNatClampNeg x2)).toInt = (l.length : Int) := Rw_n hR
  have hl : (l.length : Int) = l0.length + (p.length + q.length + 1) := by rw [i1, llen, llenc, llen]
  have i3 : x4.toInt = (l0.length : Int) + 1 + (p.length : Int) + (q1.length : Int) := i3
  have i4 : (ps_i s 1131 63).toInt = (l0.length : Int) + 1 := i4
  have i5 : (ps_i s 1131 64).toInt = (l0.length : Int) + 1 + (p.length : Int) := i5
  have hq : (q.length : Int) = q1.length + q2.length := by rw [i2]; exact llen
  refine pg_219_0 ?_
  refine ps_nd_i (show pm_in x2 27400 = true from xgi (show 0 ≤ x2.toInt from by omega) (show x2.toInt < 27400 from by omega)) ?_
  have r1 : x2.toInt % 41 = 0 → x2.toInt < 27306 → 0 ≤ (ps_a s 1134 (Int32.toNatClampNeg x2)).toInt ∧ (ps_a s 1134 (Int32.toNatClampNeg x2)).toInt ≤ 40 := fun z1 z2 => mp_row (i := x2) J z1 (show 0 ≤ x2.toInt from by omega) z2
  refine And.intro (fun h2 => ?_) (fun h2 => ?_)
  · have f3 : (ps_a s 1134 (Int32.toNatClampNeg x2)).toInt ≤ x4.toInt := xle h2
    have e0 := lnil (W := q2) (by omega)
    subst e0
    rw [List.append_nil] at i2
    subst i2
    exact k (1 : Int32) _ J K (fun _ => ⟨l0, p, _, i1, i4, i5, i6, i7, i8⟩) (by decide)
  · have f4 : x4.toInt < (ps_a s 1134 (Int32.toNatClampNeg x2)).toInt := xlt h2
    obtain ⟨c, q3, rfl⟩ := lpos (W := q2) (by omega)
    rw [llenc] at hq hm
    refine pg_220_0 ?_
    have a5 : (x2 + 1).toInt = x2.toInt + (1 : Int) := xIa (show -2147483648 ≤ x2.toInt + (1 : Int) from by omega) (show x2.toInt + (1 : Int) < 2147483648 from by omega)
    have a6 : ((x2 + 1) + x4).toInt = (x2 + 1).toInt + x4.toInt := xIa (show -2147483648 ≤ (x2 + 1).toInt + x4.toInt from by omega) (show (x2 + 1).toInt + x4.toInt < 2147483648 from by omega)
    refine ps_nd_i (show pm_in ((x2 + 1) + x4) 27400 = true from xgi (show 0 ≤ ((x2 + 1) + x4).toInt from by omega) (show ((x2 + 1) + x4).toInt < 27400 from by omega)) ?_
    have r7 : ((x2 + 1) + x4).toInt % 41 = 0 → ((x2 + 1) + x4).toInt < 27306 → 0 ≤ (ps_a s 1134 (Int32.toNatClampNeg ((x2 + 1) + x4))).toInt ∧ (ps_a s 1134 (Int32.toNatClampNeg ((x2 + 1) + x4))).toInt ≤ 40 := fun z1 z2 => mp_row (i := ((x2 + 1) + x4)) J z1 (show 0 ≤ ((x2 + 1) + x4).toInt from by omega) z2
    have hp : ((ps_a s 1134 (Int32.toNatClampNeg ((x2 + 1) + x4)))).toInt = (c : Int) := Rw_p (l1 := l0 ++ 6 :: (p ++ q1)) (l2 := q3) hR (by rw [i1, i2]; simp) (by rw [llen, llenc, llen]; omega)
    refine And.intro (fun h8 => ?_) (fun h8 => ?_)
    · have f9 : (40 : Int) ≤ (ps_a s 1134 (Int32.toNatClampNeg ((x2 + 1) + x4))).toInt := xle h8
      have r10 := mf_63 J
      exact ms_284_126 (x1 := x1) (σ := σ) (l := l) k n (fun x2z x4z l0z pz qz q1z q2z sz Jz Kz i0z i1z i2z i3z i4z i5z i6z i7z i8z hm => ih (n - 1) (show n - 1 < n from by omega) x2z x4z l0z pz qz q1z q2z sz Jz Kz i0z i1z i2z i3z i4z i5z i6z i7z i8z (show _ ≤ ((n - 1 : Nat) : Int) from by omega)) ((p.length : Int)).toNat x2 x4 (0) (ps_i s 1131 63) l0 p q q1 c q3 [] p _ J K hR (by assumption) (i2) (i3) (by assumption) (by assumption) (by assumption) (by assumption) (by assumption) (rfl) ((show ((ps_i s 1131 63)).toInt = (l0.length : Int) + 1 + (([] : List Nat).length : Int) from by rw [List.length_nil]; omega)) ((by first | exact Or.inr ⟨by decide, Or.inl (by omega)⟩ | exact Or.inl (by decide))) (show (q3.length : Int) + 1 ≤ ((n : Nat) : Int) from by omega) (show (p.length : Int) ≤ ((((p.length : Int)).toNat : Nat) : Int) from by omega)
    · have f11 : (ps_a s 1134 (Int32.toNatClampNeg ((x2 + 1) + x4))).toInt < (40 : Int) := xlt h8
      have r12 := mf_63 J
      exact ms_284_126 (x1 := x1) (σ := σ) (l := l) k n (fun x2z x4z l0z pz qz q1z q2z sz Jz Kz i0z i1z i2z i3z i4z i5z i6z i7z i8z hm => ih (n - 1) (show n - 1 < n from by omega) x2z x4z l0z pz qz q1z q2z sz Jz Kz i0z i1z i2z i3z i4z i5z i6z i7z i8z (show _ ≤ ((n - 1 : Nat) : Int) from by omega)) ((p.length : Int)).toNat x2 x4 (1) (ps_i s 1131 63) l0 p q q1 c q3 [] p _ J K hR (by assumption) (i2) (i3) (by assumption) (by assumption) (by assumption) (by assumption) (by assumption) (rfl) ((show ((ps_i s 1131 63)).toInt = (l0.length : Int) + 1 + (([] : List Nat).length : Int) from by rw [List.length_nil]; omega)) ((by first | exact Or.inr ⟨by decide, Or.inl (by omega)⟩ | exact Or.inl (by decide))) (show (q3.length : Int) + 1 ≤ ((n : Nat) : Int) from by omega) (show (p.length : Int) ≤ ((((p.length : Int)).toNat : Nat) : Int) from by omega)

theorem ms_284_11 {x : Nat → Nat → Nat} {t : Int32} {d : Nat} {s0 : ps_S} {σ : mSig} {l : List Nat} {x1 : Int32} {Q : Option Value → ps_S → Prop} (k : ∀ (v : Int32) (s' : ps_S), mJ x t s' → kp [] [63, 64] s0 s' → (v.toInt ≠ 0 → ∃ l0 p q, RL σ l l0 p q (ps_i s' 1131 63).toInt (ps_i s' 1131 64).toInt) → v &&& 1 = v → Q (some (.int v)) s') : ∀ (n : Nat) (x2 : Int32) (x3 : Int32) (l1 : List Nat) (l2 : List Nat) (s : ps_S), (mJ x t s) → (kp [] [63, 64] s0 s) → (Sg (ps_a s 1135) (ps_a s 1136) (ps_a s 1138) (ps_a s 1139) (ps_i s 1131 21).toInt σ) → (Rw (ps_a s 1134) x2.toInt l) → (l = l1 ++ l2) → (x3.toInt = (l1.length : Int)) → (ws σ l2 [true]) → (0 ≤ x3.toInt) → 41 - x3.toInt ≤ (n : Int) → ps_At (d + 2) 284 11 [(0, .ref 1131), (2, .int x2), (3, .int x3)] [] s Q := by
  refine xstr (fun n ih => ?_)
  intro x2 x3 l1 l2 s J K hS hR i2 i3 i4 i5 hm
  refine pg_284_11 (d := d + 1) ?_
  obtain ⟨hr1, hr2, hr3, hr4, hr5, hr6⟩ := id hR
  have hr1 : x2.toInt % 41 = 0 := hr1
  have hr2 : 0 ≤ x2.toInt := hr2
  have hr3 : x2.toInt < 27306 := hr3
  have hr4 : l.length ≤ 40 := hr4
  have hn : (ps_a s 1134 (Int32.toNatClampNeg x2)).toInt = (l.length : Int) := Rw_n hR
  obtain ⟨c, l3, rfl⟩ := ws_ne i4
  have i3 : x3.toInt = (l1.length : Int) := i3
  have hl : (l.length : Int) = l1.length + (l3.length + 1) := by rw [i2, llen, llenc]
  refine pg_220_0 ?_
  have a1 : (x2 + 1).toInt = x2.toInt + (1 : Int) := xIa (show -2147483648 ≤ x2.toInt + (1 : Int) from by omega) (show x2.toInt + (1 : Int) < 2147483648 from by omega)
  have a2 : ((x2 + 1) + x3).toInt = (x2 + 1).toInt + x3.toInt := xIa (show -2147483648 ≤ (x2 + 1).toInt + x3.toInt from by omega) (show (x2 + 1).toInt + x3.toInt < 2147483648 from by omega)
  refine ps_nd_i (show pm_in ((x2 + 1) + x3) 27400 = true from xgi (show 0 ≤ ((x2 + 1) + x3).toInt from by omega) (show ((x2 + 1) + x3).toInt < 27400 from by omega)) ?_
  have r3 : ((x2 + 1) + x3).toInt % 41 = 0 → ((x2 + 1) + x3).toInt < 27306 → 0 ≤ (ps_a s 1134 (Int32.toNatClampNeg ((x2 + 1) + x3))).toInt ∧ (ps_a s 1134 (Int32.toNatClampNeg ((x2 + 1) + x3))).toInt ≤ 40 := fun z1 z2 => mp_row (i := ((x2 + 1) + x3)) J z1 (show 0 ≤ ((x2 + 1) + x3).toInt from by omega) z2
  have hp : ((ps_a s 1134 (Int32.toNatClampNeg ((x2 + 1) + x3)))).toInt = (c : Int) := Rw_p hR i2 i3
  refine And.intro (fun h4 => ?_) (fun h4 => ?_)
  · have f5 : (ps_a s 1134 (Int32.toNatClampNeg ((x2 + 1) + x3))).toInt ≠ (4 : Int) := xne h4
    refine pg_220_0 ?_
    refine ps_nd_i (show pm_in ((x2 + 1) + x3) 27400 = true from xgi (show 0 ≤ ((x2 + 1) + x3).toInt from by omega) (show ((x2 + 1) + x3).toInt < 27400 from by omega)) ?_
    refine And.intro (fun h6 => ?_) (fun h6 => ?_)
    · have f7 : (ps_a s 1134 (Int32.toNatClampNeg ((x2 + 1) + x3))).toInt ≠ (6 : Int) := xne h6
      exact k (0 : Int32) _ J K (fun z => absurd Int32.toInt_zero z) (by decide)
    · have f8 : (ps_a s 1134 (Int32.toNatClampNeg ((x2 + 1) + x3))).toInt = (6 : Int) := xeq h6
      have e : c = 6 := by omega
      subst e
      obtain ⟨p, q, hpq, hw1, hw2⟩ := ws_6 i4
      subst hpq
      have hp1 := ws_le hw1
      rw [List.length_cons, List.length_nil] at hp1
      rw [llen] at hl
      have a9 : (x3 + 1).toInt = x3.toInt + (1 : Int) := xIa (show -2147483648 ≤ x3.toInt + (1 : Int) from by omega) (show x3.toInt + (1 : Int) < 2147483648 from by omega)
      refine pg_220_0 ?_
      have a10 : ((x2 + 1) + (x3 + 1)).toInt = (x2 + 1).toInt + (x3 + 1).toInt := xIa (show -2147483648 ≤ (x2 + 1).toInt + (x3 + 1).toInt from by omega) (show (x2 + 1).toInt + (x3 + 1).toInt < 2147483648 from by omega)
      refine ps_nd_i (show pm_in ((x2 + 1) + (x3 + 1)) 27400 = true from xgi (show 0 ≤ ((x2 + 1) + (x3 + 1)).toInt from by omega) (show ((x2 + 1) + (x3 + 1)).toInt < 27400 from by omega)) ?_
      have r11 : ((x2 + 1) + (x3 + 1)).toInt % 41 = 0 → ((x2 + 1) + (x3 + 1)).toInt < 27306 → 0 ≤ (ps_a s 1134 (Int32.toNatClampNeg ((x2 + 1) + (x3 + 1)))).toInt ∧ (ps_a s 1134 (Int32.toNatClampNeg ((x2 + 1) + (x3 + 1)))).toInt ≤ 40 := fun z1 z2 => mp_row (i := ((x2 + 1) + (x3 + 1))) J z1 (show 0 ≤ ((x2 + 1) + (x3 + 1)).toInt from by omega) z2
      refine And.intro (fun h12 => ?_) (fun h12 => ?_)
      · have f13 : (ps_a s 1134 (Int32.toNatClampNeg ((x2 + 1) + (x3 + 1)))).toInt < (20 : Int) := xlt h12
        exact k (0 : Int32) _ J K (fun z => absurd Int32.toInt_zero z) (by decide)
      · have f14 : (20 : Int) ≤ (ps_a s 1134 (Int32.toNatClampNeg ((x2 + 1) + (x3 + 1)))).toInt := xle h12
        refine pg_220_0 ?_
        refine ps_nd_i (show pm_in ((x2 + 1) + (x3 + 1)) 27400 = true from xgi (show 0 ≤ ((x2 + 1) + (x3 + 1)).toInt from by omega) (show ((x2 + 1) + (x3 + 1)).toInt < 27400 from by omega)) ?_
        refine And.intro (fun h15 => ?_) (fun h15 => ?_)
        · have f16 : (ps_a s 1134 (Int32.toNatClampNeg ((x2 + 1) + (x3 + 1)))).toInt < (40 : Int) := xlt h15
          have J17 := mwi_63 (v := (x3 + 1)) J (show 0 ≤ (x3 + 1).toInt from by omega) (show (x3 + 1).toInt ≤ 41 from by omega)
          have K18 := kpi K (q := 63) (v := (x3 + 1)) rfl
          refine ms_221 J17 hS ((show Rw (ps_a (ps_ui s 1131 63 (x3 + 1)) 1134) (x2).toInt ((l1 ++ [6]) ++ (p ++ q)) from by rw [← lcat, ← i2]; exact hR)) ((show ((x3 + 1)).toInt = ((l1 ++ [6]).length : Int) from by rw [l1c]; omega)) (hw1) (fun v19 p19_0 => ?_)
          have hv : _ := p19_0
          have hv2 : (v19).toInt = (l1.length : Int) + 1 + (p.length : Int) := hv.trans (by rw [l1c])
          have J20 := mwi_64 (v := v19) J17 (show 0 ≤ v19.toInt from by omega) (show v19.toInt ≤ 41 from by omega)
          have K21 := kpi K18 (q := 64) (v := v19) rfl
          exact ms_284_91 (x1 := x1) (σ := σ) (l := l) k  ((q.length : Int)).toNat x2 v19 l1 p q [] q _ J20 K21 hR (i2) (rfl) ((show (v19).toInt = (l1.length : Int) + 1 + (p.length : Int) + (([] : List Nat).length : Int) from by rw [List.length_nil]; omega)) ((show (x3 + 1).toInt = (l1.length : Int) + 1 from by omega)) ((show v19.toInt = (l1.length : Int) + 1 + (p.length : Int) from by omega)) (hw1) (hw2) ((fun x hx => by cases hx)) (show (q.length : Int) ≤ ((((q.length : Int)).toNat : Nat) : Int) from by omega)
        · have f22 : (40 : Int) ≤ (ps_a s 1134 (Int32.toNatClampNeg ((x2 + 1) + (x3 + 1)))).toInt := xle h15
          exact k (0 : Int32) _ J K (fun z => absurd Int32.toInt_zero z) (by decide)
  · have f23 : (ps_a s 1134 (Int32.toNatClampNeg ((x2 + 1) + x3))).toInt = (4 : Int) := xeq h4
    have a24 : (x3 + 1).toInt = x3.toInt + (1 : Int) := xIa (show -2147483648 ≤ x3.toInt + (1 : Int) from by omega) (show x3.toInt + (1 : Int) < 2147483648 from by omega)
    exact ih (n - 1) (show n - 1 < n from by omega) x2 (x3 + 1) (l1 ++ [c]) l3 _ J K hS hR (i2.trans (lcat l1 c l3)) ((show ((x3 + 1)).toInt = ((l1 ++ [c]).length : Int) from by rw [l1c]; omega)) (ws_4e (by omega) i4) (show 0 ≤ (x3 + 1).toInt from by omega) (show 41 - (x3 + 1).toInt ≤ ((n - 1 : Nat) : Int) from by omega)

theorem ms_284 {x : Nat → Nat → Nat} {t : Int32} {s : ps_S} {d : Nat} {x1 : Int32} {f : Int32 → ps_S → Prop} (J : mJ x t s) {σ : mSig} {l : List Nat} (hS : Sg (ps_a s 1135) (ps_a s 1136) (ps_a s 1138) (ps_a s 1139) (ps_i s 1131 21).toInt σ) (q1 : Rw (ps_a s 1134) (21812 + 41 * (8 * (ps_i s 1131 21).toInt + x1.toInt)) l) (q2 : ws σ l [true]) (q3 : 0 ≤ x1.toInt) (q4 : x1.toInt ≤ 7) (k : ∀ (v : Int32) (s' : ps_S), mJ x t s' → kp [] [63, 64] s s' → (v.toInt ≠ 0 → ∃ l0 p q, RL σ l l0 p q (ps_i s' 1131 63).toInt (ps_i s' 1131 64).toInt) → v &&& 1 = v → f v s') : ps_Cl (d + 2) 284 [.ref 1131, .int x1] s (ps_rI f) := by
  have K : kp [] [63, 64] s s := kp_refl
  refine pg_284_0 (d := d + 1) ?_
  have r1 := mf_21 J
  refine pg_283_0 ?_
  have a2 : ((8 : Int32) * (ps_i s 1131 21)).toInt = (8 : Int) * (ps_i s 1131 21).toInt := xIm (show -2147483648 ≤ (8 : Int) * (ps_i s 1131 21).toInt from by omega) (show (8 : Int) * (ps_i s 1131 21).toInt < 2147483648 from by omega)
  have a3 : (((8 : Int32) * (ps_i s 1131 21)) + x1).toInt = ((8 : Int32) * (ps_i s 1131 21)).toInt + x1.toInt := xIa (show -2147483648 ≤ ((8 : Int32) * (ps_i s 1131 21)).toInt + x1.toInt from by omega) (show ((8 : Int32) * (ps_i s 1131 21)).toInt + x1.toInt < 2147483648 from by omega)
  have a4 : ((41 : Int32) * (((8 : Int32) * (ps_i s 1131 21)) + x1)).toInt = (41 : Int) * (((8 : Int32) * (ps_i s 1131 21)) + x1).toInt := xIm (show -2147483648 ≤ (41 : Int) * (((8 : Int32) * (ps_i s 1131 21)) + x1).toInt from by omega) (show (41 : Int) * (((8 : Int32) * (ps_i s 1131 21)) + x1).toInt < 2147483648 from by omega)
  have a5 : ((21812 : Int32) + ((41 : Int32) * (((8 : Int32) * (ps_i s 1131 21)) + x1))).toInt = (21812 : Int) + ((41 : Int32) * (((8 : Int32) * (ps_i s 1131 21)) + x1)).toInt := xIa (show -2147483648 ≤ (21812 : Int) + ((41 : Int32) * (((8 : Int32) * (ps_i s 1131 21)) + x1)).toInt from by omega) (show (21812 : Int) + ((41 : Int32) * (((8 : Int32) * (ps_i s 1131 21)) + x1)).toInt < 2147483648 from by omega)
  exact ms_284_11 (x1 := x1) (σ := σ) (l := l) k  (41 - (0 : Int)).toNat ((21812 : Int32) + ((41 : Int32) * (((8 : Int32) * (ps_i s 1131 21)) + x1))) (0) [] l _ J K hS ((by rw [show (((21812 : Int32) + ((41 : Int32) * (((8 : Int32) * (ps_i s 1131 21)) + x1)))).toInt = 21812 + 41 * (8 * (ps_i s 1131 21).toInt + x1.toInt) from by omega]; exact q1)) (rfl) (rfl) (q2) (show 0 ≤ (0 : Int) from by omega) (show 41 - (0 : Int) ≤ (((41 - (0 : Int)).toNat : Nat) : Int) from by omega)

-- ProofBenchModel.rules()I
theorem pg_285_0 {d : Nat} {s : ps_S} {Q : Option Value → ps_S → Prop} (h :
  ps_At (d + 1) 285 4 [(0, .ref 1131), (1, .int 0), (2, .int 0)] [] s Q) : ps_At (d + 1) 285 0 [(0, .ref 1131)] [] s Q :=
  ps_wp_at (stops := [(4, [0, 1, 2])]) (n := 6) h rfl

theorem pg_285_4 {d : Nat} {x1 : Int32} {x2 : Int32} {s : ps_S} {Q : Option Value → ps_S → Prop} (h :
  ps_nd (pm_in (ps_i s 1131 21) 2) (((ps_a s 1137 (Int32.toNatClampNeg (ps_i s 1131 21))) ≤ x2 →
    Q (some (.int x1)) s) ∧
  (x2 < (ps_a s 1137 (Int32.toNatClampNeg (ps_i s 1131 21))) →
    ps_Cl d 284 [.ref 1131, .int x2] s (ps_rI (fun v1 s1 =>
      (v1 = 0 →
        ps_At (d + 1) 285 4 [(0, .ref 1131), (1, .int (x1 ||| 0)), (2, .int (x2 + 1))] [] s1 Q) ∧
      (v1 ≠ 0 →
        ps_At (d + 1) 285 4 [(0, .ref 1131), (1, .int (x1 ||| ((1 : Int32) <<< (x2 &&& 31)))), (2, .int (x2 + 1))] [] s1 Q)))))) : ps_At (d + 1) 285 4 [(0, .ref 1131), (1, .int x1), (2, .int x2)] [] s Q :=
  ps_wp_at (stops := [(4, [0, 1, 2])]) (n := 29) h rfl

theorem ms_285_4 {x : Nat → Nat → Nat} {t : Int32} {d : Nat} {s0 : ps_S} {σ : mSig} {Q : Option Value → ps_S → Prop} (k : ∀ (v : Int32) (s' : ps_S), mJ x t s' → kp [] [63, 64] s0 s' → Q (some (.int v)) s') : ∀ (n : Nat) (x1 : Int32) (x2 : Int32) (s : ps_S), (mJ x t s) → (kp [] [63, 64] s0 s) → (MI σ (ps_a s 1134) (ps_a s 1135) (ps_a s 1136) (ps_a s 1137) (ps_a s 1138) (ps_a s 1139) (ps_a s 1157) (ps_a s 1176) (ps_i s 1131 21).toInt (ps_i s 1131 47).toInt (ps_i s 1131 54).toInt) → (0 ≤ x2.toInt) → (x2.toInt ≤ 8) → 20 - x2.toInt ≤ (n : Int) → ps_At (d + 3) 285 4 [(0, .ref 1131), (1, .int x1), (2, .int x2)] [] s Q := by
  refine xstr (fun n ih => ?_)
  intro x1 x2 s J K hMI i1 i2 hm
  refine pg_285_4 (d := d + 2) ?_
  have r1 := mf_21 J
  refine ps_nd_i (show pm_in (ps_i s 1131 21) 2 = true from xgi (show 0 ≤ (ps_i s 1131 21).toInt from by omega) (show (ps_i s 1131 21).toInt < 2 from by omega)) ?_
  have r2 : 0 ≤ (ps_a s 1137 (Int32.toNatClampNeg (ps_i s 1131 21))).toInt ∧ (ps_a s 1137 (Int32.toNatClampNeg (ps_i s 1131 21))).toInt ≤ 8 := ma_1137 (i := (ps_i s 1131 21)) J (show 0 ≤ (ps_i s 1131 21).toInt from by omega) (show (ps_i s 1131 21).toInt < 2 from by omega)
  refine And.intro (fun h3 => ?_) (fun h3 => ?_)
  · have f4 : (ps_a s 1137 (Int32.toNatClampNeg (ps_i s 1131 21))).toInt ≤ x2.toInt := xle h3
    exact k x1 _ J K
  · have f5 : x2.toInt < (ps_a s 1137 (Int32.toNatClampNeg (ps_i s 1131 21))).toInt := xlt h3
    obtain ⟨l, hl1, hl2, hl3⟩ := MI_ax (k := x2) hMI (by omega) (show (x2).toInt < (ps_a s 1137 (Int32.toNatClampNeg (ps_i s 1131 21))).toInt from by omega) (by omega) rfl
    have hS := MI_S hMI
    refine ms_284 J (hS) (hl1) ((wf_ws hl2)) (show 0 ≤ x2.toInt from by omega) (show x2.toInt ≤ 7 from by omega) (fun v6 s6 J6 K6 p6_0 b6 => ?_)
    have K7 := kpt K K6 rfl rfl
    have hMI : MI σ (ps_a s6 1134) (ps_a s6 1135) (ps_a s6 1136) (ps_a s6 1137) (ps_a s6 1138) (ps_a s6 1139) (ps_a s6 1157) (ps_a s6 1176) (ps_i s6 1131 21).toInt (ps_i s6 1131 47).toInt (ps_i s6 1131 54).toInt := by rw [show ps_a s6 1134 = ps_a s 1134 from (K6.2 1134 rfl).1, show ps_a s6 1135 = ps_a s 1135 from (K6.2 1135 rfl).1, show ps_a s6 1136 = ps_a s 1136 from (K6.2 1136 rfl).1, show ps_a s6 1137 = ps_a s 1137 from (K6.2 1137 rfl).1, show ps_a s6 1138 = ps_a s 1138 from (K6.2 1138 rfl).1, show ps_a s6 1139 = ps_a s 1139 from (K6.2 1139 rfl).1, show ps_a s6 1157 = ps_a s 1157 from (K6.2 1157 rfl).1, show ps_a s6 1176 = ps_a s 1176 from (K6.2 1176 rfl).1, show ps_i s6 1131 21 = ps_i s 1131 21 from kp_i K6 21 rfl, show ps_i s6 1131 47 = ps_i s 1131 47 from kp_i K6 47 rfl, show ps_i s6 1131 54 = ps_i s 1131 54 from kp_i K6 54 rfl]; exact hMI
    refine And.intro (fun h8 => ?_) (fun h8 => ?_)
    · have f9 : v6.toInt = (0 : Int) := xeq h8
      have a10 : (x2 + 1).toInt = x2.toInt + (1 : Int) := xIa (show -2147483648 ≤ x2.toInt + (1 : Int) from by omega) (show x2.toInt + (1 : Int) < 2147483648 from by omega)
      exact ih (n - 1) (show n - 1 < n from by omega) (x1 ||| 0) (x2 + 1) _ J6 K7 hMI (show 0 ≤ (x2 + 1).toInt from by omega) (show (x2 + 1).toInt ≤ 8 from by omega) (show 20 - (x2 + 1).toInt ≤ ((n - 1 : Nat) : Int) from by omega)
    · have f11 : v6.toInt ≠ (0 : Int) := xne h8
      have a12 : (x2 + 1).toInt = x2.toInt + (1 : Int) := xIa (show -2147483648 ≤ x2.toInt + (1 : Int) from by omega) (show x2.toInt + (1 : Int) < 2147483648 from by omega)
      exact ih (n - 1) (show n - 1 < n from by omega) (x1 ||| ((1 : Int32) <<< (x2 &&& 31))) (x2 + 1) _ J6 K7 hMI (show 0 ≤ (x2 + 1).toInt from by omega) (show (x2 + 1).toInt ≤ 8 from by omega) (show 20 - (x2 + 1).toInt ≤ ((n - 1 : Nat) : Int) from by omega)

theorem ms_285 {x : Nat → Nat → Nat} {t : Int32} {s : ps_S} {d : Nat} {f : Int32 → ps_S → Prop} (J : mJ x t s) {σ : mSig} (hMI : MI σ (ps_a s 1134) (ps_a s 1135) (ps_a s 1136) (ps_a s 1137) (ps_a s 1138) (ps_a s 1139) (ps_a s 1157) (ps_a s 1176) (ps_i s 1131 21).toInt (ps_i s 1131 47).toInt (ps_i s 1131 54).toInt) (k : ∀ (v : Int32) (s' : ps_S), mJ x t s' → kp [] [63, 64] s s' → f v s') : ps_Cl (d + 3) 285 [.ref 1131] s (ps_rI f) := by
  have K : kp [] [63, 64] s s := kp_refl
  refine pg_285_0 (d := d + 2) ?_
  exact ms_285_4 (σ := σ) k  (20 - (0 : Int)).toNat (0) (0) _ J K hMI (show 0 ≤ (0 : Int) from by omega) (show (0 : Int) ≤ 8 from by omega) (show 20 - (0 : Int) ≤ (((20 - (0 : Int)).toNat : Nat) : Int) from by omega)
