set_option maxRecDepth 100000
-- ProofBench$Proof.clear()V
theorem pg_31_0 {d : Nat} {r0 : Nat} {s : ps_S} {Q : Option Value → ps_S → Prop} (h :
  ps_nk (ps_is r0 2) (ps_nk (ps_is r0 2) (ps_nk (ps_is r0 2) (Q none (ps_ui (ps_ui (ps_ui s r0 7 0) r0 8 0) r0 9 0))))) : ps_At d 31 0 [(0, .ref r0)] [] s Q :=
  ps_wp_at (stops := []) (n := 12) h rfl

theorem xs_31 {m s : ps_S} {t : Int32} {d : Nat} {r0 : Nat} {f : ps_S → Prop} (h0 : ps_is r0 2 = true) (J : xJ m t s) (k : ∀ (s' : ps_S), xJ m t s' → f s') : ps_Cl d 31 [.ref r0] s (ps_rV f) :=
  pg_31_0 (ps_nk_i h0 (ps_nk_i h0 (ps_nk_i h0 (k (ps_ui (ps_ui (ps_ui s r0 7 0) r0 8 0) r0 9 0) (xw_i (c := 2) (by decide) h0 (xw_i (c := 2) (by decide) h0 (xw_i (c := 2) (by decide) h0 J)))))))

-- ProofBench$Proof.hasStep(I)Z
theorem pg_32_0 {d : Nat} {r0 : Nat} {x1 : Int32} {s : ps_S} {Q : Option Value → ps_S → Prop} (h :
  (x1 < 0 →
    Q (some (.int 0)) s) ∧
  (0 ≤ x1 →
    ps_nk (ps_is r0 2) (((ps_i s r0 8) ≤ x1 →
      Q (some (.int 0)) s) ∧
    (x1 < (ps_i s r0 8) →
      Q (some (.int 1)) s)))) : ps_At d 32 0 [(0, .ref r0), (1, .int x1)] [] s Q :=
  ps_wp_at (stops := []) (n := 15) h rfl

theorem xs_32 {m s : ps_S} {t : Int32} {d : Nat} {r0 : Nat} {x1 : Int32} {f : Int32 → ps_S → Prop} (h0 : ps_is r0 2 = true) (J : xJ m t s) (k : ∀ (v : Int32), v &&& 1 = v → f v s) : ps_Cl d 32 [.ref r0, .int x1] s (ps_rI f) :=
  pg_32_0 (And.intro (fun f1 => (k 0 (by decide))) (fun f1 => (ps_nk_i h0 (And.intro (fun f2 => (k 0 (by decide))) (fun f2 => (k 1 (by decide)))))))

-- ProofBench$Proof.stepAt(I)LProofBench$Step;
theorem pg_33_0 {d : Nat} {r0 : Nat} {x1 : Int32} {s : ps_S} {Q : Option Value → ps_S → Prop} (h :
  (x1 < 0 →
    ps_nk (ps_is r0 2) (Q (some (.ref (ps_c0 r0 1))) s)) ∧
  (0 ≤ x1 →
    ps_nk (ps_is r0 2) (ps_nk (Nat.beq (ps_K (ps_c0 r0 0)).1 0) (((nI (ps_ln (ps_c0 r0 0))) ≤ x1 →
      ps_nk (ps_is r0 2) (Q (some (.ref (ps_c0 r0 1))) s)) ∧
    (x1 < (nI (ps_ln (ps_c0 r0 0))) →
      ps_nk (ps_is r0 2) (ps_nk (ps_ar (ps_c0 r0 0) 4 || ps_ar (ps_c0 r0 0) 5 || ps_ar (ps_c0 r0 0) 6 || ps_ar (ps_c0 r0 0) 7) (ps_nd (pm_in x1 (ps_ln (ps_c0 r0 0))) (Q (some (.ref (ps_e0 (ps_c0 r0 0) (Int32.toNatClampNeg x1)))) s)))))))) : ps_At d 33 0 [(0, .ref r0), (1, .int x1)] [] s Q :=
  ps_wp_at (stops := []) (n := 21) h rfl

theorem xs_33 {m s : ps_S} {t : Int32} {d : Nat} {r0 : Nat} {x1 : Int32} {f : Nat → ps_S → Prop} (h0 : ps_is r0 2 = true) (J : xJ m t s) (k : ∀ (v : Nat), ps_is v 8 = true → f v s) : ps_Cl d 33 [.ref r0, .int x1] s (ps_rA f) :=
  pg_33_0 (And.intro (fun f1 => (ps_nk_i h0 (k (ps_c0 r0 1) ((xk_2_1 h0))))) (fun f1 => (ps_nk_i h0 (ps_nk_i (xn_l ((xk_2_0 h0)).1) (And.intro (fun f2 => (ps_nk_i h0 (k (ps_c0 r0 1) ((xk_2_1 h0))))) (fun f2 => (ps_nk_i h0 (ps_nk_i (xn_7 ((xk_2_0 h0)).1) (ps_nd_i (xg_in f1 f2) (k (ps_e0 (ps_c0 r0 0) (Int32.toNatClampNeg x1)) ((xe_7 ((xk_2_0 h0)).1 (xg_in f1 f2)))))))))))))

-- ProofBench$Step.number(I)I
theorem pg_121_0 {d : Nat} {r0 : Nat} {x1 : Int32} {s : ps_S} {Q : Option Value → ps_S → Prop} (h :
  ps_nk (ps_is r0 8) (ps_Cl d 182 [.ref (ps_c0 r0 1), .int x1] s (ps_rI (fun v1 s1 =>
    Q (some (.int v1)) s1)))) : ps_At (d + 1) 121 0 [(0, .ref r0), (1, .int x1)] [] s Q :=
  ps_wp_at (stops := []) (n := 7) h rfl

theorem xs_121 {m s : ps_S} {t : Int32} {d : Nat} {r0 : Nat} {x1 : Int32} {f : Int32 → ps_S → Prop} (h0 : ps_is r0 8 = true) (J : xJ m t s) (k : ∀ (v : Int32), f v s) : ps_Cl (d + 1) 121 [.ref r0, .int x1] s (ps_rI f) :=
  pg_121_0 (d := d) (ps_nk_i h0 (xs_182 (xk_8_1 h0) J (fun v1 => (k v1))))

-- ProofBench$Shelf.has(I)Z
theorem pg_109_0 {d : Nat} {r0 : Nat} {x1 : Int32} {s : ps_S} {Q : Option Value → ps_S → Prop} (h :
  (x1 < 0 →
    Q (some (.int 0)) s) ∧
  (0 ≤ x1 →
    ps_nk (ps_is r0 7) (((ps_i s r0 5) ≤ x1 →
      Q (some (.int 0)) s) ∧
    (x1 < (ps_i s r0 5) →
      Q (some (.int 1)) s)))) : ps_At d 109 0 [(0, .ref r0), (1, .int x1)] [] s Q :=
  ps_wp_at (stops := []) (n := 15) h rfl

theorem xs_109 {m s : ps_S} {t : Int32} {d : Nat} {r0 : Nat} {x1 : Int32} {f : Int32 → ps_S → Prop} (h0 : ps_is r0 7 = true) (J : xJ m t s) (k : ∀ (v : Int32), v &&& 1 = v → f v s) : ps_Cl d 109 [.ref r0, .int x1] s (ps_rI f) :=
  pg_109_0 (And.intro (fun f1 => (k 0 (by decide))) (fun f1 => (ps_nk_i h0 (And.intro (fun f2 => (k 0 (by decide))) (fun f2 => (k 1 (by decide)))))))

-- ProofBench$Step.numbersOf(I)I
theorem pg_115_0 {d : Nat} {x0 : Int32} {s : ps_S} {Q : Option Value → ps_S → Prop} (h :
  (x0 = 6 →
    Q (some (.int 0)) s) ∧
  (x0 ≠ 6 →
    (x0 = 7 →
    Q (some (.int 1)) s) ∧
  (x0 ≠ 7 →
    (x0 = 8 →
    Q (some (.int 1)) s) ∧
  (x0 ≠ 8 →
    (x0 = 9 →
    Q (some (.int 1)) s) ∧
  (x0 ≠ 9 →
    (x0 = 10 →
    Q (some (.int 0)) s) ∧
  (x0 ≠ 10 →
    (x0 = 11 →
    Q (some (.int 0)) s) ∧
  (x0 ≠ 11 →
    (x0 = 12 →
    Q (some (.int 1)) s) ∧
  (x0 ≠ 12 →
    (x0 = 13 →
    Q (some (.int 2)) s) ∧
  (x0 ≠ 13 →
    (x0 = 14 →
    Q (some (.int 1)) s) ∧
  (x0 ≠ 14 →
    (x0 = 15 →
    Q (some (.int 1)) s) ∧
  (x0 ≠ 15 →
    (x0 = 16 →
    Q (some (.int 1)) s) ∧
  (x0 ≠ 16 →
    (x0 = 17 →
    Q (some (.int 1)) s) ∧
  (x0 ≠ 17 →
    (x0 = 18 →
    Q (some (.int 3)) s) ∧
  (x0 ≠ 18 →
    (x0 = 19 →
    Q (some (.int 2)) s) ∧
  (x0 ≠ 19 →
    (x0 = 20 →
    Q (some (.int 1)) s) ∧
  (x0 ≠ 20 →
    (x0 = 21 →
    Q (some (.int 1)) s) ∧
  (x0 ≠ 21 →
    (x0 = 22 →
    Q (some (.int 1)) s) ∧
  (x0 ≠ 22 →
    (x0 = 23 →
    Q (some (.int 1)) s) ∧
  (x0 ≠ 23 →
    (x0 = 24 →
    Q (some (.int 2)) s) ∧
  (x0 ≠ 24 →
    (x0 = 25 →
    Q (some (.int 2)) s) ∧
  (x0 ≠ 25 →
    Q (some (.int 1)) s))))))))))))))))))))) : ps_At d 115 0 [(0, .int x0)] [] s Q :=
  ps_wp_at (stops := []) (n := 46) h rfl

theorem xs_115 {m s : ps_S} {t : Int32} {d : Nat} {x0 : Int32} {f : Int32 → ps_S → Prop} (J : xJ m t s) (k : ∀ (v : Int32), f v s) : ps_Cl d 115 [.int x0] s (ps_rI f) :=
  pg_115_0 (And.intro (fun f1 => (k 0)) (fun f1 => (And.intro (fun f2 => (k 1)) (fun f2 => (And.intro (fun f3 => (k 1)) (fun f3 => (And.intro (fun f4 => (k 1)) (fun f4 => (And.intro (fun f5 => (k 0)) (fun f5 => (And.intro (fun f6 => (k 0)) (fun f6 => (And.intro (fun f7 => (k 1)) (fun f7 => (And.intro (fun f8 => (k 2)) (fun f8 => (And.intro (fun f9 => (k 1)) (fun f9 => (And.intro (fun f10 => (k 1)) (fun f10 => (And.intro (fun f11 => (k 1)) (fun f11 => (And.intro (fun f12 => (k 1)) (fun f12 => (And.intro (fun f13 => (k 3)) (fun f13 => (And.intro (fun f14 => (k 2)) (fun f14 => (And.intro (fun f15 => (k 1)) (fun f15 => (And.intro (fun f16 => (k 1)) (fun f16 => (And.intro (fun f17 => (k 1)) (fun f17 => (And.intro (fun f18 => (k 1)) (fun f18 => (And.intro (fun f19 => (k 2)) (fun f19 => (And.intro (fun f20 => (k 2)) (fun f20 => (k 1)))))))))))))))))))))))))))))))))))))))))

-- ProofBench$Step.premisesOf(I)I
theorem pg_116_0 {d : Nat} {x0 : Int32} {s : ps_S} {Q : Option Value → ps_S → Prop} (h :
  (x0 ≠ 12 →
    ps_Cl d 115 [.int x0] s (ps_rI (fun v1 s1 =>
      Q (some (.int v1)) s1))) ∧
  (x0 = 12 →
    Q (some (.int 0)) s)) : ps_At (d + 1) 116 0 [(0, .int x0)] [] s Q :=
  ps_wp_at (stops := []) (n := 11) h rfl

theorem xs_116 {m s : ps_S} {t : Int32} {d : Nat} {x0 : Int32} {f : Int32 → ps_S → Prop} (J : xJ m t s) (k : ∀ (v : Int32), f v s) : ps_Cl (d + 1) 116 [.int x0] s (ps_rI f) :=
  pg_116_0 (d := d) (And.intro (fun f1 => (xs_115  J (fun v1 => (k v1)))) (fun f1 => (k 0)))

-- ProofBench$Proof.hasPremises(LProofBench$Step;ILProofBench$Shelf;)Z
theorem pg_36_0 {d : Nat} {r0 : Nat} {r1 : Nat} {x2 : Int32} {r3 : Nat} {s : ps_S} {Q : Option Value → ps_S → Prop} (h :
  ps_nk (ps_is r1 8) (((ps_i s r1 0) ≠ 12 →
    ps_At (d + 1) 36 22 [(1, .ref r1), (2, .int x2), (4, .int 0)] [] s Q) ∧
  ((ps_i s r1 0) = 12 →
    ps_nk (ps_is r1 8) (ps_Cl d 121 [.ref r1, .int 0] s (ps_rI (fun v1 s1 =>
      ps_nk (ps_is r3 7) (ps_Cl d 109 [.ref r3, .int v1] s1 (ps_rI (fun v2 s2 =>
        ps_nd (decide (v2 &&& 1 = v2)) (Q (some (.int v2)) s2)))))))))) : ps_At (d + 1) 36 0 [(0, .ref r0), (1, .ref r1), (2, .int x2), (3, .ref r3)] [] s Q :=
  ps_wp_at (stops := [(22, [1, 2, 4])]) (n := 14) h rfl

theorem pg_36_22 {d : Nat} {r1 : Nat} {x2 : Int32} {x4 : Int32} {s : ps_S} {Q : Option Value → ps_S → Prop} (h :
  ps_nk (ps_is r1 8) (ps_Cl d 116 [.int (ps_i s r1 0)] s (ps_rI (fun v1 s1 =>
    (v1 ≤ x4 →
      Q (some (.int 1)) s1) ∧
    (x4 < v1 →
      ps_nk (ps_is r1 8) (ps_Cl d 121 [.ref r1, .int x4] s1 (ps_rI (fun v2 s2 =>
        (v2 < x2 →
          ps_At (d + 1) 36 22 [(1, .ref r1), (2, .int x2), (4, .int (x4 + 1))] [] s2 Q) ∧
        (x2 ≤ v2 →
          Q (some (.int 0)) s2))))))))) : ps_At (d + 1) 36 22 [(1, .ref r1), (2, .int x2), (4, .int x4)] [] s Q :=
  ps_wp_at (stops := [(22, [1, 2, 4])]) (n := 18) h rfl

theorem xs_36_22 {m s : ps_S} {t : Int32} {d : Nat} {r1 : Nat} {x2 : Int32} {x4 : Int32} {Q : Option Value → ps_S → Prop} (h1 : ps_is r1 8 = true) (J : xJ m t s) (k : ∀ (v : Int32), v &&& 1 = v → Q (some (.int v)) s) : ps_At (d + 2) 36 22 [(1, .ref r1), (2, .int x2), (4, .int x4)] [] s Q :=
  xs_up (P := fun x4 => ps_is r1 8 = true → ps_At (d + 2) 36 22 [(1, .ref r1), (2, .int x2), (4, .int x4)] [] s Q) (fun x4 ih h1 => pg_36_22 (d := d + 1) (ps_nk_i h1 (xs_116  J (fun v1 => (And.intro (fun f1 => (k 1 (by decide))) (fun f1 => (ps_nk_i h1 (xs_121 h1 J (fun v2 => (And.intro (fun f2 => (ih ((x4 + 1)) (xs_lt f1) h1)) (fun f2 => (k 0 (by decide))))))))))))) x4 h1

theorem xs_36 {m s : ps_S} {t : Int32} {d : Nat} {r0 : Nat} {r1 : Nat} {x2 : Int32} {r3 : Nat} {f : Int32 → ps_S → Prop} (h0 : ps_is r0 2 = true) (h1 : ps_is r1 8 = true) (h3 : ps_is r3 7 = true) (J : xJ m t s) (k : ∀ (v : Int32), v &&& 1 = v → f v s) : ps_Cl (d + 2) 36 [.ref r0, .ref r1, .int x2, .ref r3] s (ps_rI f) :=
  pg_36_0 (d := d + 1) (ps_nk_i h1 (And.intro (fun f1 => (xs_36_22 (d := d) (r1 := r1) (x2 := x2) (x4 := 0)  h1 J k )) (fun f1 => (ps_nk_i h1 (xs_121 h1 J (fun v1 => (ps_nk_i h3 (xs_109 h3 J (fun v2 b2 => (ps_nd_i (decide_eq_true b2) ((k v2 (of_decide_eq_true (decide_eq_true b2))))))))))))))

-- ProofBench$Proof.outAt(I)LProofBench$Row;
theorem pg_38_0 {d : Nat} {r0 : Nat} {x1 : Int32} {s : ps_S} {Q : Option Value → ps_S → Prop} (h :
  (x1 < 0 →
    ps_nk (ps_is r0 2) (Q (some (.ref (ps_c0 r0 3))) s)) ∧
  (0 ≤ x1 →
    ps_nk (ps_is r0 2) (ps_nk (Nat.beq (ps_K (ps_c0 r0 2)).1 0) (((nI (ps_ln (ps_c0 r0 2))) ≤ x1 →
      ps_nk (ps_is r0 2) (Q (some (.ref (ps_c0 r0 3))) s)) ∧
    (x1 < (nI (ps_ln (ps_c0 r0 2))) →
      ps_nk (ps_is r0 2) (ps_nk (ps_ar (ps_c0 r0 2) 4 || ps_ar (ps_c0 r0 2) 5 || ps_ar (ps_c0 r0 2) 6 || ps_ar (ps_c0 r0 2) 7) (ps_nd (pm_in x1 (ps_ln (ps_c0 r0 2))) (Q (some (.ref (ps_e0 (ps_c0 r0 2) (Int32.toNatClampNeg x1)))) s)))))))) : ps_At d 38 0 [(0, .ref r0), (1, .int x1)] [] s Q :=
  ps_wp_at (stops := []) (n := 21) h rfl

theorem xs_38 {m s : ps_S} {t : Int32} {d : Nat} {r0 : Nat} {x1 : Int32} {f : Nat → ps_S → Prop} (h0 : ps_is r0 2 = true) (J : xJ m t s) (k : ∀ (v : Nat), ps_is v 5 = true → f v s) : ps_Cl d 38 [.ref r0, .int x1] s (ps_rA f) :=
  pg_38_0 (And.intro (fun f1 => (ps_nk_i h0 (k (ps_c0 r0 3) ((xk_2_3 h0))))) (fun f1 => (ps_nk_i h0 (ps_nk_i (xn_l ((xk_2_2 h0)).1) (And.intro (fun f2 => (ps_nk_i h0 (k (ps_c0 r0 3) ((xk_2_3 h0))))) (fun f2 => (ps_nk_i h0 (ps_nk_i (xn_4 ((xk_2_2 h0)).1) (ps_nd_i (xg_in f1 f2) (k (ps_e0 (ps_c0 r0 2) (Int32.toNatClampNeg x1)) ((xe_4 ((xk_2_2 h0)).1 (xg_in f1 f2)))))))))))))

-- ProofBench$Row.clear()V
theorem pg_91_0 {d : Nat} {r0 : Nat} {s : ps_S} {Q : Option Value → ps_S → Prop} (h :
  ps_nk (ps_is r0 5) (ps_nk (ps_is r0 5) (Q none (ps_ui (ps_ui s r0 1 0) r0 2 0)))) : ps_At d 91 0 [(0, .ref r0)] [] s Q :=
  ps_wp_at (stops := []) (n := 9) h rfl

theorem xs_91 {m s : ps_S} {t : Int32} {d : Nat} {r0 : Nat} {f : ps_S → Prop} (h0 : ps_is r0 5 = true) (J : xJ m t s) (k : ∀ (s' : ps_S), xJ m t s' → f s') : ps_Cl d 91 [.ref r0] s (ps_rV f) :=
  pg_91_0 (ps_nk_i h0 (ps_nk_i h0 (k (ps_ui (ps_ui s r0 1 0) r0 2 0) (xw_i (c := 5) (by decide) h0 (xw_i (c := 5) (by decide) h0 J)))))

-- ProofBench$Proof.premise(LProofBench$Step;I)LProofBench$Step;
theorem pg_37_0 {d : Nat} {r0 : Nat} {r1 : Nat} {x2 : Int32} {s : ps_S} {Q : Option Value → ps_S → Prop} (h :
  ps_nk (ps_is r1 8) (ps_Cl d 121 [.ref r1, .int x2] s (ps_rI (fun v1 s1 =>
    ps_nk (ps_is r0 2) (ps_Cl d 33 [.ref r0, .int v1] s1 (ps_rA (fun v2 s2 =>
      Q (some (.ref v2)) s2))))))) : ps_At (d + 1) 37 0 [(0, .ref r0), (1, .ref r1), (2, .int x2)] [] s Q :=
  ps_wp_at (stops := []) (n := 8) h rfl

theorem xs_37 {m s : ps_S} {t : Int32} {d : Nat} {r0 : Nat} {r1 : Nat} {x2 : Int32} {f : Nat → ps_S → Prop} (h0 : ps_is r0 2 = true) (h1 : ps_is r1 8 = true) (J : xJ m t s) (k : ∀ (v : Nat), ps_is v 8 = true → f v s) : ps_Cl (d + 2) 37 [.ref r0, .ref r1, .int x2] s (ps_rA f) :=
  pg_37_0 (d := d + 1) (ps_nk_i h1 (xs_121 h1 J (fun v1 => (ps_nk_i h0 (xs_33 h0 J (fun v2 g2 => (k v2 (g2))))))))

-- ProofBench$Row.add(I)V
theorem pg_93_0 {d : Nat} {r0 : Nat} {x1 : Int32} {s : ps_S} {Q : Option Value → ps_S → Prop} (h :
  ps_nk (ps_is r0 5) (((ps_i s r0 1) < 0 →
    ps_nk (ps_is r0 5) (Q none (ps_ui s r0 2 1))) ∧
  (0 ≤ (ps_i s r0 1) →
    ps_nk (ps_is r0 5) (ps_nk (ps_is r0 5) (ps_nk (Nat.beq (ps_K (ps_c0 r0 0)).1 0) (((nI (ps_ln (ps_c0 r0 0))) ≤ (ps_i s r0 1) →
      ps_nk (ps_is r0 5) (Q none (ps_ui s r0 2 1))) ∧
    ((ps_i s r0 1) < (nI (ps_ln (ps_c0 r0 0))) →
      ps_nk (ps_is r0 5) (ps_nk (ps_is r0 5) (ps_nk (ps_ar (ps_c0 r0 0) 0) (ps_nd (pm_in (ps_i s r0 1) (ps_ln (ps_c0 r0 0))) (ps_nk (ps_is r0 5) (ps_nk (ps_is r0 5) (Q none (ps_ui (ps_ua s (ps_c0 r0 0) (Int32.toNatClampNeg (ps_i s r0 1)) x1) r0 1 ((ps_i (ps_ua s (ps_c0 r0 0) (Int32.toNatClampNeg (ps_i s r0 1)) x1) r0 1) + 1))))))))))))))) : ps_At d 93 0 [(0, .ref r0), (1, .int x1)] [] s Q :=
  ps_wp_at (stops := []) (n := 33) h rfl

theorem xs_93 {m s : ps_S} {t : Int32} {d : Nat} {r0 : Nat} {x1 : Int32} {f : ps_S → Prop} (h0 : ps_is r0 5 = true) (J : xJ m t s) (k : ∀ (s' : ps_S), xJ m t s' → f s') : ps_Cl d 93 [.ref r0, .int x1] s (ps_rV f) :=
  pg_93_0 (ps_nk_i h0 (And.intro (fun f1 => (ps_nk_i h0 (k (ps_ui s r0 2 1) (xw_i (c := 5) (by decide) h0 J)))) (fun f1 => (ps_nk_i h0 (ps_nk_i h0 (ps_nk_i (xn_l ((xk_5_0 h0)).1) (And.intro (fun f2 => (ps_nk_i h0 (k (ps_ui s r0 2 1) (xw_i (c := 5) (by decide) h0 J)))) (fun f2 => (ps_nk_i h0 (ps_nk_i h0 (ps_nk_i (xn_0 ((xk_5_0 h0)).1) (ps_nd_i (xg_in f1 f2) (ps_nk_i h0 (ps_nk_i h0 (k (ps_ui (ps_ua s (ps_c0 r0 0) (Int32.toNatClampNeg (ps_i s r0 1)) x1) r0 1 ((ps_i (ps_ua s (ps_c0 r0 0) (Int32.toNatClampNeg (ps_i s r0 1)) x1) r0 1) + 1)) (xw_i (c := 5) (by decide) h0 (xw_a (((xk_5_0 h0)).2) J)))))))))))))))))

-- ProofBench$Row.addPart(LProofBench$Row;II)V
theorem pg_94_0 {d : Nat} {r0 : Nat} {r1 : Nat} {x2 : Int32} {x3 : Int32} {s : ps_S} {Q : Option Value → ps_S → Prop} (h :
  ps_At (d + 1) 94 3 [(0, .ref r0), (1, .ref r1), (3, .int x3), (4, .int x2)] [] s Q) : ps_At (d + 1) 94 0 [(0, .ref r0), (1, .ref r1), (2, .int x2), (3, .int x3)] [] s Q :=
  ps_wp_at (stops := [(3, [0, 1, 3, 4])]) (n := 4) h rfl

theorem pg_94_3 {d : Nat} {r0 : Nat} {r1 : Nat} {x3 : Int32} {x4 : Int32} {s : ps_S} {Q : Option Value → ps_S → Prop} (h :
  (x3 ≤ x4 →
    Q none s) ∧
  (x4 < x3 →
    ps_nk (ps_is r1 5) (ps_Cl d 92 [.ref r1, .int x4] s (ps_rI (fun v1 s1 =>
      ps_nk (ps_is r0 5) (ps_Cl d 93 [.ref r0, .int v1] s1 (ps_rV (fun s2 =>
        ps_At (d + 1) 94 3 [(0, .ref r0), (1, .ref r1), (3, .int x3), (4, .int (x4 + 1))] [] s2 Q)))))))) : ps_At (d + 1) 94 3 [(0, .ref r0), (1, .ref r1), (3, .int x3), (4, .int x4)] [] s Q :=
  ps_wp_at (stops := [(3, [0, 1, 3, 4])]) (n := 13) h rfl

theorem xs_94_3 {m s : ps_S} {t : Int32} {d : Nat} {r0 : Nat} {r1 : Nat} {x3 : Int32} {x4 : Int32} {Q : Option Value → ps_S → Prop} (h0 : ps_is r0 5 = true) (h1 : ps_is r1 5 = true) (J : xJ m t s) (k : ∀ (s' : ps_S), xJ m t s' → Q none s') : ps_At (d + 1) 94 3 [(0, .ref r0), (1, .ref r1), (3, .int x3), (4, .int x4)] [] s Q :=
  xs_up (P := fun x4 => ∀ (s : ps_S), ps_is r0 5 = true → ps_is r1 5 = true → xJ m t s → ps_At (d + 1) 94 3 [(0, .ref r0), (1, .ref r1), (3, .int x3), (4, .int x4)] [] s Q) (fun x4 ih s h0 h1 J => pg_94_3 (d := d) (And.intro (fun f1 => (k s J)) (fun f1 => (ps_nk_i h1 (xs_92 h1 J (fun v1 => (ps_nk_i h0 (xs_93 h0 J (fun s2 J2 => (ih ((x4 + 1)) (xs_lt f1) s2 h0 h1 J2)))))))))) x4 s h0 h1 J

theorem xs_94 {m s : ps_S} {t : Int32} {d : Nat} {r0 : Nat} {r1 : Nat} {x2 : Int32} {x3 : Int32} {f : ps_S → Prop} (h0 : ps_is r0 5 = true) (h1 : ps_is r1 5 = true) (J : xJ m t s) (k : ∀ (s' : ps_S), xJ m t s' → f s') : ps_Cl (d + 1) 94 [.ref r0, .ref r1, .int x2, .int x3] s (ps_rV f) :=
  pg_94_0 (d := d) (xs_94_3 (d := d) (r0 := r0) (r1 := r1) (x3 := x3) (x4 := x2)  h0 h1 J k )

-- ProofBench$Row.copy(LProofBench$Row;)V
theorem pg_95_0 {d : Nat} {r0 : Nat} {r1 : Nat} {s : ps_S} {Q : Option Value → ps_S → Prop} (h :
  ps_nk (ps_is r0 5) (ps_Cl d 91 [.ref r0] s (ps_rV (fun s1 =>
    ps_nk (ps_is r1 5) (ps_nk (ps_is r0 5) (ps_Cl d 94 [.ref r0, .ref r1, .int 0, .int (ps_i s1 r1 1)] s1 (ps_rV (fun s2 =>
      Q none s2)))))))) : ps_At (d + 1) 95 0 [(0, .ref r0), (1, .ref r1)] [] s Q :=
  ps_wp_at (stops := []) (n := 11) h rfl

theorem xs_95 {m s : ps_S} {t : Int32} {d : Nat} {r0 : Nat} {r1 : Nat} {f : ps_S → Prop} (h0 : ps_is r0 5 = true) (h1 : ps_is r1 5 = true) (J : xJ m t s) (k : ∀ (s' : ps_S), xJ m t s' → f s') : ps_Cl (d + 2) 95 [.ref r0, .ref r1] s (ps_rV f) :=
  pg_95_0 (d := d + 1) (ps_nk_i h0 (xs_91 h0 J (fun s1 J1 => (ps_nk_i h1 (ps_nk_i h0 (xs_94 h0 h1 J1 (fun s2 J2 => (k s2 J2))))))))

-- ProofBench$Step.addAssumed(I)V
theorem pg_123_0 {d : Nat} {r0 : Nat} {x1 : Int32} {s : ps_S} {Q : Option Value → ps_S → Prop} (h :
  ps_nk (ps_is r0 8) (((ps_i s r0 8) < 0 →
    ps_nk (ps_is r0 8) (Q none (ps_ui s r0 9 1))) ∧
  (0 ≤ (ps_i s r0 8) →
    ps_nk (ps_is r0 8) (ps_nk (ps_is r0 8) (ps_nk (Nat.beq (ps_K (ps_c0 r0 7)).1 0) (((nI (ps_ln (ps_c0 r0 7))) ≤ (ps_i s r0 8) →
      ps_nk (ps_is r0 8) (Q none (ps_ui s r0 9 1))) ∧
    ((ps_i s r0 8) < (nI (ps_ln (ps_c0 r0 7))) →
      ps_nk (ps_is r0 8) (ps_nk (ps_is r0 8) (ps_nk (ps_ar (ps_c0 r0 7) 0) (ps_nd (pm_in (ps_i s r0 8) (ps_ln (ps_c0 r0 7))) (ps_nk (ps_is r0 8) (ps_nk (ps_is r0 8) (Q none (ps_ui (ps_ua s (ps_c0 r0 7) (Int32.toNatClampNeg (ps_i s r0 8)) x1) r0 8 ((ps_i (ps_ua s (ps_c0 r0 7) (Int32.toNatClampNeg (ps_i s r0 8)) x1) r0 8) + 1))))))))))))))) : ps_At d 123 0 [(0, .ref r0), (1, .int x1)] [] s Q :=
  ps_wp_at (stops := []) (n := 33) h rfl

theorem xs_123 {m s : ps_S} {t : Int32} {d : Nat} {r0 : Nat} {x1 : Int32} {f : ps_S → Prop} (h0 : ps_is r0 8 = true) (J : xJ m t s) (k : ∀ (s' : ps_S), xJ m t s' → f s') : ps_Cl d 123 [.ref r0, .int x1] s (ps_rV f) :=
  pg_123_0 (ps_nk_i h0 (And.intro (fun f1 => (ps_nk_i h0 (k (ps_ui s r0 9 1) (xw_i (c := 8) (by decide) h0 J)))) (fun f1 => (ps_nk_i h0 (ps_nk_i h0 (ps_nk_i (xn_l ((xk_8_7 h0)).1) (And.intro (fun f2 => (ps_nk_i h0 (k (ps_ui s r0 9 1) (xw_i (c := 8) (by decide) h0 J)))) (fun f2 => (ps_nk_i h0 (ps_nk_i h0 (ps_nk_i (xn_0 ((xk_8_7 h0)).1) (ps_nd_i (xg_in f1 f2) (ps_nk_i h0 (ps_nk_i h0 (k (ps_ui (ps_ua s (ps_c0 r0 7) (Int32.toNatClampNeg (ps_i s r0 8)) x1) r0 8 ((ps_i (ps_ua s (ps_c0 r0 7) (Int32.toNatClampNeg (ps_i s r0 8)) x1) r0 8) + 1)) (xw_i (c := 8) (by decide) h0 (xw_a (((xk_8_7 h0)).2) J)))))))))))))))))

-- ProofBench$Shelf.rowAt(I)LProofBench$Row;
theorem pg_110_0 {d : Nat} {r0 : Nat} {x1 : Int32} {s : ps_S} {Q : Option Value → ps_S → Prop} (h :
  (x1 < 0 →
    ps_nk (ps_is r0 7) (Q (some (.ref (ps_c0 r0 1))) s)) ∧
  (0 ≤ x1 →
    ps_nk (ps_is r0 7) (ps_nk (Nat.beq (ps_K (ps_c0 r0 0)).1 0) (((nI (ps_ln (ps_c0 r0 0))) ≤ x1 →
      ps_nk (ps_is r0 7) (Q (some (.ref (ps_c0 r0 1))) s)) ∧
    (x1 < (nI (ps_ln (ps_c0 r0 0))) →
      ps_nk (ps_is r0 7) (ps_nk (ps_ar (ps_c0 r0 0) 4 || ps_ar (ps_c0 r0 0) 5 || ps_ar (ps_c0 r0 0) 6 || ps_ar (ps_c0 r0 0) 7) (ps_nd (pm_in x1 (ps_ln (ps_c0 r0 0))) (Q (some (.ref (ps_e0 (ps_c0 r0 0) (Int32.toNatClampNeg x1)))) s)))))))) : ps_At d 110 0 [(0, .ref r0), (1, .int x1)] [] s Q :=
  ps_wp_at (stops := []) (n := 21) h rfl

theorem xs_110 {m s : ps_S} {t : Int32} {d : Nat} {r0 : Nat} {x1 : Int32} {f : Nat → ps_S → Prop} (h0 : ps_is r0 7 = true) (J : xJ m t s) (k : ∀ (v : Nat), ps_is v 5 = true → f v s) : ps_Cl d 110 [.ref r0, .int x1] s (ps_rA f) :=
  pg_110_0 (And.intro (fun f1 => (ps_nk_i h0 (k (ps_c0 r0 1) ((xk_7_1 h0))))) (fun f1 => (ps_nk_i h0 (ps_nk_i (xn_l ((xk_7_0 h0)).1) (And.intro (fun f2 => (ps_nk_i h0 (k (ps_c0 r0 1) ((xk_7_1 h0))))) (fun f2 => (ps_nk_i h0 (ps_nk_i (xn_4 ((xk_7_0 h0)).1) (ps_nd_i (xg_in f1 f2) (k (ps_e0 (ps_c0 r0 0) (Int32.toNatClampNeg x1)) ((xe_4 ((xk_7_0 h0)).1 (xg_in f1 f2)))))))))))))

-- ProofBench$Row.join(ILProofBench$Row;LProofBench$Row;)V
theorem pg_97_0 {d : Nat} {r0 : Nat} {x1 : Int32} {r2 : Nat} {r3 : Nat} {s : ps_S} {Q : Option Value → ps_S → Prop} (h :
  ps_nk (ps_is r0 5) (ps_Cl d 91 [.ref r0] s (ps_rV (fun s1 =>
    ps_nk (ps_is r0 5) (ps_Cl d 93 [.ref r0, .int x1] s1 (ps_rV (fun s2 =>
      ps_nk (ps_is r2 5) (ps_nk (ps_is r0 5) (ps_Cl d 94 [.ref r0, .ref r2, .int 0, .int (ps_i s2 r2 1)] s2 (ps_rV (fun s3 =>
        ps_nk (ps_is r3 5) (ps_nk (ps_is r0 5) (ps_Cl d 94 [.ref r0, .ref r3, .int 0, .int (ps_i s3 r3 1)] s3 (ps_rV (fun s4 =>
          Q none s4))))))))))))))) : ps_At (d + 1) 97 0 [(0, .ref r0), (1, .int x1), (2, .ref r2), (3, .ref r3)] [] s Q :=
  ps_wp_at (stops := []) (n := 20) h rfl

theorem xs_97 {m s : ps_S} {t : Int32} {d : Nat} {r0 : Nat} {x1 : Int32} {r2 : Nat} {r3 : Nat} {f : ps_S → Prop} (h0 : ps_is r0 5 = true) (h2 : ps_is r2 5 = true) (h3 : ps_is r3 5 = true) (J : xJ m t s) (k : ∀ (s' : ps_S), xJ m t s' → f s') : ps_Cl (d + 2) 97 [.ref r0, .int x1, .ref r2, .ref r3] s (ps_rV f) :=
  pg_97_0 (d := d + 1) (ps_nk_i h0 (xs_91 h0 J (fun s1 J1 => (ps_nk_i h0 (xs_93 h0 J1 (fun s2 J2 => (ps_nk_i h2 (ps_nk_i h0 (xs_94 h0 h2 J2 (fun s3 J3 => (ps_nk_i h3 (ps_nk_i h0 (xs_94 h0 h3 J3 (fun s4 J4 => (k s4 J4)))))))))))))))

-- ProofBench$Proof.makeAlone(LProofBench$Step;ILProofBench$Shelf;)I
theorem pg_43_0 {d : Nat} {r0 : Nat} {r1 : Nat} {x2 : Int32} {r3 : Nat} {s : ps_S} {Q : Option Value → ps_S → Prop} (h :
  ps_nk (ps_is r1 8) (((ps_i s r1 0) = 10 →
    ps_nk (ps_is r1 8) (ps_nk (ps_is r0 2) (ps_nk (ps_is r1 8) (ps_nk (ps_is (ps_r s r0 6) 9) (ps_Cl d 135 [.ref (ps_r s r0 6), .int (ps_i s r1 2)] s (ps_rA (fun v1 s1 =>
      ps_nk (ps_is (ps_c0 r1 6) 5) (ps_Cl d 95 [.ref (ps_c0 r1 6), .ref v1] s1 (ps_rV (fun s2 =>
        ps_nk (ps_is r1 8) (ps_nk (ps_is r1 8) (Q (some (.int 0)) (ps_ui s2 r1 10 ((1 : Int32) <<< ((ps_i s2 r1 2) &&& 31))))))))))))))) ∧
  ((ps_i s r1 0) ≠ 10 →
    ((ps_i s r1 0) = 11 →
    ps_nk (ps_is r1 8) (ps_nk (ps_is r1 8) (ps_nk (ps_is (ps_c0 r1 6) 5) (ps_Cl d 95 [.ref (ps_c0 r1 6), .ref (ps_c0 r1 5)] s (ps_rV (fun s3 =>
      ps_nk (ps_is r1 8) (ps_Cl d 123 [.ref r1, .int x2] s3 (ps_rV (fun s4 =>
        Q (some (.int 0)) s4))))))))) ∧
  ((ps_i s r1 0) ≠ 11 →
    ((ps_i s r1 0) = 12 →
    ps_nk (ps_is r1 8) (ps_nk (ps_is r1 8) (ps_Cl d 121 [.ref r1, .int 0] s (ps_rI (fun v5 s5 =>
      ps_nk (ps_is r3 7) (ps_Cl d 110 [.ref r3, .int v5] s5 (ps_rA (fun v6 s6 =>
        ps_nk (ps_is (ps_c0 r1 6) 5) (ps_Cl d 95 [.ref (ps_c0 r1 6), .ref v6] s6 (ps_rV (fun s7 =>
          ps_nk (ps_is r1 8) (ps_Cl d 121 [.ref r1, .int 0] s7 (ps_rI (fun v8 s8 =>
            ps_nk (ps_is r1 8) (Q (some (.int 0)) (ps_ui s8 r1 11 ((1 : Int32) <<< (v8 &&& 31)))))))))))))))))) ∧
  ((ps_i s r1 0) ≠ 12 →
    ps_nk (ps_is r1 8) (ps_nk (ps_is r1 8) (ps_nk (ps_is r1 8) (ps_nk (ps_is (ps_c0 r1 6) 5) (ps_Cl d 97 [.ref (ps_c0 r1 6), .int 6, .ref (ps_c0 r1 4), .ref (ps_c0 r1 4)] s (ps_rV (fun s9 =>
    Q (some (.int 0)) s9))))))))))) : ps_At (d + 1) 43 0 [(0, .ref r0), (1, .ref r1), (2, .int x2), (3, .ref r3)] [] s Q :=
  ps_wp_at (stops := []) (n := 61) h rfl

theorem xs_43 {m s : ps_S} {t : Int32} {d : Nat} {r0 : Nat} {r1 : Nat} {x2 : Int32} {r3 : Nat} {f : Int32 → ps_S → Prop} (h0 : ps_is r0 2 = true) (h1 : ps_is r1 8 = true) (h3 : ps_is r3 7 = true) (J : xJ m t s) (k : ∀ (v : Int32) (s' : ps_S), xJ m t s' → f v s') : ps_Cl (d + 3) 43 [.ref r0, .ref r1, .int x2, .ref r3] s (ps_rI f) :=
  pg_43_0 (d := d + 2) (ps_nk_i h1 (And.intro (fun f1 => (ps_nk_i h1 (ps_nk_i h0 (ps_nk_i h1 (ps_nk_i (xj_2_6 J h0) (xs_135 (xj_2_6 J h0) J (fun v1 g1 => (ps_nk_i (xk_8_6 h1) (xs_95 (xk_8_6 h1) g1 J (fun s2 J2 => (ps_nk_i h1 (ps_nk_i h1 (k 0 (ps_ui s2 r1 10 ((1 : Int32) <<< ((ps_i s2 r1 2) &&& 31))) (xw_i (c := 8) (by decide) h1 J2)))))))))))))) (fun f1 => (And.intro (fun f2 => (ps_nk_i h1 (ps_nk_i h1 (ps_nk_i (xk_8_6 h1) (xs_95 (xk_8_6 h1) (xk_8_5 h1) J (fun s3 J3 => (ps_nk_i h1 (xs_123 h1 J3 (fun s4 J4 => (k 0 s4 J4)))))))))) (fun f2 => (And.intro (fun f3 => (ps_nk_i h1 (ps_nk_i h1 (xs_121 h1 J (fun v5 => (ps_nk_i h3 (xs_110 h3 J (fun v6 g6 => (ps_nk_i (xk_8_6 h1) (xs_95 (xk_8_6 h1) g6 J (fun s7 J7 => (ps_nk_i h1 (xs_121 h1 J7 (fun v8 => (ps_nk_i h1 (k 0 (ps_ui s7 r1 11 ((1 : Int32) <<< (v8 &&& 31))) (xw_i (c := 8) (by decide) h1 J7))))))))))))))))) (fun f3 => (ps_nk_i h1 (ps_nk_i h1 (ps_nk_i h1 (ps_nk_i (xk_8_6 h1) (xs_97 (xk_8_6 h1) (xk_8_4 h1) (xk_8_4 h1) J (fun s9 J9 => (k 0 s9 J9))))))))))))))

-- ProofBench$Proof.joinParts(LProofBench$Step;LProofBench$Row;)I
theorem pg_44_0 {d : Nat} {r0 : Nat} {r1 : Nat} {r2 : Nat} {s : ps_S} {Q : Option Value → ps_S → Prop} (h :
  ps_nk (ps_is r1 8) (((ps_i s r1 0) = 13 →
    ps_nk (ps_is r1 8) (ps_nk (ps_is r0 2) (ps_Cl d 37 [.ref r0, .ref r1, .int 1] s (ps_rA (fun v1 s1 =>
      ps_nk (ps_is v1 8) (ps_nk (ps_is (ps_c0 r1 6) 5) (ps_Cl d 97 [.ref (ps_c0 r1 6), .int 1, .ref r2, .ref (ps_c0 v1 6)] s1 (ps_rV (fun s2 =>
        Q (some (.int 0)) s2))))))))) ∧
  ((ps_i s r1 0) ≠ 13 →
    ((ps_i s r1 0) = 14 →
    ps_nk (ps_is r1 8) (ps_nk (ps_is r1 8) (ps_nk (ps_is (ps_c0 r1 6) 5) (ps_Cl d 97 [.ref (ps_c0 r1 6), .int 3, .ref (ps_c0 r1 5), .ref r2] s (ps_rV (fun s3 =>
      ps_nk (ps_is r0 2) (ps_Cl d 38 [.ref r0, .int 0] s3 (ps_rA (fun v4 s4 =>
        ps_nk (ps_is r1 8) (ps_nk (ps_is v4 5) (ps_Cl d 95 [.ref v4, .ref (ps_c0 r1 5)] s4 (ps_rV (fun s5 =>
          Q (some (.int 0)) s5))))))))))))) ∧
  ((ps_i s r1 0) ≠ 14 →
    ((ps_i s r1 0) = 15 →
    ps_nk (ps_is r1 8) (ps_nk (ps_is r1 8) (ps_nk (ps_is (ps_c0 r1 6) 5) (ps_Cl d 97 [.ref (ps_c0 r1 6), .int 3, .ref (ps_c0 r1 5), .ref r2] s (ps_rV (fun s6 =>
      ps_nk (ps_is r0 2) (ps_Cl d 38 [.ref r0, .int 0] s6 (ps_rA (fun v7 s7 =>
        ps_nk (ps_is r1 8) (ps_nk (ps_is v7 5) (ps_Cl d 95 [.ref v7, .ref (ps_c0 r1 5)] s7 (ps_rV (fun s8 =>
          Q (some (.int 0)) s8))))))))))))) ∧
  ((ps_i s r1 0) ≠ 15 →
    ((ps_i s r1 0) = 16 →
    ps_nk (ps_is r1 8) (ps_nk (ps_is r1 8) (ps_nk (ps_is (ps_c0 r1 6) 5) (ps_Cl d 97 [.ref (ps_c0 r1 6), .int 2, .ref r2, .ref (ps_c0 r1 5)] s (ps_rV (fun s9 =>
      Q (some (.int 0)) s9)))))) ∧
  ((ps_i s r1 0) ≠ 16 →
    ((ps_i s r1 0) = 17 →
    ps_nk (ps_is r1 8) (ps_nk (ps_is r1 8) (ps_nk (ps_is (ps_c0 r1 6) 5) (ps_Cl d 97 [.ref (ps_c0 r1 6), .int 2, .ref (ps_c0 r1 5), .ref r2] s (ps_rV (fun s10 =>
      Q (some (.int 0)) s10)))))) ∧
  ((ps_i s r1 0) ≠ 17 →
    ps_nk (ps_is r1 8) (ps_nk (ps_is r1 8) (ps_nk (ps_is (ps_c0 r1 6) 5) (ps_Cl d 97 [.ref (ps_c0 r1 6), .int 3, .ref (ps_c0 r1 5), .ref r2] s (ps_rV (fun s11 =>
    ps_nk (ps_is r0 2) (ps_Cl d 38 [.ref r0, .int 0] s11 (ps_rA (fun v12 s12 =>
      ps_nk (ps_is r1 8) (ps_nk (ps_is v12 5) (ps_Cl d 95 [.ref v12, .ref (ps_c0 r1 5)] s12 (ps_rV (fun s13 =>
        Q (some (.int 0)) s13))))))))))))))))))) : ps_At (d + 1) 44 0 [(0, .ref r0), (1, .ref r1), (2, .ref r2)] [] s Q :=
  ps_wp_at (stops := []) (n := 83) h rfl

theorem xs_44 {m s : ps_S} {t : Int32} {d : Nat} {r0 : Nat} {r1 : Nat} {r2 : Nat} {f : Int32 → ps_S → Prop} (h0 : ps_is r0 2 = true) (h1 : ps_is r1 8 = true) (h2 : ps_is r2 5 = true) (J : xJ m t s) (k : ∀ (v : Int32) (s' : ps_S), xJ m t s' → f v s') : ps_Cl (d + 3) 44 [.ref r0, .ref r1, .ref r2] s (ps_rI f) :=
  pg_44_0 (d := d + 2) (ps_nk_i h1 (And.intro (fun f1 => (ps_nk_i h1 (ps_nk_i h0 (xs_37 h0 h1 J (fun v1 g1 => (ps_nk_i g1 (ps_nk_i (xk_8_6 h1) (xs_97 (xk_8_6 h1) h2 (xk_8_6 g1) J (fun s2 J2 => (k 0 s2 J2)))))))))) (fun f1 => (And.intro (fun f2 => (ps_nk_i h1 (ps_nk_i h1 (ps_nk_i (xk_8_6 h1) (xs_97 (xk_8_6 h1) (xk_8_5 h1) h2 J (fun s3 J3 => (ps_nk_i h0 (xs_38 h0 J3 (fun v4 g4 => (ps_nk_i h1 (ps_nk_i g4 (xs_95 g4 (xk_8_5 h1) J3 (fun s5 J5 => (k 0 s5 J5)))))))))))))) (fun f2 => (And.intro (fun f3 => (ps_nk_i h1 (ps_nk_i h1 (ps_nk_i (xk_8_6 h1) (xs_97 (xk_8_6 h1) (xk_8_5 h1) h2 J (fun s6 J6 => (ps_nk_i h0 (xs_38 h0 J6 (fun v7 g7 => (ps_nk_i h1 (ps_nk_i g7 (xs_95 g7 (xk_8_5 h1) J6 (fun s8 J8 => (k 0 s8 J8)))))))))))))) (fun f3 => (And.intro (fun f4 => (ps_nk_i h1 (ps_nk_i h1 (ps_nk_i (xk_8_6 h1) (xs_97 (xk_8_6 h1) h2 (xk_8_5 h1) J (fun s9 J9 => (k 0 s9 J9))))))) (fun f4 => (And.intro (fun f5 => (ps_nk_i h1 (ps_nk_i h1 (ps_nk_i (xk_8_6 h1) (xs_97 (xk_8_6 h1) (xk_8_5 h1) h2 J (fun s10 J10 => (k 0 s10 J10))))))) (fun f5 => (ps_nk_i h1 (ps_nk_i h1 (ps_nk_i (xk_8_6 h1) (xs_97 (xk_8_6 h1) (xk_8_5 h1) h2 J (fun s11 J11 => (ps_nk_i h0 (xs_38 h0 J11 (fun v12 g12 => (ps_nk_i h1 (ps_nk_i g12 (xs_95 g12 (xk_8_5 h1) J11 (fun s13 J13 => (k 0 s13 J13))))))))))))))))))))))))

-- ProofBench$Row.copyPart(LProofBench$Row;II)V
theorem pg_96_0 {d : Nat} {r0 : Nat} {r1 : Nat} {x2 : Int32} {x3 : Int32} {s : ps_S} {Q : Option Value → ps_S → Prop} (h :
  ps_nk (ps_is r0 5) (ps_Cl d 91 [.ref r0] s (ps_rV (fun s1 =>
    ps_nk (ps_is r0 5) (ps_Cl d 94 [.ref r0, .ref r1, .int x2, .int x3] s1 (ps_rV (fun s2 =>
      Q none s2))))))) : ps_At (d + 1) 96 0 [(0, .ref r0), (1, .ref r1), (2, .int x2), (3, .int x3)] [] s Q :=
  ps_wp_at (stops := []) (n := 10) h rfl

theorem xs_96 {m s : ps_S} {t : Int32} {d : Nat} {r0 : Nat} {r1 : Nat} {x2 : Int32} {x3 : Int32} {f : ps_S → Prop} (h0 : ps_is r0 5 = true) (h1 : ps_is r1 5 = true) (J : xJ m t s) (k : ∀ (s' : ps_S), xJ m t s' → f s') : ps_Cl (d + 2) 96 [.ref r0, .ref r1, .int x2, .int x3] s (ps_rV f) :=
  pg_96_0 (d := d + 1) (ps_nk_i h0 (xs_91 h0 J (fun s1 J1 => (ps_nk_i h0 (xs_94 h0 h1 J1 (fun s2 J2 => (k s2 J2)))))))

-- ProofBench$Proof.takeHalf(LProofBench$Step;LProofBench$Row;)I
theorem pg_45_0 {d : Nat} {r0 : Nat} {r1 : Nat} {r2 : Nat} {s : ps_S} {Q : Option Value → ps_S → Prop} (h :
  ps_nk (ps_is r2 5) (ps_Cl d 92 [.ref r2, .int 0] s (ps_rI (fun v1 s1 =>
    (v1 = 1 →
      ps_nk (ps_is r0 2) (ps_nk (ps_is r0 2) (ps_nk (ps_is (ps_c0 r0 5) 6) (ps_Cl d 103 [.ref (ps_c0 r0 5), .ref r2, .ref (ps_r s1 r0 6)] s1 (ps_rV (fun s2 =>
        ps_nk (ps_is r0 2) (ps_nk (ps_is (ps_c0 r0 5) 6) (ps_Cl d 104 [.ref (ps_c0 r0 5), .int 1] s2 (ps_rI (fun v3 s3 =>
          ps_nk (ps_is r1 8) (((ps_i s3 r1 0) ≠ 14 →
            ps_nk (ps_is r1 8) (ps_nk (ps_is r2 5) (ps_nk (ps_is (ps_c0 r1 6) 5) (ps_Cl d 96 [.ref (ps_c0 r1 6), .ref r2, .int v3, .int (ps_i s3 r2 1)] s3 (ps_rV (fun s4 =>
              Q (some (.int 0)) s4)))))) ∧
          ((ps_i s3 r1 0) = 14 →
            ps_nk (ps_is r1 8) (ps_nk (ps_is (ps_c0 r1 6) 5) (ps_Cl d 96 [.ref (ps_c0 r1 6), .ref r2, .int 1, .int v3] s3 (ps_rV (fun s5 =>
              Q (some (.int 0)) s5)))))))))))))))) ∧
    (v1 ≠ 1 →
      Q (some (.int 2)) s1))))) : ps_At (d + 1) 45 0 [(0, .ref r0), (1, .ref r1), (2, .ref r2)] [] s Q :=
  ps_wp_at (stops := []) (n := 42) h rfl

theorem xs_45 {m s : ps_S} {t : Int32} {d : Nat} {r0 : Nat} {r1 : Nat} {r2 : Nat} {f : Int32 → ps_S → Prop} (h0 : ps_is r0 2 = true) (h1 : ps_is r1 8 = true) (h2 : ps_is r2 5 = true) (J : xJ m t s) (k : ∀ (v : Int32) (s' : ps_S), xJ m t s' → f v s') : ps_Cl (d + 3) 45 [.ref r0, .ref r1, .ref r2] s (ps_rI f) :=
  pg_45_0 (d := d + 2) (ps_nk_i h2 (xs_92 h2 J (fun v1 => (And.intro (fun f1 => (ps_nk_i h0 (ps_nk_i h0 (ps_nk_i (xk_2_5 h0) (xs_103 (xk_2_5 h0) h2 (xj_2_6 J h0) J (fun s2 J2 => (ps_nk_i h0 (ps_nk_i (xk_2_5 h0) (xs_104 (xk_2_5 h0) J2 (fun v3 => (ps_nk_i h1 (And.intro (fun f2 => (ps_nk_i h1 (ps_nk_i h2 (ps_nk_i (xk_8_6 h1) (xs_96 (xk_8_6 h1) h2 J2 (fun s4 J4 => (k 0 s4 J4))))))) (fun f2 => (ps_nk_i h1 (ps_nk_i (xk_8_6 h1) (xs_96 (xk_8_6 h1) h2 J2 (fun s5 J5 => (k 0 s5 J5)))))))))))))))))) (fun f1 => (k 2 s J))))))

-- ProofBench$Row.isLike(LProofBench$Row;)Z
theorem pg_98_0 {d : Nat} {r0 : Nat} {r1 : Nat} {s : ps_S} {Q : Option Value → ps_S → Prop} (h :
  ps_nk (ps_is r0 5) (((ps_i s r0 2) ≠ 0 →
    Q (some (.int 0)) s) ∧
  ((ps_i s r0 2) = 0 →
    ps_nk (ps_is r1 5) (((ps_i s r1 2) ≠ 0 →
      Q (some (.int 0)) s) ∧
    ((ps_i s r1 2) = 0 →
      ps_nk (ps_is r0 5) (ps_nk (ps_is r1 5) (((ps_i s r0 1) = (ps_i s r1 1) →
        ps_At (d + 1) 98 29 [(0, .ref r0), (1, .ref r1), (2, .int 0)] [] s Q) ∧
      ((ps_i s r0 1) ≠ (ps_i s r1 1) →
        Q (some (.int 0)) s)))))))) : ps_At (d + 1) 98 0 [(0, .ref r0), (1, .ref r1)] [] s Q :=
  ps_wp_at (stops := [(29, [0, 1, 2])]) (n := 21) h rfl

theorem pg_98_29 {d : Nat} {r0 : Nat} {r1 : Nat} {x2 : Int32} {s : ps_S} {Q : Option Value → ps_S → Prop} (h :
  ps_nk (ps_is r0 5) (((ps_i s r0 1) ≤ x2 →
    Q (some (.int 1)) s) ∧
  (x2 < (ps_i s r0 1) →
    ps_nk (ps_is r0 5) (ps_Cl d 92 [.ref r0, .int x2] s (ps_rI (fun v1 s1 =>
      ps_nk (ps_is r1 5) (ps_Cl d 92 [.ref r1, .int x2] s1 (ps_rI (fun v2 s2 =>
        (v1 = v2 →
          ps_At (d + 1) 98 29 [(0, .ref r0), (1, .ref r1), (2, .int (x2 + 1))] [] s2 Q) ∧
        (v1 ≠ v2 →
          Q (some (.int 0)) s2)))))))))) : ps_At (d + 1) 98 29 [(0, .ref r0), (1, .ref r1), (2, .int x2)] [] s Q :=
  ps_wp_at (stops := [(29, [0, 1, 2])]) (n := 19) h rfl

theorem xs_98_29 {m s : ps_S} {t : Int32} {d : Nat} {r0 : Nat} {r1 : Nat} {x2 : Int32} {Q : Option Value → ps_S → Prop} (h0 : ps_is r0 5 = true) (h1 : ps_is r1 5 = true) (J : xJ m t s) (k : ∀ (v : Int32), v &&& 1 = v → Q (some (.int v)) s) : ps_At (d + 1) 98 29 [(0, .ref r0), (1, .ref r1), (2, .int x2)] [] s Q :=
  xs_up (P := fun x2 => ps_is r0 5 = true → ps_is r1 5 = true → ps_At (d + 1) 98 29 [(0, .ref r0), (1, .ref r1), (2, .int x2)] [] s Q) (fun x2 ih h0 h1 => pg_98_29 (d := d) (ps_nk_i h0 (And.intro (fun f1 => (k 1 (by decide))) (fun f1 => (ps_nk_i h0 (xs_92 h0 J (fun v1 => (ps_nk_i h1 (xs_92 h1 J (fun v2 => (And.intro (fun f2 => (ih ((x2 + 1)) (xs_lt f1) h0 h1)) (fun f2 => (k 0 (by decide)))))))))))))) x2 h0 h1

theorem xs_98 {m s : ps_S} {t : Int32} {d : Nat} {r0 : Nat} {r1 : Nat} {f : Int32 → ps_S → Prop} (h0 : ps_is r0 5 = true) (h1 : ps_is r1 5 = true) (J : xJ m t s) (k : ∀ (v : Int32), v &&& 1 = v → f v s) : ps_Cl (d + 1) 98 [.ref r0, .ref r1] s (ps_rI f) :=
  pg_98_0 (d := d) (ps_nk_i h0 (And.intro (fun f1 => (k 0 (by decide))) (fun f1 => (ps_nk_i h1 (And.intro (fun f2 => (k 0 (by decide))) (fun f2 => (ps_nk_i h0 (ps_nk_i h1 (And.intro (fun f3 => (xs_98_29 (d := d) (r0 := r0) (r1 := r1) (x2 := 0)  h0 h1 J k )) (fun f3 => (k 0 (by decide))))))))))))

-- ProofBench$Proof.takeCases(LProofBench$Step;LProofBench$Row;)I
theorem pg_46_0 {d : Nat} {r0 : Nat} {r1 : Nat} {r2 : Nat} {s : ps_S} {Q : Option Value → ps_S → Prop} (h :
  ps_nk (ps_is r0 2) (ps_Cl d 37 [.ref r0, .ref r1, .int 1] s (ps_rA (fun v1 s1 =>
    ps_nk (ps_is v1 8) (ps_nk (ps_is r2 5) (ps_Cl d 92 [.ref r2, .int 0] s1 (ps_rI (fun v2 s2 =>
      (v2 ≠ 2 →
        Q (some (.int 2)) s2) ∧
      (v2 = 2 →
        ps_nk (ps_is r0 2) (ps_Cl d 37 [.ref r0, .ref r1, .int 2] s2 (ps_rA (fun v3 s3 =>
          ps_nk (ps_is v3 8) (ps_nk (ps_is (ps_c0 v1 6) 5) (ps_Cl d 98 [.ref (ps_c0 v1 6), .ref (ps_c0 v3 6)] s3 (ps_rI (fun v4 s4 =>
            (v4 ≠ 0 →
              ps_nk (ps_is r0 2) (ps_nk (ps_is r0 2) (ps_nk (ps_is (ps_c0 r0 5) 6) (ps_Cl d 103 [.ref (ps_c0 r0 5), .ref r2, .ref (ps_r s4 r0 6)] s4 (ps_rV (fun s5 =>
                ps_nk (ps_is r0 2) (ps_nk (ps_is (ps_c0 r0 5) 6) (ps_Cl d 104 [.ref (ps_c0 r0 5), .int 1] s5 (ps_rI (fun v6 s6 =>
                  ps_nk (ps_is r0 2) (ps_Cl d 38 [.ref r0, .int 1] s6 (ps_rA (fun v7 s7 =>
                    ps_nk (ps_is v7 5) (ps_Cl d 96 [.ref v7, .ref r2, .int 1, .int v6] s7 (ps_rV (fun s8 =>
                      ps_nk (ps_is r0 2) (ps_Cl d 38 [.ref r0, .int 2] s8 (ps_rA (fun v9 s9 =>
                        ps_nk (ps_is r2 5) (ps_nk (ps_is v9 5) (ps_Cl d 96 [.ref v9, .ref r2, .int v6, .int (ps_i s9 r2 1)] s9 (ps_rV (fun s10 =>
                          ps_nk (ps_is r1 8) (ps_nk (ps_is (ps_c0 r1 6) 5) (ps_Cl d 95 [.ref (ps_c0 r1 6), .ref (ps_c0 v1 6)] s10 (ps_rV (fun s11 =>
                            Q (some (.int 0)) s11))))))))))))))))))))))))))) ∧
            (v4 = 0 →
              Q (some (.int 2)) s4))))))))))))))))) : ps_At (d + 1) 46 0 [(0, .ref r0), (1, .ref r1), (2, .ref r2)] [] s Q :=
  ps_wp_at (stops := []) (n := 57) h rfl

theorem xs_46 {m s : ps_S} {t : Int32} {d : Nat} {r0 : Nat} {r1 : Nat} {r2 : Nat} {f : Int32 → ps_S → Prop} (h0 : ps_is r0 2 = true) (h1 : ps_is r1 8 = true) (h2 : ps_is r2 5 = true) (J : xJ m t s) (k : ∀ (v : Int32) (s' : ps_S), xJ m t s' → f v s') : ps_Cl (d + 3) 46 [.ref r0, .ref r1, .ref r2] s (ps_rI f) :=
  pg_46_0 (d := d + 2) (ps_nk_i h0 (xs_37 h0 h1 J (fun v1 g1 => (ps_nk_i g1 (ps_nk_i h2 (xs_92 h2 J (fun v2 => (And.intro (fun f1 => (k 2 s J)) (fun f1 => (ps_nk_i h0 (xs_37 h0 h1 J (fun v3 g3 => (ps_nk_i g3 (ps_nk_i (xk_8_6 g1) (xs_98 (xk_8_6 g1) (xk_8_6 g3) J (fun v4 b4 => (And.intro (fun f2 => (ps_nk_i h0 (ps_nk_i h0 (ps_nk_i (xk_2_5 h0) (xs_103 (xk_2_5 h0) h2 (xj_2_6 J h0) J (fun s5 J5 => (ps_nk_i h0 (ps_nk_i (xk_2_5 h0) (xs_104 (xk_2_5 h0) J5 (fun v6 => (ps_nk_i h0 (xs_38 h0 J5 (fun v7 g7 => (ps_nk_i g7 (xs_96 g7 h2 J5 (fun s8 J8 => (ps_nk_i h0 (xs_38 h0 J8 (fun v9 g9 => (ps_nk_i h2 (ps_nk_i g9 (xs_96 g9 h2 J8 (fun s10 J10 => (ps_nk_i h1 (ps_nk_i (xk_8_6 h1) (xs_95 (xk_8_6 h1) (xk_8_6 g1) J10 (fun s11 J11 => (k 0 s11 J11)))))))))))))))))))))))))))) (fun f2 => (k 2 s J)))))))))))))))))))

-- ProofBench$Proof.apply(LProofBench$Step;LProofBench$Row;LProofBench$Row;)I
theorem pg_47_0 {d : Nat} {r0 : Nat} {r1 : Nat} {r2 : Nat} {r3 : Nat} {s : ps_S} {Q : Option Value → ps_S → Prop} (h :
  ps_nk (ps_is r0 2) (ps_nk (ps_is r0 2) (ps_nk (ps_is (ps_c0 r0 5) 6) (ps_Cl d 103 [.ref (ps_c0 r0 5), .ref r2, .ref (ps_r s r0 6)] s (ps_rV (fun s1 =>
    ps_nk (ps_is r0 2) (ps_nk (ps_is (ps_c0 r0 5) 6) (ps_Cl d 104 [.ref (ps_c0 r0 5), .int 1] s1 (ps_rI (fun v2 s2 =>
      ps_nk (ps_is r2 5) (ps_Cl d 92 [.ref r2, .int 0] s2 (ps_rI (fun v3 s3 =>
        (v3 ≠ 3 →
          Q (some (.int 2)) s3) ∧
        (v3 = 3 →
          ps_nk (ps_is r3 5) (((v2 - 1) ≠ (ps_i s3 r3 1) →
            Q (some (.int 2)) s3) ∧
          ((v2 - 1) = (ps_i s3 r3 1) →
            ps_nk (ps_is r2 5) (ps_Cl d 99 [.ref r2, .int 1, .int v2, .ref r3, .int 0] s3 (ps_rI (fun v4 s4 =>
              (v4 ≠ 0 →
                ps_nk (ps_is r1 8) (ps_nk (ps_is r2 5) (ps_nk (ps_is (ps_c0 r1 6) 5) (ps_Cl d 96 [.ref (ps_c0 r1 6), .ref r2, .int v2, .int (ps_i s4 r2 1)] s4 (ps_rV (fun s5 =>
                  Q (some (.int 0)) s5)))))) ∧
              (v4 = 0 →
                Q (some (.int 2)) s4)))))))))))))))))))) : ps_At (d + 1) 47 0 [(0, .ref r0), (1, .ref r1), (2, .ref r2), (3, .ref r3)] [] s Q :=
  ps_wp_at (stops := []) (n := 46) h rfl

theorem xs_47 {m s : ps_S} {t : Int32} {d : Nat} {r0 : Nat} {r1 : Nat} {r2 : Nat} {r3 : Nat} {f : Int32 → ps_S → Prop} (h0 : ps_is r0 2 = true) (h1 : ps_is r1 8 = true) (h2 : ps_is r2 5 = true) (h3 : ps_is r3 5 = true) (J : xJ m t s) (k : ∀ (v : Int32) (s' : ps_S), xJ m t s' → f v s') : ps_Cl (d + 3) 47 [.ref r0, .ref r1, .ref r2, .ref r3] s (ps_rI f) :=
  pg_47_0 (d := d + 2) (ps_nk_i h0 (ps_nk_i h0 (ps_nk_i (xk_2_5 h0) (xs_103 (xk_2_5 h0) h2 (xj_2_6 J h0) J (fun s1 J1 => (ps_nk_i h0 (ps_nk_i (xk_2_5 h0) (xs_104 (xk_2_5 h0) J1 (fun v2 => (ps_nk_i h2 (xs_92 h2 J1 (fun v3 => (And.intro (fun f1 => (k 2 s1 J1)) (fun f1 => (ps_nk_i h3 (And.intro (fun f2 => (k 2 s1 J1)) (fun f2 => (ps_nk_i h2 (xs_99 h2 h3 J1 (fun v4 b4 => (And.intro (fun f3 => (ps_nk_i h1 (ps_nk_i h2 (ps_nk_i (xk_8_6 h1) (xs_96 (xk_8_6 h1) h2 J1 (fun s5 J5 => (k 0 s5 J5))))))) (fun f3 => (k 2 s1 J1)))))))))))))))))))))))

-- ProofBench$Step.assumedAt(I)I
theorem pg_122_0 {d : Nat} {r0 : Nat} {x1 : Int32} {s : ps_S} {Q : Option Value → ps_S → Prop} (h :
  ps_nk (ps_is r0 8) (((ps_i s r0 8) ≤ x1 →
    Q (some (.int (-1))) s) ∧
  (x1 < (ps_i s r0 8) →
    ps_nk (ps_is r0 8) (ps_Cl d 182 [.ref (ps_c0 r0 7), .int x1] s (ps_rI (fun v1 s1 =>
      Q (some (.int v1)) s1)))))) : ps_At (d + 1) 122 0 [(0, .ref r0), (1, .int x1)] [] s Q :=
  ps_wp_at (stops := []) (n := 14) h rfl

theorem xs_122 {m s : ps_S} {t : Int32} {d : Nat} {r0 : Nat} {x1 : Int32} {f : Int32 → ps_S → Prop} (h0 : ps_is r0 8 = true) (J : xJ m t s) (k : ∀ (v : Int32), f v s) : ps_Cl (d + 1) 122 [.ref r0, .int x1] s (ps_rI f) :=
  pg_122_0 (d := d) (ps_nk_i h0 (And.intro (fun f1 => (k (-1))) (fun f1 => (ps_nk_i h0 (xs_182 (xk_8_7 h0) J (fun v1 => (k v1)))))))

-- ProofBench$Proof.isFreeInAssumed(LProofBench$Step;ILProofBench$Row;)Z
theorem pg_51_0 {d : Nat} {r0 : Nat} {r1 : Nat} {x2 : Int32} {r3 : Nat} {s : ps_S} {Q : Option Value → ps_S → Prop} (h :
  ps_At (d + 1) 51 3 [(0, .ref r0), (1, .ref r1), (2, .int x2), (3, .ref r3), (4, .int 0)] [] s Q) : ps_At (d + 1) 51 0 [(0, .ref r0), (1, .ref r1), (2, .int x2), (3, .ref r3)] [] s Q :=
  ps_wp_at (stops := [(3, [0, 1, 2, 3, 4])]) (n := 4) h rfl

theorem pg_51_3 {d : Nat} {r0 : Nat} {r1 : Nat} {x2 : Int32} {r3 : Nat} {x4 : Int32} {s : ps_S} {Q : Option Value → ps_S → Prop} (h :
  ps_nk (ps_is r1 8) (((ps_i s r1 8) ≤ x4 →
    Q (some (.int 0)) s) ∧
  (x4 < (ps_i s r1 8) →
    ps_nk (ps_is r1 8) (ps_Cl d 122 [.ref r1, .int x4] s (ps_rI (fun v1 s1 =>
      ps_nk (ps_is r0 2) (ps_Cl d 33 [.ref r0, .int v1] s1 (ps_rA (fun v2 s2 =>
        ps_nk (ps_is v2 8) (ps_nk (ps_is (ps_c0 v2 6) 5) (ps_Cl d 98 [.ref (ps_c0 v2 6), .ref r3] s2 (ps_rI (fun v3 s3 =>
          (v3 ≠ 0 →
            ps_At (d + 1) 51 3 [(0, .ref r0), (1, .ref r1), (2, .int x2), (3, .ref r3), (4, .int (x4 + 1))] [] s3 Q) ∧
          (v3 = 0 →
            ps_nk (ps_is (ps_c0 v2 6) 5) (ps_Cl d 100 [.ref (ps_c0 v2 6), .int x2] s3 (ps_rI (fun v4 s4 =>
              (v4 = 0 →
                ps_At (d + 1) 51 3 [(0, .ref r0), (1, .ref r1), (2, .int x2), (3, .ref r3), (4, .int (x4 + 1))] [] s4 Q) ∧
              (v4 ≠ 0 →
                Q (some (.int 1)) s4)))))))))))))))))) : ps_At (d + 1) 51 3 [(0, .ref r0), (1, .ref r1), (2, .int x2), (3, .ref r3), (4, .int x4)] [] s Q :=
  ps_wp_at (stops := [(3, [0, 1, 2, 3, 4])]) (n := 29) h rfl

theorem xs_51_3 {m s : ps_S} {t : Int32} {d : Nat} {r0 : Nat} {r1 : Nat} {x2 : Int32} {r3 : Nat} {x4 : Int32} {Q : Option Value → ps_S → Prop} (h0 : ps_is r0 2 = true) (h1 : ps_is r1 8 = true) (h3 : ps_is r3 5 = true) (J : xJ m t s) (k : ∀ (v : Int32), v &&& 1 = v → Q (some (.int v)) s) : ps_At (d + 2) 51 3 [(0, .ref r0), (1, .ref r1), (2, .int x2), (3, .ref r3), (4, .int x4)] [] s Q :=
  xs_up (P := fun x4 => ps_is r0 2 = true → ps_is r1 8 = true → ps_is r3 5 = true → ps_At (d + 2) 51 3 [(0, .ref r0), (1, .ref r1), (2, .int x2), (3, .ref r3), (4, .int x4)] [] s Q) (fun x4 ih h0 h1 h3 => pg_51_3 (d := d + 1) (ps_nk_i h1 (And.intro (fun f1 => (k 0 (by decide))) (fun f1 => (ps_nk_i h1 (xs_122 h1 J (fun v1 => (ps_nk_i h0 (xs_33 h0 J (fun v2 g2 => (ps_nk_i g2 (ps_nk_i (xk_8_6 g2) (xs_98 (xk_8_6 g2) h3 J (fun v3 b3 => (And.intro (fun f2 => (ih ((x4 + 1)) (xs_lt f1) h0 h1 h3)) (fun f2 => (ps_nk_i (xk_8_6 g2) (xs_100 (xk_8_6 g2) J (fun v4 b4 => (And.intro (fun f3 => (ih ((x4 + 1)) (xs_lt f1) h0 h1 h3)) (fun f3 => (k 1 (by decide))))))))))))))))))))))) x4 h0 h1 h3

theorem xs_51 {m s : ps_S} {t : Int32} {d : Nat} {r0 : Nat} {r1 : Nat} {x2 : Int32} {r3 : Nat} {f : Int32 → ps_S → Prop} (h0 : ps_is r0 2 = true) (h1 : ps_is r1 8 = true) (h3 : ps_is r3 5 = true) (J : xJ m t s) (k : ∀ (v : Int32), v &&& 1 = v → f v s) : ps_Cl (d + 2) 51 [.ref r0, .ref r1, .int x2, .ref r3] s (ps_rI f) :=
  pg_51_0 (d := d + 1) (xs_51_3 (d := d) (r0 := r0) (r1 := r1) (x2 := x2) (r3 := r3) (x4 := 0)  h0 h1 h3 J k )
