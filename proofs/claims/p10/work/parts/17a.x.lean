set_option maxRecDepth 100000
-- ProofBench$Judge.forget()V
theorem pg_1_0 {d : Nat} {r0 : Nat} {s : ps_S} {Q : Option Value → ps_S → Prop} (h :
  ps_At d 1 2 [(0, .ref r0), (1, .int 0)] [] s Q) : ps_At d 1 0 [(0, .ref r0)] [] s Q :=
  ps_wp_at (stops := [(2, [0, 1])]) (n := 4) h rfl

theorem pg_1_2 {d : Nat} {r0 : Nat} {x1 : Int32} {s : ps_S} {Q : Option Value → ps_S → Prop} (h :
  ps_nk (ps_is r0 0) (ps_nk (Nat.beq (ps_K (ps_c0 r0 12)).1 0) (((nI (ps_ln (ps_c0 r0 12))) ≤ x1 →
    Q none s) ∧
  (x1 < (nI (ps_ln (ps_c0 r0 12))) →
    ps_nk (ps_is r0 0) (ps_nk (ps_ar (ps_c0 r0 12) 3) (ps_nd (pm_in x1 (ps_ln (ps_c0 r0 12))) (ps_At d 1 2 [(0, .ref r0), (1, .int (x1 + 1))] [] (ps_ub s (ps_c0 r0 12) (Int32.toNatClampNeg x1) 0) Q))))))) : ps_At d 1 2 [(0, .ref r0), (1, .int x1)] [] s Q :=
  ps_wp_at (stops := [(2, [0, 1])]) (n := 15) h rfl

theorem xs_1_2 {m s : ps_S} {t : Int32} {d : Nat} {r0 : Nat} {x1 : Int32} {Q : Option Value → ps_S → Prop} (h0 : ps_is r0 0 = true) (e0 : 0 ≤ x1) (J : xJ m t s) (k : ∀ (s' : ps_S), xJ m t s' → Q none s') : ps_At d 1 2 [(0, .ref r0), (1, .int x1)] [] s Q :=
  xs_up (P := fun x1 => ∀ (s : ps_S), ps_is r0 0 = true → 0 ≤ x1 → xJ m t s → ps_At d 1 2 [(0, .ref r0), (1, .int x1)] [] s Q) (fun x1 ih s h0 e0 J => pg_1_2 (ps_nk_i h0 (ps_nk_i (xn_l ((xk_0_12 h0)).1) (And.intro (fun f1 => (k s J)) (fun f1 => (ps_nk_i h0 (ps_nk_i (xn_3 ((xk_0_12 h0)).1) (ps_nd_i (xg_in e0 f1) (ih ((x1 + 1)) (xs_lt f1) (ps_ub s (ps_c0 r0 12) (Int32.toNatClampNeg x1) 0) h0 (xs_nn e0 f1) (xw_b (((xk_0_12 h0)).2) J)))))))))) x1 s h0 e0 J

theorem xs_1 {m s : ps_S} {t : Int32} {d : Nat} {r0 : Nat} {f : ps_S → Prop} (h0 : ps_is r0 0 = true) (J : xJ m t s) (k : ∀ (s' : ps_S), xJ m t s' → f s') : ps_Cl d 1 [.ref r0] s (ps_rV f) :=
  pg_1_0 (xs_1_2 (d := d) (r0 := r0) (x1 := 0)  h0 (by decide) J k )

-- ProofBench.putAt([III)V
theorem pg_183_0 {d : Nat} {r0 : Nat} {x1 : Int32} {x2 : Int32} {s : ps_S} {Q : Option Value → ps_S → Prop} (h :
  (x1 < 0 →
    Q none s) ∧
  (0 ≤ x1 →
    ps_nk (Nat.beq (ps_K r0).1 0) (((nI (ps_ln r0)) ≤ x1 →
      Q none s) ∧
    (x1 < (nI (ps_ln r0)) →
      ps_nk (ps_ar r0 0) (ps_nd (pm_in x1 (ps_ln r0)) (Q none (ps_ua s r0 (Int32.toNatClampNeg x1) x2))))))) : ps_At d 183 0 [(0, .ref r0), (1, .int x1), (2, .int x2)] [] s Q :=
  ps_wp_at (stops := []) (n := 15) h rfl

theorem xs_183 {m s : ps_S} {t : Int32} {d : Nat} {r0 : Nat} {x1 : Int32} {x2 : Int32} {f : ps_S → Prop} (h0 : ps_ar r0 0 = true ∧ r0 < 1131) (J : xJ m t s) (k : ∀ (s' : ps_S), xJ m t s' → ps_i s' = ps_i s → f s') : ps_Cl d 183 [.ref r0, .int x1, .int x2] s (ps_rV f) :=
  pg_183_0 (And.intro (fun f1 => (k s J rfl)) (fun f1 => (ps_nk_i (xn_l (h0).1) (And.intro (fun f2 => (k s J rfl)) (fun f2 => (ps_nk_i (xn_0 (h0).1) (ps_nd_i (xg_in f1 f2) (k (ps_ua s r0 (Int32.toNatClampNeg x1) x2) (xw_a ((h0).2) J) rfl))))))))

-- ProofBench$Theory.arity(I)I
theorem pg_136_0 {d : Nat} {r0 : Nat} {x1 : Int32} {s : ps_S} {Q : Option Value → ps_S → Prop} (h :
  (x1 < 0 →
    Q (some (.int 0)) s) ∧
  (0 ≤ x1 →
    ps_nk (ps_is r0 9) (ps_nk (Nat.beq (ps_K (ps_c0 r0 3)).1 0) (((nI (ps_ln (ps_c0 r0 3))) ≤ x1 →
      Q (some (.int 0)) s) ∧
    (x1 < (nI (ps_ln (ps_c0 r0 3))) →
      ps_nk (ps_is r0 9) (ps_nk (ps_ar (ps_c0 r0 3) 0) (ps_nd (pm_in x1 (ps_ln (ps_c0 r0 3))) (Q (some (.int (ps_a s (ps_c0 r0 3) (Int32.toNatClampNeg x1)))) s)))))))) : ps_At d 136 0 [(0, .ref r0), (1, .int x1)] [] s Q :=
  ps_wp_at (stops := []) (n := 19) h rfl

theorem xs_136 {m s : ps_S} {t : Int32} {d : Nat} {r0 : Nat} {x1 : Int32} {f : Int32 → ps_S → Prop} (h0 : ps_is r0 9 = true) (J : xJ m t s) (k : ∀ (v : Int32), f v s) : ps_Cl d 136 [.ref r0, .int x1] s (ps_rI f) :=
  pg_136_0 (And.intro (fun f1 => (k 0)) (fun f1 => (ps_nk_i h0 (ps_nk_i (xn_l ((xk_9_3 h0)).1) (And.intro (fun f2 => (k 0)) (fun f2 => (ps_nk_i h0 (ps_nk_i (xn_0 ((xk_9_3 h0)).1) (ps_nd_i (xg_in f1 f2) (k (ps_a s (ps_c0 r0 3) (Int32.toNatClampNeg x1))))))))))))

-- ProofBench$Judge.addDigits(II)V
theorem pg_7_0 {d : Nat} {r0 : Nat} {x1 : Int32} {x2 : Int32} {s : ps_S} {Q : Option Value → ps_S → Prop} (h :
  (x2 ≠ 0 →
    (x2 ≠ 1 →
      ps_nk (ps_is r0 0) (ps_nk (ps_is r0 0) (ps_At (d + 1) 7 33 [(0, .ref r0), (1, .int x1), (3, .int ((ps_i s r0 11) * (ps_i s r0 11))), (4, .int 0)] [] s Q))) ∧
    (x2 = 1 →
      ps_nk (ps_is r0 0) (ps_At (d + 1) 7 33 [(0, .ref r0), (1, .int x1), (3, .int (ps_i s r0 11)), (4, .int 0)] [] s Q))) ∧
  (x2 = 0 →
    ps_At (d + 1) 7 33 [(0, .ref r0), (1, .int x1), (3, .int 1), (4, .int 0)] [] s Q)) : ps_At (d + 1) 7 0 [(0, .ref r0), (1, .int x1), (2, .int x2)] [] s Q :=
  ps_wp_at (stops := [(33, [0, 1, 3, 4])]) (n := 26) h rfl

theorem pg_7_33 {d : Nat} {r0 : Nat} {x1 : Int32} {x3 : Int32} {x4 : Int32} {s : ps_S} {Q : Option Value → ps_S → Prop} (h :
  (x3 ≤ x4 →
    Q none s) ∧
  (x4 < x3 →
    ps_nk (ps_is r0 0) (ps_nk (ps_is r0 0) (ps_Cl d 183 [.ref (ps_c0 r0 0), .int (ps_i s r0 2), .int x1] s (ps_rV (fun s1 =>
      ps_nk (ps_is r0 0) (ps_nk (ps_is r0 0) (ps_At (d + 1) 7 33 [(0, .ref r0), (1, .int x1), (3, .int x3), (4, .int (x4 + 1))] [] (ps_ui s1 r0 2 ((ps_i s1 r0 2) + 1)) Q)))))))) : ps_At (d + 1) 7 33 [(0, .ref r0), (1, .int x1), (3, .int x3), (4, .int x4)] [] s Q :=
  ps_wp_at (stops := [(33, [0, 1, 3, 4])]) (n := 20) h rfl

theorem xs_7_33 {m s : ps_S} {t : Int32} {d : Nat} {r0 : Nat} {x1 : Int32} {x3 : Int32} {x4 : Int32} {Q : Option Value → ps_S → Prop} (h0 : ps_is r0 0 = true) (J : xJ m t s) (k : ∀ (s' : ps_S), xJ m t s' → Q none s') : ps_At (d + 1) 7 33 [(0, .ref r0), (1, .int x1), (3, .int x3), (4, .int x4)] [] s Q :=
  xs_up (P := fun x4 => ∀ (s : ps_S), ps_is r0 0 = true → xJ m t s → ps_At (d + 1) 7 33 [(0, .ref r0), (1, .int x1), (3, .int x3), (4, .int x4)] [] s Q) (fun x4 ih s h0 J => pg_7_33 (d := d) (And.intro (fun f1 => (k s J)) (fun f1 => (ps_nk_i h0 (ps_nk_i h0 (xs_183 (xk_0_0 h0) J (fun s1 J1 e1 => (ps_nk_i h0 (ps_nk_i h0 (ih ((x4 + 1)) (xs_lt f1) (ps_ui s1 r0 2 ((ps_i s1 r0 2) + 1)) h0 (xw_i (c := 0) (by decide) h0 J1))))))))))) x4 s h0 J

theorem xs_7 {m s : ps_S} {t : Int32} {d : Nat} {r0 : Nat} {x1 : Int32} {x2 : Int32} {f : ps_S → Prop} (h0 : ps_is r0 0 = true) (J : xJ m t s) (k : ∀ (s' : ps_S), xJ m t s' → f s') : ps_Cl (d + 1) 7 [.ref r0, .int x1, .int x2] s (ps_rV f) :=
  pg_7_0 (d := d) (And.intro (fun f1 => (And.intro (fun f2 => (ps_nk_i h0 (ps_nk_i h0 (xs_7_33 (d := d) (r0 := r0) (x1 := x1) (x3 := ((ps_i s r0 11) * (ps_i s r0 11))) (x4 := 0)  h0 J k )))) (fun f2 => (ps_nk_i h0 (xs_7_33 (d := d) (r0 := r0) (x1 := x1) (x3 := (ps_i s r0 11)) (x4 := 0)  h0 J k ))))) (fun f1 => (xs_7_33 (d := d) (r0 := r0) (x1 := x1) (x3 := 1) (x4 := 0)  h0 J k )))

-- ProofBench.valueAt([II)I
theorem pg_182_0 {d : Nat} {r0 : Nat} {x1 : Int32} {s : ps_S} {Q : Option Value → ps_S → Prop} (h :
  (x1 < 0 →
    Q (some (.int (-1))) s) ∧
  (0 ≤ x1 →
    ps_nk (Nat.beq (ps_K r0).1 0) (((nI (ps_ln r0)) ≤ x1 →
      Q (some (.int (-1))) s) ∧
    (x1 < (nI (ps_ln r0)) →
      ps_nk (ps_ar r0 0) (ps_nd (pm_in x1 (ps_ln r0)) (Q (some (.int (ps_a s r0 (Int32.toNatClampNeg x1)))) s)))))) : ps_At d 182 0 [(0, .ref r0), (1, .int x1)] [] s Q :=
  ps_wp_at (stops := []) (n := 17) h rfl

theorem xs_182 {m s : ps_S} {t : Int32} {d : Nat} {r0 : Nat} {x1 : Int32} {f : Int32 → ps_S → Prop} (h0 : ps_ar r0 0 = true ∧ r0 < 1131) (J : xJ m t s) (k : ∀ (v : Int32), f v s) : ps_Cl d 182 [.ref r0, .int x1] s (ps_rI f) :=
  pg_182_0 (And.intro (fun f1 => (k (-1))) (fun f1 => (ps_nk_i (xn_l (h0).1) (And.intro (fun f2 => (k (-1))) (fun f2 => (ps_nk_i (xn_0 (h0).1) (ps_nd_i (xg_in f1 f2) (k (ps_a s r0 (Int32.toNatClampNeg x1))))))))))

-- ProofBench$Judge.layTables(LProofBench$Theory;I)J
theorem pg_6_0 {d : Nat} {r0 : Nat} {r1 : Nat} {x2 : Int32} {s : ps_S} {Q : Option Value → ps_S → Prop} (h :
  ps_nk (ps_is r0 0) (ps_nk (ps_is r0 0) (ps_nk (ps_is r0 0) (ps_At (d + 1) 6 17 [(0, .ref r0), (2, .int x2), (3, .int 0)] [] (ps_ui (ps_ui (ps_ur s r0 16 r1) r0 11 x2) r0 2 0) Q)))) : ps_At (d + 1) 6 0 [(0, .ref r0), (1, .ref r1), (2, .int x2)] [] s Q :=
  ps_wp_at (stops := [(17, [0, 2, 3]), (64, [0, 2, 3]), (114, [0, 3, 5])]) (n := 13) h rfl

theorem pg_6_17 {d : Nat} {r0 : Nat} {x2 : Int32} {x3 : Int32} {s : ps_S} {Q : Option Value → ps_S → Prop} (h :
  ps_nk (ps_is r0 0) (ps_nk (ps_is (ps_r s r0 16) 9) (((ps_i s (ps_r s r0 16) 6) ≤ x3 →
    ps_At (d + 1) 6 64 [(0, .ref r0), (2, .int x2), (3, .int 0)] [] s Q) ∧
  (x3 < (ps_i s (ps_r s r0 16) 6) →
    ps_nk (ps_is r0 0) (ps_nk (ps_is r0 0) (ps_Cl d 183 [.ref (ps_c0 r0 3), .int x3, .int (ps_i s r0 2)] s (ps_rV (fun s1 =>
      ps_nk (ps_is r0 0) (ps_nk (ps_is (ps_r s1 r0 16) 9) (ps_Cl d 136 [.ref (ps_r s1 r0 16), .int ((10 : Int32) + x3)] s1 (ps_rI (fun v2 s2 =>
        ps_nk (ps_is r0 0) (ps_Cl d 7 [.ref r0, .int 2, .int v2] s2 (ps_rV (fun s3 =>
          ps_At (d + 1) 6 17 [(0, .ref r0), (2, .int x2), (3, .int (x3 + 1))] [] s3 Q))))))))))))))) : ps_At (d + 1) 6 17 [(0, .ref r0), (2, .int x2), (3, .int x3)] [] s Q :=
  ps_wp_at (stops := [(17, [0, 2, 3]), (64, [0, 2, 3]), (114, [0, 3, 5])]) (n := 26) h rfl

theorem pg_6_64 {d : Nat} {r0 : Nat} {x2 : Int32} {x3 : Int32} {s : ps_S} {Q : Option Value → ps_S → Prop} (h :
  ps_nk (ps_is r0 0) (ps_nk (ps_is (ps_r s r0 16) 9) (((ps_i s (ps_r s r0 16) 7) ≤ x3 →
    ps_At (d + 1) 6 114 [(0, .ref r0), (3, .long 1), (5, .int 0)] [] s Q) ∧
  (x3 < (ps_i s (ps_r s r0 16) 7) →
    ps_nk (ps_is r0 0) (ps_nk (ps_is r0 0) (ps_Cl d 183 [.ref (ps_c0 r0 4), .int x3, .int (ps_i s r0 2)] s (ps_rV (fun s1 =>
      ps_nk (ps_is r0 0) (ps_nk (ps_is (ps_r s1 r0 16) 9) (ps_Cl d 136 [.ref (ps_r s1 r0 16), .int ((20 : Int32) + x3)] s1 (ps_rI (fun v2 s2 =>
        ps_nk (ps_is r0 0) (ps_Cl d 7 [.ref r0, .int x2, .int v2] s2 (ps_rV (fun s3 =>
          ps_At (d + 1) 6 64 [(0, .ref r0), (2, .int x2), (3, .int (x3 + 1))] [] s3 Q))))))))))))))) : ps_At (d + 1) 6 64 [(0, .ref r0), (2, .int x2), (3, .int x3)] [] s Q :=
  ps_wp_at (stops := [(17, [0, 2, 3]), (64, [0, 2, 3]), (114, [0, 3, 5])]) (n := 28) h rfl

theorem pg_6_114 {d : Nat} {r0 : Nat} {l3 : Int64} {x5 : Int32} {s : ps_S} {Q : Option Value → ps_S → Prop} (h :
  ps_nk (ps_is r0 0) (((ps_i s r0 2) ≤ x5 →
    Q (some (.long l3)) s) ∧
  (x5 < (ps_i s r0 2) →
    ps_nk (ps_is r0 0) (ps_Cl d 182 [.ref (ps_c0 r0 0), .int x5] s (ps_rI (fun v1 s1 =>
      ps_At (d + 1) 6 114 [(0, .ref r0), (3, .long (if (1099511627776 : Int64) < (l3 * (Int32.toInt64 v1)) then (1099511627776 : Int64) else (l3 * (Int32.toInt64 v1)))), (5, .int (x5 + 1))] [] s1 Q)))))) : ps_At (d + 1) 6 114 [(0, .ref r0), (3, .long l3), (5, .int x5)] [] s Q :=
  ps_wp_at (stops := [(17, [0, 2, 3]), (64, [0, 2, 3]), (114, [0, 3, 5])]) (n := 20) h rfl

theorem xs_6_114 {m s : ps_S} {t : Int32} {d : Nat} {r0 : Nat} {l3 : Int64} {x5 : Int32} {Q : Option Value → ps_S → Prop} (h0 : ps_is r0 0 = true) (J : xJ m t s) (k : ∀ (v : Int64) (s' : ps_S), xJ m t s' → Q (some (.long v)) s') : ps_At (d + 2) 6 114 [(0, .ref r0), (3, .long l3), (5, .int x5)] [] s Q :=
  xs_up (P := fun x5 => ∀ (l3 : Int64) (s : ps_S), ps_is r0 0 = true → xJ m t s → ps_At (d + 2) 6 114 [(0, .ref r0), (3, .long l3), (5, .int x5)] [] s Q) (fun x5 ih l3 s h0 J => pg_6_114 (d := d + 1) (ps_nk_i h0 (And.intro (fun f1 => (k l3 s J)) (fun f1 => (ps_nk_i h0 (xs_182 (xk_0_0 h0) J (fun v1 => (ih ((x5 + 1)) (xs_lt f1) ((if (1099511627776 : Int64) < (l3 * (Int32.toInt64 v1)) then (1099511627776 : Int64) else (l3 * (Int32.toInt64 v1)))) s h0 J)))))))) x5 l3 s h0 J

theorem xs_6_64 {m s : ps_S} {t : Int32} {d : Nat} {r0 : Nat} {x2 : Int32} {x3 : Int32} {Q : Option Value → ps_S → Prop} (h0 : ps_is r0 0 = true) (J : xJ m t s) (k : ∀ (v : Int64) (s' : ps_S), xJ m t s' → Q (some (.long v)) s') : ps_At (d + 2) 6 64 [(0, .ref r0), (2, .int x2), (3, .int x3)] [] s Q :=
  xs_up (P := fun x3 => ∀ (s : ps_S), ps_is r0 0 = true → xJ m t s → ps_At (d + 2) 6 64 [(0, .ref r0), (2, .int x2), (3, .int x3)] [] s Q) (fun x3 ih s h0 J => pg_6_64 (d := d + 1) (ps_nk_i h0 (ps_nk_i (xj_0_16 J h0) (And.intro (fun f1 => (xs_6_114 (d := d) (r0 := r0) (l3 := 1) (x5 := 0)  h0 J k )) (fun f1 => (ps_nk_i h0 (ps_nk_i h0 (xs_183 (xk_0_4 h0) J (fun s1 J1 e1 => (ps_nk_i h0 (ps_nk_i (xj_0_16 J1 h0) (xs_136 (xj_0_16 J1 h0) J1 (fun v2 => (ps_nk_i h0 (xs_7 h0 J1 (fun s3 J3 => (ih ((x3 + 1)) (xs_lt f1) s3 h0 J3))))))))))))))))) x3 s h0 J

theorem xs_6_17 {m s : ps_S} {t : Int32} {d : Nat} {r0 : Nat} {x2 : Int32} {x3 : Int32} {Q : Option Value → ps_S → Prop} (h0 : ps_is r0 0 = true) (J : xJ m t s) (k : ∀ (v : Int64) (s' : ps_S), xJ m t s' → Q (some (.long v)) s') : ps_At (d + 2) 6 17 [(0, .ref r0), (2, .int x2), (3, .int x3)] [] s Q :=
  xs_up (P := fun x3 => ∀ (s : ps_S), ps_is r0 0 = true → xJ m t s → ps_At (d + 2) 6 17 [(0, .ref r0), (2, .int x2), (3, .int x3)] [] s Q) (fun x3 ih s h0 J => pg_6_17 (d := d + 1) (ps_nk_i h0 (ps_nk_i (xj_0_16 J h0) (And.intro (fun f1 => (xs_6_64 (d := d) (r0 := r0) (x2 := x2) (x3 := 0)  h0 J k )) (fun f1 => (ps_nk_i h0 (ps_nk_i h0 (xs_183 (xk_0_3 h0) J (fun s1 J1 e1 => (ps_nk_i h0 (ps_nk_i (xj_0_16 J1 h0) (xs_136 (xj_0_16 J1 h0) J1 (fun v2 => (ps_nk_i h0 (xs_7 h0 J1 (fun s3 J3 => (ih ((x3 + 1)) (xs_lt f1) s3 h0 J3))))))))))))))))) x3 s h0 J

theorem xs_6 {m s : ps_S} {t : Int32} {d : Nat} {r0 : Nat} {r1 : Nat} {x2 : Int32} {f : Int64 → ps_S → Prop} (h0 : ps_is r0 0 = true) (h1 : ps_is r1 9 = true) (J : xJ m t s) (k : ∀ (v : Int64) (s' : ps_S), xJ m t s' → f v s') : ps_Cl (d + 2) 6 [.ref r0, .ref r1, .int x2] s (ps_rJ f) :=
  pg_6_0 (d := d + 1) (ps_nk_i h0 (ps_nk_i h0 (ps_nk_i h0 (xs_6_17 (d := d) (r0 := r0) (x2 := x2) (x3 := 0)  h0 (xw_i (c := 0) (by decide) h0 (xw_i (c := 0) (by decide) h0 (xw_0_16 h0 h1 J))) k ))))

-- ProofBench$Judge.modelCount(LProofBench$Theory;I)I
theorem pg_2_0 {d : Nat} {r0 : Nat} {r1 : Nat} {x2 : Int32} {s : ps_S} {Q : Option Value → ps_S → Prop} (h :
  ps_nk (ps_is r0 0) (ps_Cl d 6 [.ref r0, .ref r1, .int x2] s (ps_rJ (fun v1 s1 =>
    ((lg_cmp v1 (4096 : Int64)) ≤ 0 →
      Q (some (.int (Int64.toInt32 v1))) s1) ∧
    (0 < (lg_cmp v1 (4096 : Int64)) →
      Q (some (.int (-2))) s1))))) : ps_At (d + 1) 2 0 [(0, .ref r0), (1, .ref r1), (2, .int x2)] [] s Q :=
  ps_wp_at (stops := []) (n := 17) h rfl

theorem xs_2 {m s : ps_S} {t : Int32} {d : Nat} {r0 : Nat} {r1 : Nat} {x2 : Int32} {f : Int32 → ps_S → Prop} (h0 : ps_is r0 0 = true) (h1 : ps_is r1 9 = true) (J : xJ m t s) (k : ∀ (v : Int32) (s' : ps_S), xJ m t s' → f v s') : ps_Cl (d + 3) 2 [.ref r0, .ref r1, .int x2] s (ps_rI f) :=
  pg_2_0 (d := d + 2) (ps_nk_i h0 (xs_6 h0 h1 J (fun v1 s1 J1 => (And.intro (fun f1 => (k (Int64.toInt32 v1) s1 J1)) (fun f1 => (k (-2) s1 J1))))))

-- ProofBench$Judge.shapeAt(I)LProofBench$Shape;
theorem pg_10_0 {d : Nat} {r0 : Nat} {x1 : Int32} {s : ps_S} {Q : Option Value → ps_S → Prop} (h :
  (x1 < 0 →
    ps_nk (ps_is r0 0) (Q (some (.ref (ps_c0 r0 6))) s)) ∧
  (0 ≤ x1 →
    ps_nk (ps_is r0 0) (ps_nk (Nat.beq (ps_K (ps_c0 r0 5)).1 0) (((nI (ps_ln (ps_c0 r0 5))) ≤ x1 →
      ps_nk (ps_is r0 0) (Q (some (.ref (ps_c0 r0 6))) s)) ∧
    (x1 < (nI (ps_ln (ps_c0 r0 5))) →
      ps_nk (ps_is r0 0) (ps_nk (ps_ar (ps_c0 r0 5) 4 || ps_ar (ps_c0 r0 5) 5 || ps_ar (ps_c0 r0 5) 6 || ps_ar (ps_c0 r0 5) 7) (ps_nd (pm_in x1 (ps_ln (ps_c0 r0 5))) (Q (some (.ref (ps_e0 (ps_c0 r0 5) (Int32.toNatClampNeg x1)))) s)))))))) : ps_At d 10 0 [(0, .ref r0), (1, .int x1)] [] s Q :=
  ps_wp_at (stops := []) (n := 21) h rfl

theorem xs_10 {m s : ps_S} {t : Int32} {d : Nat} {r0 : Nat} {x1 : Int32} {f : Nat → ps_S → Prop} (h0 : ps_is r0 0 = true) (J : xJ m t s) (k : ∀ (v : Nat), ps_is v 6 = true → f v s) : ps_Cl d 10 [.ref r0, .int x1] s (ps_rA f) :=
  pg_10_0 (And.intro (fun f1 => (ps_nk_i h0 (k (ps_c0 r0 6) ((xk_0_6 h0))))) (fun f1 => (ps_nk_i h0 (ps_nk_i (xn_l ((xk_0_5 h0)).1) (And.intro (fun f2 => (ps_nk_i h0 (k (ps_c0 r0 6) ((xk_0_6 h0))))) (fun f2 => (ps_nk_i h0 (ps_nk_i (xn_5 ((xk_0_5 h0)).1) (ps_nd_i (xg_in f1 f2) (k (ps_e0 (ps_c0 r0 5) (Int32.toNatClampNeg x1)) ((xe_5 ((xk_0_5 h0)).1 (xg_in f1 f2)))))))))))))

-- ProofBench$Theory.axiomRow(I)LProofBench$Row;
theorem pg_135_0 {d : Nat} {r0 : Nat} {x1 : Int32} {s : ps_S} {Q : Option Value → ps_S → Prop} (h :
  (x1 < 0 →
    ps_nk (ps_is r0 9) (Q (some (.ref (ps_c0 r0 5))) s)) ∧
  (0 ≤ x1 →
    ps_nk (ps_is r0 9) (ps_nk (Nat.beq (ps_K (ps_c0 r0 4)).1 0) (((nI (ps_ln (ps_c0 r0 4))) ≤ x1 →
      ps_nk (ps_is r0 9) (Q (some (.ref (ps_c0 r0 5))) s)) ∧
    (x1 < (nI (ps_ln (ps_c0 r0 4))) →
      ps_nk (ps_is r0 9) (ps_nk (ps_ar (ps_c0 r0 4) 4 || ps_ar (ps_c0 r0 4) 5 || ps_ar (ps_c0 r0 4) 6 || ps_ar (ps_c0 r0 4) 7) (ps_nd (pm_in x1 (ps_ln (ps_c0 r0 4))) (Q (some (.ref (ps_e0 (ps_c0 r0 4) (Int32.toNatClampNeg x1)))) s)))))))) : ps_At d 135 0 [(0, .ref r0), (1, .int x1)] [] s Q :=
  ps_wp_at (stops := []) (n := 21) h rfl

theorem xs_135 {m s : ps_S} {t : Int32} {d : Nat} {r0 : Nat} {x1 : Int32} {f : Nat → ps_S → Prop} (h0 : ps_is r0 9 = true) (J : xJ m t s) (k : ∀ (v : Nat), ps_is v 5 = true → f v s) : ps_Cl d 135 [.ref r0, .int x1] s (ps_rA f) :=
  pg_135_0 (And.intro (fun f1 => (ps_nk_i h0 (k (ps_c0 r0 5) ((xk_9_5 h0))))) (fun f1 => (ps_nk_i h0 (ps_nk_i (xn_l ((xk_9_4 h0)).1) (And.intro (fun f2 => (ps_nk_i h0 (k (ps_c0 r0 5) ((xk_9_5 h0))))) (fun f2 => (ps_nk_i h0 (ps_nk_i (xn_4 ((xk_9_4 h0)).1) (ps_nd_i (xg_in f1 f2) (k (ps_e0 (ps_c0 r0 4) (Int32.toNatClampNeg x1)) ((xe_4 ((xk_9_4 h0)).1 (xg_in f1 f2)))))))))))))

-- ProofBench$Row.at(I)I
theorem pg_92_0 {d : Nat} {r0 : Nat} {x1 : Int32} {s : ps_S} {Q : Option Value → ps_S → Prop} (h :
  (x1 < 0 →
    Q (some (.int (-1))) s) ∧
  (0 ≤ x1 →
    ps_nk (ps_is r0 5) (((ps_i s r0 1) ≤ x1 →
      Q (some (.int (-1))) s) ∧
    (x1 < (ps_i s r0 1) →
      ps_nk (ps_is r0 5) (ps_nk (Nat.beq (ps_K (ps_c0 r0 0)).1 0) (((nI (ps_ln (ps_c0 r0 0))) ≤ x1 →
        Q (some (.int (-1))) s) ∧
      (x1 < (nI (ps_ln (ps_c0 r0 0))) →
        ps_nk (ps_is r0 5) (ps_nk (ps_ar (ps_c0 r0 0) 0) (ps_nd (pm_in x1 (ps_ln (ps_c0 r0 0))) (Q (some (.int (ps_a s (ps_c0 r0 0) (Int32.toNatClampNeg x1)))) s)))))))))) : ps_At d 92 0 [(0, .ref r0), (1, .int x1)] [] s Q :=
  ps_wp_at (stops := []) (n := 25) h rfl

theorem xs_92 {m s : ps_S} {t : Int32} {d : Nat} {r0 : Nat} {x1 : Int32} {f : Int32 → ps_S → Prop} (h0 : ps_is r0 5 = true) (J : xJ m t s) (k : ∀ (v : Int32), f v s) : ps_Cl d 92 [.ref r0, .int x1] s (ps_rI f) :=
  pg_92_0 (And.intro (fun f1 => (k (-1))) (fun f1 => (ps_nk_i h0 (And.intro (fun f2 => (k (-1))) (fun f2 => (ps_nk_i h0 (ps_nk_i (xn_l ((xk_5_0 h0)).1) (And.intro (fun f3 => (k (-1))) (fun f3 => (ps_nk_i h0 (ps_nk_i (xn_0 ((xk_5_0 h0)).1) (ps_nd_i (xg_in f1 f3) (k (ps_a s (ps_c0 r0 0) (Int32.toNatClampNeg x1)))))))))))))))

-- ProofBench$Shape.endAt(I)I
theorem pg_104_0 {d : Nat} {r0 : Nat} {x1 : Int32} {s : ps_S} {Q : Option Value → ps_S → Prop} (h :
  (x1 < 0 →
    Q (some (.int (-1))) s) ∧
  (0 ≤ x1 →
    ps_nk (ps_is r0 6) (ps_nk (Nat.beq (ps_K (ps_c0 r0 0)).1 0) (((nI (ps_ln (ps_c0 r0 0))) ≤ x1 →
      Q (some (.int (-1))) s) ∧
    (x1 < (nI (ps_ln (ps_c0 r0 0))) →
      ps_nk (ps_is r0 6) (ps_nk (ps_ar (ps_c0 r0 0) 0) (ps_nd (pm_in x1 (ps_ln (ps_c0 r0 0))) (Q (some (.int (ps_a s (ps_c0 r0 0) (Int32.toNatClampNeg x1)))) s)))))))) : ps_At d 104 0 [(0, .ref r0), (1, .int x1)] [] s Q :=
  ps_wp_at (stops := []) (n := 19) h rfl

theorem xs_104 {m s : ps_S} {t : Int32} {d : Nat} {r0 : Nat} {x1 : Int32} {f : Int32 → ps_S → Prop} (h0 : ps_is r0 6 = true) (J : xJ m t s) (k : ∀ (v : Int32), f v s) : ps_Cl d 104 [.ref r0, .int x1] s (ps_rI f) :=
  pg_104_0 (And.intro (fun f1 => (k (-1))) (fun f1 => (ps_nk_i h0 (ps_nk_i (xn_l ((xk_6_0 h0)).1) (And.intro (fun f2 => (k (-1))) (fun f2 => (ps_nk_i h0 (ps_nk_i (xn_0 ((xk_6_0 h0)).1) (ps_nd_i (xg_in f1 f2) (k (ps_a s (ps_c0 r0 0) (Int32.toNatClampNeg x1))))))))))))

-- ProofBench$Shape.nestedAt(I)I
theorem pg_105_0 {d : Nat} {r0 : Nat} {x1 : Int32} {s : ps_S} {Q : Option Value → ps_S → Prop} (h :
  (x1 < 0 →
    Q (some (.int 0)) s) ∧
  (0 ≤ x1 →
    ps_nk (ps_is r0 6) (ps_nk (Nat.beq (ps_K (ps_c0 r0 2)).1 0) (((nI (ps_ln (ps_c0 r0 2))) ≤ x1 →
      Q (some (.int 0)) s) ∧
    (x1 < (nI (ps_ln (ps_c0 r0 2))) →
      ps_nk (ps_is r0 6) (ps_nk (ps_ar (ps_c0 r0 2) 0) (ps_nd (pm_in x1 (ps_ln (ps_c0 r0 2))) (Q (some (.int (ps_a s (ps_c0 r0 2) (Int32.toNatClampNeg x1)))) s)))))))) : ps_At d 105 0 [(0, .ref r0), (1, .int x1)] [] s Q :=
  ps_wp_at (stops := []) (n := 19) h rfl

theorem xs_105 {m s : ps_S} {t : Int32} {d : Nat} {r0 : Nat} {x1 : Int32} {f : Int32 → ps_S → Prop} (h0 : ps_is r0 6 = true) (J : xJ m t s) (k : ∀ (v : Int32), f v s) : ps_Cl d 105 [.ref r0, .int x1] s (ps_rI f) :=
  pg_105_0 (And.intro (fun f1 => (k 0)) (fun f1 => (ps_nk_i h0 (ps_nk_i (xn_l ((xk_6_2 h0)).1) (And.intro (fun f2 => (k 0)) (fun f2 => (ps_nk_i h0 (ps_nk_i (xn_0 ((xk_6_2 h0)).1) (ps_nd_i (xg_in f1 f2) (k (ps_a s (ps_c0 r0 2) (Int32.toNatClampNeg x1))))))))))))

-- ProofBench.isQuantifier(I)Z
theorem pg_184_0 {d : Nat} {x0 : Int32} {s : ps_S} {Q : Option Value → ps_S → Prop} (h :
  (x0 = 4 →
    Q (some (.int 1)) s) ∧
  (x0 ≠ 4 →
    (x0 ≠ 5 →
      Q (some (.int 0)) s) ∧
    (x0 = 5 →
      Q (some (.int 1)) s))) : ps_At d 184 0 [(0, .int x0)] [] s Q :=
  ps_wp_at (stops := []) (n := 16) h rfl

theorem xs_184 {m s : ps_S} {t : Int32} {d : Nat} {x0 : Int32} {f : Int32 → ps_S → Prop} (J : xJ m t s) (k : ∀ (v : Int32), v &&& 1 = v → f v s) : ps_Cl d 184 [.int x0] s (ps_rI f) :=
  pg_184_0 (And.intro (fun f1 => (k 1 (by decide))) (fun f1 => (And.intro (fun f2 => (k 0 (by decide))) (fun f2 => (k 1 (by decide))))))

-- ProofBench$Shape.measure(LProofBench$Row;LProofBench$Theory;)V
theorem pg_103_0 {d : Nat} {r0 : Nat} {r1 : Nat} {r2 : Nat} {s : ps_S} {Q : Option Value → ps_S → Prop} (h :
  ps_nk (ps_is r0 6) (ps_nk (ps_is r0 6) (ps_nk (ps_is r0 6) (ps_Cl d 183 [.ref (ps_c0 r0 1), .int 0, .int 0] (ps_ui (ps_ui s r0 3 0) r0 4 0) (ps_rV (fun s1 =>
    ps_nk (ps_is r0 6) (ps_Cl d 183 [.ref (ps_c0 r0 2), .int 0, .int 0] s1 (ps_rV (fun s2 =>
      ps_nk (ps_is r1 5) (ps_At (d + 1) 103 35 [(0, .ref r0), (1, .ref r1), (2, .ref r2), (3, .int ((ps_i s2 r1 1) - 1))] [] s2 Q)))))))))) : ps_At (d + 1) 103 0 [(0, .ref r0), (1, .ref r1), (2, .ref r2)] [] s Q :=
  ps_wp_at (stops := [(35, [0, 1, 2, 3]), (55, [0, 1, 2, 3, 4, 5]), (92, [0, 1, 2, 3]), (176, [0, 1, 2, 3, 4, 5, 6, 7])]) (n := 23) h rfl

theorem pg_103_35 {d : Nat} {r0 : Nat} {r1 : Nat} {r2 : Nat} {x3 : Int32} {s : ps_S} {Q : Option Value → ps_S → Prop} (h :
  (x3 < 0 →
    ps_At (d + 1) 103 92 [(0, .ref r0), (1, .ref r1), (2, .ref r2), (3, .int 0)] [] s Q) ∧
  (0 ≤ x3 →
    ps_nk (ps_is r1 5) (ps_Cl d 92 [.ref r1, .int x3] s (ps_rI (fun v1 s1 =>
      ps_nk (ps_is r2 9) (ps_Cl d 136 [.ref r2, .int v1] s1 (ps_rI (fun v2 s2 =>
        ps_At (d + 1) 103 55 [(0, .ref r0), (1, .ref r1), (2, .ref r2), (3, .int x3), (4, .int (x3 + 1)), (5, .int v2)] [] s2 Q)))))))) : ps_At (d + 1) 103 35 [(0, .ref r0), (1, .ref r1), (2, .ref r2), (3, .int x3)] [] s Q :=
  ps_wp_at (stops := [(35, [0, 1, 2, 3]), (55, [0, 1, 2, 3, 4, 5]), (92, [0, 1, 2, 3]), (176, [0, 1, 2, 3, 4, 5, 6, 7])]) (n := 16) h rfl

theorem pg_103_55 {d : Nat} {r0 : Nat} {r1 : Nat} {r2 : Nat} {x3 : Int32} {x4 : Int32} {x5 : Int32} {s : ps_S} {Q : Option Value → ps_S → Prop} (h :
  (x5 ≤ 0 →
    ps_nk (ps_is r0 6) (ps_Cl d 183 [.ref (ps_c0 r0 0), .int x3, .int x4] s (ps_rV (fun s1 =>
      ps_At (d + 1) 103 35 [(0, .ref r0), (1, .ref r1), (2, .ref r2), (3, .int (x3 + (-1)))] [] s1 Q)))) ∧
  (0 < x5 →
    ps_nk (ps_is r0 6) (ps_Cl d 104 [.ref r0, .int x4] s (ps_rI (fun v2 s2 =>
      ps_At (d + 1) 103 55 [(0, .ref r0), (1, .ref r1), (2, .ref r2), (3, .int x3), (4, .int v2), (5, .int (x5 + (-1)))] [] s2 Q))))) : ps_At (d + 1) 103 55 [(0, .ref r0), (1, .ref r1), (2, .ref r2), (3, .int x3), (4, .int x4), (5, .int x5)] [] s Q :=
  ps_wp_at (stops := [(35, [0, 1, 2, 3]), (55, [0, 1, 2, 3, 4, 5]), (92, [0, 1, 2, 3]), (176, [0, 1, 2, 3, 4, 5, 6, 7])]) (n := 17) h rfl

theorem pg_103_92 {d : Nat} {r0 : Nat} {r1 : Nat} {r2 : Nat} {x3 : Int32} {s : ps_S} {Q : Option Value → ps_S → Prop} (h :
  ps_nk (ps_is r1 5) (((ps_i s r1 1) ≤ x3 →
    Q none s) ∧
  (x3 < (ps_i s r1 1) →
    ps_nk (ps_is r0 6) (ps_Cl d 182 [.ref (ps_c0 r0 1), .int x3] s (ps_rI (fun v1 s1 =>
      ps_nk (ps_is r0 6) (ps_Cl d 105 [.ref r0, .int x3] s1 (ps_rI (fun v2 s2 =>
        ps_nk (ps_is r1 5) (ps_Cl d 92 [.ref r1, .int x3] s2 (ps_rI (fun v3 s3 =>
          ps_Cl d 184 [.int v3] s3 (ps_rI (fun v4 s4 =>
            (v4 = 0 →
              ps_nk (ps_is r0 6) (ps_nk (ps_is r0 6) (ps_nk (ps_is r0 6) (ps_nk (ps_is r0 6) (ps_nk (ps_is r1 5) (ps_Cl d 92 [.ref r1, .int x3] (ps_ui (ps_ui s4 r0 3 (if (ps_i s4 r0 3) < v1 then v1 else (ps_i s4 r0 3))) r0 4 (if (ps_i (ps_ui s4 r0 3 (if (ps_i s4 r0 3) < v1 then v1 else (ps_i s4 r0 3))) r0 4) < (v2 + 0) then (v2 + 0) else (ps_i (ps_ui s4 r0 3 (if (ps_i s4 r0 3) < v1 then v1 else (ps_i s4 r0 3))) r0 4))) (ps_rI (fun v5 s5 =>
                ps_nk (ps_is r2 9) (ps_Cl d 136 [.ref r2, .int v5] s5 (ps_rI (fun v6 s6 =>
                  ps_At (d + 1) 103 176 [(0, .ref r0), (1, .ref r1), (2, .ref r2), (3, .int x3), (4, .int v1), (5, .int (v2 + 0)), (6, .int (x3 + 1)), (7, .int v6)] [] s6 Q))))))))))) ∧
            (v4 ≠ 0 →
              ps_nk (ps_is r0 6) (ps_nk (ps_is r0 6) (ps_nk (ps_is r0 6) (ps_nk (ps_is r0 6) (ps_nk (ps_is r1 5) (ps_Cl d 92 [.ref r1, .int x3] (ps_ui (ps_ui s4 r0 3 (if (ps_i s4 r0 3) < v1 then v1 else (ps_i s4 r0 3))) r0 4 (if (ps_i (ps_ui s4 r0 3 (if (ps_i s4 r0 3) < v1 then v1 else (ps_i s4 r0 3))) r0 4) < (v2 + 1) then (v2 + 1) else (ps_i (ps_ui s4 r0 3 (if (ps_i s4 r0 3) < v1 then v1 else (ps_i s4 r0 3))) r0 4))) (ps_rI (fun v7 s7 =>
                ps_nk (ps_is r2 9) (ps_Cl d 136 [.ref r2, .int v7] s7 (ps_rI (fun v8 s8 =>
                  ps_At (d + 1) 103 176 [(0, .ref r0), (1, .ref r1), (2, .ref r2), (3, .int x3), (4, .int v1), (5, .int (v2 + 1)), (6, .int (x3 + 1)), (7, .int v8)] [] s8 Q))))))))))))))))))))))))) : ps_At (d + 1) 103 92 [(0, .ref r0), (1, .ref r1), (2, .ref r2), (3, .int x3)] [] s Q :=
  ps_wp_at (stops := [(35, [0, 1, 2, 3]), (55, [0, 1, 2, 3, 4, 5]), (92, [0, 1, 2, 3]), (176, [0, 1, 2, 3, 4, 5, 6, 7])]) (n := 71) h rfl

theorem pg_103_176 {d : Nat} {r0 : Nat} {r1 : Nat} {r2 : Nat} {x3 : Int32} {x4 : Int32} {x5 : Int32} {x6 : Int32} {x7 : Int32} {s : ps_S} {Q : Option Value → ps_S → Prop} (h :
  (x7 ≤ 0 →
    ps_At (d + 1) 103 92 [(0, .ref r0), (1, .ref r1), (2, .ref r2), (3, .int (x3 + 1))] [] s Q) ∧
  (0 < x7 →
    ps_nk (ps_is r0 6) (ps_Cl d 183 [.ref (ps_c0 r0 1), .int x6, .int (x4 + 1)] s (ps_rV (fun s1 =>
      ps_nk (ps_is r0 6) (ps_Cl d 183 [.ref (ps_c0 r0 2), .int x6, .int x5] s1 (ps_rV (fun s2 =>
        ps_nk (ps_is r0 6) (ps_Cl d 104 [.ref r0, .int x6] s2 (ps_rI (fun v3 s3 =>
          ps_At (d + 1) 103 176 [(0, .ref r0), (1, .ref r1), (2, .ref r2), (3, .int x3), (4, .int x4), (5, .int x5), (6, .int v3), (7, .int (x7 + (-1)))] [] s3 Q))))))))))) : ps_At (d + 1) 103 176 [(0, .ref r0), (1, .ref r1), (2, .ref r2), (3, .int x3), (4, .int x4), (5, .int x5), (6, .int x6), (7, .int x7)] [] s Q :=
  ps_wp_at (stops := [(35, [0, 1, 2, 3]), (55, [0, 1, 2, 3, 4, 5]), (92, [0, 1, 2, 3]), (176, [0, 1, 2, 3, 4, 5, 6, 7])]) (n := 24) h rfl

theorem xs_103_55 {m s : ps_S} {t : Int32} {d : Nat} {r0 : Nat} {r1 : Nat} {r2 : Nat} {x3 : Int32} {x4 : Int32} {x5 : Int32} {Q : Option Value → ps_S → Prop} (h0 : ps_is r0 6 = true) (h1 : ps_is r1 5 = true) (h2 : ps_is r2 9 = true) (J : xJ m t s) (k : ∀ (s' : ps_S), xJ m t s' → Q none s') (K35 : ∀ (s : ps_S), ps_is r0 6 = true → ps_is r1 5 = true → ps_is r2 9 = true → xJ m t s → ps_At (d + 1) 103 35 [(0, .ref r0), (1, .ref r1), (2, .ref r2), (3, .int (x3 + (-1)))] [] s Q) : ps_At (d + 1) 103 55 [(0, .ref r0), (1, .ref r1), (2, .ref r2), (3, .int x3), (4, .int x4), (5, .int x5)] [] s Q :=
  xs_dn (P := fun x5 => ∀ (x4 : Int32) (s : ps_S), ps_is r0 6 = true → ps_is r1 5 = true → ps_is r2 9 = true → xJ m t s → ps_At (d + 1) 103 55 [(0, .ref r0), (1, .ref r1), (2, .ref r2), (3, .int x3), (4, .int x4), (5, .int x5)] [] s Q) (fun x5 ih x4 s h0 h1 h2 J => pg_103_55 (d := d) (And.intro (fun f1 => (ps_nk_i h0 (xs_183 (xk_6_0 h0) J (fun s1 J1 e1 => (K35 s1 h0 h1 h2 J1))))) (fun f1 => (ps_nk_i h0 (xs_104 h0 J (fun v2 => (ih ((x5 + (-1))) (xs_gt f1) (v2) s h0 h1 h2 J))))))) x5 x4 s h0 h1 h2 J

theorem xs_103_176 {m s : ps_S} {t : Int32} {d : Nat} {r0 : Nat} {r1 : Nat} {r2 : Nat} {x3 : Int32} {x4 : Int32} {x5 : Int32} {x6 : Int32} {x7 : Int32} {Q : Option Value → ps_S → Prop} (h0 : ps_is r0 6 = true) (h1 : ps_is r1 5 = true) (h2 : ps_is r2 9 = true) (J : xJ m t s) (k : ∀ (s' : ps_S), xJ m t s' → Q none s') (K92 : ∀ (s : ps_S), ps_is r0 6 = true → ps_is r1 5 = true → ps_is r2 9 = true → xJ m t s → ps_At (d + 1) 103 92 [(0, .ref r0), (1, .ref r1), (2, .ref r2), (3, .int (x3 + 1))] [] s Q) : ps_At (d + 1) 103 176 [(0, .ref r0), (1, .ref r1), (2, .ref r2), (3, .int x3), (4, .int x4), (5, .int x5), (6, .int x6), (7, .int x7)] [] s Q :=
  xs_dn (P := fun x7 => ∀ (x6 : Int32) (s : ps_S), ps_is r0 6 = true → ps_is r1 5 = true → ps_is r2 9 = true → xJ m t s → ps_At (d + 1) 103 176 [(0, .ref r0), (1, .ref r1), (2, .ref r2), (3, .int x3), (4, .int x4), (5, .int x5), (6, .int x6), (7, .int x7)] [] s Q) (fun x7 ih x6 s h0 h1 h2 J => pg_103_176 (d := d) (And.intro (fun f1 => (K92 s h0 h1 h2 J)) (fun f1 => (ps_nk_i h0 (xs_183 (xk_6_1 h0) J (fun s1 J1 e1 => (ps_nk_i h0 (xs_183 (xk_6_2 h0) J1 (fun s2 J2 e2 => (ps_nk_i h0 (xs_104 h0 J2 (fun v3 => (ih ((x7 + (-1))) (xs_gt f1) (v3) s2 h0 h1 h2 J2))))))))))))) x7 x6 s h0 h1 h2 J

theorem xs_103_92 {m s : ps_S} {t : Int32} {d : Nat} {r0 : Nat} {r1 : Nat} {r2 : Nat} {x3 : Int32} {Q : Option Value → ps_S → Prop} (h0 : ps_is r0 6 = true) (h1 : ps_is r1 5 = true) (h2 : ps_is r2 9 = true) (J : xJ m t s) (k : ∀ (s' : ps_S), xJ m t s' → Q none s') : ps_At (d + 1) 103 92 [(0, .ref r0), (1, .ref r1), (2, .ref r2), (3, .int x3)] [] s Q :=
  xs_up (P := fun x3 => ∀ (s : ps_S), ps_is r0 6 = true → ps_is r1 5 = true → ps_is r2 9 = true → xJ m t s → ps_At (d + 1) 103 92 [(0, .ref r0), (1, .ref r1), (2, .ref r2), (3, .int x3)] [] s Q) (fun x3 ih s h0 h1 h2 J => pg_103_92 (d := d) (ps_nk_i h1 (And.intro (fun f1 => (k s J)) (fun f1 => (ps_nk_i h0 (xs_182 (xk_6_1 h0) J (fun v1 => (ps_nk_i h0 (xs_105 h0 J (fun v2 => (ps_nk_i h1 (xs_92 h1 J (fun v3 => (xs_184  J (fun v4 b4 => (And.intro (fun f2 => (ps_nk_i h0 (ps_nk_i h0 (ps_nk_i h0 (ps_nk_i h0 (ps_nk_i h1 (xs_92 h1 (xw_i (c := 6) (by decide) h0 (xw_i (c := 6) (by decide) h0 J)) (fun v5 => (ps_nk_i h2 (xs_136 h2 (xw_i (c := 6) (by decide) h0 (xw_i (c := 6) (by decide) h0 J)) (fun v6 => (xs_103_176 (d := d) (r0 := r0) (r1 := r1) (r2 := r2) (x3 := x3) (x4 := v1) (x5 := (v2 + 0)) (x6 := (x3 + 1)) (x7 := v6)  h0 h1 h2 (xw_i (c := 6) (by decide) h0 (xw_i (c := 6) (by decide) h0 J)) k (fun s9 h0z h1z h2z J9 => ih (x3 + 1) (xs_lt f1) s9 h0z h1z h2z J9))))))))))))) (fun f2 => (ps_nk_i h0 (ps_nk_i h0 (ps_nk_i h0 (ps_nk_i h0 (ps_nk_i h1 (xs_92 h1 (xw_i (c := 6) (by decide) h0 (xw_i (c := 6) (by decide) h0 J)) (fun v7 => (ps_nk_i h2 (xs_136 h2 (xw_i (c := 6) (by decide) h0 (xw_i (c := 6) (by decide) h0 J)) (fun v8 => (xs_103_176 (d := d) (r0 := r0) (r1 := r1) (r2 := r2) (x3 := x3) (x4 := v1) (x5 := (v2 + 1)) (x6 := (x3 + 1)) (x7 := v8)  h0 h1 h2 (xw_i (c := 6) (by decide) h0 (xw_i (c := 6) (by decide) h0 J)) k (fun s9 h0z h1z h2z J9 => ih (x3 + 1) (xs_lt f1) s9 h0z h1z h2z J9))))))))))))))))))))))))))))) x3 s h0 h1 h2 J

theorem xs_103_35 {m s : ps_S} {t : Int32} {d : Nat} {r0 : Nat} {r1 : Nat} {r2 : Nat} {x3 : Int32} {Q : Option Value → ps_S → Prop} (h0 : ps_is r0 6 = true) (h1 : ps_is r1 5 = true) (h2 : ps_is r2 9 = true) (J : xJ m t s) (k : ∀ (s' : ps_S), xJ m t s' → Q none s') : ps_At (d + 1) 103 35 [(0, .ref r0), (1, .ref r1), (2, .ref r2), (3, .int x3)] [] s Q :=
  xs_dn (P := fun x3 => ∀ (s : ps_S), ps_is r0 6 = true → ps_is r1 5 = true → ps_is r2 9 = true → xJ m t s → ps_At (d + 1) 103 35 [(0, .ref r0), (1, .ref r1), (2, .ref r2), (3, .int x3)] [] s Q) (fun x3 ih s h0 h1 h2 J => pg_103_35 (d := d) (And.intro (fun f1 => (xs_103_92 (d := d) (r0 := r0) (r1 := r1) (r2 := r2) (x3 := 0)  h0 h1 h2 J k )) (fun f1 => (ps_nk_i h1 (xs_92 h1 J (fun v1 => (ps_nk_i h2 (xs_136 h2 J (fun v2 => (xs_103_55 (d := d) (r0 := r0) (r1 := r1) (r2 := r2) (x3 := x3) (x4 := (x3 + 1)) (x5 := v2)  h0 h1 h2 J k (fun s9 h0z h1z h2z J9 => ih (x3 + (-1)) (xs_ge f1) s9 h0z h1z h2z J9))))))))))) x3 s h0 h1 h2 J

theorem xs_103 {m s : ps_S} {t : Int32} {d : Nat} {r0 : Nat} {r1 : Nat} {r2 : Nat} {f : ps_S → Prop} (h0 : ps_is r0 6 = true) (h1 : ps_is r1 5 = true) (h2 : ps_is r2 9 = true) (J : xJ m t s) (k : ∀ (s' : ps_S), xJ m t s' → f s') : ps_Cl (d + 1) 103 [.ref r0, .ref r1, .ref r2] s (ps_rV f) :=
  pg_103_0 (d := d) (ps_nk_i h0 (ps_nk_i h0 (ps_nk_i h0 (xs_183 (xk_6_1 h0) (xw_i (c := 6) (by decide) h0 (xw_i (c := 6) (by decide) h0 J)) (fun s1 J1 e1 => (ps_nk_i h0 (xs_183 (xk_6_2 h0) J1 (fun s2 J2 e2 => (ps_nk_i h1 (xs_103_35 (d := d) (r0 := r0) (r1 := r1) (r2 := r2) (x3 := ((ps_i s2 r1 1) - 1))  h0 h1 h2 J2 k ))))))))))
