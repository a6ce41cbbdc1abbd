set_option maxRecDepth 100000
-- ProofBench$Proof.generalise(LProofBench$Step;LProofBench$Row;)I
theorem pg_49_0 {d : Nat} {r0 : Nat} {r1 : Nat} {r2 : Nat} {s : ps_S} {Q : Option Value → ps_S → Prop} (h :
  ps_nk (ps_is r0 2) (ps_Cl d 37 [.ref r0, .ref r1, .int 0] s (ps_rA (fun v1 s1 =>
    ps_nk (ps_is r1 8) (ps_nk (ps_is r0 2) (ps_nk (ps_is r0 2) (ps_Cl d 51 [.ref r0, .ref v1, .int (ps_i s1 r1 3), .ref (ps_c0 r0 3)] s1 (ps_rI (fun v2 s2 =>
      (v2 = 0 →
        ps_nk (ps_is r0 2) (ps_nk (ps_is r0 2) (ps_nk (ps_is (ps_c0 r0 5) 6) (ps_Cl d 103 [.ref (ps_c0 r0 5), .ref r2, .ref (ps_r s2 r0 6)] s2 (ps_rV (fun s3 =>
          ps_nk (ps_is r1 8) (ps_nk (ps_is (ps_c0 r1 6) 5) (ps_Cl d 91 [.ref (ps_c0 r1 6)] s3 (ps_rV (fun s4 =>
            ps_nk (ps_is r1 8) (ps_nk (ps_is (ps_c0 r1 6) 5) (ps_Cl d 93 [.ref (ps_c0 r1 6), .int 4] s4 (ps_rV (fun s5 =>
              ps_At (d + 1) 49 52 [(0, .ref r0), (1, .ref r1), (2, .ref r2), (3, .int 0)] [] s5 Q)))))))))))))) ∧
      (v2 ≠ 0 →
        Q (some (.int 3)) s2)))))))))) : ps_At (d + 1) 49 0 [(0, .ref r0), (1, .ref r1), (2, .ref r2)] [] s Q :=
  ps_wp_at (stops := [(52, [0, 1, 2, 3])]) (n := 30) h rfl

theorem pg_49_52 {d : Nat} {r0 : Nat} {r1 : Nat} {r2 : Nat} {x3 : Int32} {s : ps_S} {Q : Option Value → ps_S → Prop} (h :
  ps_nk (ps_is r2 5) (((ps_i s r2 1) ≤ x3 →
    Q (some (.int 0)) s) ∧
  (x3 < (ps_i s r2 1) →
    ps_nk (ps_is r1 8) (ps_nk (ps_is r2 5) (ps_Cl d 92 [.ref r2, .int x3] s (ps_rI (fun v1 s1 =>
      ps_nk (ps_is r1 8) ((v1 ≠ (ps_i s1 r1 3) →
        ps_nk (ps_is r2 5) (ps_Cl d 92 [.ref r2, .int x3] s1 (ps_rI (fun v2 s2 =>
          ps_nk (ps_is (ps_c0 r1 6) 5) (ps_Cl d 93 [.ref (ps_c0 r1 6), .int v2] s2 (ps_rV (fun s3 =>
            ps_At (d + 1) 49 52 [(0, .ref r0), (1, .ref r1), (2, .ref r2), (3, .int (x3 + 1))] [] s3 Q))))))) ∧
      (v1 = (ps_i s1 r1 3) →
        ps_nk (ps_is r0 2) (ps_nk (ps_is (ps_c0 r0 5) 6) (ps_Cl d 105 [.ref (ps_c0 r0 5), .int x3] s1 (ps_rI (fun v4 s4 =>
          ps_nk (ps_is (ps_c0 r1 6) 5) (ps_Cl d 93 [.ref (ps_c0 r1 6), .int ((40 : Int32) + v4)] s4 (ps_rV (fun s5 =>
            ps_At (d + 1) 49 52 [(0, .ref r0), (1, .ref r1), (2, .ref r2), (3, .int (x3 + 1))] [] s5 Q)))))))))))))))) : ps_At (d + 1) 49 52 [(0, .ref r0), (1, .ref r1), (2, .ref r2), (3, .int x3)] [] s Q :=
  ps_wp_at (stops := [(52, [0, 1, 2, 3])]) (n := 32) h rfl

theorem xs_49_52 {m s : ps_S} {t : Int32} {d : Nat} {r0 : Nat} {r1 : Nat} {r2 : Nat} {x3 : Int32} {Q : Option Value → ps_S → Prop} (h0 : ps_is r0 2 = true) (h1 : ps_is r1 8 = true) (h2 : ps_is r2 5 = true) (J : xJ m t s) (k : ∀ (v : Int32) (s' : ps_S), xJ m t s' → Q (some (.int v)) s') : ps_At (d + 3) 49 52 [(0, .ref r0), (1, .ref r1), (2, .ref r2), (3, .int x3)] [] s Q :=
  xs_up (P := fun x3 => ∀ (s : ps_S), ps_is r0 2 = true → ps_is r1 8 = true → ps_is r2 5 = true → xJ m t s → ps_At (d + 3) 49 52 [(0, .ref r0), (1, .ref r1), (2, .ref r2), (3, .int x3)] [] s Q) (fun x3 ih s h0 h1 h2 J => pg_49_52 (d := d + 2) (ps_nk_i h2 (And.intro (fun f1 => (k 0 s J)) (fun f1 => (ps_nk_i h1 (ps_nk_i h2 (xs_92 h2 J (fun v1 => (ps_nk_i h1 (And.intro (fun f2 => (ps_nk_i h2 (xs_92 h2 J (fun v2 => (ps_nk_i (xk_8_6 h1) (xs_93 (xk_8_6 h1) J (fun s3 J3 => (ih ((x3 + 1)) (xs_lt f1) s3 h0 h1 h2 J3)))))))) (fun f2 => (ps_nk_i h0 (ps_nk_i (xk_2_5 h0) (xs_105 (xk_2_5 h0) J (fun v4 => (ps_nk_i (xk_8_6 h1) (xs_93 (xk_8_6 h1) J (fun s5 J5 => (ih ((x3 + 1)) (xs_lt f1) s5 h0 h1 h2 J5))))))))))))))))))) x3 s h0 h1 h2 J

theorem xs_49 {m s : ps_S} {t : Int32} {d : Nat} {r0 : Nat} {r1 : Nat} {r2 : Nat} {f : Int32 → ps_S → Prop} (h0 : ps_is r0 2 = true) (h1 : ps_is r1 8 = true) (h2 : ps_is r2 5 = true) (J : xJ m t s) (k : ∀ (v : Int32) (s' : ps_S), xJ m t s' → f v s') : ps_Cl (d + 3) 49 [.ref r0, .ref r1, .ref r2] s (ps_rI f) :=
  pg_49_0 (d := d + 2) (ps_nk_i h0 (xs_37 h0 h1 J (fun v1 g1 => (ps_nk_i h1 (ps_nk_i h0 (ps_nk_i h0 (xs_51 h0 g1 (xk_2_3 h0) J (fun v2 b2 => (And.intro (fun f1 => (ps_nk_i h0 (ps_nk_i h0 (ps_nk_i (xk_2_5 h0) (xs_103 (xk_2_5 h0) h2 (xj_2_6 J h0) J (fun s3 J3 => (ps_nk_i h1 (ps_nk_i (xk_8_6 h1) (xs_91 (xk_8_6 h1) J3 (fun s4 J4 => (ps_nk_i h1 (ps_nk_i (xk_8_6 h1) (xs_93 (xk_8_6 h1) J4 (fun s5 J5 => (xs_49_52 (d := d) (r0 := r0) (r1 := r1) (r2 := r2) (x3 := 0)  h0 h1 h2 J5 k ))))))))))))))) (fun f1 => (k 3 s J)))))))))))

-- ProofBench$Proof.putInto(LProofBench$Row;LProofBench$Row;LProofBench$Row;)V
theorem pg_52_0 {d : Nat} {r0 : Nat} {r1 : Nat} {r2 : Nat} {r3 : Nat} {s : ps_S} {Q : Option Value → ps_S → Prop} (h :
  ps_nk (ps_is r0 2) (ps_nk (ps_is r0 2) (ps_nk (ps_is (ps_c0 r0 5) 6) (ps_Cl d 103 [.ref (ps_c0 r0 5), .ref r2, .ref (ps_r s r0 6)] s (ps_rV (fun s1 =>
    ps_nk (ps_is r1 5) (ps_Cl d 91 [.ref r1] s1 (ps_rV (fun s2 =>
      ps_At (d + 1) 52 19 [(0, .ref r0), (1, .ref r1), (2, .ref r2), (3, .ref r3), (4, .int 1)] [] s2 Q))))))))) : ps_At (d + 1) 52 0 [(0, .ref r0), (1, .ref r1), (2, .ref r2), (3, .ref r3)] [] s Q :=
  ps_wp_at (stops := [(19, [0, 1, 2, 3, 4])]) (n := 12) h rfl

theorem pg_52_19 {d : Nat} {r0 : Nat} {r1 : Nat} {r2 : Nat} {r3 : Nat} {x4 : Int32} {s : ps_S} {Q : Option Value → ps_S → Prop} (h :
  ps_nk (ps_is r2 5) (((ps_i s r2 1) ≤ x4 →
    Q none s) ∧
  (x4 < (ps_i s r2 1) →
    ps_nk (ps_is r2 5) (ps_Cl d 92 [.ref r2, .int x4] s (ps_rI (fun v1 s1 =>
      ps_nk (ps_is r0 2) (ps_nk (ps_is (ps_c0 r0 5) 6) (ps_Cl d 105 [.ref (ps_c0 r0 5), .int x4] s1 (ps_rI (fun v2 s2 =>
        (v1 ≠ (((40 : Int32) + v2) - 1) →
          ps_nk (ps_is r2 5) (ps_Cl d 92 [.ref r2, .int x4] s2 (ps_rI (fun v3 s3 =>
            ps_nk (ps_is r1 5) (ps_Cl d 93 [.ref r1, .int v3] s3 (ps_rV (fun s4 =>
              ps_At (d + 1) 52 19 [(0, .ref r0), (1, .ref r1), (2, .ref r2), (3, .ref r3), (4, .int (x4 + 1))] [] s4 Q))))))) ∧
        (v1 = (((40 : Int32) + v2) - 1) →
          ps_nk (ps_is r3 5) (ps_nk (ps_is r1 5) (ps_Cl d 94 [.ref r1, .ref r3, .int 0, .int (ps_i s2 r3 1)] s2 (ps_rV (fun s5 =>
            ps_At (d + 1) 52 19 [(0, .ref r0), (1, .ref r1), (2, .ref r2), (3, .ref r3), (4, .int (x4 + 1))] [] s5 Q))))))))))))))) : ps_At (d + 1) 52 19 [(0, .ref r0), (1, .ref r1), (2, .ref r2), (3, .ref r3), (4, .int x4)] [] s Q :=
  ps_wp_at (stops := [(19, [0, 1, 2, 3, 4])]) (n := 35) h rfl

theorem xs_52_19 {m s : ps_S} {t : Int32} {d : Nat} {r0 : Nat} {r1 : Nat} {r2 : Nat} {r3 : Nat} {x4 : Int32} {Q : Option Value → ps_S → Prop} (h0 : ps_is r0 2 = true) (h1 : ps_is r1 5 = true) (h2 : ps_is r2 5 = true) (h3 : ps_is r3 5 = true) (J : xJ m t s) (k : ∀ (s' : ps_S), xJ m t s' → Q none s') : ps_At (d + 2) 52 19 [(0, .ref r0), (1, .ref r1), (2, .ref r2), (3, .ref r3), (4, .int x4)] [] s Q :=
  xs_up (P := fun x4 => ∀ (s : ps_S), ps_is r0 2 = true → ps_is r1 5 = true → ps_is r2 5 = true → ps_is r3 5 = true → xJ m t s → ps_At (d + 2) 52 19 [(0, .ref r0), (1, .ref r1), (2, .ref r2), (3, .ref r3), (4, .int x4)] [] s Q) (fun x4 ih s h0 h1 h2 h3 J => pg_52_19 (d := d + 1) (ps_nk_i h2 (And.intro (fun f1 => (k s J)) (fun f1 => (ps_nk_i h2 (xs_92 h2 J (fun v1 => (ps_nk_i h0 (ps_nk_i (xk_2_5 h0) (xs_105 (xk_2_5 h0) J (fun v2 => (And.intro (fun f2 => (ps_nk_i h2 (xs_92 h2 J (fun v3 => (ps_nk_i h1 (xs_93 h1 J (fun s4 J4 => (ih ((x4 + 1)) (xs_lt f1) s4 h0 h1 h2 h3 J4)))))))) (fun f2 => (ps_nk_i h3 (ps_nk_i h1 (xs_94 h1 h3 J (fun s5 J5 => (ih ((x4 + 1)) (xs_lt f1) s5 h0 h1 h2 h3 J5)))))))))))))))))) x4 s h0 h1 h2 h3 J

theorem xs_52 {m s : ps_S} {t : Int32} {d : Nat} {r0 : Nat} {r1 : Nat} {r2 : Nat} {r3 : Nat} {f : ps_S → Prop} (h0 : ps_is r0 2 = true) (h1 : ps_is r1 5 = true) (h2 : ps_is r2 5 = true) (h3 : ps_is r3 5 = true) (J : xJ m t s) (k : ∀ (s' : ps_S), xJ m t s' → f s') : ps_Cl (d + 2) 52 [.ref r0, .ref r1, .ref r2, .ref r3] s (ps_rV f) :=
  pg_52_0 (d := d + 1) (ps_nk_i h0 (ps_nk_i h0 (ps_nk_i (xk_2_5 h0) (xs_103 (xk_2_5 h0) h2 (xj_2_6 J h0) J (fun s1 J1 => (ps_nk_i h1 (xs_91 h1 J1 (fun s2 J2 => (xs_52_19 (d := d) (r0 := r0) (r1 := r1) (r2 := r2) (r3 := r3) (x4 := 1)  h0 h1 h2 h3 J2 k )))))))))

-- ProofBench$Proof.specialise(LProofBench$Step;LProofBench$Row;)I
theorem pg_50_0 {d : Nat} {r0 : Nat} {r1 : Nat} {r2 : Nat} {s : ps_S} {Q : Option Value → ps_S → Prop} (h :
  ps_nk (ps_is r2 5) (ps_Cl d 92 [.ref r2, .int 0] s (ps_rI (fun v1 s1 =>
    (v1 = 4 →
      ps_nk (ps_is r1 8) (ps_nk (ps_is r1 8) (ps_nk (ps_is r0 2) (ps_Cl d 52 [.ref r0, .ref (ps_c0 r1 6), .ref r2, .ref (ps_c0 r1 4)] s1 (ps_rV (fun s2 =>
        Q (some (.int 0)) s2)))))) ∧
    (v1 ≠ 4 →
      Q (some (.int 2)) s1))))) : ps_At (d + 1) 50 0 [(0, .ref r0), (1, .ref r1), (2, .ref r2)] [] s Q :=
  ps_wp_at (stops := []) (n := 18) h rfl

theorem xs_50 {m s : ps_S} {t : Int32} {d : Nat} {r0 : Nat} {r1 : Nat} {r2 : Nat} {f : Int32 → ps_S → Prop} (h0 : ps_is r0 2 = true) (h1 : ps_is r1 8 = true) (h2 : ps_is r2 5 = true) (J : xJ m t s) (k : ∀ (v : Int32) (s' : ps_S), xJ m t s' → f v s') : ps_Cl (d + 3) 50 [.ref r0, .ref r1, .ref r2] s (ps_rI f) :=
  pg_50_0 (d := d + 2) (ps_nk_i h2 (xs_92 h2 J (fun v1 => (And.intro (fun f1 => (ps_nk_i h1 (ps_nk_i h1 (ps_nk_i h0 (xs_52 h0 (xk_8_6 h1) h2 (xk_8_4 h1) J (fun s2 J2 => (k 0 s2 J2))))))) (fun f1 => (k 2 s J))))))

-- ProofBench$Proof.makeSome(LProofBench$Step;LProofBench$Row;)I
theorem pg_53_0 {d : Nat} {r0 : Nat} {r1 : Nat} {r2 : Nat} {s : ps_S} {Q : Option Value → ps_S → Prop} (h :
  ps_nk (ps_is r1 8) (ps_nk (ps_is (ps_c0 r1 5) 5) (ps_Cl d 92 [.ref (ps_c0 r1 5), .int 0] s (ps_rI (fun v1 s1 =>
    (v1 = 5 →
      ps_nk (ps_is r0 2) (ps_nk (ps_is r1 8) (ps_nk (ps_is r1 8) (ps_nk (ps_is r0 2) (ps_Cl d 52 [.ref r0, .ref (ps_c0 r0 4), .ref (ps_c0 r1 5), .ref (ps_c0 r1 4)] s1 (ps_rV (fun s2 =>
        ps_nk (ps_is r0 2) (ps_nk (ps_is (ps_c0 r0 4) 5) (ps_Cl d 98 [.ref (ps_c0 r0 4), .ref r2] s2 (ps_rI (fun v3 s3 =>
          (v3 ≠ 0 →
            ps_nk (ps_is r1 8) (ps_nk (ps_is r1 8) (ps_nk (ps_is (ps_c0 r1 6) 5) (ps_Cl d 95 [.ref (ps_c0 r1 6), .ref (ps_c0 r1 5)] s3 (ps_rV (fun s4 =>
              Q (some (.int 0)) s4)))))) ∧
          (v3 = 0 →
            Q (some (.int 4)) s3)))))))))))) ∧
    (v1 ≠ 5 →
      Q (some (.int 4)) s1)))))) : ps_At (d + 1) 53 0 [(0, .ref r0), (1, .ref r1), (2, .ref r2)] [] s Q :=
  ps_wp_at (stops := []) (n := 32) h rfl

theorem xs_53 {m s : ps_S} {t : Int32} {d : Nat} {r0 : Nat} {r1 : Nat} {r2 : Nat} {f : Int32 → ps_S → Prop} (h0 : ps_is r0 2 = true) (h1 : ps_is r1 8 = true) (h2 : ps_is r2 5 = true) (J : xJ m t s) (k : ∀ (v : Int32) (s' : ps_S), xJ m t s' → f v s') : ps_Cl (d + 3) 53 [.ref r0, .ref r1, .ref r2] s (ps_rI f) :=
  pg_53_0 (d := d + 2) (ps_nk_i h1 (ps_nk_i (xk_8_5 h1) (xs_92 (xk_8_5 h1) J (fun v1 => (And.intro (fun f1 => (ps_nk_i h0 (ps_nk_i h1 (ps_nk_i h1 (ps_nk_i h0 (xs_52 h0 (xk_2_4 h0) (xk_8_5 h1) (xk_8_4 h1) J (fun s2 J2 => (ps_nk_i h0 (ps_nk_i (xk_2_4 h0) (xs_98 (xk_2_4 h0) h2 J2 (fun v3 b3 => (And.intro (fun f2 => (ps_nk_i h1 (ps_nk_i h1 (ps_nk_i (xk_8_6 h1) (xs_95 (xk_8_6 h1) (xk_8_5 h1) J2 (fun s4 J4 => (k 0 s4 J4))))))) (fun f2 => (k 4 s2 J2)))))))))))))) (fun f1 => (k 4 s J)))))))

-- ProofBench$Proof.openSome(LProofBench$Step;LProofBench$Row;LProofBench$Step;)I
theorem pg_54_0 {d : Nat} {r0 : Nat} {r1 : Nat} {r2 : Nat} {r3 : Nat} {s : ps_S} {Q : Option Value → ps_S → Prop} (h :
  ps_nk (ps_is r2 5) (ps_Cl d 92 [.ref r2, .int 0] s (ps_rI (fun v1 s1 =>
    (v1 = 5 →
      ps_nk (ps_is r1 8) (ps_nk (ps_is (ps_c0 r1 4) 5) (ps_Cl d 91 [.ref (ps_c0 r1 4)] s1 (ps_rV (fun s2 =>
        ps_nk (ps_is r1 8) (ps_nk (ps_is r1 8) (ps_nk (ps_is (ps_c0 r1 4) 5) (ps_Cl d 93 [.ref (ps_c0 r1 4), .int (ps_i s2 r1 3)] s2 (ps_rV (fun s3 =>
          ps_nk (ps_is r0 2) (ps_Cl d 38 [.ref r0, .int 1] s3 (ps_rA (fun v4 s4 =>
            ps_nk (ps_is r1 8) (ps_nk (ps_is r0 2) (ps_Cl d 52 [.ref r0, .ref v4, .ref r2, .ref (ps_c0 r1 4)] s4 (ps_rV (fun s5 =>
              ps_nk (ps_is r1 8) (ps_nk (ps_is r2 5) (ps_Cl d 100 [.ref r2, .int (ps_i s5 r1 3)] s5 (ps_rI (fun v6 s6 =>
                (v6 ≠ 0 →
                  ps_At (d + 1) 54 68 [(0, .ref r0), (1, .ref r1), (3, .ref r3)] [] s6 Q) ∧
                (v6 = 0 →
                  ps_nk (ps_is r3 8) (ps_nk (ps_is r1 8) (ps_nk (ps_is (ps_c0 r3 6) 5) (ps_Cl d 100 [.ref (ps_c0 r3 6), .int (ps_i s6 r1 3)] s6 (ps_rI (fun v7 s7 =>
                    (v7 = 0 →
                      ((0 : Int32) ≠ 0 →
                        Q (some (.int 3)) s7) ∧
                      ((0 : Int32) = 0 →
                        ps_nk (ps_is r1 8) (ps_nk (ps_is r0 2) (ps_Cl d 38 [.ref r0, .int 1] s7 (ps_rA (fun v8 s8 =>
                          ps_nk (ps_is r0 2) (ps_Cl d 51 [.ref r0, .ref r3, .int (ps_i s7 r1 3), .ref v8] s8 (ps_rI (fun v9 s9 =>
                            (v9 = 0 →
                              ps_nk (ps_is r1 8) (ps_nk (ps_is r3 8) (ps_nk (ps_is (ps_c0 r1 6) 5) (ps_Cl d 95 [.ref (ps_c0 r1 6), .ref (ps_c0 r3 6)] s9 (ps_rV (fun s10 =>
                                Q (some (.int 0)) s10)))))) ∧
                            (v9 ≠ 0 →
                              Q (some (.int 3)) s9)))))))))) ∧
                    (v7 ≠ 0 →
                      ps_At (d + 1) 54 68 [(0, .ref r0), (1, .ref r1), (3, .ref r3)] [] s7 Q)))))))))))))))))))))))))))) ∧
    (v1 ≠ 5 →
      Q (some (.int 2)) s1))))) : ps_At (d + 1) 54 0 [(0, .ref r0), (1, .ref r1), (2, .ref r2), (3, .ref r3)] [] s Q :=
  ps_wp_at (stops := [(68, [0, 1, 3])]) (n := 60) h rfl

theorem pg_54_68 {d : Nat} {r0 : Nat} {r1 : Nat} {r3 : Nat} {s : ps_S} {Q : Option Value → ps_S → Prop} (h :
  ((1 : Int32) ≠ 0 →
    Q (some (.int 3)) s) ∧
  ((1 : Int32) = 0 →
    ps_nk (ps_is r1 8) (ps_nk (ps_is r0 2) (ps_Cl d 38 [.ref r0, .int 1] s (ps_rA (fun v1 s1 =>
      ps_nk (ps_is r0 2) (ps_Cl d 51 [.ref r0, .ref r3, .int (ps_i s r1 3), .ref v1] s1 (ps_rI (fun v2 s2 =>
        (v2 = 0 →
          ps_nk (ps_is r1 8) (ps_nk (ps_is r3 8) (ps_nk (ps_is (ps_c0 r1 6) 5) (ps_Cl d 95 [.ref (ps_c0 r1 6), .ref (ps_c0 r3 6)] s2 (ps_rV (fun s3 =>
            Q (some (.int 0)) s3)))))) ∧
        (v2 ≠ 0 →
          Q (some (.int 3)) s2)))))))))) : ps_At (d + 1) 54 68 [(0, .ref r0), (1, .ref r1), (3, .ref r3)] [] s Q :=
  ps_wp_at (stops := [(68, [0, 1, 3])]) (n := 27) h rfl

theorem xs_54_68 {m s : ps_S} {t : Int32} {d : Nat} {r0 : Nat} {r1 : Nat} {r3 : Nat} {Q : Option Value → ps_S → Prop} (h0 : ps_is r0 2 = true) (h1 : ps_is r1 8 = true) (h3 : ps_is r3 8 = true) (J : xJ m t s) (k : ∀ (v : Int32) (s' : ps_S), xJ m t s' → Q (some (.int v)) s') : ps_At (d + 3) 54 68 [(0, .ref r0), (1, .ref r1), (3, .ref r3)] [] s Q :=
  pg_54_68 (d := d + 2) (And.intro (fun f1 => (k 3 s J)) (fun f1 => (ps_nk_i h1 (ps_nk_i h0 (xs_38 h0 J (fun v1 g1 => (ps_nk_i h0 (xs_51 h0 h3 g1 J (fun v2 b2 => (And.intro (fun f2 => (ps_nk_i h1 (ps_nk_i h3 (ps_nk_i (xk_8_6 h1) (xs_95 (xk_8_6 h1) (xk_8_6 h3) J (fun s3 J3 => (k 0 s3 J3))))))) (fun f2 => (k 3 s J))))))))))))

theorem xs_54 {m s : ps_S} {t : Int32} {d : Nat} {r0 : Nat} {r1 : Nat} {r2 : Nat} {r3 : Nat} {f : Int32 → ps_S → Prop} (h0 : ps_is r0 2 = true) (h1 : ps_is r1 8 = true) (h2 : ps_is r2 5 = true) (h3 : ps_is r3 8 = true) (J : xJ m t s) (k : ∀ (v : Int32) (s' : ps_S), xJ m t s' → f v s') : ps_Cl (d + 3) 54 [.ref r0, .ref r1, .ref r2, .ref r3] s (ps_rI f) :=
  pg_54_0 (d := d + 2) (ps_nk_i h2 (xs_92 h2 J (fun v1 => (And.intro (fun f1 => (ps_nk_i h1 (ps_nk_i (xk_8_4 h1) (xs_91 (xk_8_4 h1) J (fun s2 J2 => (ps_nk_i h1 (ps_nk_i h1 (ps_nk_i (xk_8_4 h1) (xs_93 (xk_8_4 h1) J2 (fun s3 J3 => (ps_nk_i h0 (xs_38 h0 J3 (fun v4 g4 => (ps_nk_i h1 (ps_nk_i h0 (xs_52 h0 g4 h2 (xk_8_4 h1) J3 (fun s5 J5 => (ps_nk_i h1 (ps_nk_i h2 (xs_100 h2 J5 (fun v6 b6 => (And.intro (fun f2 => (xs_54_68 (d := d) (r0 := r0) (r1 := r1) (r3 := r3)  h0 h1 h3 J5 k )) (fun f2 => (ps_nk_i h3 (ps_nk_i h1 (ps_nk_i (xk_8_6 h3) (xs_100 (xk_8_6 h3) J5 (fun v7 b7 => (And.intro (fun f3 => (And.intro (fun f4 => (k 3 s5 J5)) (fun f4 => (ps_nk_i h1 (ps_nk_i h0 (xs_38 h0 J5 (fun v8 g8 => (ps_nk_i h0 (xs_51 h0 h3 g8 J5 (fun v9 b9 => (And.intro (fun f5 => (ps_nk_i h1 (ps_nk_i h3 (ps_nk_i (xk_8_6 h1) (xs_95 (xk_8_6 h1) (xk_8_6 h3) J5 (fun s10 J10 => (k 0 s10 J10))))))) (fun f5 => (k 3 s5 J5))))))))))))) (fun f3 => (xs_54_68 (d := d) (r0 := r0) (r1 := r1) (r3 := r3)  h0 h1 h3 J5 k ))))))))))))))))))))))))))))))) (fun f1 => (k 2 s J))))))

-- ProofBench$Proof.isExchanged(LProofBench$Row;LProofBench$Row;LProofBench$Row;)Z
theorem pg_56_0 {d : Nat} {r0 : Nat} {r1 : Nat} {r2 : Nat} {r3 : Nat} {s : ps_S} {Q : Option Value → ps_S → Prop} (h :
  ps_nk (ps_is r0 2) (ps_nk (ps_is r0 2) (ps_nk (ps_is (ps_c0 r0 5) 6) (ps_Cl d 103 [.ref (ps_c0 r0 5), .ref r2, .ref (ps_r s r0 6)] s (ps_rV (fun s1 =>
    ps_nk (ps_is r0 2) (ps_nk (ps_is (ps_c0 r0 5) 6) (ps_Cl d 104 [.ref (ps_c0 r0 5), .int 1] s1 (ps_rI (fun v2 s2 =>
      ps_nk (ps_is r2 5) (ps_At (d + 1) 56 46 [(1, .ref r1), (2, .ref r2), (3, .ref r3), (4, .int v2), (5, .int (v2 - 1)), (6, .int ((ps_i s2 r2 1) - v2)), (7, .int 0), (8, .int 0), (9, .int 0)] [] s2 Q))))))))))) : ps_At (d + 1) 56 0 [(0, .ref r0), (1, .ref r1), (2, .ref r2), (3, .ref r3)] [] s Q :=
  ps_wp_at (stops := [(46, [1, 2, 3, 4, 5, 6, 7, 8, 9]), (117, [1, 2, 3, 4, 5, 6, 7, 8, 9]), (149, [1, 3, 7, 8])]) (n := 28) h rfl

theorem pg_56_46 {d : Nat} {r1 : Nat} {r2 : Nat} {r3 : Nat} {x4 : Int32} {x5 : Int32} {x6 : Int32} {x7 : Int32} {x8 : Int32} {x9 : Int32} {s : ps_S} {Q : Option Value → ps_S → Prop} (h :
  (40 ≤ x9 →
    ps_At (d + 1) 56 149 [(1, .ref r1), (3, .ref r3), (7, .int x7), (8, .int x8)] [] s Q) ∧
  (x9 < 40 →
    ps_nk (ps_is r1 5) (((ps_i s r1 1) ≤ x7 →
      ps_At (d + 1) 56 149 [(1, .ref r1), (3, .ref r3), (7, .int x7), (8, .int x8)] [] s Q) ∧
    (x7 < (ps_i s r1 1) →
      ps_nk (ps_is r3 5) (((ps_i s r3 1) ≤ x8 →
        ps_At (d + 1) 56 149 [(1, .ref r1), (3, .ref r3), (7, .int x7), (8, .int x8)] [] s Q) ∧
      (x8 < (ps_i s r3 1) →
        ps_nk (ps_is r2 5) (ps_Cl d 99 [.ref r2, .int 1, .int x4, .ref r3, .int x8] s (ps_rI (fun v1 s1 =>
          (v1 = 0 →
            ps_At (d + 1) 56 117 [(1, .ref r1), (2, .ref r2), (3, .ref r3), (4, .int x4), (5, .int x5), (6, .int x6), (7, .int x7), (8, .int x8), (9, .int x9)] [] s1 Q) ∧
          (v1 ≠ 0 →
            ps_nk (ps_is r2 5) (ps_nk (ps_is r2 5) (ps_Cl d 99 [.ref r2, .int x4, .int (ps_i s1 r2 1), .ref r1, .int x7] s1 (ps_rI (fun v2 s2 =>
              (v2 = 0 →
                ps_At (d + 1) 56 117 [(1, .ref r1), (2, .ref r2), (3, .ref r3), (4, .int x4), (5, .int x5), (6, .int x6), (7, .int x7), (8, .int x8), (9, .int x9)] [] s2 Q) ∧
              (v2 ≠ 0 →
                ps_At (d + 1) 56 46 [(1, .ref r1), (2, .ref r2), (3, .ref r3), (4, .int x4), (5, .int x5), (6, .int x6), (7, .int (x7 + x6)), (8, .int (x8 + x5)), (9, .int (x9 + 1))] [] s2 Q))))))))))))))) : ps_At (d + 1) 56 46 [(1, .ref r1), (2, .ref r2), (3, .ref r3), (4, .int x4), (5, .int x5), (6, .int x6), (7, .int x7), (8, .int x8), (9, .int x9)] [] s Q :=
  ps_wp_at (stops := [(46, [1, 2, 3, 4, 5, 6, 7, 8, 9]), (117, [1, 2, 3, 4, 5, 6, 7, 8, 9]), (149, [1, 3, 7, 8])]) (n := 39) h rfl

theorem pg_56_117 {d : Nat} {r1 : Nat} {r2 : Nat} {r3 : Nat} {x4 : Int32} {x5 : Int32} {x6 : Int32} {x7 : Int32} {x8 : Int32} {x9 : Int32} {s : ps_S} {Q : Option Value → ps_S → Prop} (h :
  ps_nk (ps_is r1 5) (ps_Cl d 92 [.ref r1, .int x7] s (ps_rI (fun v1 s1 =>
    ps_nk (ps_is r3 5) (ps_Cl d 92 [.ref r3, .int x8] s1 (ps_rI (fun v2 s2 =>
      (v1 ≠ v2 →
        Q (some (.int 0)) s2) ∧
      (v1 = v2 →
        ps_At (d + 1) 56 46 [(1, .ref r1), (2, .ref r2), (3, .ref r3), (4, .int x4), (5, .int x5), (6, .int x6), (7, .int (x7 + 1)), (8, .int (x8 + 1)), (9, .int (x9 + 1))] [] s2 Q)))))))) : ps_At (d + 1) 56 117 [(1, .ref r1), (2, .ref r2), (3, .ref r3), (4, .int x4), (5, .int x5), (6, .int x6), (7, .int x7), (8, .int x8), (9, .int x9)] [] s Q :=
  ps_wp_at (stops := [(46, [1, 2, 3, 4, 5, 6, 7, 8, 9]), (117, [1, 2, 3, 4, 5, 6, 7, 8, 9]), (149, [1, 3, 7, 8])]) (n := 16) h rfl

theorem pg_56_149 {d : Nat} {r1 : Nat} {r3 : Nat} {x7 : Int32} {x8 : Int32} {s : ps_S} {Q : Option Value → ps_S → Prop} (h :
  ps_nk (ps_is r1 5) ((x7 ≠ (ps_i s r1 1) →
    Q (some (.int 0)) s) ∧
  (x7 = (ps_i s r1 1) →
    ps_nk (ps_is r3 5) ((x8 ≠ (ps_i s r3 1) →
      Q (some (.int 0)) s) ∧
    (x8 = (ps_i s r3 1) →
      Q (some (.int 1)) s))))) : ps_At (d + 1) 56 149 [(1, .ref r1), (3, .ref r3), (7, .int x7), (8, .int x8)] [] s Q :=
  ps_wp_at (stops := [(46, [1, 2, 3, 4, 5, 6, 7, 8, 9]), (117, [1, 2, 3, 4, 5, 6, 7, 8, 9]), (149, [1, 3, 7, 8])]) (n := 17) h rfl

theorem xs_56_117 {m s : ps_S} {t : Int32} {d : Nat} {r1 : Nat} {r2 : Nat} {r3 : Nat} {x4 : Int32} {x5 : Int32} {x6 : Int32} {x7 : Int32} {x8 : Int32} {x9 : Int32} {Q : Option Value → ps_S → Prop} (h1 : ps_is r1 5 = true) (h2 : ps_is r2 5 = true) (h3 : ps_is r3 5 = true) (J : xJ m t s) (k : ∀ (v : Int32) (s' : ps_S), v &&& 1 = v → xJ m t s' → Q (some (.int v)) s') (K46 : ∀ (x7 : Int32) (x8 : Int32) (s : ps_S), ps_is r1 5 = true → ps_is r2 5 = true → ps_is r3 5 = true → xJ m t s → ps_At (d + 2) 56 46 [(1, .ref r1), (2, .ref r2), (3, .ref r3), (4, .int x4), (5, .int x5), (6, .int x6), (7, .int x7), (8, .int x8), (9, .int (x9 + 1))] [] s Q) : ps_At (d + 2) 56 117 [(1, .ref r1), (2, .ref r2), (3, .ref r3), (4, .int x4), (5, .int x5), (6, .int x6), (7, .int x7), (8, .int x8), (9, .int x9)] [] s Q :=
  pg_56_117 (d := d + 1) (ps_nk_i h1 (xs_92 h1 J (fun v1 => (ps_nk_i h3 (xs_92 h3 J (fun v2 => (And.intro (fun f1 => (k 0 s (by decide) J)) (fun f1 => (K46 ((x7 + 1)) ((x8 + 1)) s h1 h2 h3 J)))))))))

theorem xs_56_149 {m s : ps_S} {t : Int32} {d : Nat} {r1 : Nat} {r3 : Nat} {x7 : Int32} {x8 : Int32} {Q : Option Value → ps_S → Prop} (h1 : ps_is r1 5 = true) (h3 : ps_is r3 5 = true) (J : xJ m t s) (k : ∀ (v : Int32) (s' : ps_S), v &&& 1 = v → xJ m t s' → Q (some (.int v)) s') : ps_At (d + 2) 56 149 [(1, .ref r1), (3, .ref r3), (7, .int x7), (8, .int x8)] [] s Q :=
  pg_56_149 (d := d + 1) (ps_nk_i h1 (And.intro (fun f1 => (k 0 s (by decide) J)) (fun f1 => (ps_nk_i h3 (And.intro (fun f2 => (k 0 s (by decide) J)) (fun f2 => (k 1 s (by decide) J)))))))

theorem xs_56_46 {m s : ps_S} {t : Int32} {d : Nat} {r1 : Nat} {r2 : Nat} {r3 : Nat} {x4 : Int32} {x5 : Int32} {x6 : Int32} {x7 : Int32} {x8 : Int32} {x9 : Int32} {Q : Option Value → ps_S → Prop} (h1 : ps_is r1 5 = true) (h2 : ps_is r2 5 = true) (h3 : ps_is r3 5 = true) (J : xJ m t s) (k : ∀ (v : Int32) (s' : ps_S), v &&& 1 = v → xJ m t s' → Q (some (.int v)) s') : ps_At (d + 2) 56 46 [(1, .ref r1), (2, .ref r2), (3, .ref r3), (4, .int x4), (5, .int x5), (6, .int x6), (7, .int x7), (8, .int x8), (9, .int x9)] [] s Q :=
  xs_up (P := fun x9 => ∀ (x7 : Int32) (x8 : Int32) (s : ps_S), ps_is r1 5 = true → ps_is r2 5 = true → ps_is r3 5 = true → xJ m t s → ps_At (d + 2) 56 46 [(1, .ref r1), (2, .ref r2), (3, .ref r3), (4, .int x4), (5, .int x5), (6, .int x6), (7, .int x7), (8, .int x8), (9, .int x9)] [] s Q) (fun x9 ih x7 x8 s h1 h2 h3 J => pg_56_46 (d := d + 1) (And.intro (fun f1 => (xs_56_149 (d := d) (r1 := r1) (r3 := r3) (x7 := x7) (x8 := x8)  h1 h3 J k )) (fun f1 => (ps_nk_i h1 (And.intro (fun f2 => (xs_56_149 (d := d) (r1 := r1) (r3 := r3) (x7 := x7) (x8 := x8)  h1 h3 J k )) (fun f2 => (ps_nk_i h3 (And.intro (fun f3 => (xs_56_149 (d := d) (r1 := r1) (r3 := r3) (x7 := x7) (x8 := x8)  h1 h3 J k )) (fun f3 => (ps_nk_i h2 (xs_99 h2 h3 J (fun v1 b1 => (And.intro (fun f4 => (xs_56_117 (d := d) (r1 := r1) (r2 := r2) (r3 := r3) (x4 := x4) (x5 := x5) (x6 := x6) (x7 := x7) (x8 := x8) (x9 := x9)  h1 h2 h3 J k (fun x7 x8 s9 h1z h2z h3z J9 => ih (x9 + 1) (xs_lt f1) x7 x8 s9 h1z h2z h3z J9))) (fun f4 => (ps_nk_i h2 (ps_nk_i h2 (xs_99 h2 h1 J (fun v2 b2 => (And.intro (fun f5 => (xs_56_117 (d := d) (r1 := r1) (r2 := r2) (r3 := r3) (x4 := x4) (x5 := x5) (x6 := x6) (x7 := x7) (x8 := x8) (x9 := x9)  h1 h2 h3 J k (fun x7 x8 s9 h1z h2z h3z J9 => ih (x9 + 1) (xs_lt f1) x7 x8 s9 h1z h2z h3z J9))) (fun f5 => (ih ((x9 + 1)) (xs_lt f1) ((x7 + x6)) ((x8 + x5)) s h1 h2 h3 J))))))))))))))))))))) x9 x7 x8 s h1 h2 h3 J

theorem xs_56 {m s : ps_S} {t : Int32} {d : Nat} {r0 : Nat} {r1 : Nat} {r2 : Nat} {r3 : Nat} {f : Int32 → ps_S → Prop} (h0 : ps_is r0 2 = true) (h1 : ps_is r1 5 = true) (h2 : ps_is r2 5 = true) (h3 : ps_is r3 5 = true) (J : xJ m t s) (k : ∀ (v : Int32) (s' : ps_S), v &&& 1 = v → xJ m t s' → f v s') : ps_Cl (d + 2) 56 [.ref r0, .ref r1, .ref r2, .ref r3] s (ps_rI f) :=
  pg_56_0 (d := d + 1) (ps_nk_i h0 (ps_nk_i h0 (ps_nk_i (xk_2_5 h0) (xs_103 (xk_2_5 h0) h2 (xj_2_6 J h0) J (fun s1 J1 => (ps_nk_i h0 (ps_nk_i (xk_2_5 h0) (xs_104 (xk_2_5 h0) J1 (fun v2 => (ps_nk_i h2 (xs_56_46 (d := d) (r1 := r1) (r2 := r2) (r3 := r3) (x4 := v2) (x5 := (v2 - 1)) (x6 := ((ps_i s1 r2 1) - v2)) (x7 := 0) (x8 := 0) (x9 := 0)  h1 h2 h3 J1 k )))))))))))

-- ProofBench$Proof.exchange(LProofBench$Step;LProofBench$Row;LProofBench$Row;)I
theorem pg_55_0 {d : Nat} {r0 : Nat} {r1 : Nat} {r2 : Nat} {r3 : Nat} {s : ps_S} {Q : Option Value → ps_S → Prop} (h :
  ps_nk (ps_is r2 5) (ps_Cl d 92 [.ref r2, .int 0] s (ps_rI (fun v1 s1 =>
    (v1 = 6 →
      ps_nk (ps_is r1 8) (ps_nk (ps_is r0 2) (ps_Cl d 56 [.ref r0, .ref (ps_c0 r1 5), .ref r2, .ref r3] s1 (ps_rI (fun v2 s2 =>
        (v2 ≠ 0 →
          ps_nk (ps_is r1 8) (ps_nk (ps_is r1 8) (ps_nk (ps_is (ps_c0 r1 6) 5) (ps_Cl d 95 [.ref (ps_c0 r1 6), .ref (ps_c0 r1 5)] s2 (ps_rV (fun s3 =>
            Q (some (.int 0)) s3)))))) ∧
        (v2 = 0 →
          Q (some (.int 4)) s2)))))) ∧
    (v1 ≠ 6 →
      Q (some (.int 2)) s1))))) : ps_At (d + 1) 55 0 [(0, .ref r0), (1, .ref r1), (2, .ref r2), (3, .ref r3)] [] s Q :=
  ps_wp_at (stops := []) (n := 25) h rfl

theorem xs_55 {m s : ps_S} {t : Int32} {d : Nat} {r0 : Nat} {r1 : Nat} {r2 : Nat} {r3 : Nat} {f : Int32 → ps_S → Prop} (h0 : ps_is r0 2 = true) (h1 : ps_is r1 8 = true) (h2 : ps_is r2 5 = true) (h3 : ps_is r3 5 = true) (J : xJ m t s) (k : ∀ (v : Int32) (s' : ps_S), xJ m t s' → f v s') : ps_Cl (d + 3) 55 [.ref r0, .ref r1, .ref r2, .ref r3] s (ps_rI f) :=
  pg_55_0 (d := d + 2) (ps_nk_i h2 (xs_92 h2 J (fun v1 => (And.intro (fun f1 => (ps_nk_i h1 (ps_nk_i h0 (xs_56 h0 (xk_8_5 h1) h2 h3 J (fun v2 s2 b2 J2 => (And.intro (fun f2 => (ps_nk_i h1 (ps_nk_i h1 (ps_nk_i (xk_8_6 h1) (xs_95 (xk_8_6 h1) (xk_8_5 h1) J2 (fun s3 J3 => (k 0 s3 J3))))))) (fun f2 => (k 4 s2 J2)))))))) (fun f1 => (k 2 s J))))))

-- ProofBench$Proof.fromFalse(LProofBench$Step;LProofBench$Row;)I
theorem pg_48_0 {d : Nat} {r0 : Nat} {r1 : Nat} {r2 : Nat} {s : ps_S} {Q : Option Value → ps_S → Prop} (h :
  ps_nk (ps_is r2 5) (ps_Cl d 92 [.ref r2, .int 0] s (ps_rI (fun v1 s1 =>
    (v1 = 0 →
      ps_nk (ps_is r1 8) (ps_nk (ps_is r1 8) (ps_nk (ps_is (ps_c0 r1 6) 5) (ps_Cl d 95 [.ref (ps_c0 r1 6), .ref (ps_c0 r1 5)] s1 (ps_rV (fun s2 =>
        ps_nk (ps_is r1 8) (((ps_i s2 r1 0) ≠ 27 →
          Q (some (.int 0)) s2) ∧
        ((ps_i s2 r1 0) = 27 →
          ps_nk (ps_is r0 2) (ps_Cl d 38 [.ref r0, .int 0] s2 (ps_rA (fun v3 s3 =>
            ps_nk (ps_is v3 5) (ps_Cl d 91 [.ref v3] s3 (ps_rV (fun s4 =>
              ps_nk (ps_is r0 2) (ps_Cl d 38 [.ref r0, .int 0] s4 (ps_rA (fun v5 s5 =>
                ps_nk (ps_is v5 5) (ps_Cl d 93 [.ref v5, .int 3] s5 (ps_rV (fun s6 =>
                  ps_nk (ps_is r0 2) (ps_Cl d 38 [.ref r0, .int 0] s6 (ps_rA (fun v7 s7 =>
                    ps_nk (ps_is r1 8) (ps_nk (ps_is r1 8) (ps_nk (ps_is (ps_c0 r1 5) 5) (ps_nk (ps_is v7 5) (ps_Cl d 94 [.ref v7, .ref (ps_c0 r1 5), .int 0, .int (ps_i s7 (ps_c0 r1 5) 1)] s7 (ps_rV (fun s8 =>
                      ps_nk (ps_is r0 2) (ps_Cl d 38 [.ref r0, .int 0] s8 (ps_rA (fun v9 s9 =>
                        ps_nk (ps_is v9 5) (ps_Cl d 93 [.ref v9, .int 0] s9 (ps_rV (fun s10 =>
                          Q (some (.int 0)) s10))))))))))))))))))))))))))))))))))) ∧
    (v1 ≠ 0 →
      Q (some (.int 2)) s1))))) : ps_At (d + 1) 48 0 [(0, .ref r0), (1, .ref r1), (2, .ref r2)] [] s Q :=
  ps_wp_at (stops := []) (n := 45) h rfl

theorem xs_48 {m s : ps_S} {t : Int32} {d : Nat} {r0 : Nat} {r1 : Nat} {r2 : Nat} {f : Int32 → ps_S → Prop} (h0 : ps_is r0 2 = true) (h1 : ps_is r1 8 = true) (h2 : ps_is r2 5 = true) (J : xJ m t s) (k : ∀ (v : Int32) (s' : ps_S), xJ m t s' → f v s') : ps_Cl (d + 3) 48 [.ref r0, .ref r1, .ref r2] s (ps_rI f) :=
  pg_48_0 (d := d + 2) (ps_nk_i h2 (xs_92 h2 J (fun v1 => (And.intro (fun f1 => (ps_nk_i h1 (ps_nk_i h1 (ps_nk_i (xk_8_6 h1) (xs_95 (xk_8_6 h1) (xk_8_5 h1) J (fun s2 J2 => (ps_nk_i h1 (And.intro (fun f2 => (k 0 s2 J2)) (fun f2 => (ps_nk_i h0 (xs_38 h0 J2 (fun v3 g3 => (ps_nk_i g3 (xs_91 g3 J2 (fun s4 J4 => (ps_nk_i h0 (xs_38 h0 J4 (fun v5 g5 => (ps_nk_i g5 (xs_93 g5 J4 (fun s6 J6 => (ps_nk_i h0 (xs_38 h0 J6 (fun v7 g7 => (ps_nk_i h1 (ps_nk_i h1 (ps_nk_i (xk_8_5 h1) (ps_nk_i g7 (xs_94 g7 (xk_8_5 h1) J6 (fun s8 J8 => (ps_nk_i h0 (xs_38 h0 J8 (fun v9 g9 => (ps_nk_i g9 (xs_93 g9 J8 (fun s10 J10 => (k 0 s10 J10))))))))))))))))))))))))))))))))))))) (fun f1 => (k 2 s J))))))

-- ProofBench$Proof.make(LProofBench$Step;ILProofBench$Shelf;)I
theorem pg_42_0 {d : Nat} {r0 : Nat} {r1 : Nat} {x2 : Int32} {r3 : Nat} {s : ps_S} {Q : Option Value → ps_S → Prop} (h :
  ps_nk (ps_is r0 2) (ps_Cl d 37 [.ref r0, .ref r1, .int 0] s (ps_rA (fun v1 s1 =>
    ps_nk (ps_is v1 8) (ps_nk (ps_is r1 8) (((ps_i s1 r1 0) = 6 →
      ps_nk (ps_is r0 2) (ps_Cl d 43 [.ref r0, .ref r1, .int x2, .ref r3] s1 (ps_rI (fun v2 s2 =>
        Q (some (.int v2)) s2)))) ∧
    ((ps_i s1 r1 0) ≠ 6 →
      ((ps_i s1 r1 0) = 7 →
      ps_nk (ps_is r0 2) (ps_Cl d 48 [.ref r0, .ref r1, .ref (ps_c0 v1 6)] s1 (ps_rI (fun v3 s3 =>
        Q (some (.int v3)) s3)))) ∧
    ((ps_i s1 r1 0) ≠ 7 →
      ((ps_i s1 r1 0) = 8 →
      ps_nk (ps_is r0 2) (ps_Cl d 48 [.ref r0, .ref r1, .ref (ps_c0 v1 6)] s1 (ps_rI (fun v4 s4 =>
        Q (some (.int v4)) s4)))) ∧
    ((ps_i s1 r1 0) ≠ 8 →
      ((ps_i s1 r1 0) = 9 →
      ps_nk (ps_is r0 2) (ps_Cl d 48 [.ref r0, .ref r1, .ref (ps_c0 v1 6)] s1 (ps_rI (fun v5 s5 =>
        Q (some (.int v5)) s5)))) ∧
    ((ps_i s1 r1 0) ≠ 9 →
      ((ps_i s1 r1 0) = 10 →
      ps_nk (ps_is r0 2) (ps_Cl d 43 [.ref r0, .ref r1, .int x2, .ref r3] s1 (ps_rI (fun v6 s6 =>
        Q (some (.int v6)) s6)))) ∧
    ((ps_i s1 r1 0) ≠ 10 →
      ((ps_i s1 r1 0) = 11 →
      ps_nk (ps_is r0 2) (ps_Cl d 43 [.ref r0, .ref r1, .int x2, .ref r3] s1 (ps_rI (fun v7 s7 =>
        Q (some (.int v7)) s7)))) ∧
    ((ps_i s1 r1 0) ≠ 11 →
      ((ps_i s1 r1 0) = 12 →
      ps_nk (ps_is r0 2) (ps_Cl d 43 [.ref r0, .ref r1, .int x2, .ref r3] s1 (ps_rI (fun v8 s8 =>
        Q (some (.int v8)) s8)))) ∧
    ((ps_i s1 r1 0) ≠ 12 →
      ((ps_i s1 r1 0) = 13 →
      ps_nk (ps_is r0 2) (ps_Cl d 44 [.ref r0, .ref r1, .ref (ps_c0 v1 6)] s1 (ps_rI (fun v9 s9 =>
        Q (some (.int v9)) s9)))) ∧
    ((ps_i s1 r1 0) ≠ 13 →
      ((ps_i s1 r1 0) = 14 →
      ps_nk (ps_is r0 2) (ps_Cl d 45 [.ref r0, .ref r1, .ref (ps_c0 v1 6)] s1 (ps_rI (fun v10 s10 =>
        Q (some (.int v10)) s10)))) ∧
    ((ps_i s1 r1 0) ≠ 14 →
      ((ps_i s1 r1 0) = 15 →
      ps_nk (ps_is r0 2) (ps_Cl d 45 [.ref r0, .ref r1, .ref (ps_c0 v1 6)] s1 (ps_rI (fun v11 s11 =>
        Q (some (.int v11)) s11)))) ∧
    ((ps_i s1 r1 0) ≠ 15 →
      ((ps_i s1 r1 0) = 16 →
      ps_nk (ps_is r0 2) (ps_Cl d 44 [.ref r0, .ref r1, .ref (ps_c0 v1 6)] s1 (ps_rI (fun v12 s12 =>
        Q (some (.int v12)) s12)))) ∧
    ((ps_i s1 r1 0) ≠ 16 →
      ((ps_i s1 r1 0) = 17 →
      ps_nk (ps_is r0 2) (ps_Cl d 44 [.ref r0, .ref r1, .ref (ps_c0 v1 6)] s1 (ps_rI (fun v13 s13 =>
        Q (some (.int v13)) s13)))) ∧
    ((ps_i s1 r1 0) ≠ 17 →
      ((ps_i s1 r1 0) = 18 →
      ps_nk (ps_is r0 2) (ps_Cl d 46 [.ref r0, .ref r1, .ref (ps_c0 v1 6)] s1 (ps_rI (fun v14 s14 =>
        Q (some (.int v14)) s14)))) ∧
    ((ps_i s1 r1 0) ≠ 18 →
      ((ps_i s1 r1 0) = 19 →
      ps_nk (ps_is r0 2) (ps_Cl d 37 [.ref r0, .ref r1, .int 1] s1 (ps_rA (fun v15 s15 =>
        ps_nk (ps_is v15 8) (ps_nk (ps_is r0 2) (ps_Cl d 47 [.ref r0, .ref r1, .ref (ps_c0 v1 6), .ref (ps_c0 v15 6)] s15 (ps_rI (fun v16 s16 =>
          Q (some (.int v16)) s16)))))))) ∧
    ((ps_i s1 r1 0) ≠ 19 →
      ((ps_i s1 r1 0) = 20 →
      ps_nk (ps_is r0 2) (ps_Cl d 44 [.ref r0, .ref r1, .ref (ps_c0 v1 6)] s1 (ps_rI (fun v17 s17 =>
        Q (some (.int v17)) s17)))) ∧
    ((ps_i s1 r1 0) ≠ 20 →
      ((ps_i s1 r1 0) = 21 →
      ps_nk (ps_is r0 2) (ps_Cl d 49 [.ref r0, .ref r1, .ref (ps_c0 v1 6)] s1 (ps_rI (fun v18 s18 =>
        Q (some (.int v18)) s18)))) ∧
    ((ps_i s1 r1 0) ≠ 21 →
      ((ps_i s1 r1 0) = 22 →
      ps_nk (ps_is r0 2) (ps_Cl d 50 [.ref r0, .ref r1, .ref (ps_c0 v1 6)] s1 (ps_rI (fun v19 s19 =>
        Q (some (.int v19)) s19)))) ∧
    ((ps_i s1 r1 0) ≠ 22 →
      ((ps_i s1 r1 0) = 23 →
      ps_nk (ps_is r0 2) (ps_Cl d 53 [.ref r0, .ref r1, .ref (ps_c0 v1 6)] s1 (ps_rI (fun v20 s20 =>
        Q (some (.int v20)) s20)))) ∧
    ((ps_i s1 r1 0) ≠ 23 →
      ((ps_i s1 r1 0) = 24 →
      ps_nk (ps_is r0 2) (ps_Cl d 37 [.ref r0, .ref r1, .int 1] s1 (ps_rA (fun v21 s21 =>
        ps_nk (ps_is r0 2) (ps_Cl d 54 [.ref r0, .ref r1, .ref (ps_c0 v1 6), .ref v21] s21 (ps_rI (fun v22 s22 =>
          Q (some (.int v22)) s22))))))) ∧
    ((ps_i s1 r1 0) ≠ 24 →
      ((ps_i s1 r1 0) = 25 →
      ps_nk (ps_is r0 2) (ps_Cl d 37 [.ref r0, .ref r1, .int 1] s1 (ps_rA (fun v23 s23 =>
        ps_nk (ps_is v23 8) (ps_nk (ps_is r0 2) (ps_Cl d 55 [.ref r0, .ref r1, .ref (ps_c0 v1 6), .ref (ps_c0 v23 6)] s23 (ps_rI (fun v24 s24 =>
          Q (some (.int v24)) s24)))))))) ∧
    ((ps_i s1 r1 0) ≠ 25 →
      ps_nk (ps_is r0 2) (ps_Cl d 48 [.ref r0, .ref r1, .ref (ps_c0 v1 6)] s1 (ps_rI (fun v25 s25 =>
      Q (some (.int v25)) s25))))))))))))))))))))))))))))) : ps_At (d + 1) 42 0 [(0, .ref r0), (1, .ref r1), (2, .int x2), (3, .ref r3)] [] s Q :=
  ps_wp_at (stops := []) (n := 134) h rfl

theorem xs_42 {m s : ps_S} {t : Int32} {d : Nat} {r0 : Nat} {r1 : Nat} {x2 : Int32} {r3 : Nat} {f : Int32 → ps_S → Prop} (h0 : ps_is r0 2 = true) (h1 : ps_is r1 8 = true) (h3 : ps_is r3 7 = true) (J : xJ m t s) (k : ∀ (v : Int32) (s' : ps_S), xJ m t s' → f v s') : ps_Cl (d + 4) 42 [.ref r0, .ref r1, .int x2, .ref r3] s (ps_rI f) :=
  pg_42_0 (d := d + 3) (ps_nk_i h0 (xs_37 h0 h1 J (fun v1 g1 => (ps_nk_i g1 (ps_nk_i h1 (And.intro (fun f1 => (ps_nk_i h0 (xs_43 h0 h1 h3 J (fun v2 s2 J2 => (k v2 s2 J2))))) (fun f1 => (And.intro (fun f2 => (ps_nk_i h0 (xs_48 h0 h1 (xk_8_6 g1) J (fun v3 s3 J3 => (k v3 s3 J3))))) (fun f2 => (And.intro (fun f3 => (ps_nk_i h0 (xs_48 h0 h1 (xk_8_6 g1) J (fun v4 s4 J4 => (k v4 s4 J4))))) (fun f3 => (And.intro (fun f4 => (ps_nk_i h0 (xs_48 h0 h1 (xk_8_6 g1) J (fun v5 s5 J5 => (k v5 s5 J5))))) (fun f4 => (And.intro (fun f5 => (ps_nk_i h0 (xs_43 h0 h1 h3 J (fun v6 s6 J6 => (k v6 s6 J6))))) (fun f5 => (And.intro (fun f6 => (ps_nk_i h0 (xs_43 h0 h1 h3 J (fun v7 s7 J7 => (k v7 s7 J7))))) (fun f6 => (And.intro (fun f7 => (ps_nk_i h0 (xs_43 h0 h1 h3 J (fun v8 s8 J8 => (k v8 s8 J8))))) (fun f7 => (And.intro (fun f8 => (ps_nk_i h0 (xs_44 h0 h1 (xk_8_6 g1) J (fun v9 s9 J9 => (k v9 s9 J9))))) (fun f8 => (And.intro (fun f9 => (ps_nk_i h0 (xs_45 h0 h1 (xk_8_6 g1) J (fun v10 s10 J10 => (k v10 s10 J10))))) (fun f9 => (And.intro (fun f10 => (ps_nk_i h0 (xs_45 h0 h1 (xk_8_6 g1) J (fun v11 s11 J11 => (k v11 s11 J11))))) (fun f10 => (And.intro (fun f11 => (ps_nk_i h0 (xs_44 h0 h1 (xk_8_6 g1) J (fun v12 s12 J12 => (k v12 s12 J12))))) (fun f11 => (And.intro (fun f12 => (ps_nk_i h0 (xs_44 h0 h1 (xk_8_6 g1) J (fun v13 s13 J13 => (k v13 s13 J13))))) (fun f12 => (And.intro (fun f13 => (ps_nk_i h0 (xs_46 h0 h1 (xk_8_6 g1) J (fun v14 s14 J14 => (k v14 s14 J14))))) (fun f13 => (And.intro (fun f14 => (ps_nk_i h0 (xs_37 h0 h1 J (fun v15 g15 => (ps_nk_i g15 (ps_nk_i h0 (xs_47 h0 h1 (xk_8_6 g1) (xk_8_6 g15) J (fun v16 s16 J16 => (k v16 s16 J16))))))))) (fun f14 => (And.intro (fun f15 => (ps_nk_i h0 (xs_44 h0 h1 (xk_8_6 g1) J (fun v17 s17 J17 => (k v17 s17 J17))))) (fun f15 => (And.intro (fun f16 => (ps_nk_i h0 (xs_49 h0 h1 (xk_8_6 g1) J (fun v18 s18 J18 => (k v18 s18 J18))))) (fun f16 => (And.intro (fun f17 => (ps_nk_i h0 (xs_50 h0 h1 (xk_8_6 g1) J (fun v19 s19 J19 => (k v19 s19 J19))))) (fun f17 => (And.intro (fun f18 => (ps_nk_i h0 (xs_53 h0 h1 (xk_8_6 g1) J (fun v20 s20 J20 => (k v20 s20 J20))))) (fun f18 => (And.intro (fun f19 => (ps_nk_i h0 (xs_37 h0 h1 J (fun v21 g21 => (ps_nk_i h0 (xs_54 h0 h1 (xk_8_6 g1) g21 J (fun v22 s22 J22 => (k v22 s22 J22)))))))) (fun f19 => (And.intro (fun f20 => (ps_nk_i h0 (xs_37 h0 h1 J (fun v23 g23 => (ps_nk_i g23 (ps_nk_i h0 (xs_55 h0 h1 (xk_8_6 g1) (xk_8_6 g23) J (fun v24 s24 J24 => (k v24 s24 J24))))))))) (fun f20 => (ps_nk_i h0 (xs_48 h0 h1 (xk_8_6 g1) J (fun v25 s25 J25 => (k v25 s25 J25)))))))))))))))))))))))))))))))))))))))))))))))))

-- ProofBench$Step.leanAs(LProofBench$Step;)V
theorem pg_124_0 {d : Nat} {r0 : Nat} {r1 : Nat} {s : ps_S} {Q : Option Value → ps_S → Prop} (h :
  ps_nk (ps_is r0 8) (ps_nk (ps_is r1 8) (ps_nk (ps_is r0 8) (ps_nk (ps_is r0 8) (ps_nk (ps_is r1 8) (ps_nk (ps_is r0 8) (ps_nk (ps_is r0 8) (ps_nk (ps_is r1 8) (ps_nk (ps_is r0 8) (Q none (ps_uj (ps_ui (ps_ui s r0 10 ((ps_i s r0 10) ||| (ps_i s r1 10))) r0 11 ((ps_i (ps_ui s r0 10 ((ps_i s r0 10) ||| (ps_i s r1 10))) r0 11) ||| (ps_i (ps_ui s r0 10 ((ps_i s r0 10) ||| (ps_i s r1 10))) r1 11))) r0 12 ((ps_j (ps_ui (ps_ui s r0 10 ((ps_i s r0 10) ||| (ps_i s r1 10))) r0 11 ((ps_i (ps_ui s r0 10 ((ps_i s r0 10) ||| (ps_i s r1 10))) r0 11) ||| (ps_i (ps_ui s r0 10 ((ps_i s r0 10) ||| (ps_i s r1 10))) r1 11))) r0 12) ||| (ps_j (ps_ui (ps_ui s r0 10 ((ps_i s r0 10) ||| (ps_i s r1 10))) r0 11 ((ps_i (ps_ui s r0 10 ((ps_i s r0 10) ||| (ps_i s r1 10))) r0 11) ||| (ps_i (ps_ui s r0 10 ((ps_i s r0 10) ||| (ps_i s r1 10))) r1 11))) r1 12))))))))))))) : ps_At d 124 0 [(0, .ref r0), (1, .ref r1)] [] s Q :=
  ps_wp_at (stops := []) (n := 24) h rfl

theorem xs_124 {m s : ps_S} {t : Int32} {d : Nat} {r0 : Nat} {r1 : Nat} {f : ps_S → Prop} (h0 : ps_is r0 8 = true) (h1 : ps_is r1 8 = true) (J : xJ m t s) (k : ∀ (s' : ps_S), xJ m t s' → f s') : ps_Cl d 124 [.ref r0, .ref r1] s (ps_rV f) :=
  pg_124_0 (ps_nk_i h0 (ps_nk_i h1 (ps_nk_i h0 (ps_nk_i h0 (ps_nk_i h1 (ps_nk_i h0 (ps_nk_i h0 (ps_nk_i h1 (ps_nk_i h0 (k (ps_uj (ps_ui (ps_ui s r0 10 ((ps_i s r0 10) ||| (ps_i s r1 10))) r0 11 ((ps_i (ps_ui s r0 10 ((ps_i s r0 10) ||| (ps_i s r1 10))) r0 11) ||| (ps_i (ps_ui s r0 10 ((ps_i s r0 10) ||| (ps_i s r1 10))) r1 11))) r0 12 ((ps_j (ps_ui (ps_ui s r0 10 ((ps_i s r0 10) ||| (ps_i s r1 10))) r0 11 ((ps_i (ps_ui s r0 10 ((ps_i s r0 10) ||| (ps_i s r1 10))) r0 11) ||| (ps_i (ps_ui s r0 10 ((ps_i s r0 10) ||| (ps_i s r1 10))) r1 11))) r0 12) ||| (ps_j (ps_ui (ps_ui s r0 10 ((ps_i s r0 10) ||| (ps_i s r1 10))) r0 11 ((ps_i (ps_ui s r0 10 ((ps_i s r0 10) ||| (ps_i s r1 10))) r0 11) ||| (ps_i (ps_ui s r0 10 ((ps_i s r0 10) ||| (ps_i s r1 10))) r1 11))) r1 12))) (xw_j (c := 8) (by decide) h0 (xw_i (c := 8) (by decide) h0 (xw_i (c := 8) (by decide) h0 J)))))))))))))

-- ProofBench$Proof.assumes(LProofBench$Step;LProofBench$Row;)Z
theorem pg_40_0 {d : Nat} {r0 : Nat} {r1 : Nat} {r2 : Nat} {s : ps_S} {Q : Option Value → ps_S → Prop} (h :
  ps_At (d + 1) 40 2 [(0, .ref r0), (1, .ref r1), (2, .ref r2), (3, .int 0)] [] s Q) : ps_At (d + 1) 40 0 [(0, .ref r0), (1, .ref r1), (2, .ref r2)] [] s Q :=
  ps_wp_at (stops := [(2, [0, 1, 2, 3])]) (n := 4) h rfl

theorem pg_40_2 {d : Nat} {r0 : Nat} {r1 : Nat} {r2 : Nat} {x3 : Int32} {s : ps_S} {Q : Option Value → ps_S → Prop} (h :
  ps_nk (ps_is r1 8) (((ps_i s r1 8) ≤ x3 →
    Q (some (.int 0)) s) ∧
  (x3 < (ps_i s r1 8) →
    ps_nk (ps_is r1 8) (ps_Cl d 122 [.ref r1, .int x3] s (ps_rI (fun v1 s1 =>
      ps_nk (ps_is r0 2) (ps_Cl d 33 [.ref r0, .int v1] s1 (ps_rA (fun v2 s2 =>
        ps_nk (ps_is v2 8) (ps_nk (ps_is (ps_c0 v2 6) 5) (ps_Cl d 98 [.ref (ps_c0 v2 6), .ref r2] s2 (ps_rI (fun v3 s3 =>
          (v3 = 0 →
            ps_At (d + 1) 40 2 [(0, .ref r0), (1, .ref r1), (2, .ref r2), (3, .int (x3 + 1))] [] s3 Q) ∧
          (v3 ≠ 0 →
            Q (some (.int 1)) s3)))))))))))))) : ps_At (d + 1) 40 2 [(0, .ref r0), (1, .ref r1), (2, .ref r2), (3, .int x3)] [] s Q :=
  ps_wp_at (stops := [(2, [0, 1, 2, 3])]) (n := 21) h rfl

theorem xs_40_2 {m s : ps_S} {t : Int32} {d : Nat} {r0 : Nat} {r1 : Nat} {r2 : Nat} {x3 : Int32} {Q : Option Value → ps_S → Prop} (h0 : ps_is r0 2 = true) (h1 : ps_is r1 8 = true) (h2 : ps_is r2 5 = true) (J : xJ m t s) (k : ∀ (v : Int32), v &&& 1 = v → Q (some (.int v)) s) : ps_At (d + 2) 40 2 [(0, .ref r0), (1, .ref r1), (2, .ref r2), (3, .int x3)] [] s Q :=
  xs_up (P := fun x3 => ps_is r0 2 = true → ps_is r1 8 = true → ps_is r2 5 = true → ps_At (d + 2) 40 2 [(0, .ref r0), (1, .ref r1), (2, .ref r2), (3, .int x3)] [] s Q) (fun x3 ih h0 h1 h2 => pg_40_2 (d := d + 1) (ps_nk_i h1 (And.intro (fun f1 => (k 0 (by decide))) (fun f1 => (ps_nk_i h1 (xs_122 h1 J (fun v1 => (ps_nk_i h0 (xs_33 h0 J (fun v2 g2 => (ps_nk_i g2 (ps_nk_i (xk_8_6 g2) (xs_98 (xk_8_6 g2) h2 J (fun v3 b3 => (And.intro (fun f2 => (ih ((x3 + 1)) (xs_lt f1) h0 h1 h2)) (fun f2 => (k 1 (by decide)))))))))))))))))) x3 h0 h1 h2

theorem xs_40 {m s : ps_S} {t : Int32} {d : Nat} {r0 : Nat} {r1 : Nat} {r2 : Nat} {f : Int32 → ps_S → Prop} (h0 : ps_is r0 2 = true) (h1 : ps_is r1 8 = true) (h2 : ps_is r2 5 = true) (J : xJ m t s) (k : ∀ (v : Int32), v &&& 1 = v → f v s) : ps_Cl (d + 2) 40 [.ref r0, .ref r1, .ref r2] s (ps_rI f) :=
  pg_40_0 (d := d + 1) (xs_40_2 (d := d) (r0 := r0) (r1 := r1) (r2 := r2) (x3 := 0)  h0 h1 h2 J k )

-- ProofBench$Proof.gather(LProofBench$Step;LProofBench$Step;LProofBench$Row;)V
theorem pg_39_0 {d : Nat} {r0 : Nat} {r1 : Nat} {r2 : Nat} {r3 : Nat} {s : ps_S} {Q : Option Value → ps_S → Prop} (h :
  ps_At (d + 1) 39 3 [(0, .ref r0), (1, .ref r1), (2, .ref r2), (3, .ref r3), (4, .int 0)] [] s Q) : ps_At (d + 1) 39 0 [(0, .ref r0), (1, .ref r1), (2, .ref r2), (3, .ref r3)] [] s Q :=
  ps_wp_at (stops := [(3, [0, 1, 2, 3, 4])]) (n := 4) h rfl

theorem pg_39_3 {d : Nat} {r0 : Nat} {r1 : Nat} {r2 : Nat} {r3 : Nat} {x4 : Int32} {s : ps_S} {Q : Option Value → ps_S → Prop} (h :
  ps_nk (ps_is r2 8) (((ps_i s r2 8) ≤ x4 →
    Q none s) ∧
  (x4 < (ps_i s r2 8) →
    ps_nk (ps_is r2 8) (ps_Cl d 122 [.ref r2, .int x4] s (ps_rI (fun v1 s1 =>
      ps_nk (ps_is r0 2) (ps_Cl d 33 [.ref r0, .int v1] s1 (ps_rA (fun v2 s2 =>
        ps_nk (ps_is v2 8) (ps_nk (ps_is (ps_c0 v2 6) 5) (ps_Cl d 98 [.ref (ps_c0 v2 6), .ref r3] s2 (ps_rI (fun v3 s3 =>
          (v3 ≠ 0 →
            ps_At (d + 1) 39 3 [(0, .ref r0), (1, .ref r1), (2, .ref r2), (3, .ref r3), (4, .int (x4 + 1))] [] s3 Q) ∧
          (v3 = 0 →
            ps_nk (ps_is r0 2) (ps_Cl d 40 [.ref r0, .ref r1, .ref (ps_c0 v2 6)] s3 (ps_rI (fun v4 s4 =>
              (v4 ≠ 0 →
                ps_At (d + 1) 39 3 [(0, .ref r0), (1, .ref r1), (2, .ref r2), (3, .ref r3), (4, .int (x4 + 1))] [] s4 Q) ∧
              (v4 = 0 →
                ps_nk (ps_is r1 8) (ps_Cl d 123 [.ref r1, .int v1] s4 (ps_rV (fun s5 =>
                  ps_At (d + 1) 39 3 [(0, .ref r0), (1, .ref r1), (2, .ref r2), (3, .ref r3), (4, .int (x4 + 1))] [] s5 Q))))))))))))))))))))) : ps_At (d + 1) 39 3 [(0, .ref r0), (1, .ref r1), (2, .ref r2), (3, .ref r3), (4, .int x4)] [] s Q :=
  ps_wp_at (stops := [(3, [0, 1, 2, 3, 4])]) (n := 34) h rfl

theorem xs_39_3 {m s : ps_S} {t : Int32} {d : Nat} {r0 : Nat} {r1 : Nat} {r2 : Nat} {r3 : Nat} {x4 : Int32} {Q : Option Value → ps_S → Prop} (h0 : ps_is r0 2 = true) (h1 : ps_is r1 8 = true) (h2 : ps_is r2 8 = true) (h3 : ps_is r3 5 = true) (J : xJ m t s) (k : ∀ (s' : ps_S), xJ m t s' → Q none s') : ps_At (d + 3) 39 3 [(0, .ref r0), (1, .ref r1), (2, .ref r2), (3, .ref r3), (4, .int x4)] [] s Q :=
  xs_up (P := fun x4 => ∀ (s : ps_S), ps_is r0 2 = true → ps_is r1 8 = true → ps_is r2 8 = true → ps_is r3 5 = true → xJ m t s → ps_At (d + 3) 39 3 [(0, .ref r0), (1, .ref r1), (2, .ref r2), (3, .ref r3), (4, .int x4)] [] s Q) (fun x4 ih s h0 h1 h2 h3 J => pg_39_3 (d := d + 2) (ps_nk_i h2 (And.intro (fun f1 => (k s J)) (fun f1 => (ps_nk_i h2 (xs_122 h2 J (fun v1 => (ps_nk_i h0 (xs_33 h0 J (fun v2 g2 => (ps_nk_i g2 (ps_nk_i (xk_8_6 g2) (xs_98 (xk_8_6 g2) h3 J (fun v3 b3 => (And.intro (fun f2 => (ih ((x4 + 1)) (xs_lt f1) s h0 h1 h2 h3 J)) (fun f2 => (ps_nk_i h0 (xs_40 h0 h1 (xk_8_6 g2) J (fun v4 b4 => (And.intro (fun f3 => (ih ((x4 + 1)) (xs_lt f1) s h0 h1 h2 h3 J)) (fun f3 => (ps_nk_i h1 (xs_123 h1 J (fun s5 J5 => (ih ((x4 + 1)) (xs_lt f1) s5 h0 h1 h2 h3 J5))))))))))))))))))))))))) x4 s h0 h1 h2 h3 J

theorem xs_39 {m s : ps_S} {t : Int32} {d : Nat} {r0 : Nat} {r1 : Nat} {r2 : Nat} {r3 : Nat} {f : ps_S → Prop} (h0 : ps_is r0 2 = true) (h1 : ps_is r1 8 = true) (h2 : ps_is r2 8 = true) (h3 : ps_is r3 5 = true) (J : xJ m t s) (k : ∀ (s' : ps_S), xJ m t s' → f s') : ps_Cl (d + 3) 39 [.ref r0, .ref r1, .ref r2, .ref r3] s (ps_rV f) :=
  pg_39_0 (d := d + 2) (xs_39_3 (d := d) (r0 := r0) (r1 := r1) (r2 := r2) (r3 := r3) (x4 := 0)  h0 h1 h2 h3 J k )

-- ProofBench$Shape.isTooDeep()Z
theorem pg_106_0 {d : Nat} {r0 : Nat} {s : ps_S} {Q : Option Value → ps_S → Prop} (h :
  ps_nk (ps_is r0 6) ((12 < (ps_i s r0 3) →
    Q (some (.int 1)) s) ∧
  ((ps_i s r0 3) ≤ 12 →
    ps_nk (ps_is r0 6) (((ps_i s r0 4) ≤ 5 →
      Q (some (.int 0)) s) ∧
    (5 < (ps_i s r0 4) →
      Q (some (.int 1)) s))))) : ps_At d 106 0 [(0, .ref r0)] [] s Q :=
  ps_wp_at (stops := []) (n := 18) h rfl

theorem xs_106 {m s : ps_S} {t : Int32} {d : Nat} {r0 : Nat} {f : Int32 → ps_S → Prop} (h0 : ps_is r0 6 = true) (J : xJ m t s) (k : ∀ (v : Int32), v &&& 1 = v → f v s) : ps_Cl d 106 [.ref r0] s (ps_rI f) :=
  pg_106_0 (ps_nk_i h0 (And.intro (fun f1 => (k 1 (by decide))) (fun f1 => (ps_nk_i h0 (And.intro (fun f2 => (k 0 (by decide))) (fun f2 => (k 1 (by decide))))))))

-- ProofBench$Proof.isTooMuch(LProofBench$Step;)Z
theorem pg_41_0 {d : Nat} {r0 : Nat} {r1 : Nat} {s : ps_S} {Q : Option Value → ps_S → Prop} (h :
  ps_nk (ps_is r1 8) (ps_nk (ps_is (ps_c0 r1 6) 5) (((ps_i s (ps_c0 r1 6) 2) ≠ 0 →
    Q (some (.int 1)) s) ∧
  ((ps_i s (ps_c0 r1 6) 2) = 0 →
    ps_nk (ps_is r1 8) (((ps_i s r1 9) = 0 →
      ps_nk (ps_is r0 2) (ps_nk (ps_is r1 8) (ps_nk (ps_is r0 2) (ps_nk (ps_is (ps_c0 r0 5) 6) (ps_Cl d 103 [.ref (ps_c0 r0 5), .ref (ps_c0 r1 6), .ref (ps_r s r0 6)] s (ps_rV (fun s1 =>
        ps_nk (ps_is r0 2) (ps_nk (ps_is (ps_c0 r0 5) 6) (ps_Cl d 106 [.ref (ps_c0 r0 5)] s1 (ps_rI (fun v2 s2 =>
          ps_nd (decide (v2 &&& 1 = v2)) (Q (some (.int v2)) s2)))))))))))) ∧
    ((ps_i s r1 9) ≠ 0 →
      Q (some (.int 1)) s)))))) : ps_At (d + 1) 41 0 [(0, .ref r0), (1, .ref r1)] [] s Q :=
  ps_wp_at (stops := []) (n := 24) h rfl

theorem xs_41 {m s : ps_S} {t : Int32} {d : Nat} {r0 : Nat} {r1 : Nat} {f : Int32 → ps_S → Prop} (h0 : ps_is r0 2 = true) (h1 : ps_is r1 8 = true) (J : xJ m t s) (k : ∀ (v : Int32) (s' : ps_S), v &&& 1 = v → xJ m t s' → f v s') : ps_Cl (d + 2) 41 [.ref r0, .ref r1] s (ps_rI f) :=
  pg_41_0 (d := d + 1) (ps_nk_i h1 (ps_nk_i (xk_8_6 h1) (And.intro (fun f1 => (k 1 s (by decide) J)) (fun f1 => (ps_nk_i h1 (And.intro (fun f2 => (ps_nk_i h0 (ps_nk_i h1 (ps_nk_i h0 (ps_nk_i (xk_2_5 h0) (xs_103 (xk_2_5 h0) (xk_8_6 h1) (xj_2_6 J h0) J (fun s1 J1 => (ps_nk_i h0 (ps_nk_i (xk_2_5 h0) (xs_106 (xk_2_5 h0) J1 (fun v2 b2 => (ps_nd_i (decide_eq_true b2) ((k v2 s1 (of_decide_eq_true (decide_eq_true b2)) J1)))))))))))))) (fun f2 => (k 1 s (by decide) J))))))))

-- ProofBench$Proof.takeOne(ILProofBench$Shelf;)I
theorem pg_35_0 {d : Nat} {r0 : Nat} {x1 : Int32} {r2 : Nat} {s : ps_S} {Q : Option Value → ps_S → Prop} (h :
  ps_nk (ps_is r0 2) (ps_Cl d 33 [.ref r0, .int x1] s (ps_rA (fun v1 s1 =>
    ps_nk (ps_is r0 2) (ps_Cl d 36 [.ref r0, .ref v1, .int x1, .ref r2] s1 (ps_rI (fun v2 s2 =>
      (v2 ≠ 0 →
        ps_At (d + 1) 35 21 [(0, .ref r0), (1, .int x1), (2, .ref r2), (3, .ref v1), (4, .int 0)] [] s2 Q) ∧
      (v2 = 0 →
        Q (some (.int 1)) s2)))))))) : ps_At (d + 1) 35 0 [(0, .ref r0), (1, .int x1), (2, .ref r2)] [] s Q :=
  ps_wp_at (stops := [(21, [0, 1, 2, 3, 4]), (73, [0, 3, 5])]) (n := 16) h rfl

theorem pg_35_21 {d : Nat} {r0 : Nat} {x1 : Int32} {r2 : Nat} {r3 : Nat} {x4 : Int32} {s : ps_S} {Q : Option Value → ps_S → Prop} (h :
  ps_nk (ps_is r0 2) (ps_nk (Nat.beq (ps_K (ps_c0 r0 2)).1 0) (((nI (ps_ln (ps_c0 r0 2))) ≤ x4 →
    ps_nk (ps_is r0 2) (ps_Cl d 42 [.ref r0, .ref r3, .int x1, .ref r2] s (ps_rI (fun v1 s1 =>
      (v1 = 0 →
        ps_nk (ps_is r3 8) (ps_At (d + 1) 35 73 [(0, .ref r0), (3, .ref r3), (5, .int 0)] [] (ps_uj s1 r3 12 ((1 : Int64) <<< (Int32.toInt64 x1 &&& 63))) Q)) ∧
      (v1 ≠ 0 →
        Q (some (.int v1)) s1))))) ∧
  (x4 < (nI (ps_ln (ps_c0 r0 2))) →
    ps_nk (ps_is r0 2) (ps_Cl d 38 [.ref r0, .int x4] s (ps_rA (fun v2 s2 =>
      ps_nk (ps_is v2 5) (ps_Cl d 91 [.ref v2] s2 (ps_rV (fun s3 =>
        ps_At (d + 1) 35 21 [(0, .ref r0), (1, .int x1), (2, .ref r2), (3, .ref r3), (4, .int (x4 + 1))] [] s3 Q)))))))))) : ps_At (d + 1) 35 21 [(0, .ref r0), (1, .int x1), (2, .ref r2), (3, .ref r3), (4, .int x4)] [] s Q :=
  ps_wp_at (stops := [(21, [0, 1, 2, 3, 4]), (73, [0, 3, 5])]) (n := 30) h rfl

theorem pg_35_73 {d : Nat} {r0 : Nat} {r3 : Nat} {x5 : Int32} {s : ps_S} {Q : Option Value → ps_S → Prop} (h :
  ps_nk (ps_is r3 8) (ps_Cl d 116 [.int (ps_i s r3 0)] s (ps_rI (fun v1 s1 =>
    (v1 ≤ x5 →
      ps_nk (ps_is r0 2) (ps_Cl d 41 [.ref r0, .ref r3] s1 (ps_rI (fun v2 s2 =>
        (v2 = 0 →
          Q (some (.int 0)) s2) ∧
        (v2 ≠ 0 →
          Q (some (.int 5)) s2))))) ∧
    (x5 < v1 →
      ps_nk (ps_is r0 2) (ps_Cl d 37 [.ref r0, .ref r3, .int x5] s1 (ps_rA (fun v3 s3 =>
        ps_nk (ps_is r3 8) (ps_Cl d 124 [.ref r3, .ref v3] s3 (ps_rV (fun s4 =>
          ps_nk (ps_is r0 2) (ps_Cl d 37 [.ref r0, .ref r3, .int x5] s4 (ps_rA (fun v5 s5 =>
            ps_nk (ps_is r0 2) (ps_Cl d 38 [.ref r0, .int x5] s5 (ps_rA (fun v6 s6 =>
              ps_nk (ps_is r0 2) (ps_Cl d 39 [.ref r0, .ref r3, .ref v5, .ref v6] s6 (ps_rV (fun s7 =>
                ps_At (d + 1) 35 73 [(0, .ref r0), (3, .ref r3), (5, .int (x5 + 1))] [] s7 Q)))))))))))))))))))) : ps_At (d + 1) 35 73 [(0, .ref r0), (3, .ref r3), (5, .int x5)] [] s Q :=
  ps_wp_at (stops := [(21, [0, 1, 2, 3, 4]), (73, [0, 3, 5])]) (n := 34) h rfl

theorem xs_35_73 {m s : ps_S} {t : Int32} {d : Nat} {r0 : Nat} {r3 : Nat} {x5 : Int32} {Q : Option Value → ps_S → Prop} (h0 : ps_is r0 2 = true) (h3 : ps_is r3 8 = true) (J : xJ m t s) (k : ∀ (v : Int32) (s' : ps_S), xJ m t s' → Q (some (.int v)) s') : ps_At (d + 5) 35 73 [(0, .ref r0), (3, .ref r3), (5, .int x5)] [] s Q :=
  xs_up (P := fun x5 => ∀ (s : ps_S), ps_is r0 2 = true → ps_is r3 8 = true → xJ m t s → ps_At (d + 5) 35 73 [(0, .ref r0), (3, .ref r3), (5, .int x5)] [] s Q) (fun x5 ih s h0 h3 J => pg_35_73 (d := d + 4) (ps_nk_i h3 (xs_116  J (fun v1 => (And.intro (fun f1 => (ps_nk_i h0 (xs_41 h0 h3 J (fun v2 s2 b2 J2 => (And.intro (fun f2 => (k 0 s2 J2)) (fun f2 => (k 5 s2 J2))))))) (fun f1 => (ps_nk_i h0 (xs_37 h0 h3 J (fun v3 g3 => (ps_nk_i h3 (xs_124 h3 g3 J (fun s4 J4 => (ps_nk_i h0 (xs_37 h0 h3 J4 (fun v5 g5 => (ps_nk_i h0 (xs_38 h0 J4 (fun v6 g6 => (ps_nk_i h0 (xs_39 h0 h3 g5 g6 J4 (fun s7 J7 => (ih ((x5 + 1)) (xs_lt f1) s7 h0 h3 J7)))))))))))))))))))))) x5 s h0 h3 J

theorem xs_35_21 {m s : ps_S} {t : Int32} {d : Nat} {r0 : Nat} {x1 : Int32} {r2 : Nat} {r3 : Nat} {x4 : Int32} {Q : Option Value → ps_S → Prop} (h0 : ps_is r0 2 = true) (h2 : ps_is r2 7 = true) (h3 : ps_is r3 8 = true) (J : xJ m t s) (k : ∀ (v : Int32) (s' : ps_S), xJ m t s' → Q (some (.int v)) s') : ps_At (d + 5) 35 21 [(0, .ref r0), (1, .int x1), (2, .ref r2), (3, .ref r3), (4, .int x4)] [] s Q :=
  xs_up (P := fun x4 => ∀ (s : ps_S), ps_is r0 2 = true → ps_is r2 7 = true → ps_is r3 8 = true → xJ m t s → ps_At (d + 5) 35 21 [(0, .ref r0), (1, .int x1), (2, .ref r2), (3, .ref r3), (4, .int x4)] [] s Q) (fun x4 ih s h0 h2 h3 J => pg_35_21 (d := d + 4) (ps_nk_i h0 (ps_nk_i (xn_l ((xk_2_2 h0)).1) (And.intro (fun f1 => (ps_nk_i h0 (xs_42 h0 h3 h2 J (fun v1 s1 J1 => (And.intro (fun f2 => (ps_nk_i h3 (xs_35_73 (d := d) (r0 := r0) (r3 := r3) (x5 := 0)  h0 h3 (xw_j (c := 8) (by decide) h3 J1) k ))) (fun f2 => (k v1 s1 J1))))))) (fun f1 => (ps_nk_i h0 (xs_38 h0 J (fun v2 g2 => (ps_nk_i g2 (xs_91 g2 J (fun s3 J3 => (ih ((x4 + 1)) (xs_lt f1) s3 h0 h2 h3 J3)))))))))))) x4 s h0 h2 h3 J

theorem xs_35 {m s : ps_S} {t : Int32} {d : Nat} {r0 : Nat} {x1 : Int32} {r2 : Nat} {f : Int32 → ps_S → Prop} (h0 : ps_is r0 2 = true) (h2 : ps_is r2 7 = true) (J : xJ m t s) (k : ∀ (v : Int32) (s' : ps_S), xJ m t s' → f v s') : ps_Cl (d + 5) 35 [.ref r0, .int x1, .ref r2] s (ps_rI f) :=
  pg_35_0 (d := d + 4) (ps_nk_i h0 (xs_33 h0 J (fun v1 g1 => (ps_nk_i h0 (xs_36 h0 g1 h2 J (fun v2 b2 => (And.intro (fun f1 => (xs_35_21 (d := d) (r0 := r0) (x1 := x1) (r2 := r2) (r3 := v1) (x4 := 0)  h0 h2 g1 J k )) (fun f1 => (k 1 s J)))))))))

-- ProofBench$Proof.takeSteps(LProofBench$Theory;LProofBench$Shelf;)V
theorem pg_34_0 {d : Nat} {r0 : Nat} {r1 : Nat} {r2 : Nat} {s : ps_S} {Q : Option Value → ps_S → Prop} (h :
  ps_nk (ps_is r0 2) (ps_At (d + 1) 34 7 [(0, .ref r0), (2, .ref r2), (3, .int 0)] [] (ps_ur s r0 6 r1) Q)) : ps_At (d + 1) 34 0 [(0, .ref r0), (1, .ref r1), (2, .ref r2)] [] s Q :=
  ps_wp_at (stops := [(7, [0, 2, 3])]) (n := 7) h rfl

theorem pg_34_7 {d : Nat} {r0 : Nat} {r2 : Nat} {x3 : Int32} {s : ps_S} {Q : Option Value → ps_S → Prop} (h :
  ps_nk (ps_is r0 2) (((ps_i s r0 7) ≤ x3 →
    Q none s) ∧
  (x3 < (ps_i s r0 7) →
    ps_nk (ps_is r0 2) (ps_Cl d 35 [.ref r0, .int x3, .ref r2] s (ps_rI (fun v1 s1 =>
      ps_nk (ps_is r0 2) (ps_nk (ps_is r0 2) (((ps_i (ps_ui s1 r0 9 v1) r0 9) = 0 →
        ps_nk (ps_is r0 2) (ps_At (d + 1) 34 7 [(0, .ref r0), (2, .ref r2), (3, .int (x3 + 1))] [] (ps_ui (ps_ui s1 r0 9 v1) r0 8 (x3 + 1)) Q)) ∧
      ((ps_i (ps_ui s1 r0 9 v1) r0 9) ≠ 0 →
        Q none (ps_ui s1 r0 9 v1)))))))))) : ps_At (d + 1) 34 7 [(0, .ref r0), (2, .ref r2), (3, .int x3)] [] s Q :=
  ps_wp_at (stops := [(7, [0, 2, 3])]) (n := 24) h rfl

theorem xs_34_7 {m s : ps_S} {t : Int32} {d : Nat} {r0 : Nat} {r2 : Nat} {x3 : Int32} {Q : Option Value → ps_S → Prop} (h0 : ps_is r0 2 = true) (h2 : ps_is r2 7 = true) (J : xJ m t s) (k : ∀ (s' : ps_S), xJ m t s' → Q none s') : ps_At (d + 6) 34 7 [(0, .ref r0), (2, .ref r2), (3, .int x3)] [] s Q :=
  xs_up (P := fun x3 => ∀ (s : ps_S), ps_is r0 2 = true → ps_is r2 7 = true → xJ m t s → ps_At (d + 6) 34 7 [(0, .ref r0), (2, .ref r2), (3, .int x3)] [] s Q) (fun x3 ih s h0 h2 J => pg_34_7 (d := d + 5) (ps_nk_i h0 (And.intro (fun f1 => (k s J)) (fun f1 => (ps_nk_i h0 (xs_35 h0 h2 J (fun v1 s1 J1 => (ps_nk_i h0 (ps_nk_i h0 (And.intro (fun f2 => (ps_nk_i h0 (ih ((x3 + 1)) (xs_lt f1) (ps_ui (ps_ui s1 r0 9 v1) r0 8 (x3 + 1)) h0 h2 (xw_i (c := 2) (by decide) h0 (xw_i (c := 2) (by decide) h0 J1))))) (fun f2 => (k (ps_ui s1 r0 9 v1) (xw_i (c := 2) (by decide) h0 J1))))))))))))) x3 s h0 h2 J

theorem xs_34 {m s : ps_S} {t : Int32} {d : Nat} {r0 : Nat} {r1 : Nat} {r2 : Nat} {f : ps_S → Prop} (h0 : ps_is r0 2 = true) (h1 : ps_is r1 9 = true) (h2 : ps_is r2 7 = true) (J : xJ m t s) (k : ∀ (s' : ps_S), xJ m t s' → f s') : ps_Cl (d + 6) 34 [.ref r0, .ref r1, .ref r2] s (ps_rV f) :=
  pg_34_0 (d := d + 5) (ps_nk_i h0 (xs_34_7 (d := d) (r0 := r0) (r2 := r2) (x3 := 0)  h0 h2 (xw_2_6 h0 h1 J) k ))

-- ProofBench$Theory.clear()V
theorem pg_126_0 {d : Nat} {r0 : Nat} {s : ps_S} {Q : Option Value → ps_S → Prop} (h :
  ps_nk (ps_is r0 9) (ps_nk (ps_is r0 9) (ps_nk (ps_is r0 9) (Q none (ps_ui (ps_ui (ps_ui s r0 6 0) r0 7 0) r0 8 0))))) : ps_At d 126 0 [(0, .ref r0)] [] s Q :=
  ps_wp_at (stops := []) (n := 12) h rfl

theorem xs_126 {m s : ps_S} {t : Int32} {d : Nat} {r0 : Nat} {f : ps_S → Prop} (h0 : ps_is r0 9 = true) (J : xJ m t s) (k : ∀ (s' : ps_S), xJ m t s' → f s') : ps_Cl d 126 [.ref r0] s (ps_rV f) :=
  pg_126_0 (ps_nk_i h0 (ps_nk_i h0 (ps_nk_i h0 (k (ps_ui (ps_ui (ps_ui s r0 6 0) r0 7 0) r0 8 0) (xw_i (c := 9) (by decide) h0 (xw_i (c := 9) (by decide) h0 (xw_i (c := 9) (by decide) h0 J)))))))

-- ProofBench$Tokens.byteAt(I)I
theorem pg_143_0 {d : Nat} {r0 : Nat} {x1 : Int32} {s : ps_S} {Q : Option Value → ps_S → Prop} (h :
  (x1 < 0 →
    Q (some (.int (-1))) s) ∧
  (0 ≤ x1 →
    ps_nk (ps_is r0 10) (((ps_i s r0 2) ≤ x1 →
      Q (some (.int (-1))) s) ∧
    (x1 < (ps_i s r0 2) →
      ps_nk (ps_is r0 10) (ps_nk (Nat.beq (ps_K (ps_r s r0 1)).1 0) (((nI (ps_ln (ps_r s r0 1))) ≤ x1 →
        Q (some (.int (-1))) s) ∧
      (x1 < (nI (ps_ln (ps_r s r0 1))) →
        ps_nk (ps_is r0 10) (ps_nk (ps_ar (ps_r s r0 1) 1 || ps_ar (ps_r s r0 1) 2) (ps_nd (pm_in x1 (ps_ln (ps_r s r0 1))) (Q (some (.int ((ps_a s (ps_r s r0 1) (Int32.toNatClampNeg x1)) &&& 255))) s)))))))))) : ps_At d 143 0 [(0, .ref r0), (1, .int x1)] [] s Q :=
  ps_wp_at (stops := []) (n := 27) h rfl

theorem xs_143 {m s : ps_S} {t : Int32} {d : Nat} {r0 : Nat} {x1 : Int32} {f : Int32 → ps_S → Prop} (h0 : ps_is r0 10 = true) (J : xJ m t s) (k : ∀ (v : Int32), f v s) : ps_Cl d 143 [.ref r0, .int x1] s (ps_rI f) :=
  pg_143_0 (And.intro (fun f1 => (k (-1))) (fun f1 => (ps_nk_i h0 (And.intro (fun f2 => (k (-1))) (fun f2 => (ps_nk_i h0 (ps_nk_i (xn_l ((xj_10_1 J h0)).1) (And.intro (fun f3 => (k (-1))) (fun f3 => (ps_nk_i h0 (ps_nk_i (xn_1 ((xj_10_1 J h0)).1) (ps_nd_i (xg_in f1 f3) (k ((ps_a s (ps_r s r0 1) (Int32.toNatClampNeg x1)) &&& 255))))))))))))))

-- ProofBench$Tokens.isBlank(I)Z
theorem pg_145_0 {d : Nat} {x0 : Int32} {s : ps_S} {Q : Option Value → ps_S → Prop} (h :
  (x0 = 32 →
    Q (some (.int 1)) s) ∧
  (x0 ≠ 32 →
    (x0 ≠ 10 →
      Q (some (.int 0)) s) ∧
    (x0 = 10 →
      Q (some (.int 1)) s))) : ps_At d 145 0 [(0, .int x0)] [] s Q :=
  ps_wp_at (stops := []) (n := 16) h rfl

theorem xs_145 {m s : ps_S} {t : Int32} {d : Nat} {x0 : Int32} {f : Int32 → ps_S → Prop} (J : xJ m t s) (k : ∀ (v : Int32), v &&& 1 = v → f v s) : ps_Cl d 145 [.int x0] s (ps_rI f) :=
  pg_145_0 (And.intro (fun f1 => (k 1 (by decide))) (fun f1 => (And.intro (fun f2 => (k 0 (by decide))) (fun f2 => (k 1 (by decide))))))

-- ProofBench$Tokens.isLetter(I)Z
theorem pg_146_0 {d : Nat} {x0 : Int32} {s : ps_S} {Q : Option Value → ps_S → Prop} (h :
  (x0 < 97 →
    Q (some (.int 0)) s) ∧
  (97 ≤ x0 →
    (122 < x0 →
      Q (some (.int 0)) s) ∧
    (x0 ≤ 122 →
      Q (some (.int 1)) s))) : ps_At d 146 0 [(0, .int x0)] [] s Q :=
  ps_wp_at (stops := []) (n := 15) h rfl

theorem xs_146 {m s : ps_S} {t : Int32} {d : Nat} {x0 : Int32} {f : Int32 → ps_S → Prop} (J : xJ m t s) (k : ∀ (v : Int32), v &&& 1 = v → f v s) : ps_Cl d 146 [.int x0] s (ps_rI f) :=
  pg_146_0 (And.intro (fun f1 => (k 0 (by decide))) (fun f1 => (And.intro (fun f2 => (k 0 (by decide))) (fun f2 => (k 1 (by decide))))))

-- ProofBench$Tokens.withLetter(JI)J
theorem pg_144_0 {d : Nat} {l0 : Int64} {x2 : Int32} {s : ps_S} {Q : Option Value → ps_S → Prop} (h :
  Q (some (.long ((((l0 * (32 : Int64)) + (Int32.toInt64 x2)) - (97 : Int64)) + 1))) s) : ps_At d 144 0 [(0, .long l0), (2, .int x2)] [] s Q :=
  ps_wp_at (stops := []) (n := 13) h rfl

theorem xs_144 {m s : ps_S} {t : Int32} {d : Nat} {l0 : Int64} {x2 : Int32} {f : Int64 → ps_S → Prop} (J : xJ m t s) (k : ∀ (v : Int64), f v s) : ps_Cl d 144 [.long l0, .int x2] s (ps_rJ f) :=
  pg_144_0 (k ((((l0 * (32 : Int64)) + (Int32.toInt64 x2)) - (97 : Int64)) + 1))

-- ProofBench$Tokens.takeWord()V
theorem pg_141_0 {d : Nat} {r0 : Nat} {s : ps_S} {Q : Option Value → ps_S → Prop} (h :
  ps_nk (ps_is r0 10) (ps_nk (ps_is r0 10) (ps_At (d + 1) 141 10 [(0, .ref r0), (1, .int (ps_i s r0 5))] [] (ps_uj s r0 8 0) Q))) : ps_At (d + 1) 141 0 [(0, .ref r0)] [] s Q :=
  ps_wp_at (stops := [(10, [0, 1]), (51, [0, 1]), (78, [0, 2])]) (n := 8) h rfl

theorem pg_141_10 {d : Nat} {r0 : Nat} {x1 : Int32} {s : ps_S} {Q : Option Value → ps_S → Prop} (h :
  ps_nk (ps_is r0 10) (((ps_i s r0 2) ≤ x1 →
    ps_At (d + 1) 141 51 [(0, .ref r0), (1, .int x1)] [] s Q) ∧
  (x1 < (ps_i s r0 2) →
    ps_nk (ps_is r0 10) (ps_Cl d 143 [.ref r0, .int x1] s (ps_rI (fun v1 s1 =>
      ps_Cl d 146 [.int v1] s1 (ps_rI (fun v2 s2 =>
        (v2 = 0 →
          ps_At (d + 1) 141 51 [(0, .ref r0), (1, .int x1)] [] s2 Q) ∧
        (v2 ≠ 0 →
          ps_nk (ps_is r0 10) (ps_nk (ps_is r0 10) (ps_Cl d 143 [.ref r0, .int x1] s2 (ps_rI (fun v3 s3 =>
            ps_Cl d 144 [.long (ps_j s2 r0 8), .int v3] s3 (ps_rJ (fun v4 s4 =>
              ps_nk (ps_is r0 10) (ps_At (d + 1) 141 10 [(0, .ref r0), (1, .int (x1 + 1))] [] (ps_uj s4 r0 8 v4) Q)))))))))))))))) : ps_At (d + 1) 141 10 [(0, .ref r0), (1, .int x1)] [] s Q :=
  ps_wp_at (stops := [(10, [0, 1]), (51, [0, 1]), (78, [0, 2])]) (n := 21) h rfl

theorem pg_141_51 {d : Nat} {r0 : Nat} {x1 : Int32} {s : ps_S} {Q : Option Value → ps_S → Prop} (h :
  ps_nk (ps_is r0 10) (ps_nk (ps_is r0 10) (((x1 - (ps_i (ps_ui s r0 3 x1) r0 5)) ≤ 8 →
    ps_nk (ps_is r0 10) (ps_At (d + 1) 141 78 [(0, .ref r0), (2, .int 0)] [] (ps_ui (ps_ui s r0 3 x1) r0 4 2) Q)) ∧
  (8 < (x1 - (ps_i (ps_ui s r0 3 x1) r0 5)) →
    ps_nk (ps_is r0 10) (ps_At (d + 1) 141 78 [(0, .ref r0), (2, .int 0)] [] (ps_ui (ps_ui s r0 3 x1) r0 4 1) Q))))) : ps_At (d + 1) 141 51 [(0, .ref r0), (1, .int x1)] [] s Q :=
  ps_wp_at (stops := [(10, [0, 1]), (51, [0, 1]), (78, [0, 2])]) (n := 21) h rfl

theorem pg_141_78 {d : Nat} {r0 : Nat} {x2 : Int32} {s : ps_S} {Q : Option Value → ps_S → Prop} (h :
  ps_nk (ps_is r0 10) (ps_nk (Nat.beq (ps_K (ps_c0 r0 0)).1 0) (((nI (ps_ln (ps_c0 r0 0))) ≤ x2 →
    Q none s) ∧
  (x2 < (nI (ps_ln (ps_c0 r0 0))) →
    ps_nk (ps_is r0 10) (((ps_i s r0 4) ≠ 2 →
      Q none s) ∧
    ((ps_i s r0 4) = 2 →
      ps_nk (ps_is r0 10) (ps_nk (ps_ar (ps_c0 r0 0) 3) (ps_nd (pm_in x2 (ps_ln (ps_c0 r0 0))) (ps_nk (ps_is r0 10) (((lg_cmp (ps_b s (ps_c0 r0 0) (Int32.toNatClampNeg x2)) (ps_j s r0 8)) ≠ 0 →
        ps_At (d + 1) 141 78 [(0, .ref r0), (2, .int (x2 + 1))] [] s Q) ∧
      ((lg_cmp (ps_b s (ps_c0 r0 0) (Int32.toNatClampNeg x2)) (ps_j s r0 8)) = 0 →
        ps_nk (ps_is r0 10) (ps_nk (ps_is r0 10) (ps_At (d + 1) 141 78 [(0, .ref r0), (2, .int (x2 + 1))] [] (ps_ui (ps_ui s r0 4 3) r0 6 x2) Q))))))))))))) : ps_At (d + 1) 141 78 [(0, .ref r0), (2, .int x2)] [] s Q :=
  ps_wp_at (stops := [(10, [0, 1]), (51, [0, 1]), (78, [0, 2])]) (n := 31) h rfl

theorem xs_141_78 {m s : ps_S} {t : Int32} {d : Nat} {r0 : Nat} {x2 : Int32} {Q : Option Value → ps_S → Prop} (h0 : ps_is r0 10 = true) (e0 : 0 ≤ x2) (J : xJ m t s) (k : ∀ (s' : ps_S), xJ m t s' → Q none s') : ps_At (d + 1) 141 78 [(0, .ref r0), (2, .int x2)] [] s Q :=
  xs_up (P := fun x2 => ∀ (s : ps_S), ps_is r0 10 = true → 0 ≤ x2 → xJ m t s → ps_At (d + 1) 141 78 [(0, .ref r0), (2, .int x2)] [] s Q) (fun x2 ih s h0 e0 J => pg_141_78 (d := d) (ps_nk_i h0 (ps_nk_i (xn_l ((xk_10_0 h0)).1) (And.intro (fun f1 => (k s J)) (fun f1 => (ps_nk_i h0 (And.intro (fun f2 => (k s J)) (fun f2 => (ps_nk_i h0 (ps_nk_i (xn_3 ((xk_10_0 h0)).1) (ps_nd_i (xg_in e0 f1) (ps_nk_i h0 (And.intro (fun f3 => (ih ((x2 + 1)) (xs_lt f1) s h0 (xs_nn e0 f1) J)) (fun f3 => (ps_nk_i h0 (ps_nk_i h0 (ih ((x2 + 1)) (xs_lt f1) (ps_ui (ps_ui s r0 4 3) r0 6 x2) h0 (xs_nn e0 f1) (xw_i (c := 10) (by decide) h0 (xw_i (c := 10) (by decide) h0 J))))))))))))))))))) x2 s h0 e0 J

theorem xs_141_51 {m s : ps_S} {t : Int32} {d : Nat} {r0 : Nat} {x1 : Int32} {Q : Option Value → ps_S → Prop} (h0 : ps_is r0 10 = true) (J : xJ m t s) (k : ∀ (s' : ps_S), xJ m t s' → Q none s') : ps_At (d + 1) 141 51 [(0, .ref r0), (1, .int x1)] [] s Q :=
  pg_141_51 (d := d) (ps_nk_i h0 (ps_nk_i h0 (And.intro (fun f1 => (ps_nk_i h0 (xs_141_78 (d := d) (r0 := r0) (x2 := 0)  h0 (by decide) (xw_i (c := 10) (by decide) h0 (xw_i (c := 10) (by decide) h0 J)) k ))) (fun f1 => (ps_nk_i h0 (xs_141_78 (d := d) (r0 := r0) (x2 := 0)  h0 (by decide) (xw_i (c := 10) (by decide) h0 (xw_i (c := 10) (by decide) h0 J)) k ))))))

theorem xs_141_10 {m s : ps_S} {t : Int32} {d : Nat} {r0 : Nat} {x1 : Int32} {Q : Option Value → ps_S → Prop} (h0 : ps_is r0 10 = true) (J : xJ m t s) (k : ∀ (s' : ps_S), xJ m t s' → Q none s') : ps_At (d + 1) 141 10 [(0, .ref r0), (1, .int x1)] [] s Q :=
  xs_up (P := fun x1 => ∀ (s : ps_S), ps_is r0 10 = true → xJ m t s → ps_At (d + 1) 141 10 [(0, .ref r0), (1, .int x1)] [] s Q) (fun x1 ih s h0 J => pg_141_10 (d := d) (ps_nk_i h0 (And.intro (fun f1 => (xs_141_51 (d := d) (r0 := r0) (x1 := x1)  h0 J k )) (fun f1 => (ps_nk_i h0 (xs_143 h0 J (fun v1 => (xs_146  J (fun v2 b2 => (And.intro (fun f2 => (xs_141_51 (d := d) (r0 := r0) (x1 := x1)  h0 J k )) (fun f2 => (ps_nk_i h0 (ps_nk_i h0 (xs_143 h0 J (fun v3 => (xs_144  J (fun v4 => (ps_nk_i h0 (ih ((x1 + 1)) (xs_lt f1) (ps_uj s r0 8 v4) h0 (xw_j (c := 10) (by decide) h0 J)))))))))))))))))))) x1 s h0 J

theorem xs_141 {m s : ps_S} {t : Int32} {d : Nat} {r0 : Nat} {f : ps_S → Prop} (h0 : ps_is r0 10 = true) (J : xJ m t s) (k : ∀ (s' : ps_S), xJ m t s' → f s') : ps_Cl (d + 1) 141 [.ref r0] s (ps_rV f) :=
  pg_141_0 (d := d) (ps_nk_i h0 (ps_nk_i h0 (xs_141_10 (d := d) (r0 := r0) (x1 := (ps_i s r0 5))  h0 (xw_j (c := 10) (by decide) h0 J) k )))

-- ProofBench$Tokens.isDigit(I)Z
theorem pg_147_0 {d : Nat} {x0 : Int32} {s : ps_S} {Q : Option Value → ps_S → Prop} (h :
  (x0 < 48 →
    Q (some (.int 0)) s) ∧
  (48 ≤ x0 →
    (57 < x0 →
      Q (some (.int 0)) s) ∧
    (x0 ≤ 57 →
      Q (some (.int 1)) s))) : ps_At d 147 0 [(0, .int x0)] [] s Q :=
  ps_wp_at (stops := []) (n := 15) h rfl

theorem xs_147 {m s : ps_S} {t : Int32} {d : Nat} {x0 : Int32} {f : Int32 → ps_S → Prop} (J : xJ m t s) (k : ∀ (v : Int32), v &&& 1 = v → f v s) : ps_Cl d 147 [.int x0] s (ps_rI f) :=
  pg_147_0 (And.intro (fun f1 => (k 0 (by decide))) (fun f1 => (And.intro (fun f2 => (k 0 (by decide))) (fun f2 => (k 1 (by decide))))))

-- ProofBench$Tokens.takeDigits()V
theorem pg_142_0 {d : Nat} {r0 : Nat} {s : ps_S} {Q : Option Value → ps_S → Prop} (h :
  ps_nk (ps_is r0 10) (ps_nk (ps_is r0 10) (ps_At (d + 1) 142 10 [(0, .ref r0), (1, .int (ps_i s r0 5))] [] (ps_ui s r0 7 0) Q))) : ps_At (d + 1) 142 0 [(0, .ref r0)] [] s Q :=
  ps_wp_at (stops := [(10, [0, 1]), (55, [0, 1])]) (n := 8) h rfl

theorem pg_142_10 {d : Nat} {r0 : Nat} {x1 : Int32} {s : ps_S} {Q : Option Value → ps_S → Prop} (h :
  ps_nk (ps_is r0 10) (((ps_i s r0 2) ≤ x1 →
    ps_At (d + 1) 142 55 [(0, .ref r0), (1, .int x1)] [] s Q) ∧
  (x1 < (ps_i s r0 2) →
    ps_nk (ps_is r0 10) (ps_Cl d 143 [.ref r0, .int x1] s (ps_rI (fun v1 s1 =>
      ps_Cl d 147 [.int v1] s1 (ps_rI (fun v2 s2 =>
        (v2 = 0 →
          ps_At (d + 1) 142 55 [(0, .ref r0), (1, .int x1)] [] s2 Q) ∧
        (v2 ≠ 0 →
          ps_nk (ps_is r0 10) (ps_nk (ps_is r0 10) (ps_Cl d 143 [.ref r0, .int x1] s2 (ps_rI (fun v3 s3 =>
            ps_nk (ps_is r0 10) (ps_At (d + 1) 142 10 [(0, .ref r0), (1, .int (x1 + 1))] [] (ps_ui s3 r0 7 ((((ps_i s2 r0 7) * 10) + v3) - 48)) Q)))))))))))))) : ps_At (d + 1) 142 10 [(0, .ref r0), (1, .int x1)] [] s Q :=
  ps_wp_at (stops := [(10, [0, 1]), (55, [0, 1])]) (n := 25) h rfl

theorem pg_142_55 {d : Nat} {r0 : Nat} {x1 : Int32} {s : ps_S} {Q : Option Value → ps_S → Prop} (h :
  ps_nk (ps_is r0 10) (ps_nk (ps_is r0 10) ((4 < (x1 - (ps_i (ps_ui s r0 3 x1) r0 5)) →
    ps_nk (ps_is r0 10) (Q none (ps_ui (ps_ui s r0 3 x1) r0 4 1))) ∧
  ((x1 - (ps_i (ps_ui s r0 3 x1) r0 5)) ≤ 4 →
    ps_nk (ps_is r0 10) (ps_Cl d 143 [.ref r0, .int x1] (ps_ui s r0 3 x1) (ps_rI (fun v1 s1 =>
      ps_Cl d 146 [.int v1] s1 (ps_rI (fun v2 s2 =>
        (v2 = 0 →
          ps_nk (ps_is r0 10) (Q none (ps_ui s2 r0 4 4))) ∧
        (v2 ≠ 0 →
          ps_nk (ps_is r0 10) (Q none (ps_ui s2 r0 4 1)))))))))))) : ps_At (d + 1) 142 55 [(0, .ref r0), (1, .int x1)] [] s Q :=
  ps_wp_at (stops := [(10, [0, 1]), (55, [0, 1])]) (n := 28) h rfl

theorem xs_142_55 {m s : ps_S} {t : Int32} {d : Nat} {r0 : Nat} {x1 : Int32} {Q : Option Value → ps_S → Prop} (h0 : ps_is r0 10 = true) (J : xJ m t s) (k : ∀ (s' : ps_S), xJ m t s' → Q none s') : ps_At (d + 1) 142 55 [(0, .ref r0), (1, .int x1)] [] s Q :=
  pg_142_55 (d := d) (ps_nk_i h0 (ps_nk_i h0 (And.intro (fun f1 => (ps_nk_i h0 (k (ps_ui (ps_ui s r0 3 x1) r0 4 1) (xw_i (c := 10) (by decide) h0 (xw_i (c := 10) (by decide) h0 J))))) (fun f1 => (ps_nk_i h0 (xs_143 h0 (xw_i (c := 10) (by decide) h0 J) (fun v1 => (xs_146  (xw_i (c := 10) (by decide) h0 J) (fun v2 b2 => (And.intro (fun f2 => (ps_nk_i h0 (k (ps_ui (ps_ui s r0 3 x1) r0 4 4) (xw_i (c := 10) (by decide) h0 (xw_i (c := 10) (by decide) h0 J))))) (fun f2 => (ps_nk_i h0 (k (ps_ui (ps_ui s r0 3 x1) r0 4 1) (xw_i (c := 10) (by decide) h0 (xw_i (c := 10) (by decide) h0 J)))))))))))))))

theorem xs_142_10 {m s : ps_S} {t : Int32} {d : Nat} {r0 : Nat} {x1 : Int32} {Q : Option Value → ps_S → Prop} (h0 : ps_is r0 10 = true) (J : xJ m t s) (k : ∀ (s' : ps_S), xJ m t s' → Q none s') : ps_At (d + 1) 142 10 [(0, .ref r0), (1, .int x1)] [] s Q :=
  xs_up (P := fun x1 => ∀ (s : ps_S), ps_is r0 10 = true → xJ m t s → ps_At (d + 1) 142 10 [(0, .ref r0), (1, .int x1)] [] s Q) (fun x1 ih s h0 J => pg_142_10 (d := d) (ps_nk_i h0 (And.intro (fun f1 => (xs_142_55 (d := d) (r0 := r0) (x1 := x1)  h0 J k )) (fun f1 => (ps_nk_i h0 (xs_143 h0 J (fun v1 => (xs_147  J (fun v2 b2 => (And.intro (fun f2 => (xs_142_55 (d := d) (r0 := r0) (x1 := x1)  h0 J k )) (fun f2 => (ps_nk_i h0 (ps_nk_i h0 (xs_143 h0 J (fun v3 => (ps_nk_i h0 (ih ((x1 + 1)) (xs_lt f1) (ps_ui s r0 7 ((((ps_i s r0 7) * 10) + v3) - 48)) h0 (xw_i (c := 10) (by decide) h0 J)))))))))))))))))) x1 s h0 J

theorem xs_142 {m s : ps_S} {t : Int32} {d : Nat} {r0 : Nat} {f : ps_S → Prop} (h0 : ps_is r0 10 = true) (J : xJ m t s) (k : ∀ (s' : ps_S), xJ m t s' → f s') : ps_Cl (d + 1) 142 [.ref r0] s (ps_rV f) :=
  pg_142_0 (d := d) (ps_nk_i h0 (ps_nk_i h0 (xs_142_10 (d := d) (r0 := r0) (x1 := (ps_i s r0 5))  h0 (xw_i (c := 10) (by decide) h0 J) k )))

-- ProofBench$Tokens.advance()V
theorem pg_140_0 {d : Nat} {r0 : Nat} {s : ps_S} {Q : Option Value → ps_S → Prop} (h :
  ps_nk (ps_is r0 10) (ps_At (d + 1) 140 5 [(0, .ref r0), (1, .int (ps_i s r0 3))] [] s Q)) : ps_At (d + 1) 140 0 [(0, .ref r0)] [] s Q :=
  ps_wp_at (stops := [(5, [0, 1]), (30, [0, 1])]) (n := 5) h rfl

theorem pg_140_5 {d : Nat} {r0 : Nat} {x1 : Int32} {s : ps_S} {Q : Option Value → ps_S → Prop} (h :
  ps_nk (ps_is r0 10) (((ps_i s r0 2) ≤ x1 →
    ps_At (d + 1) 140 30 [(0, .ref r0), (1, .int x1)] [] s Q) ∧
  (x1 < (ps_i s r0 2) →
    ps_nk (ps_is r0 10) (ps_Cl d 143 [.ref r0, .int x1] s (ps_rI (fun v1 s1 =>
      ps_Cl d 145 [.int v1] s1 (ps_rI (fun v2 s2 =>
        (v2 = 0 →
          ps_At (d + 1) 140 30 [(0, .ref r0), (1, .int x1)] [] s2 Q) ∧
        (v2 ≠ 0 →
          ps_At (d + 1) 140 5 [(0, .ref r0), (1, .int (x1 + 1))] [] s2 Q))))))))) : ps_At (d + 1) 140 5 [(0, .ref r0), (1, .int x1)] [] s Q :=
  ps_wp_at (stops := [(5, [0, 1]), (30, [0, 1])]) (n := 13) h rfl

theorem pg_140_30 {d : Nat} {r0 : Nat} {x1 : Int32} {s : ps_S} {Q : Option Value → ps_S → Prop} (h :
  ps_nk (ps_is r0 10) (ps_nk (ps_is r0 10) (ps_nk (ps_is r0 10) (ps_Cl d 143 [.ref r0, .int x1] (ps_ui (ps_ui s r0 5 x1) r0 6 (-1)) (ps_rI (fun v1 s1 =>
    ps_nk (ps_is r0 10) ((x1 < (ps_i s1 r0 2) →
      ps_Cl d 146 [.int v1] s1 (ps_rI (fun v2 s2 =>
        (v2 = 0 →
          ps_Cl d 147 [.int v1] s2 (ps_rI (fun v3 s3 =>
            (v3 = 0 →
              (v1 ≠ 59 →
                ps_nk (ps_is r0 10) (ps_nk (ps_is r0 10) (Q none (ps_ui (ps_ui s3 r0 4 1) r0 3 (x1 + 1))))) ∧
              (v1 = 59 →
                ps_nk (ps_is r0 10) (ps_nk (ps_is r0 10) (Q none (ps_ui (ps_ui s3 r0 4 5) r0 3 (x1 + 1)))))) ∧
            (v3 ≠ 0 →
              ps_nk (ps_is r0 10) (ps_Cl d 142 [.ref r0] s3 (ps_rV (fun s4 =>
                Q none s4))))))) ∧
        (v2 ≠ 0 →
          ps_nk (ps_is r0 10) (ps_Cl d 141 [.ref r0] s2 (ps_rV (fun s5 =>
            Q none s5))))))) ∧
    ((ps_i s1 r0 2) ≤ x1 →
      ps_nk (ps_is r0 10) (ps_nk (ps_is r0 10) (Q none (ps_ui (ps_ui s1 r0 4 0) r0 3 x1))))))))))) : ps_At (d + 1) 140 30 [(0, .ref r0), (1, .int x1)] [] s Q :=
  ps_wp_at (stops := [(5, [0, 1]), (30, [0, 1])]) (n := 59) h rfl

theorem xs_140_30 {m s : ps_S} {t : Int32} {d : Nat} {r0 : Nat} {x1 : Int32} {Q : Option Value → ps_S → Prop} (h0 : ps_is r0 10 = true) (J : xJ m t s) (k : ∀ (s' : ps_S), xJ m t s' → Q none s') : ps_At (d + 2) 140 30 [(0, .ref r0), (1, .int x1)] [] s Q :=
  pg_140_30 (d := d + 1) (ps_nk_i h0 (ps_nk_i h0 (ps_nk_i h0 (xs_143 h0 (xw_i (c := 10) (by decide) h0 (xw_i (c := 10) (by decide) h0 J)) (fun v1 => (ps_nk_i h0 (And.intro (fun f1 => (xs_146  (xw_i (c := 10) (by decide) h0 (xw_i (c := 10) (by decide) h0 J)) (fun v2 b2 => (And.intro (fun f2 => (xs_147  (xw_i (c := 10) (by decide) h0 (xw_i (c := 10) (by decide) h0 J)) (fun v3 b3 => (And.intro (fun f3 => (And.intro (fun f4 => (ps_nk_i h0 (ps_nk_i h0 (k (ps_ui (ps_ui (ps_ui (ps_ui s r0 5 x1) r0 6 (-1)) r0 4 1) r0 3 (x1 + 1)) (xw_i (c := 10) (by decide) h0 (xw_i (c := 10) (by decide) h0 (xw_i (c := 10) (by decide) h0 (xw_i (c := 10) (by decide) h0 J)))))))) (fun f4 => (ps_nk_i h0 (ps_nk_i h0 (k (ps_ui (ps_ui (ps_ui (ps_ui s r0 5 x1) r0 6 (-1)) r0 4 5) r0 3 (x1 + 1)) (xw_i (c := 10) (by decide) h0 (xw_i (c := 10) (by decide) h0 (xw_i (c := 10) (by decide) h0 (xw_i (c := 10) (by decide) h0 J)))))))))) (fun f3 => (ps_nk_i h0 (xs_142 h0 (xw_i (c := 10) (by decide) h0 (xw_i (c := 10) (by decide) h0 J)) (fun s4 J4 => (k s4 J4))))))))) (fun f2 => (ps_nk_i h0 (xs_141 h0 (xw_i (c := 10) (by decide) h0 (xw_i (c := 10) (by decide) h0 J)) (fun s5 J5 => (k s5 J5))))))))) (fun f1 => (ps_nk_i h0 (ps_nk_i h0 (k (ps_ui (ps_ui (ps_ui (ps_ui s r0 5 x1) r0 6 (-1)) r0 4 0) r0 3 x1) (xw_i (c := 10) (by decide) h0 (xw_i (c := 10) (by decide) h0 (xw_i (c := 10) (by decide) h0 (xw_i (c := 10) (by decide) h0 J)))))))))))))))

theorem xs_140_5 {m s : ps_S} {t : Int32} {d : Nat} {r0 : Nat} {x1 : Int32} {Q : Option Value → ps_S → Prop} (h0 : ps_is r0 10 = true) (J : xJ m t s) (k : ∀ (s' : ps_S), xJ m t s' → Q none s') : ps_At (d + 2) 140 5 [(0, .ref r0), (1, .int x1)] [] s Q :=
  xs_up (P := fun x1 => ∀ (s : ps_S), ps_is r0 10 = true → xJ m t s → ps_At (d + 2) 140 5 [(0, .ref r0), (1, .int x1)] [] s Q) (fun x1 ih s h0 J => pg_140_5 (d := d + 1) (ps_nk_i h0 (And.intro (fun f1 => (xs_140_30 (d := d) (r0 := r0) (x1 := x1)  h0 J k )) (fun f1 => (ps_nk_i h0 (xs_143 h0 J (fun v1 => (xs_145  J (fun v2 b2 => (And.intro (fun f2 => (xs_140_30 (d := d) (r0 := r0) (x1 := x1)  h0 J k )) (fun f2 => (ih ((x1 + 1)) (xs_lt f1) s h0 J)))))))))))) x1 s h0 J

theorem xs_140 {m s : ps_S} {t : Int32} {d : Nat} {r0 : Nat} {f : ps_S → Prop} (h0 : ps_is r0 10 = true) (J : xJ m t s) (k : ∀ (s' : ps_S), xJ m t s' → f s') : ps_Cl (d + 2) 140 [.ref r0] s (ps_rV f) :=
  pg_140_0 (d := d + 1) (ps_nk_i h0 (xs_140_5 (d := d) (r0 := r0) (x1 := (ps_i s r0 3))  h0 J k ))

-- ProofBench$Tokens.begin([BI)V
theorem pg_139_0 {d : Nat} {r0 : Nat} {r1 : Nat} {x2 : Int32} {s : ps_S} {Q : Option Value → ps_S → Prop} (h :
  ps_nk (ps_is r0 10) (ps_nk (ps_is r0 10) (ps_nk (ps_is r0 10) (ps_nk (ps_is r0 10) (ps_Cl d 140 [.ref r0] (ps_ui (ps_ui (ps_ur s r0 1 r1) r0 2 x2) r0 3 0) (ps_rV (fun s1 =>
    Q none s1))))))) : ps_At (d + 1) 139 0 [(0, .ref r0), (1, .ref r1), (2, .int x2)] [] s Q :=
  ps_wp_at (stops := []) (n := 14) h rfl

theorem xs_139 {m s : ps_S} {t : Int32} {d : Nat} {r0 : Nat} {r1 : Nat} {x2 : Int32} {f : ps_S → Prop} (h0 : ps_is r0 10 = true) (h1 : ps_ar r1 1 = true ∧ r1 < 1131) (J : xJ m t s) (k : ∀ (s' : ps_S), xJ m t s' → f s') : ps_Cl (d + 3) 139 [.ref r0, .ref r1, .int x2] s (ps_rV f) :=
  pg_139_0 (d := d + 2) (ps_nk_i h0 (ps_nk_i h0 (ps_nk_i h0 (ps_nk_i h0 (xs_140 h0 (xw_i (c := 10) (by decide) h0 (xw_i (c := 10) (by decide) h0 (xw_10_1 h0 h1 J))) (fun s1 J1 => (k s1 J1)))))))
