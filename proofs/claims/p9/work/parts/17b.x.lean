set_option maxRecDepth 100000
-- ProofBench$Judge.measureAxioms()V
theorem pg_9_0 {d : Nat} {r0 : Nat} {s : ps_S} {Q : Option Value → ps_S → Prop} (h :
  ps_At (d + 1) 9 2 [(0, .ref r0), (1, .int 0)] [] s Q) : ps_At (d + 1) 9 0 [(0, .ref r0)] [] s Q :=
  ps_wp_at (stops := [(2, [0, 1])]) (n := 4) h rfl

theorem pg_9_2 {d : Nat} {r0 : Nat} {x1 : Int32} {s : ps_S} {Q : Option Value → ps_S → Prop} (h :
  ps_nk (ps_is r0 0) (ps_nk (ps_is (ps_r s r0 16) 9) (((ps_i s (ps_r s r0 16) 8) ≤ x1 →
    Q none s) ∧
  (x1 < (ps_i s (ps_r s r0 16) 8) →
    ps_nk (ps_is r0 0) (ps_Cl d 10 [.ref r0, .int x1] s (ps_rA (fun v1 s1 =>
      ps_nk (ps_is r0 0) (ps_nk (ps_is (ps_r s1 r0 16) 9) (ps_Cl d 135 [.ref (ps_r s1 r0 16), .int x1] s1 (ps_rA (fun v2 s2 =>
        ps_nk (ps_is r0 0) (ps_nk (ps_is v1 6) (ps_Cl d 103 [.ref v1, .ref v2, .ref (ps_r s2 r0 16)] s2 (ps_rV (fun s3 =>
          ps_At (d + 1) 9 2 [(0, .ref r0), (1, .int (x1 + 1))] [] s3 Q))))))))))))))) : ps_At (d + 1) 9 2 [(0, .ref r0), (1, .int x1)] [] s Q :=
  ps_wp_at (stops := [(2, [0, 1])]) (n := 20) h rfl

theorem xs_9_2 {m s : ps_S} {t : Int32} {d : Nat} {r0 : Nat} {x1 : Int32} {Q : Option Value → ps_S → Prop} (h0 : ps_is r0 0 = true) (J : xJ m t s) (k : ∀ (s' : ps_S), xJ m t s' → Q none s') : ps_At (d + 2) 9 2 [(0, .ref r0), (1, .int x1)] [] s Q :=
  xs_up (P := fun x1 => ∀ (s : ps_S), ps_is r0 0 = true → xJ m t s → ps_At (d + 2) 9 2 [(0, .ref r0), (1, .int x1)] [] s Q) (fun x1 ih s h0 J => pg_9_2 (d := d + 1) (ps_nk_i h0 (ps_nk_i (xj_0_16 J h0) (And.intro (fun f1 => (k s J)) (fun f1 => (ps_nk_i h0 (xs_10 h0 J (fun v1 h1 => (ps_nk_i h0 (ps_nk_i (xj_0_16 J h0) (xs_135 (xj_0_16 J h0) J (fun v2 h2 => (ps_nk_i h0 (ps_nk_i h1 (xs_103 h1 h2 (xj_0_16 J h0) J (fun s3 J3 => (ih ((x1 + 1)) (xs_lt f1) s3 h0 J3))))))))))))))))) x1 s h0 J

theorem xs_9 {m s : ps_S} {t : Int32} {d : Nat} {r0 : Nat} {f : ps_S → Prop} (h0 : ps_is r0 0 = true) (J : xJ m t s) (k : ∀ (s' : ps_S), xJ m t s' → f s') : ps_Cl (d + 2) 9 [.ref r0] s (ps_rV f) :=
  pg_9_0 (d := d + 1) (xs_9_2 (d := d) (r0 := r0) (x1 := 0)  h0 J k )

-- ProofBench$Judge.setDigits(I)V
theorem pg_8_0 {d : Nat} {r0 : Nat} {x1 : Int32} {s : ps_S} {Q : Option Value → ps_S → Prop} (h :
  ps_nk (ps_is r0 0) (ps_At (d + 1) 8 9 [(0, .ref r0), (2, .int x1), (3, .int ((ps_i s r0 2) - 1))] [] s Q)) : ps_At (d + 1) 8 0 [(0, .ref r0), (1, .int x1)] [] s Q :=
  ps_wp_at (stops := [(9, [0, 2, 3])]) (n := 9) h rfl

theorem pg_8_9 {d : Nat} {r0 : Nat} {x2 : Int32} {x3 : Int32} {s : ps_S} {Q : Option Value → ps_S → Prop} (h :
  (x3 < 0 →
    Q none s) ∧
  (0 ≤ x3 →
    ps_nk (ps_is r0 0) (ps_Cl d 182 [.ref (ps_c0 r0 0), .int x3] s (ps_rI (fun v1 s1 =>
      (v1 ≤ 0 →
        ps_At (d + 1) 8 9 [(0, .ref r0), (2, .int x2), (3, .int (x3 + (-1)))] [] s1 Q) ∧
      (0 < v1 →
        ps_nk (ps_is r0 0) (ps_nd (!decide (v1 = 0)) (ps_Cl d 183 [.ref (ps_c0 r0 1), .int x3, .int (x2 - (x2 / v1) * v1)] s1 (ps_rV (fun s2 =>
          ps_nd (!decide (v1 = 0)) (ps_At (d + 1) 8 9 [(0, .ref r0), (2, .int (x2 / v1)), (3, .int (x3 + (-1)))] [] s2 Q))))))))))) : ps_At (d + 1) 8 9 [(0, .ref r0), (2, .int x2), (3, .int x3)] [] s Q :=
  ps_wp_at (stops := [(9, [0, 2, 3])]) (n := 27) h rfl

theorem xs_8_9 {m s : ps_S} {t : Int32} {d : Nat} {r0 : Nat} {x2 : Int32} {x3 : Int32} {Q : Option Value → ps_S → Prop} (h0 : ps_is r0 0 = true) (J : xJ m t s) (k : ∀ (s' : ps_S), xJ m t s' → Q none s') : ps_At (d + 1) 8 9 [(0, .ref r0), (2, .int x2), (3, .int x3)] [] s Q :=
  xs_dn (P := fun x3 => ∀ (x2 : Int32) (s : ps_S), ps_is r0 0 = true → xJ m t s → ps_At (d + 1) 8 9 [(0, .ref r0), (2, .int x2), (3, .int x3)] [] s Q) (fun x3 ih x2 s h0 J => pg_8_9 (d := d) (And.intro (fun f1 => (k s J)) (fun f1 => (ps_nk_i h0 (xs_182 (xk_0_0 h0) J (fun v1 => (And.intro (fun f2 => (ih ((x3 + (-1))) (xs_ge f1) (x2) s h0 J)) (fun f2 => (ps_nk_i h0 (ps_nd_i (xg_nz f2) (xs_183 (xk_0_1 h0) J (fun s2 J2 e2 => (ps_nd_i (xg_nz f2) (ih ((x3 + (-1))) (xs_ge f1) ((x2 / v1)) s2 h0 J2)))))))))))))) x3 x2 s h0 J

theorem xs_8 {m s : ps_S} {t : Int32} {d : Nat} {r0 : Nat} {x1 : Int32} {f : ps_S → Prop} (h0 : ps_is r0 0 = true) (J : xJ m t s) (k : ∀ (s' : ps_S), xJ m t s' → f s') : ps_Cl (d + 1) 8 [.ref r0, .int x1] s (ps_rV f) :=
  pg_8_0 (d := d) (ps_nk_i h0 (xs_8_9 (d := d) (r0 := r0) (x2 := x1) (x3 := ((ps_i s r0 2) - 1))  h0 J k ))

-- ProofBench.isBound(I)Z
theorem pg_185_0 {d : Nat} {x0 : Int32} {s : ps_S} {Q : Option Value → ps_S → Prop} (h :
  (x0 < 40 →
    Q (some (.int 0)) s) ∧
  (40 ≤ x0 →
    (60 ≤ x0 →
      Q (some (.int 0)) s) ∧
    (x0 < 60 →
      Q (some (.int 1)) s))) : ps_At d 185 0 [(0, .int x0)] [] s Q :=
  ps_wp_at (stops := []) (n := 15) h rfl

theorem xs_185 {m s : ps_S} {t : Int32} {d : Nat} {x0 : Int32} {f : Int32 → ps_S → Prop} (J : xJ m t s) (k : ∀ (v : Int32), v &&& 1 = v → f v s) : ps_Cl d 185 [.int x0] s (ps_rI f) :=
  pg_185_0 (And.intro (fun f1 => (k 0 (by decide))) (fun f1 => (And.intro (fun f2 => (k 0 (by decide))) (fun f2 => (k 1 (by decide))))))

-- ProofBench$Judge.place(III)I
theorem pg_19_0 {d : Nat} {r0 : Nat} {x1 : Int32} {x2 : Int32} {x3 : Int32} {s : ps_S} {Q : Option Value → ps_S → Prop} (h :
  ps_nk (ps_is r0 0) (ps_nk (ps_is r0 0) (ps_nk (ps_is (ps_r s r0 14) 5) (ps_Cl d 92 [.ref (ps_r s r0 14), .int x1] s (ps_rI (fun v1 s1 =>
    ps_nk (ps_is (ps_r s r0 16) 9) (ps_Cl d 136 [.ref (ps_r s r0 16), .int v1] s1 (ps_rI (fun v2 s2 =>
      (v2 ≠ 0 →
        ps_nk (ps_is r0 0) (ps_Cl d 18 [.ref r0, .int (x1 + 1), .int x2, .int (x3 + 1)] s2 (ps_rI (fun v3 s3 =>
          (v2 ≠ 1 →
            ps_nk (ps_is r0 0) (ps_nk (ps_is r0 0) (ps_nk (ps_is (ps_r s3 r0 15) 6) (ps_Cl d 104 [.ref (ps_r s3 r0 15), .int (x1 + 1)] s3 (ps_rI (fun v4 s4 =>
              ps_nk (ps_is r0 0) (ps_Cl d 18 [.ref r0, .int v4, .int x2, .int (x3 + 1)] s4 (ps_rI (fun v5 s5 =>
                Q (some (.int ((v3 * (ps_i s3 r0 11)) + v5))) s5))))))))) ∧
          (v2 = 1 →
            Q (some (.int v3)) s3))))) ∧
      (v2 = 0 →
        Q (some (.int 0)) s2)))))))))) : ps_At (d + 1) 19 0 [(0, .ref r0), (1, .int x1), (2, .int x2), (3, .int x3)] [] s Q :=
  ps_wp_at (stops := []) (n := 48) h rfl

theorem xr_19 {m s : ps_S} {t : Int32} {d : Nat} {r0 : Nat} {x1 : Int32} {x2 : Int32} {x3 : Int32} {f : Int32 → ps_S → Prop} (HG : xsG d (x3 + 1)) (h0 : ps_is r0 0 = true) (J : xJ m t s) (k : ∀ (v : Int32), f v s) : ps_Cl (d + 9) 19 [.ref r0, .int x1, .int x2, .int x3] s (ps_rI f) :=
  pg_19_0 (d := d + 8) (ps_nk_i h0 (ps_nk_i h0 (ps_nk_i (xj_0_14 J h0) (xs_92 (xj_0_14 J h0) J (fun v1 => (ps_nk_i (xj_0_16 J h0) (xs_136 (xj_0_16 J h0) J (fun v2 => (And.intro (fun f1 => (ps_nk_i h0 (HG _ _ _ _ _ _ _ h0 J (fun v3 => (And.intro (fun f2 => (ps_nk_i h0 (ps_nk_i h0 (ps_nk_i (xj_0_15 J h0) (xs_104 (xj_0_15 J h0) J (fun v4 => (ps_nk_i h0 (HG _ _ _ _ _ _ _ h0 J (fun v5 => (k ((v3 * (ps_i s r0 11)) + v5))))))))))) (fun f2 => (k v3))))))) (fun f1 => (k 0)))))))))))

-- ProofBench$Judge.thingOf(III)I
theorem pg_18_0 {d : Nat} {r0 : Nat} {x1 : Int32} {x2 : Int32} {x3 : Int32} {s : ps_S} {Q : Option Value → ps_S → Prop} (h :
  (x3 ≤ 12 →
    ps_nk (ps_is r0 0) (ps_nk (ps_is (ps_r s r0 14) 5) (ps_Cl d 92 [.ref (ps_r s r0 14), .int x1] s (ps_rI (fun v1 s1 =>
      (v1 < 60 →
        ps_Cl d 185 [.int v1] s1 (ps_rI (fun v2 s2 =>
          (v2 = 0 →
            ps_nk (ps_is r0 0) (ps_nk (ps_is r0 0) (ps_Cl d 182 [.ref (ps_c0 r0 4), .int (v1 - 20)] s2 (ps_rI (fun v3 s3 =>
              ps_nk (ps_is r0 0) (ps_Cl d 19 [.ref r0, .int x1, .int x2, .int x3] s3 (ps_rI (fun v4 s4 =>
                ps_Cl d 182 [.ref (ps_c0 r0 1), .int (v3 + v4)] s4 (ps_rI (fun v5 s5 =>
                  Q (some (.int v5)) s5)))))))))) ∧
          (v2 ≠ 0 →
            ps_nk (ps_is r0 0) (ps_Cl d 182 [.ref (ps_c0 r0 7), .int ((x2 - 1) - (v1 - 40))] s2 (ps_rI (fun v6 s6 =>
              Q (some (.int v6)) s6))))))) ∧
      (60 ≤ v1 →
        ps_nk (ps_is r0 0) (ps_Cl d 182 [.ref (ps_c0 r0 8), .int (v1 - 60)] s1 (ps_rI (fun v7 s7 =>
          Q (some (.int v7)) s7))))))))) ∧
  (12 < x3 →
    Q (some (.int 0)) s)) : ps_At (d + 1) 18 0 [(0, .ref r0), (1, .int x1), (2, .int x2), (3, .int x3)] [] s Q :=
  ps_wp_at (stops := []) (n := 52) h rfl

theorem xr_18 {m s : ps_S} {t : Int32} {d : Nat} {r0 : Nat} {x1 : Int32} {x2 : Int32} {x3 : Int32} {f : Int32 → ps_S → Prop} (H : x3 ≤ 12 → xsG d (x3 + 1)) (h0 : ps_is r0 0 = true) (J : xJ m t s) (k : ∀ (v : Int32), f v s) : ps_Cl (d + 10) 18 [.ref r0, .int x1, .int x2, .int x3] s (ps_rI f) :=
  pg_18_0 (d := d + 9) (And.intro (fun f1 => (ps_nk_i h0 (ps_nk_i (xj_0_14 J h0) (xs_92 (xj_0_14 J h0) J (fun v1 => (And.intro (fun f2 => (xs_185  J (fun v2 b2 => (And.intro (fun f3 => (ps_nk_i h0 (ps_nk_i h0 (xs_182 (xk_0_4 h0) J (fun v3 => (ps_nk_i h0 (xr_19 (H f1) h0 J (fun v4 => (xs_182 (xk_0_1 h0) J (fun v5 => (k v5))))))))))) (fun f3 => (ps_nk_i h0 (xs_182 (xk_0_7 h0) J (fun v6 => (k v6))))))))) (fun f2 => (ps_nk_i h0 (xs_182 (xk_0_8 h0) J (fun v7 => (k v7))))))))))) (fun f1 => (k 0)))

-- ProofBench$Judge.isSoOfTwo(III)Z
theorem pg_16_0 {d : Nat} {r0 : Nat} {x1 : Int32} {x2 : Int32} {x3 : Int32} {s : ps_S} {Q : Option Value → ps_S → Prop} (h :
  ps_nk (ps_is r0 0) (ps_Cl d 15 [.ref r0, .int (x1 + 1), .int x2, .int x3] s (ps_rI (fun v1 s1 =>
    ps_nk (ps_is r0 0) (ps_nk (ps_is (ps_r s1 r0 14) 5) (ps_Cl d 92 [.ref (ps_r s1 r0 14), .int x1] s1 (ps_rI (fun v2 s2 =>
      (v2 = 1 →
        (v1 = 0 →
          Q (some (.int 0)) s2) ∧
        (v1 ≠ 0 →
          ps_nk (ps_is r0 0) (ps_nk (ps_is (ps_r s2 r0 15) 6) (ps_Cl d 104 [.ref (ps_r s2 r0 15), .int (x1 + 1)] s2 (ps_rI (fun v3 s3 =>
            ps_nk (ps_is r0 0) (ps_Cl d 15 [.ref r0, .int v3, .int x2, .int x3] s3 (ps_rI (fun v4 s4 =>
              (v4 = 0 →
                Q (some (.int 0)) s4) ∧
              (v4 ≠ 0 →
                Q (some (.int 1)) s4)))))))))) ∧
      (v2 ≠ 1 →
        (v2 = 2 →
        (v1 ≠ 0 →
          Q (some (.int 1)) s2) ∧
        (v1 = 0 →
          ps_nk (ps_is r0 0) (ps_nk (ps_is (ps_r s2 r0 15) 6) (ps_Cl d 104 [.ref (ps_r s2 r0 15), .int (x1 + 1)] s2 (ps_rI (fun v5 s5 =>
            ps_nk (ps_is r0 0) (ps_Cl d 15 [.ref r0, .int v5, .int x2, .int x3] s5 (ps_rI (fun v6 s6 =>
              (v6 = 0 →
                Q (some (.int 0)) s6) ∧
              (v6 ≠ 0 →
                Q (some (.int 1)) s6)))))))))) ∧
      (v2 ≠ 2 →
        (v1 = 0 →
        Q (some (.int 1)) s2) ∧
      (v1 ≠ 0 →
        ps_nk (ps_is r0 0) (ps_nk (ps_is (ps_r s2 r0 15) 6) (ps_Cl d 104 [.ref (ps_r s2 r0 15), .int (x1 + 1)] s2 (ps_rI (fun v7 s7 =>
          ps_nk (ps_is r0 0) (ps_Cl d 15 [.ref r0, .int v7, .int x2, .int x3] s7 (ps_rI (fun v8 s8 =>
            (v8 = 0 →
              Q (some (.int 0)) s8) ∧
            (v8 ≠ 0 →
              Q (some (.int 1)) s8))))))))))))))))))) : ps_At (d + 1) 16 0 [(0, .ref r0), (1, .int x1), (2, .int x2), (3, .int x3)] [] s Q :=
  ps_wp_at (stops := []) (n := 77) h rfl

theorem xr_16 {m s : ps_S} {t : Int32} {d : Nat} {r0 : Nat} {x1 : Int32} {x2 : Int32} {x3 : Int32} {f : Int32 → ps_S → Prop} (HS : xsS d x3) (h0 : ps_is r0 0 = true) (J : xJ m t s) (k : ∀ (v : Int32) (s' : ps_S), v &&& 1 = v → xJ m t s' → f v s') : ps_Cl (d + 9) 16 [.ref r0, .int x1, .int x2, .int x3] s (ps_rI f) :=
  pg_16_0 (d := d + 8) (ps_nk_i h0 (HS _ _ _ _ _ _ _ h0 J (fun v1 s1 b1 J1 => (ps_nk_i h0 (ps_nk_i (xj_0_14 J1 h0) (xs_92 (xj_0_14 J1 h0) J1 (fun v2 => (And.intro (fun f1 => (And.intro (fun f2 => (k 0 s1 (by decide) J1)) (fun f2 => (ps_nk_i h0 (ps_nk_i (xj_0_15 J1 h0) (xs_104 (xj_0_15 J1 h0) J1 (fun v3 => (ps_nk_i h0 (HS _ _ _ _ _ _ _ h0 J1 (fun v4 s4 b4 J4 => (And.intro (fun f3 => (k 0 s4 (by decide) J4)) (fun f3 => (k 1 s4 (by decide) J4))))))))))))) (fun f1 => (And.intro (fun f4 => (And.intro (fun f5 => (k 1 s1 (by decide) J1)) (fun f5 => (ps_nk_i h0 (ps_nk_i (xj_0_15 J1 h0) (xs_104 (xj_0_15 J1 h0) J1 (fun v5 => (ps_nk_i h0 (HS _ _ _ _ _ _ _ h0 J1 (fun v6 s6 b6 J6 => (And.intro (fun f6 => (k 0 s6 (by decide) J6)) (fun f6 => (k 1 s6 (by decide) J6))))))))))))) (fun f4 => (And.intro (fun f7 => (k 1 s1 (by decide) J1)) (fun f7 => (ps_nk_i h0 (ps_nk_i (xj_0_15 J1 h0) (xs_104 (xj_0_15 J1 h0) J1 (fun v7 => (ps_nk_i h0 (HS _ _ _ _ _ _ _ h0 J1 (fun v8 s8 b8 J8 => (And.intro (fun f8 => (k 0 s8 (by decide) J8)) (fun f8 => (k 1 s8 (by decide) J8)))))))))))))))))))))))

-- ProofBench$Judge.isSoForThings(III)Z
theorem pg_17_0 {d : Nat} {r0 : Nat} {x1 : Int32} {x2 : Int32} {x3 : Int32} {s : ps_S} {Q : Option Value → ps_S → Prop} (h :
  ps_nk (ps_is r0 0) (ps_nk (ps_is (ps_r s r0 14) 5) (ps_Cl d 92 [.ref (ps_r s r0 14), .int x1] s (ps_rI (fun v1 s1 =>
    (v1 ≠ 4 →
      ps_At (d + 1) 17 22 [(0, .ref r0), (1, .int x1), (2, .int x2), (3, .int x3), (4, .int 0), (5, .int 0)] [] s1 Q) ∧
    (v1 = 4 →
      ps_At (d + 1) 17 22 [(0, .ref r0), (1, .int x1), (2, .int x2), (3, .int x3), (4, .int 1), (5, .int 0)] [] s1 Q)))))) : ps_At (d + 1) 17 0 [(0, .ref r0), (1, .int x1), (2, .int x2), (3, .int x3)] [] s Q :=
  ps_wp_at (stops := [(22, [0, 1, 2, 3, 4, 5])]) (n := 17) h rfl

theorem pg_17_22 {d : Nat} {r0 : Nat} {x1 : Int32} {x2 : Int32} {x3 : Int32} {x4 : Int32} {x5 : Int32} {s : ps_S} {Q : Option Value → ps_S → Prop} (h :
  ps_nk (ps_is r0 0) (((ps_i s r0 11) ≤ x5 →
    ps_nd (decide (x4 &&& 1 = x4)) (Q (some (.int x4)) s)) ∧
  (x5 < (ps_i s r0 11) →
    ps_nk (ps_is r0 0) (ps_Cl d 183 [.ref (ps_c0 r0 7), .int x2, .int x5] s (ps_rV (fun s1 =>
      ps_nk (ps_is r0 0) (ps_Cl d 15 [.ref r0, .int (x1 + 1), .int (x2 + 1), .int (x3 + 1)] s1 (ps_rI (fun v2 s2 =>
        (v2 = x4 →
          ps_At (d + 1) 17 22 [(0, .ref r0), (1, .int x1), (2, .int x2), (3, .int x3), (4, .int x4), (5, .int (x5 + 1))] [] s2 Q) ∧
        (v2 ≠ x4 →
          (x4 ≠ 0 →
            Q (some (.int 0)) s2) ∧
          (x4 = 0 →
            Q (some (.int 1)) s2))))))))))) : ps_At (d + 1) 17 22 [(0, .ref r0), (1, .int x1), (2, .int x2), (3, .int x3), (4, .int x4), (5, .int x5)] [] s Q :=
  ps_wp_at (stops := [(22, [0, 1, 2, 3, 4, 5])]) (n := 35) h rfl

theorem xr_17_22 {m s : ps_S} {t : Int32} {d : Nat} {r0 : Nat} {x1 : Int32} {x2 : Int32} {x3 : Int32} {x4 : Int32} {x5 : Int32} {Q : Option Value → ps_S → Prop} (HS : xsS d (x3 + 1)) (h0 : ps_is r0 0 = true) (e0 : x4 &&& 1 = x4) (J : xJ m t s) (k : ∀ (v : Int32) (s' : ps_S), v &&& 1 = v → xJ m t s' → Q (some (.int v)) s') : ps_At (d + 9) 17 22 [(0, .ref r0), (1, .int x1), (2, .int x2), (3, .int x3), (4, .int x4), (5, .int x5)] [] s Q :=
  xs_up (P := fun x5 => ∀ (s : ps_S), ps_is r0 0 = true → x4 &&& 1 = x4 → xJ m t s → ps_At (d + 9) 17 22 [(0, .ref r0), (1, .int x1), (2, .int x2), (3, .int x3), (4, .int x4), (5, .int x5)] [] s Q) (fun x5 ih s h0 e0 J => pg_17_22 (d := d + 8) (ps_nk_i h0 (And.intro (fun f1 => (ps_nd_i (decide_eq_true e0) ((k x4 s (of_decide_eq_true (decide_eq_true e0)) J)))) (fun f1 => (ps_nk_i h0 (xs_183 (xk_0_7 h0) J (fun s1 J1 e1 => (ps_nk_i h0 (HS _ _ _ _ _ _ _ h0 J1 (fun v2 s2 b2 J2 => (And.intro (fun f2 => (ih ((x5 + 1)) (xs_lt f1) s2 h0 e0 J2)) (fun f2 => (And.intro (fun f3 => (k 0 s2 (by decide) J2)) (fun f3 => (k 1 s2 (by decide) J2))))))))))))))) x5 s h0 e0 J

theorem xr_17 {m s : ps_S} {t : Int32} {d : Nat} {r0 : Nat} {x1 : Int32} {x2 : Int32} {x3 : Int32} {f : Int32 → ps_S → Prop} (HS : xsS d (x3 + 1)) (h0 : ps_is r0 0 = true) (J : xJ m t s) (k : ∀ (v : Int32) (s' : ps_S), v &&& 1 = v → xJ m t s' → f v s') : ps_Cl (d + 9) 17 [.ref r0, .int x1, .int x2, .int x3] s (ps_rI f) :=
  pg_17_0 (d := d + 8) (ps_nk_i h0 (ps_nk_i (xj_0_14 J h0) (xs_92 (xj_0_14 J h0) J (fun v1 => (And.intro (fun f1 => (xr_17_22 (d := d) (r0 := r0) (x1 := x1) (x2 := x2) (x3 := x3) (x4 := 0) (x5 := 0) HS h0 (by decide) J k )) (fun f1 => (xr_17_22 (d := d) (r0 := r0) (x1 := x1) (x2 := x2) (x3 := x3) (x4 := 1) (x5 := 0) HS h0 (by decide) J k )))))))

-- ProofBench$Judge.isSo(III)Z
theorem pg_15_0 {d : Nat} {r0 : Nat} {x1 : Int32} {x2 : Int32} {x3 : Int32} {s : ps_S} {Q : Option Value → ps_S → Prop} (h :
  (x3 ≤ 12 →
    ps_nk (ps_is r0 0) (ps_nk (ps_is (ps_r s r0 14) 5) (ps_Cl d 92 [.ref (ps_r s r0 14), .int x1] s (ps_rI (fun v1 s1 =>
      (v1 = 0 →
        Q (some (.int 0)) s1) ∧
      (v1 ≠ 0 →
        (v1 = 1 →
        ps_nk (ps_is r0 0) (ps_Cl d 16 [.ref r0, .int x1, .int x2, .int (x3 + 1)] s1 (ps_rI (fun v2 s2 =>
          ps_nd (decide (v2 &&& 1 = v2)) (Q (some (.int v2)) s2))))) ∧
      (v1 ≠ 1 →
        (v1 = 2 →
        ps_nk (ps_is r0 0) (ps_Cl d 16 [.ref r0, .int x1, .int x2, .int (x3 + 1)] s1 (ps_rI (fun v3 s3 =>
          ps_nd (decide (v3 &&& 1 = v3)) (Q (some (.int v3)) s3))))) ∧
      (v1 ≠ 2 →
        (v1 = 3 →
        ps_nk (ps_is r0 0) (ps_Cl d 16 [.ref r0, .int x1, .int x2, .int (x3 + 1)] s1 (ps_rI (fun v4 s4 =>
          ps_nd (decide (v4 &&& 1 = v4)) (Q (some (.int v4)) s4))))) ∧
      (v1 ≠ 3 →
        (v1 = 4 →
        ps_nk (ps_is r0 0) (ps_Cl d 17 [.ref r0, .int x1, .int x2, .int x3] s1 (ps_rI (fun v5 s5 =>
          ps_nd (decide (v5 &&& 1 = v5)) (Q (some (.int v5)) s5))))) ∧
      (v1 ≠ 4 →
        (v1 = 5 →
        ps_nk (ps_is r0 0) (ps_Cl d 17 [.ref r0, .int x1, .int x2, .int x3] s1 (ps_rI (fun v6 s6 =>
          ps_nd (decide (v6 &&& 1 = v6)) (Q (some (.int v6)) s6))))) ∧
      (v1 ≠ 5 →
        (v1 = 6 →
        ps_nk (ps_is r0 0) (ps_Cl d 18 [.ref r0, .int (x1 + 1), .int x2, .int (x3 + 1)] s1 (ps_rI (fun v7 s7 =>
          ps_nk (ps_is r0 0) (ps_nk (ps_is (ps_r s7 r0 15) 6) (ps_Cl d 104 [.ref (ps_r s7 r0 15), .int (x1 + 1)] s7 (ps_rI (fun v8 s8 =>
            ps_nk (ps_is r0 0) (ps_Cl d 18 [.ref r0, .int v8, .int x2, .int (x3 + 1)] s8 (ps_rI (fun v9 s9 =>
              (v7 ≠ v9 →
                Q (some (.int 0)) s9) ∧
              (v7 = v9 →
                Q (some (.int 1)) s9)))))))))))) ∧
      (v1 ≠ 6 →
        ps_nk (ps_is r0 0) (ps_nk (ps_is r0 0) (ps_Cl d 182 [.ref (ps_c0 r0 3), .int (v1 - 10)] s1 (ps_rI (fun v10 s10 =>
        ps_nk (ps_is r0 0) (ps_Cl d 19 [.ref r0, .int x1, .int x2, .int x3] s10 (ps_rI (fun v11 s11 =>
          ps_Cl d 182 [.ref (ps_c0 r0 1), .int (v10 + v11)] s11 (ps_rI (fun v12 s12 =>
            (v12 ≠ 1 →
              Q (some (.int 0)) s12) ∧
            (v12 = 1 →
              Q (some (.int 1)) s12)))))))))))))))))))))) ∧
  (12 < x3 →
    Q (some (.int 0)) s)) : ps_At (d + 1) 15 0 [(0, .ref r0), (1, .int x1), (2, .int x2), (3, .int x3)] [] s Q :=
  ps_wp_at (stops := []) (n := 101) h rfl

theorem xr_15 {m s : ps_S} {t : Int32} {d : Nat} {r0 : Nat} {x1 : Int32} {x2 : Int32} {x3 : Int32} {f : Int32 → ps_S → Prop} (HS : x3 ≤ 12 → xsS d (x3 + 1)) (HG : ∀ e, x3 ≤ 12 → xsG (d + e) (x3 + 1)) (h0 : ps_is r0 0 = true) (J : xJ m t s) (k : ∀ (v : Int32) (s' : ps_S), v &&& 1 = v → xJ m t s' → f v s') : ps_Cl (d + 10) 15 [.ref r0, .int x1, .int x2, .int x3] s (ps_rI f) :=
  pg_15_0 (d := d + 9) (And.intro (fun f1 => (ps_nk_i h0 (ps_nk_i (xj_0_14 J h0) (xs_92 (xj_0_14 J h0) J (fun v1 => (And.intro (fun f2 => (k 0 s (by decide) J)) (fun f2 => (And.intro (fun f3 => (ps_nk_i h0 (xr_16 (HS f1) h0 J (fun v2 s2 b2 J2 => (ps_nd_i (decide_eq_true b2) ((k v2 s2 (of_decide_eq_true (decide_eq_true b2)) J2))))))) (fun f3 => (And.intro (fun f4 => (ps_nk_i h0 (xr_16 (HS f1) h0 J (fun v3 s3 b3 J3 => (ps_nd_i (decide_eq_true b3) ((k v3 s3 (of_decide_eq_true (decide_eq_true b3)) J3))))))) (fun f4 => (And.intro (fun f5 => (ps_nk_i h0 (xr_16 (HS f1) h0 J (fun v4 s4 b4 J4 => (ps_nd_i (decide_eq_true b4) ((k v4 s4 (of_decide_eq_true (decide_eq_true b4)) J4))))))) (fun f5 => (And.intro (fun f6 => (ps_nk_i h0 (xr_17 (HS f1) h0 J (fun v5 s5 b5 J5 => (ps_nd_i (decide_eq_true b5) ((k v5 s5 (of_decide_eq_true (decide_eq_true b5)) J5))))))) (fun f6 => (And.intro (fun f7 => (ps_nk_i h0 (xr_17 (HS f1) h0 J (fun v6 s6 b6 J6 => (ps_nd_i (decide_eq_true b6) ((k v6 s6 (of_decide_eq_true (decide_eq_true b6)) J6))))))) (fun f7 => (And.intro (fun f8 => (ps_nk_i h0 ((HG 1 f1) _ _ _ _ _ _ _ h0 J (fun v7 => (ps_nk_i h0 (ps_nk_i (xj_0_15 J h0) (xs_104 (xj_0_15 J h0) J (fun v8 => (ps_nk_i h0 ((HG 1 f1) _ _ _ _ _ _ _ h0 J (fun v9 => (And.intro (fun f9 => (k 0 s (by decide) J)) (fun f9 => (k 1 s (by decide) J)))))))))))))) (fun f8 => (ps_nk_i h0 (ps_nk_i h0 (xs_182 (xk_0_3 h0) J (fun v10 => (ps_nk_i h0 (xr_19 (HG 0 f1) h0 J (fun v11 => (xs_182 (xk_0_1 h0) J (fun v12 => (And.intro (fun f10 => (k 0 s (by decide) J)) (fun f10 => (k 1 s (by decide) J))))))))))))))))))))))))))))))) (fun f1 => (k 0 s (by decide) J)))

theorem xr_G : ∀ (k : Nat) (x : Int32) (d : Nat), 0 ≤ x.toInt → x.toInt ≤ 13 → 13 - x.toInt ≤ k → 2 * k + 2 ≤ d → xsG d x := by
  intro k
  induction k with
  | zero =>
    intro x d h0 h1 h2 h3
    obtain ⟨e, rfl⟩ : ∃ e, d = e + 2 := ⟨d - 2, by omega⟩
    have e1 : (12 : Int32).toInt = 12 := by decide
    have hx : ¬ x ≤ 12 := by rw [Int32.le_iff_toInt_le, e1]; omega
    exact fun m s t r0 x1 x2 f h J k => xr_18 (d := e) (fun q => absurd q hx) h J k
  | succ k ih =>
    intro x d h0 h1 h2 h3
    obtain ⟨e, rfl⟩ : ∃ e, d = e + 2 := ⟨d - 2, by omega⟩
    have e1 : (12 : Int32).toInt = 12 := by decide
    have s1 : x ≤ 12 → xsG e (x + 1) := fun q => by
      rw [Int32.le_iff_toInt_le, e1] at q
      have ex : (x + 1).toInt = x.toInt + 1 := by rw [xI_add (by rw [xone]; omega) (by rw [xone]; omega), xone]
      exact ih (x + 1) e (by omega) (by omega) (by omega) (by omega)
    exact fun m s t r0 x1 x2 f h J k => xr_18 (d := e) s1 h J k
theorem xr_S : ∀ (k : Nat) (x : Int32) (d : Nat), 0 ≤ x.toInt → x.toInt ≤ 13 → 13 - x.toInt ≤ k → 2 * k + 2 ≤ d → xsS d x := by
  intro k
  induction k with
  | zero =>
    intro x d h0 h1 h2 h3
    obtain ⟨e, rfl⟩ : ∃ e, d = e + 2 := ⟨d - 2, by omega⟩
    have e1 : (12 : Int32).toInt = 12 := by decide
    have hx : ¬ x ≤ 12 := by rw [Int32.le_iff_toInt_le, e1]; omega
    exact fun m s t r0 x1 x2 f h J k => xr_15 (d := e) (fun q => absurd q hx) (fun _ q => absurd q hx) h J k
  | succ k ih =>
    intro x d h0 h1 h2 h3
    obtain ⟨e, rfl⟩ : ∃ e, d = e + 2 := ⟨d - 2, by omega⟩
    have e1 : (12 : Int32).toInt = 12 := by decide
    have ex : x ≤ 12 → (x + 1).toInt = x.toInt + 1 ∧ x.toInt ≤ 12 := fun q => by
      rw [Int32.le_iff_toInt_le, e1] at q
      exact ⟨by rw [xI_add (by rw [xone]; omega) (by rw [xone]; omega), xone], q⟩
    exact fun m s t r0 x1 x2 f h J k' => xr_15 (d := e) (fun q => ih (x + 1) e (by have := ex q; omega) (by have := ex q; omega) (by have := ex q; omega) (by omega)) (fun i q => xr_G k (x + 1) (e + i) (by have := ex q; omega) (by have := ex q; omega) (by have := ex q; omega) (by omega)) h J k'
theorem xs_15 {m s : ps_S} {t x1 x2 : Int32} {d r0 : Nat} {f : Int32 → ps_S → Prop} (h0 : ps_is r0 0 = true) (J : xJ m t s) (k : ∀ (v : Int32) (s' : ps_S), v &&& 1 = v → xJ m t s' → f v s') : ps_Cl (d + 36) 15 [.ref r0, .int x1, .int x2, .int 0] s (ps_rI f) :=
  (xr_S 13 0 (d + 28) (by decide) (by decide) (by decide) (by omega)) m s t r0 x1 x2 f h0 J k

-- ProofBench$Judge.axiomsHold(I)Z
theorem pg_12_0 {d : Nat} {r0 : Nat} {x1 : Int32} {s : ps_S} {Q : Option Value → ps_S → Prop} (h :
  ps_nk (ps_is r0 0) (ps_Cl d 8 [.ref r0, .int x1] s (ps_rV (fun s1 =>
    ps_At (d + 1) 12 7 [(0, .ref r0), (2, .int 0)] [] s1 Q)))) : ps_At (d + 1) 12 0 [(0, .ref r0), (1, .int x1)] [] s Q :=
  ps_wp_at (stops := [(7, [0, 2])]) (n := 7) h rfl

theorem pg_12_7 {d : Nat} {r0 : Nat} {x2 : Int32} {s : ps_S} {Q : Option Value → ps_S → Prop} (h :
  ps_nk (ps_is r0 0) (ps_nk (ps_is (ps_r s r0 16) 9) (((ps_i s (ps_r s r0 16) 8) ≤ x2 →
    Q (some (.int 1)) s) ∧
  (x2 < (ps_i s (ps_r s r0 16) 8) →
    ps_nk (ps_is r0 0) (ps_nk (ps_is (ps_r s r0 16) 9) (ps_Cl d 135 [.ref (ps_r s r0 16), .int x2] s (ps_rA (fun v1 s1 =>
      ps_nk (ps_is r0 0) (ps_nk (ps_is r0 0) (ps_Cl d 10 [.ref r0, .int x2] (ps_ur s1 r0 14 v1) (ps_rA (fun v2 s2 =>
        ps_nk (ps_is r0 0) (ps_nk (ps_is r0 0) (ps_Cl d 15 [.ref r0, .int 0, .int 0, .int 0] (ps_ur s2 r0 15 v2) (ps_rI (fun v3 s3 =>
          (v3 ≠ 0 →
            ps_At (d + 1) 12 7 [(0, .ref r0), (2, .int (x2 + 1))] [] s3 Q) ∧
          (v3 = 0 →
            Q (some (.int 0)) s3))))))))))))))))) : ps_At (d + 1) 12 7 [(0, .ref r0), (2, .int x2)] [] s Q :=
  ps_wp_at (stops := [(7, [0, 2])]) (n := 30) h rfl

theorem xs_12_7 {m s : ps_S} {t : Int32} {d : Nat} {r0 : Nat} {x2 : Int32} {Q : Option Value → ps_S → Prop} (h0 : ps_is r0 0 = true) (J : xJ m t s) (k : ∀ (v : Int32) (s' : ps_S), v &&& 1 = v → xJ m t s' → Q (some (.int v)) s') : ps_At (d + 37) 12 7 [(0, .ref r0), (2, .int x2)] [] s Q :=
  xs_up (P := fun x2 => ∀ (s : ps_S), ps_is r0 0 = true → xJ m t s → ps_At (d + 37) 12 7 [(0, .ref r0), (2, .int x2)] [] s Q) (fun x2 ih s h0 J => pg_12_7 (d := d + 36) (ps_nk_i h0 (ps_nk_i (xj_0_16 J h0) (And.intro (fun f1 => (k 1 s (by decide) J)) (fun f1 => (ps_nk_i h0 (ps_nk_i (xj_0_16 J h0) (xs_135 (xj_0_16 J h0) J (fun v1 h1 => (ps_nk_i h0 (ps_nk_i h0 (xs_10 h0 (xw_0_14 h0 h1 J) (fun v2 h2 => (ps_nk_i h0 (ps_nk_i h0 (xs_15 h0 (xw_0_15 h0 h2 (xw_0_14 h0 h1 J)) (fun v3 s3 b3 J3 => (And.intro (fun f2 => (ih ((x2 + 1)) (xs_lt f1) s3 h0 J3)) (fun f2 => (k 0 s3 (by decide) J3)))))))))))))))))))) x2 s h0 J

theorem xs_12 {m s : ps_S} {t : Int32} {d : Nat} {r0 : Nat} {x1 : Int32} {f : Int32 → ps_S → Prop} (h0 : ps_is r0 0 = true) (J : xJ m t s) (k : ∀ (v : Int32) (s' : ps_S), v &&& 1 = v → xJ m t s' → f v s') : ps_Cl (d + 37) 12 [.ref r0, .int x1] s (ps_rI f) :=
  pg_12_0 (d := d + 36) (ps_nk_i h0 (xs_8 h0 J (fun s1 J1 => (xs_12_7 (d := d) (r0 := r0) (x2 := 0)  h0 J1 k ))))

-- ProofBench$Judge.isGood(I)Z
theorem pg_11_0 {d : Nat} {r0 : Nat} {x1 : Int32} {s : ps_S} {Q : Option Value → ps_S → Prop} (h :
  ps_nk (ps_is r0 0) ((((((ps_i s r0 11) - 1) * 64) + (x1 / 64)) < 0 →
    Q (some (.int 0)) s) ∧
  (0 ≤ ((((ps_i s r0 11) - 1) * 64) + (x1 / 64)) →
    ps_nk (ps_is r0 0) (ps_nk (Nat.beq (ps_K (ps_c0 r0 12)).1 0) (((nI (ps_ln (ps_c0 r0 12))) ≤ ((((ps_i s r0 11) - 1) * 64) + (x1 / 64)) →
      Q (some (.int 0)) s) ∧
    (((((ps_i s r0 11) - 1) * 64) + (x1 / 64)) < (nI (ps_ln (ps_c0 r0 12))) →
      ps_nk (ps_is r0 0) (ps_nk (Nat.beq (ps_K (ps_c0 r0 13)).1 0) ((((((ps_i s r0 11) - 1) * 64) + (x1 / 64)) < (nI (ps_ln (ps_c0 r0 13))) →
        ps_nk (ps_is r0 0) (ps_nk (ps_ar (ps_c0 r0 12) 3) (ps_nd (pm_in ((((ps_i s r0 11) - 1) * 64) + (x1 / 64)) (ps_ln (ps_c0 r0 12))) (((lg_cmp ((ps_b s (ps_c0 r0 12) (Int32.toNatClampNeg ((((ps_i s r0 11) - 1) * 64) + (x1 / 64)))) &&& ((1 : Int64) <<< (Int32.toInt64 (x1 - (x1 / 64) * 64) &&& 63))) 0) ≠ 0 →
          ps_At (d + 1) 11 106 [(0, .ref r0), (2, .int ((((ps_i s r0 11) - 1) * 64) + (x1 / 64))), (3, .long ((1 : Int64) <<< (Int32.toInt64 (x1 - (x1 / 64) * 64) &&& 63)))] [] s Q) ∧
        ((lg_cmp ((ps_b s (ps_c0 r0 12) (Int32.toNatClampNeg ((((ps_i s r0 11) - 1) * 64) + (x1 / 64)))) &&& ((1 : Int64) <<< (Int32.toInt64 (x1 - (x1 / 64) * 64) &&& 63))) 0) = 0 →
          ps_nk (ps_is r0 0) (ps_nk (ps_ar (ps_c0 r0 12) 3) (ps_nd (pm_in ((((ps_i s r0 11) - 1) * 64) + (x1 / 64)) (ps_ln (ps_c0 r0 12))) (ps_nk (ps_ar (ps_c0 r0 12) 3) (ps_nd (pm_in ((((ps_i s r0 11) - 1) * 64) + (x1 / 64)) (ps_ln (ps_c0 r0 12))) (ps_nk (ps_is r0 0) (ps_nk (ps_is r0 0) (ps_Cl d 12 [.ref r0, .int x1] (ps_ub s (ps_c0 r0 12) (Int32.toNatClampNeg ((((ps_i s r0 11) - 1) * 64) + (x1 / 64))) ((ps_b s (ps_c0 r0 12) (Int32.toNatClampNeg ((((ps_i s r0 11) - 1) * 64) + (x1 / 64)))) ||| ((1 : Int64) <<< (Int32.toInt64 (x1 - (x1 / 64) * 64) &&& 63)))) (ps_rI (fun v1 s1 =>
            (v1 = 0 →
              ps_nk (ps_is r0 0) (ps_nk (ps_ar (ps_c0 r0 13) 3) (ps_nd (pm_in ((((ps_i s r0 11) - 1) * 64) + (x1 / 64)) (ps_ln (ps_c0 r0 13))) (ps_nk (ps_ar (ps_c0 r0 13) 3) (ps_nd (pm_in ((((ps_i s r0 11) - 1) * 64) + (x1 / 64)) (ps_ln (ps_c0 r0 13))) (ps_At (d + 1) 11 106 [(0, .ref r0), (2, .int ((((ps_i s r0 11) - 1) * 64) + (x1 / 64))), (3, .long ((1 : Int64) <<< (Int32.toInt64 (x1 - (x1 / 64) * 64) &&& 63)))] [] (ps_ub s1 (ps_c0 r0 13) (Int32.toNatClampNeg ((((ps_i s r0 11) - 1) * 64) + (x1 / 64))) ((ps_b s1 (ps_c0 r0 13) (Int32.toNatClampNeg ((((ps_i s r0 11) - 1) * 64) + (x1 / 64)))) &&& (((1 : Int64) <<< (Int32.toInt64 (x1 - (x1 / 64) * 64) &&& 63)) ^^^ (-1 : Int64)))) Q)))))) ∧
            (v1 ≠ 0 →
              ps_nk (ps_is r0 0) (ps_nk (ps_ar (ps_c0 r0 13) 3) (ps_nd (pm_in ((((ps_i s r0 11) - 1) * 64) + (x1 / 64)) (ps_ln (ps_c0 r0 13))) (ps_nk (ps_ar (ps_c0 r0 13) 3) (ps_nd (pm_in ((((ps_i s r0 11) - 1) * 64) + (x1 / 64)) (ps_ln (ps_c0 r0 13))) (ps_At (d + 1) 11 106 [(0, .ref r0), (2, .int ((((ps_i s r0 11) - 1) * 64) + (x1 / 64))), (3, .long ((1 : Int64) <<< (Int32.toInt64 (x1 - (x1 / 64) * 64) &&& 63)))] [] (ps_ub s1 (ps_c0 r0 13) (Int32.toNatClampNeg ((((ps_i s r0 11) - 1) * 64) + (x1 / 64))) ((ps_b s1 (ps_c0 r0 13) (Int32.toNatClampNeg ((((ps_i s r0 11) - 1) * 64) + (x1 / 64)))) ||| ((1 : Int64) <<< (Int32.toInt64 (x1 - (x1 / 64) * 64) &&& 63)))) Q)))))))))))))))))))) ∧
      ((nI (ps_ln (ps_c0 r0 13))) ≤ ((((ps_i s r0 11) - 1) * 64) + (x1 / 64)) →
        Q (some (.int 0)) s))))))))) : ps_At (d + 1) 11 0 [(0, .ref r0), (1, .int x1)] [] s Q :=
  ps_wp_at (stops := [(106, [0, 2, 3])]) (n := 78) h rfl

theorem pg_11_106 {d : Nat} {r0 : Nat} {x2 : Int32} {l3 : Int64} {s : ps_S} {Q : Option Value → ps_S → Prop} (h :
  ps_nk (ps_is r0 0) (ps_nk (ps_ar (ps_c0 r0 13) 3) (ps_nd (pm_in x2 (ps_ln (ps_c0 r0 13))) (((lg_cmp ((ps_b s (ps_c0 r0 13) (Int32.toNatClampNeg x2)) &&& l3) 0) = 0 →
    Q (some (.int 0)) s) ∧
  ((lg_cmp ((ps_b s (ps_c0 r0 13) (Int32.toNatClampNeg x2)) &&& l3) 0) ≠ 0 →
    Q (some (.int 1)) s))))) : ps_At (d + 1) 11 106 [(0, .ref r0), (2, .int x2), (3, .long l3)] [] s Q :=
  ps_wp_at (stops := [(106, [0, 2, 3])]) (n := 16) h rfl

theorem xs_11_106 {m s : ps_S} {t : Int32} {d : Nat} {r0 : Nat} {x2 : Int32} {l3 : Int64} {Q : Option Value → ps_S → Prop} (h0 : ps_is r0 0 = true) (e0 : 0 ≤ x2) (e1 : x2 < (nI (ps_ln (ps_c0 r0 13)))) (J : xJ m t s) (k : ∀ (v : Int32) (s' : ps_S), v &&& 1 = v → xJ m t s' → Q (some (.int v)) s') : ps_At (d + 38) 11 106 [(0, .ref r0), (2, .int x2), (3, .long l3)] [] s Q :=
  pg_11_106 (d := d + 37) (ps_nk_i h0 (ps_nk_i (xn_3 ((xk_0_13 h0)).1) (ps_nd_i (xg_in e0 e1) (And.intro (fun f1 => (k 0 s (by decide) J)) (fun f1 => (k 1 s (by decide) J))))))

theorem xs_11 {m s : ps_S} {t : Int32} {d : Nat} {r0 : Nat} {x1 : Int32} {f : Int32 → ps_S → Prop} (h0 : ps_is r0 0 = true) (J : xJ m t s) (k : ∀ (v : Int32) (s' : ps_S), v &&& 1 = v → xJ m t s' → f v s') : ps_Cl (d + 38) 11 [.ref r0, .int x1] s (ps_rI f) :=
  pg_11_0 (d := d + 37) (ps_nk_i h0 (And.intro (fun f1 => (k 0 s (by decide) J)) (fun f1 => (ps_nk_i h0 (ps_nk_i (xn_l ((xk_0_12 h0)).1) (And.intro (fun f2 => (k 0 s (by decide) J)) (fun f2 => (ps_nk_i h0 (ps_nk_i (xn_l ((xk_0_13 h0)).1) (And.intro (fun f3 => (ps_nk_i h0 (ps_nk_i (xn_3 ((xk_0_12 h0)).1) (ps_nd_i (xg_in f1 f2) (And.intro (fun f4 => (xs_11_106 (d := d) (r0 := r0) (x2 := ((((ps_i s r0 11) - 1) * 64) + (x1 / 64))) (l3 := ((1 : Int64) <<< (Int32.toInt64 (x1 - (x1 / 64) * 64) &&& 63)))  h0 f1 f3 J k )) (fun f4 => (ps_nk_i h0 (ps_nk_i (xn_3 ((xk_0_12 h0)).1) (ps_nd_i (xg_in f1 f2) (ps_nk_i (xn_3 ((xk_0_12 h0)).1) (ps_nd_i (xg_in f1 f2) (ps_nk_i h0 (ps_nk_i h0 (xs_12 h0 (xw_b (((xk_0_12 h0)).2) J) (fun v1 s1 b1 J1 => (And.intro (fun f5 => (ps_nk_i h0 (ps_nk_i (xn_3 ((xk_0_13 h0)).1) (ps_nd_i (xg_in f1 f3) (ps_nk_i (xn_3 ((xk_0_13 h0)).1) (ps_nd_i (xg_in f1 f3) (xs_11_106 (d := d) (r0 := r0) (x2 := ((((ps_i s r0 11) - 1) * 64) + (x1 / 64))) (l3 := ((1 : Int64) <<< (Int32.toInt64 (x1 - (x1 / 64) * 64) &&& 63)))  h0 f1 f3 (xw_b (((xk_0_13 h0)).2) J1) k ))))))) (fun f5 => (ps_nk_i h0 (ps_nk_i (xn_3 ((xk_0_13 h0)).1) (ps_nd_i (xg_in f1 f3) (ps_nk_i (xn_3 ((xk_0_13 h0)).1) (ps_nd_i (xg_in f1 f3) (xs_11_106 (d := d) (r0 := r0) (x2 := ((((ps_i s r0 11) - 1) * 64) + (x1 / 64))) (l3 := ((1 : Int64) <<< (Int32.toInt64 (x1 - (x1 / 64) * 64) &&& 63)))  h0 f1 f3 (xw_b (((xk_0_13 h0)).2) J1) k ))))))))))))))))))))))) (fun f3 => (k 0 s (by decide) J))))))))))))

-- ProofBench$Judge.goodModels(LProofBench$Theory;I)I
theorem pg_3_0 {d : Nat} {r0 : Nat} {r1 : Nat} {x2 : Int32} {s : ps_S} {Q : Option Value → ps_S → Prop} (h :
  ps_nk (ps_is r0 0) (ps_Cl d 2 [.ref r0, .ref r1, .int x2] s (ps_rI (fun v1 s1 =>
    ps_nk (ps_is r0 0) (ps_Cl d 9 [.ref r0] s1 (ps_rV (fun s2 =>
      ps_At (d + 1) 3 17 [(0, .ref r0), (3, .int v1), (4, .int 0), (5, .int 0)] [] s2 Q))))))) : ps_At (d + 1) 3 0 [(0, .ref r0), (1, .ref r1), (2, .int x2)] [] s Q :=
  ps_wp_at (stops := [(17, [0, 3, 4, 5])]) (n := 13) h rfl

theorem pg_3_17 {d : Nat} {r0 : Nat} {x3 : Int32} {x4 : Int32} {x5 : Int32} {s : ps_S} {Q : Option Value → ps_S → Prop} (h :
  (x3 ≤ x5 →
    (x3 ≠ (-2) →
      Q (some (.int x4)) s) ∧
    (x3 = (-2) →
      Q (some (.int (-2))) s)) ∧
  (x5 < x3 →
    ps_nk (ps_is r0 0) (ps_Cl d 11 [.ref r0, .int x5] s (ps_rI (fun v1 s1 =>
      (v1 = 0 →
        ps_At (d + 1) 3 17 [(0, .ref r0), (3, .int x3), (4, .int x4), (5, .int (x5 + 1))] [] s1 Q) ∧
      (v1 ≠ 0 →
        ps_At (d + 1) 3 17 [(0, .ref r0), (3, .int x3), (4, .int (x4 + 1)), (5, .int (x5 + 1))] [] s1 Q)))))) : ps_At (d + 1) 3 17 [(0, .ref r0), (3, .int x3), (4, .int x4), (5, .int x5)] [] s Q :=
  ps_wp_at (stops := [(17, [0, 3, 4, 5])]) (n := 22) h rfl

theorem xs_3_17 {m s : ps_S} {t : Int32} {d : Nat} {r0 : Nat} {x3 : Int32} {x4 : Int32} {x5 : Int32} {Q : Option Value → ps_S → Prop} (h0 : ps_is r0 0 = true) (J : xJ m t s) (k : ∀ (v : Int32) (s' : ps_S), xJ m t s' → Q (some (.int v)) s') : ps_At (d + 39) 3 17 [(0, .ref r0), (3, .int x3), (4, .int x4), (5, .int x5)] [] s Q :=
  xs_up (P := fun x5 => ∀ (x4 : Int32) (s : ps_S), ps_is r0 0 = true → xJ m t s → ps_At (d + 39) 3 17 [(0, .ref r0), (3, .int x3), (4, .int x4), (5, .int x5)] [] s Q) (fun x5 ih x4 s h0 J => pg_3_17 (d := d + 38) (And.intro (fun f1 => (And.intro (fun f2 => (k x4 s J)) (fun f2 => (k (-2) s J)))) (fun f1 => (ps_nk_i h0 (xs_11 h0 J (fun v1 s1 b1 J1 => (And.intro (fun f3 => (ih ((x5 + 1)) (xs_lt f1) (x4) s1 h0 J1)) (fun f3 => (ih ((x5 + 1)) (xs_lt f1) ((x4 + 1)) s1 h0 J1))))))))) x5 x4 s h0 J

theorem xs_3 {m s : ps_S} {t : Int32} {d : Nat} {r0 : Nat} {r1 : Nat} {x2 : Int32} {f : Int32 → ps_S → Prop} (h0 : ps_is r0 0 = true) (h1 : ps_is r1 9 = true) (J : xJ m t s) (k : ∀ (v : Int32) (s' : ps_S), xJ m t s' → f v s') : ps_Cl (d + 39) 3 [.ref r0, .ref r1, .int x2] s (ps_rI f) :=
  pg_3_0 (d := d + 38) (ps_nk_i h0 (xs_2 h0 h1 J (fun v1 s1 J1 => (ps_nk_i h0 (xs_9 h0 J1 (fun s2 J2 => (xs_3_17 (d := d) (r0 := r0) (x3 := v1) (x4 := 0) (x5 := 0)  h0 J2 k )))))))

-- ProofBench$Row.contains(I)Z
theorem pg_100_0 {d : Nat} {r0 : Nat} {x1 : Int32} {s : ps_S} {Q : Option Value → ps_S → Prop} (h :
  ps_At (d + 1) 100 2 [(0, .ref r0), (1, .int x1), (2, .int 0)] [] s Q) : ps_At (d + 1) 100 0 [(0, .ref r0), (1, .int x1)] [] s Q :=
  ps_wp_at (stops := [(2, [0, 1, 2])]) (n := 4) h rfl

theorem pg_100_2 {d : Nat} {r0 : Nat} {x1 : Int32} {x2 : Int32} {s : ps_S} {Q : Option Value → ps_S → Prop} (h :
  ps_nk (ps_is r0 5) (((ps_i s r0 1) ≤ x2 →
    Q (some (.int 0)) s) ∧
  (x2 < (ps_i s r0 1) →
    ps_nk (ps_is r0 5) (ps_Cl d 92 [.ref r0, .int x2] s (ps_rI (fun v1 s1 =>
      (v1 ≠ x1 →
        ps_At (d + 1) 100 2 [(0, .ref r0), (1, .int x1), (2, .int (x2 + 1))] [] s1 Q) ∧
      (v1 = x1 →
        Q (some (.int 1)) s1))))))) : ps_At (d + 1) 100 2 [(0, .ref r0), (1, .int x1), (2, .int x2)] [] s Q :=
  ps_wp_at (stops := [(2, [0, 1, 2])]) (n := 17) h rfl

theorem xs_100_2 {m s : ps_S} {t : Int32} {d : Nat} {r0 : Nat} {x1 : Int32} {x2 : Int32} {Q : Option Value → ps_S → Prop} (h0 : ps_is r0 5 = true) (J : xJ m t s) (k : ∀ (v : Int32), v &&& 1 = v → Q (some (.int v)) s) : ps_At (d + 1) 100 2 [(0, .ref r0), (1, .int x1), (2, .int x2)] [] s Q :=
  xs_up (P := fun x2 => ps_is r0 5 = true → ps_At (d + 1) 100 2 [(0, .ref r0), (1, .int x1), (2, .int x2)] [] s Q) (fun x2 ih h0 => pg_100_2 (d := d) (ps_nk_i h0 (And.intro (fun f1 => (k 0 (by decide))) (fun f1 => (ps_nk_i h0 (xs_92 h0 J (fun v1 => (And.intro (fun f2 => (ih ((x2 + 1)) (xs_lt f1) h0)) (fun f2 => (k 1 (by decide))))))))))) x2 h0

theorem xs_100 {m s : ps_S} {t : Int32} {d : Nat} {r0 : Nat} {x1 : Int32} {f : Int32 → ps_S → Prop} (h0 : ps_is r0 5 = true) (J : xJ m t s) (k : ∀ (v : Int32), v &&& 1 = v → f v s) : ps_Cl (d + 1) 100 [.ref r0, .int x1] s (ps_rI f) :=
  pg_100_0 (d := d) (xs_100_2 (d := d) (r0 := r0) (x1 := x1) (x2 := 0)  h0 J k )

-- ProofBench$Judge.findFree(LProofBench$Row;)V
theorem pg_13_0 {d : Nat} {r0 : Nat} {r1 : Nat} {s : ps_S} {Q : Option Value → ps_S → Prop} (h :
  ps_nk (ps_is r0 0) (ps_At (d + 1) 13 7 [(0, .ref r0), (1, .ref r1), (2, .int 0)] [] (ps_ui s r0 10 0) Q)) : ps_At (d + 1) 13 0 [(0, .ref r0), (1, .ref r1)] [] s Q :=
  ps_wp_at (stops := [(7, [0, 1, 2])]) (n := 7) h rfl

theorem pg_13_7 {d : Nat} {r0 : Nat} {r1 : Nat} {x2 : Int32} {s : ps_S} {Q : Option Value → ps_S → Prop} (h :
  (12 ≤ x2 →
    Q none s) ∧
  (x2 < 12 →
    ps_nk (ps_is r1 5) (ps_Cl d 100 [.ref r1, .int ((60 : Int32) + x2)] s (ps_rI (fun v1 s1 =>
      (v1 = 0 →
        ps_At (d + 1) 13 7 [(0, .ref r0), (1, .ref r1), (2, .int (x2 + 1))] [] s1 Q) ∧
      (v1 ≠ 0 →
        ps_nk (ps_is r0 0) (ps_nk (ps_is r0 0) (ps_Cl d 183 [.ref (ps_c0 r0 9), .int (ps_i s1 r0 10), .int x2] s1 (ps_rV (fun s2 =>
          ps_nk (ps_is r0 0) (ps_nk (ps_is r0 0) (ps_At (d + 1) 13 7 [(0, .ref r0), (1, .ref r1), (2, .int (x2 + 1))] [] (ps_ui s2 r0 10 ((ps_i s2 r0 10) + 1)) Q)))))))))))) : ps_At (d + 1) 13 7 [(0, .ref r0), (1, .ref r1), (2, .int x2)] [] s Q :=
  ps_wp_at (stops := [(7, [0, 1, 2])]) (n := 28) h rfl

theorem xs_13_7 {m s : ps_S} {t : Int32} {d : Nat} {r0 : Nat} {r1 : Nat} {x2 : Int32} {Q : Option Value → ps_S → Prop} (h0 : ps_is r0 0 = true) (h1 : ps_is r1 5 = true) (J : xJ m t s) (k : ∀ (s' : ps_S), xJ m t s' → Q none s') : ps_At (d + 2) 13 7 [(0, .ref r0), (1, .ref r1), (2, .int x2)] [] s Q :=
  xs_up (P := fun x2 => ∀ (s : ps_S), ps_is r0 0 = true → ps_is r1 5 = true → xJ m t s → ps_At (d + 2) 13 7 [(0, .ref r0), (1, .ref r1), (2, .int x2)] [] s Q) (fun x2 ih s h0 h1 J => pg_13_7 (d := d + 1) (And.intro (fun f1 => (k s J)) (fun f1 => (ps_nk_i h1 (xs_100 h1 J (fun v1 b1 => (And.intro (fun f2 => (ih ((x2 + 1)) (xs_lt f1) s h0 h1 J)) (fun f2 => (ps_nk_i h0 (ps_nk_i h0 (xs_183 (xk_0_9 h0) J (fun s2 J2 e2 => (ps_nk_i h0 (ps_nk_i h0 (ih ((x2 + 1)) (xs_lt f1) (ps_ui s2 r0 10 ((ps_i s2 r0 10) + 1)) h0 h1 (xw_i (c := 0) (by decide) h0 J2)))))))))))))))) x2 s h0 h1 J

theorem xs_13 {m s : ps_S} {t : Int32} {d : Nat} {r0 : Nat} {r1 : Nat} {f : ps_S → Prop} (h0 : ps_is r0 0 = true) (h1 : ps_is r1 5 = true) (J : xJ m t s) (k : ∀ (s' : ps_S), xJ m t s' → f s') : ps_Cl (d + 2) 13 [.ref r0, .ref r1] s (ps_rV f) :=
  pg_13_0 (d := d + 1) (ps_nk_i h0 (xs_13_7 (d := d) (r0 := r0) (r1 := r1) (x2 := 0)  h0 h1 (xw_i (c := 0) (by decide) h0 J) k ))

-- ProofBench$Judge.isSoForAll(LProofBench$Row;)Z
theorem pg_14_0 {d : Nat} {r0 : Nat} {r1 : Nat} {s : ps_S} {Q : Option Value → ps_S → Prop} (h :
  ps_nk (ps_is r0 0) (ps_nk (ps_is r0 0) (ps_nk (ps_is r0 0) (ps_At (d + 1) 14 17 [(0, .ref r0), (2, .int 1), (3, .int 0)] [] (ps_ur (ps_ur s r0 14 r1) r0 15 (ps_c0 r0 6)) Q)))) : ps_At (d + 1) 14 0 [(0, .ref r0), (1, .ref r1)] [] s Q :=
  ps_wp_at (stops := [(17, [0, 2, 3]), (40, [0, 2, 3]), (51, [0, 2, 3, 4, 5]), (105, [0, 2, 3])]) (n := 13) h rfl

theorem pg_14_17 {d : Nat} {r0 : Nat} {x2 : Int32} {x3 : Int32} {s : ps_S} {Q : Option Value → ps_S → Prop} (h :
  ps_nk (ps_is r0 0) (((ps_i s r0 10) ≤ x3 →
    ps_At (d + 1) 14 40 [(0, .ref r0), (2, .int x2), (3, .int 0)] [] s Q) ∧
  (x3 < (ps_i s r0 10) →
    ps_nk (ps_is r0 0) (ps_At (d + 1) 14 17 [(0, .ref r0), (2, .int (x2 * (ps_i s r0 11))), (3, .int (x3 + 1))] [] s Q)))) : ps_At (d + 1) 14 17 [(0, .ref r0), (2, .int x2), (3, .int x3)] [] s Q :=
  ps_wp_at (stops := [(17, [0, 2, 3]), (40, [0, 2, 3]), (51, [0, 2, 3, 4, 5]), (105, [0, 2, 3])]) (n := 15) h rfl

theorem pg_14_40 {d : Nat} {r0 : Nat} {x2 : Int32} {x3 : Int32} {s : ps_S} {Q : Option Value → ps_S → Prop} (h :
  (x2 ≤ x3 →
    Q (some (.int 1)) s) ∧
  (x3 < x2 →
    ps_At (d + 1) 14 51 [(0, .ref r0), (2, .int x2), (3, .int x3), (4, .int x3), (5, .int 0)] [] s Q)) : ps_At (d + 1) 14 40 [(0, .ref r0), (2, .int x2), (3, .int x3)] [] s Q :=
  ps_wp_at (stops := [(17, [0, 2, 3]), (40, [0, 2, 3]), (51, [0, 2, 3, 4, 5]), (105, [0, 2, 3])]) (n := 11) h rfl

theorem pg_14_51 {d : Nat} {r0 : Nat} {x2 : Int32} {x3 : Int32} {x4 : Int32} {x5 : Int32} {s : ps_S} {Q : Option Value → ps_S → Prop} (h :
  ps_nk (ps_is r0 0) (((ps_i s r0 10) ≤ x5 →
    ps_At (d + 1) 14 105 [(0, .ref r0), (2, .int x2), (3, .int x3)] [] s Q) ∧
  (x5 < (ps_i s r0 10) →
    ps_nk (ps_is r0 0) (((ps_i s r0 11) ≤ 0 →
      ps_At (d + 1) 14 105 [(0, .ref r0), (2, .int x2), (3, .int x3)] [] s Q) ∧
    (0 < (ps_i s r0 11) →
      ps_nk (ps_is r0 0) (ps_nk (ps_is r0 0) (ps_Cl d 182 [.ref (ps_c0 r0 9), .int x5] s (ps_rI (fun v1 s1 =>
        ps_nk (ps_is r0 0) (ps_nd (!decide ((ps_i s1 r0 11) = 0)) (ps_Cl d 183 [.ref (ps_c0 r0 8), .int v1, .int (x4 - (x4 / (ps_i s1 r0 11)) * (ps_i s1 r0 11))] s1 (ps_rV (fun s2 =>
          ps_nk (ps_is r0 0) (ps_nd (!decide ((ps_i s2 r0 11) = 0)) (ps_At (d + 1) 14 51 [(0, .ref r0), (2, .int x2), (3, .int x3), (4, .int (x4 / (ps_i s2 r0 11))), (5, .int (x5 + 1))] [] s2 Q))))))))))))))) : ps_At (d + 1) 14 51 [(0, .ref r0), (2, .int x2), (3, .int x3), (4, .int x4), (5, .int x5)] [] s Q :=
  ps_wp_at (stops := [(17, [0, 2, 3]), (40, [0, 2, 3]), (51, [0, 2, 3, 4, 5]), (105, [0, 2, 3])]) (n := 27) h rfl

theorem pg_14_105 {d : Nat} {r0 : Nat} {x2 : Int32} {x3 : Int32} {s : ps_S} {Q : Option Value → ps_S → Prop} (h :
  ps_nk (ps_is r0 0) (ps_Cl d 15 [.ref r0, .int 0, .int 0, .int 0] s (ps_rI (fun v1 s1 =>
    (v1 ≠ 0 →
      ps_At (d + 1) 14 40 [(0, .ref r0), (2, .int x2), (3, .int (x3 + 1))] [] s1 Q) ∧
    (v1 = 0 →
      Q (some (.int 0)) s1))))) : ps_At (d + 1) 14 105 [(0, .ref r0), (2, .int x2), (3, .int x3)] [] s Q :=
  ps_wp_at (stops := [(17, [0, 2, 3]), (40, [0, 2, 3]), (51, [0, 2, 3, 4, 5]), (105, [0, 2, 3])]) (n := 12) h rfl

theorem xs_14_105 {m s : ps_S} {t : Int32} {d : Nat} {r0 : Nat} {x2 : Int32} {x3 : Int32} {Q : Option Value → ps_S → Prop} (h0 : ps_is r0 0 = true) (J : xJ m t s) (k : ∀ (v : Int32) (s' : ps_S), v &&& 1 = v → xJ m t s' → Q (some (.int v)) s') (K40 : ∀ (s : ps_S), ps_is r0 0 = true → xJ m t s → ps_At (d + 37) 14 40 [(0, .ref r0), (2, .int x2), (3, .int (x3 + 1))] [] s Q) : ps_At (d + 37) 14 105 [(0, .ref r0), (2, .int x2), (3, .int x3)] [] s Q :=
  pg_14_105 (d := d + 36) (ps_nk_i h0 (xs_15 h0 J (fun v1 s1 b1 J1 => (And.intro (fun f1 => (K40 s1 h0 J1)) (fun f1 => (k 0 s1 (by decide) J1))))))

theorem xs_14_51 {m s : ps_S} {t : Int32} {d : Nat} {r0 : Nat} {x2 : Int32} {x3 : Int32} {x4 : Int32} {x5 : Int32} {Q : Option Value → ps_S → Prop} (h0 : ps_is r0 0 = true) (J : xJ m t s) (k : ∀ (v : Int32) (s' : ps_S), v &&& 1 = v → xJ m t s' → Q (some (.int v)) s') (K40 : ∀ (s : ps_S), ps_is r0 0 = true → xJ m t s → ps_At (d + 37) 14 40 [(0, .ref r0), (2, .int x2), (3, .int (x3 + 1))] [] s Q) : ps_At (d + 37) 14 51 [(0, .ref r0), (2, .int x2), (3, .int x3), (4, .int x4), (5, .int x5)] [] s Q :=
  xs_up (P := fun x5 => ∀ (x4 : Int32) (s : ps_S), ps_is r0 0 = true → xJ m t s → ps_At (d + 37) 14 51 [(0, .ref r0), (2, .int x2), (3, .int x3), (4, .int x4), (5, .int x5)] [] s Q) (fun x5 ih x4 s h0 J => pg_14_51 (d := d + 36) (ps_nk_i h0 (And.intro (fun f1 => (xs_14_105 (d := d) (r0 := r0) (x2 := x2) (x3 := x3)  h0 J k K40)) (fun f1 => (ps_nk_i h0 (And.intro (fun f2 => (xs_14_105 (d := d) (r0 := r0) (x2 := x2) (x3 := x3)  h0 J k K40)) (fun f2 => (ps_nk_i h0 (ps_nk_i h0 (xs_182 (xk_0_9 h0) J (fun v1 => (ps_nk_i h0 (ps_nd_i (xg_nz f2) (xs_183 (xk_0_8 h0) J (fun s2 J2 e2 => (ps_nk_i h0 (ps_nd_i (xg_nz (by rw [e2]; exact f2)) (ih ((x5 + 1)) (xs_lt f1) ((x4 / (ps_i s2 r0 11))) s2 h0 J2)))))))))))))))))) x5 x4 s h0 J

theorem xs_14_40 {m s : ps_S} {t : Int32} {d : Nat} {r0 : Nat} {x2 : Int32} {x3 : Int32} {Q : Option Value → ps_S → Prop} (h0 : ps_is r0 0 = true) (J : xJ m t s) (k : ∀ (v : Int32) (s' : ps_S), v &&& 1 = v → xJ m t s' → Q (some (.int v)) s') : ps_At (d + 37) 14 40 [(0, .ref r0), (2, .int x2), (3, .int x3)] [] s Q :=
  xs_up (P := fun x3 => ∀ (s : ps_S), ps_is r0 0 = true → xJ m t s → ps_At (d + 37) 14 40 [(0, .ref r0), (2, .int x2), (3, .int x3)] [] s Q) (fun x3 ih s h0 J => pg_14_40 (d := d + 36) (And.intro (fun f1 => (k 1 s (by decide) J)) (fun f1 => (xs_14_51 (d := d) (r0 := r0) (x2 := x2) (x3 := x3) (x4 := x3) (x5 := 0)  h0 J k (fun s9 h0z J9 => ih (x3 + 1) (xs_lt f1) s9 h0z J9))))) x3 s h0 J

theorem xs_14_17 {m s : ps_S} {t : Int32} {d : Nat} {r0 : Nat} {x2 : Int32} {x3 : Int32} {Q : Option Value → ps_S → Prop} (h0 : ps_is r0 0 = true) (J : xJ m t s) (k : ∀ (v : Int32) (s' : ps_S), v &&& 1 = v → xJ m t s' → Q (some (.int v)) s') : ps_At (d + 37) 14 17 [(0, .ref r0), (2, .int x2), (3, .int x3)] [] s Q :=
  xs_up (P := fun x3 => ∀ (x2 : Int32) (s : ps_S), ps_is r0 0 = true → xJ m t s → ps_At (d + 37) 14 17 [(0, .ref r0), (2, .int x2), (3, .int x3)] [] s Q) (fun x3 ih x2 s h0 J => pg_14_17 (d := d + 36) (ps_nk_i h0 (And.intro (fun f1 => (xs_14_40 (d := d) (r0 := r0) (x2 := x2) (x3 := 0)  h0 J k )) (fun f1 => (ps_nk_i h0 (ih ((x3 + 1)) (xs_lt f1) ((x2 * (ps_i s r0 11))) s h0 J)))))) x3 x2 s h0 J

theorem xs_14 {m s : ps_S} {t : Int32} {d : Nat} {r0 : Nat} {r1 : Nat} {f : Int32 → ps_S → Prop} (h0 : ps_is r0 0 = true) (h1 : ps_is r1 5 = true) (J : xJ m t s) (k : ∀ (v : Int32) (s' : ps_S), v &&& 1 = v → xJ m t s' → f v s') : ps_Cl (d + 37) 14 [.ref r0, .ref r1] s (ps_rI f) :=
  pg_14_0 (d := d + 36) (ps_nk_i h0 (ps_nk_i h0 (ps_nk_i h0 (xs_14_17 (d := d) (r0 := r0) (x2 := 1) (x3 := 0)  h0 (xw_0_15 h0 (xk_0_6 h0) (xw_0_14 h0 h1 J)) k ))))

-- ProofBench$Judge.holdsIn(LProofBench$Theory;LProofBench$Row;II)I
theorem pg_4_0 {d : Nat} {r0 : Nat} {r1 : Nat} {r2 : Nat} {x3 : Int32} {x4 : Int32} {s : ps_S} {Q : Option Value → ps_S → Prop} (h :
  ps_nk (ps_is r0 0) (ps_Cl d 6 [.ref r0, .ref r1, .int x3] s (ps_rJ (fun v1 s1 =>
    ((lg_cmp (Int32.toInt64 x4) v1) < 0 →
      ps_nk (ps_is r0 0) (ps_Cl d 13 [.ref r0, .ref r2] s1 (ps_rV (fun s2 =>
        (0 < (lg_cmp v1 (4096 : Int64)) →
          Q (some (.int (-2))) s2) ∧
        ((lg_cmp v1 (4096 : Int64)) ≤ 0 →
          ps_nk (ps_is r0 0) (((ps_i s2 r0 10) ≤ 4 →
            ps_nk (ps_is r0 0) (ps_nk (ps_is r0 0) (ps_nk (ps_is (ps_c0 r0 6) 6) (ps_Cl d 103 [.ref (ps_c0 r0 6), .ref r2, .ref (ps_r s2 r0 16)] s2 (ps_rV (fun s3 =>
              ps_nk (ps_is r0 0) (ps_Cl d 8 [.ref r0, .int x4] s3 (ps_rV (fun s4 =>
                ps_nk (ps_is r0 0) (ps_Cl d 14 [.ref r0, .ref r2] s4 (ps_rI (fun v5 s5 =>
                  (v5 = 0 →
                    Q (some (.int 0)) s5) ∧
                  (v5 ≠ 0 →
                    Q (some (.int 1)) s5))))))))))))) ∧
          (4 < (ps_i s2 r0 10) →
            Q (some (.int (-2))) s2))))))) ∧
    (0 ≤ (lg_cmp (Int32.toInt64 x4) v1) →
      Q (some (.int (-1))) s1))))) : ps_At (d + 1) 4 0 [(0, .ref r0), (1, .ref r1), (2, .ref r2), (3, .int x3), (4, .int x4)] [] s Q :=
  ps_wp_at (stops := []) (n := 47) h rfl

theorem xs_4 {m s : ps_S} {t : Int32} {d : Nat} {r0 : Nat} {r1 : Nat} {r2 : Nat} {x3 : Int32} {x4 : Int32} {f : Int32 → ps_S → Prop} (h0 : ps_is r0 0 = true) (h1 : ps_is r1 9 = true) (h2 : ps_is r2 5 = true) (J : xJ m t s) (k : ∀ (v : Int32) (s' : ps_S), xJ m t s' → f v s') : ps_Cl (d + 38) 4 [.ref r0, .ref r1, .ref r2, .int x3, .int x4] s (ps_rI f) :=
  pg_4_0 (d := d + 37) (ps_nk_i h0 (xs_6 h0 h1 J (fun v1 s1 J1 => (And.intro (fun f1 => (ps_nk_i h0 (xs_13 h0 h2 J1 (fun s2 J2 => (And.intro (fun f2 => (k (-2) s2 J2)) (fun f2 => (ps_nk_i h0 (And.intro (fun f3 => (ps_nk_i h0 (ps_nk_i h0 (ps_nk_i (xk_0_6 h0) (xs_103 (xk_0_6 h0) h2 (xj_0_16 J2 h0) J2 (fun s3 J3 => (ps_nk_i h0 (xs_8 h0 J3 (fun s4 J4 => (ps_nk_i h0 (xs_14 h0 h2 J4 (fun v5 s5 b5 J5 => (And.intro (fun f4 => (k 0 s5 J5)) (fun f4 => (k 1 s5 J5))))))))))))))) (fun f3 => (k (-2) s2 J2)))))))))) (fun f1 => (k (-1) s1 J1))))))

-- ProofBench$Judge.firstAgainst(LProofBench$Theory;LProofBench$Row;I)I
theorem pg_5_0 {d : Nat} {r0 : Nat} {r1 : Nat} {r2 : Nat} {x3 : Int32} {s : ps_S} {Q : Option Value → ps_S → Prop} (h :
  ps_nk (ps_is r0 0) (ps_Cl d 2 [.ref r0, .ref r1, .int x3] s (ps_rI (fun v1 s1 =>
    ps_nk (ps_is r0 0) (ps_Cl d 13 [.ref r0, .ref r2] s1 (ps_rV (fun s2 =>
      (v1 = (-2) →
        Q (some (.int (-2))) s2) ∧
      (v1 ≠ (-2) →
        ps_nk (ps_is r0 0) (((ps_i s2 r0 10) ≤ 4 →
          ps_nk (ps_is r0 0) (ps_Cl d 9 [.ref r0] s2 (ps_rV (fun s3 =>
            ps_nk (ps_is r0 0) (ps_nk (ps_is r0 0) (ps_nk (ps_is (ps_c0 r0 6) 6) (ps_Cl d 103 [.ref (ps_c0 r0 6), .ref r2, .ref (ps_r s3 r0 16)] s3 (ps_rV (fun s4 =>
              ps_At (d + 1) 5 50 [(0, .ref r0), (2, .ref r2), (4, .int v1), (5, .int 0)] [] s4 Q))))))))) ∧
        (4 < (ps_i s2 r0 10) →
          Q (some (.int (-2))) s2)))))))))) : ps_At (d + 1) 5 0 [(0, .ref r0), (1, .ref r1), (2, .ref r2), (3, .int x3)] [] s Q :=
  ps_wp_at (stops := [(50, [0, 2, 4, 5])]) (n := 31) h rfl

theorem pg_5_50 {d : Nat} {r0 : Nat} {r2 : Nat} {x4 : Int32} {x5 : Int32} {s : ps_S} {Q : Option Value → ps_S → Prop} (h :
  (x4 ≤ x5 →
    Q (some (.int (-1))) s) ∧
  (x5 < x4 →
    ps_nk (ps_is r0 0) (ps_Cl d 11 [.ref r0, .int x5] s (ps_rI (fun v1 s1 =>
      (v1 = 0 →
        ps_At (d + 1) 5 50 [(0, .ref r0), (2, .ref r2), (4, .int x4), (5, .int (x5 + 1))] [] s1 Q) ∧
      (v1 ≠ 0 →
        ps_nk (ps_is r0 0) (ps_Cl d 8 [.ref r0, .int x5] s1 (ps_rV (fun s2 =>
          ps_nk (ps_is r0 0) (ps_Cl d 14 [.ref r0, .ref r2] s2 (ps_rI (fun v3 s3 =>
            (v3 ≠ 0 →
              ps_At (d + 1) 5 50 [(0, .ref r0), (2, .ref r2), (4, .int x4), (5, .int (x5 + 1))] [] s3 Q) ∧
            (v3 = 0 →
              Q (some (.int x5)) s3))))))))))))) : ps_At (d + 1) 5 50 [(0, .ref r0), (2, .ref r2), (4, .int x4), (5, .int x5)] [] s Q :=
  ps_wp_at (stops := [(50, [0, 2, 4, 5])]) (n := 24) h rfl

theorem xs_5_50 {m s : ps_S} {t : Int32} {d : Nat} {r0 : Nat} {r2 : Nat} {x4 : Int32} {x5 : Int32} {Q : Option Value → ps_S → Prop} (h0 : ps_is r0 0 = true) (h2 : ps_is r2 5 = true) (J : xJ m t s) (k : ∀ (v : Int32) (s' : ps_S), xJ m t s' → Q (some (.int v)) s') : ps_At (d + 39) 5 50 [(0, .ref r0), (2, .ref r2), (4, .int x4), (5, .int x5)] [] s Q :=
  xs_up (P := fun x5 => ∀ (s : ps_S), ps_is r0 0 = true → ps_is r2 5 = true → xJ m t s → ps_At (d + 39) 5 50 [(0, .ref r0), (2, .ref r2), (4, .int x4), (5, .int x5)] [] s Q) (fun x5 ih s h0 h2 J => pg_5_50 (d := d + 38) (And.intro (fun f1 => (k (-1) s J)) (fun f1 => (ps_nk_i h0 (xs_11 h0 J (fun v1 s1 b1 J1 => (And.intro (fun f2 => (ih ((x5 + 1)) (xs_lt f1) s1 h0 h2 J1)) (fun f2 => (ps_nk_i h0 (xs_8 h0 J1 (fun s2 J2 => (ps_nk_i h0 (xs_14 h0 h2 J2 (fun v3 s3 b3 J3 => (And.intro (fun f3 => (ih ((x5 + 1)) (xs_lt f1) s3 h0 h2 J3)) (fun f3 => (k x5 s3 J3))))))))))))))))) x5 s h0 h2 J

theorem xs_5 {m s : ps_S} {t : Int32} {d : Nat} {r0 : Nat} {r1 : Nat} {r2 : Nat} {x3 : Int32} {f : Int32 → ps_S → Prop} (h0 : ps_is r0 0 = true) (h1 : ps_is r1 9 = true) (h2 : ps_is r2 5 = true) (J : xJ m t s) (k : ∀ (v : Int32) (s' : ps_S), xJ m t s' → f v s') : ps_Cl (d + 39) 5 [.ref r0, .ref r1, .ref r2, .int x3] s (ps_rI f) :=
  pg_5_0 (d := d + 38) (ps_nk_i h0 (xs_2 h0 h1 J (fun v1 s1 J1 => (ps_nk_i h0 (xs_13 h0 h2 J1 (fun s2 J2 => (And.intro (fun f1 => (k (-2) s2 J2)) (fun f1 => (ps_nk_i h0 (And.intro (fun f2 => (ps_nk_i h0 (xs_9 h0 J2 (fun s3 J3 => (ps_nk_i h0 (ps_nk_i h0 (ps_nk_i (xk_0_6 h0) (xs_103 (xk_0_6 h0) h2 (xj_0_16 J3 h0) J3 (fun s4 J4 => (xs_5_50 (d := d) (r0 := r0) (r2 := r2) (x4 := v1) (x5 := 0)  h0 h2 J4 k )))))))))) (fun f2 => (k (-2) s2 J2))))))))))))

-- ProofBench$Row.isPartAt(IILProofBench$Row;I)Z
theorem pg_99_0 {d : Nat} {r0 : Nat} {x1 : Int32} {x2 : Int32} {r3 : Nat} {x4 : Int32} {s : ps_S} {Q : Option Value → ps_S → Prop} (h :
  ps_At (d + 1) 99 3 [(0, .ref r0), (1, .int x1), (2, .int x2), (3, .ref r3), (4, .int x4), (5, .int x1)] [] s Q) : ps_At (d + 1) 99 0 [(0, .ref r0), (1, .int x1), (2, .int x2), (3, .ref r3), (4, .int x4)] [] s Q :=
  ps_wp_at (stops := [(3, [0, 1, 2, 3, 4, 5])]) (n := 4) h rfl

theorem pg_99_3 {d : Nat} {r0 : Nat} {x1 : Int32} {x2 : Int32} {r3 : Nat} {x4 : Int32} {x5 : Int32} {s : ps_S} {Q : Option Value → ps_S → Prop} (h :
  (x2 ≤ x5 →
    Q (some (.int 1)) s) ∧
  (x5 < x2 →
    ps_nk (ps_is r0 5) (ps_Cl d 92 [.ref r0, .int x5] s (ps_rI (fun v1 s1 =>
      ps_nk (ps_is r3 5) (ps_Cl d 92 [.ref r3, .int ((x4 + x5) - x1)] s1 (ps_rI (fun v2 s2 =>
        (v1 = v2 →
          ps_At (d + 1) 99 3 [(0, .ref r0), (1, .int x1), (2, .int x2), (3, .ref r3), (4, .int x4), (5, .int (x5 + 1))] [] s2 Q) ∧
        (v1 ≠ v2 →
          Q (some (.int 0)) s2))))))))) : ps_At (d + 1) 99 3 [(0, .ref r0), (1, .int x1), (2, .int x2), (3, .ref r3), (4, .int x4), (5, .int x5)] [] s Q :=
  ps_wp_at (stops := [(3, [0, 1, 2, 3, 4, 5])]) (n := 22) h rfl

theorem xs_99_3 {m s : ps_S} {t : Int32} {d : Nat} {r0 : Nat} {x1 : Int32} {x2 : Int32} {r3 : Nat} {x4 : Int32} {x5 : Int32} {Q : Option Value → ps_S → Prop} (h0 : ps_is r0 5 = true) (h3 : ps_is r3 5 = true) (J : xJ m t s) (k : ∀ (v : Int32), v &&& 1 = v → Q (some (.int v)) s) : ps_At (d + 1) 99 3 [(0, .ref r0), (1, .int x1), (2, .int x2), (3, .ref r3), (4, .int x4), (5, .int x5)] [] s Q :=
  xs_up (P := fun x5 => ps_is r0 5 = true → ps_is r3 5 = true → ps_At (d + 1) 99 3 [(0, .ref r0), (1, .int x1), (2, .int x2), (3, .ref r3), (4, .int x4), (5, .int x5)] [] s Q) (fun x5 ih h0 h3 => pg_99_3 (d := d) (And.intro (fun f1 => (k 1 (by decide))) (fun f1 => (ps_nk_i h0 (xs_92 h0 J (fun v1 => (ps_nk_i h3 (xs_92 h3 J (fun v2 => (And.intro (fun f2 => (ih ((x5 + 1)) (xs_lt f1) h0 h3)) (fun f2 => (k 0 (by decide))))))))))))) x5 h0 h3

theorem xs_99 {m s : ps_S} {t : Int32} {d : Nat} {r0 : Nat} {x1 : Int32} {x2 : Int32} {r3 : Nat} {x4 : Int32} {f : Int32 → ps_S → Prop} (h0 : ps_is r0 5 = true) (h3 : ps_is r3 5 = true) (J : xJ m t s) (k : ∀ (v : Int32), v &&& 1 = v → f v s) : ps_Cl (d + 1) 99 [.ref r0, .int x1, .int x2, .ref r3, .int x4] s (ps_rI f) :=
  pg_99_0 (d := d) (xs_99_3 (d := d) (r0 := r0) (x1 := x1) (x2 := x2) (r3 := r3) (x4 := x4) (x5 := x1)  h0 h3 J k )

-- ProofBench$Letters.letterAt(LProofBench$Row;I)I
theorem pg_22_0 {d : Nat} {r0 : Nat} {r1 : Nat} {x2 : Int32} {s : ps_S} {Q : Option Value → ps_S → Prop} (h :
  ps_At (d + 1) 22 2 [(0, .ref r0), (1, .ref r1), (2, .int x2), (3, .int 0)] [] s Q) : ps_At (d + 1) 22 0 [(0, .ref r0), (1, .ref r1), (2, .int x2)] [] s Q :=
  ps_wp_at (stops := [(2, [0, 1, 2, 3])]) (n := 4) h rfl

theorem pg_22_2 {d : Nat} {r0 : Nat} {r1 : Nat} {x2 : Int32} {x3 : Int32} {s : ps_S} {Q : Option Value → ps_S → Prop} (h :
  ps_nk (ps_is r0 1) (((ps_i s r0 4) ≤ x3 →
    ps_nk (ps_is r0 1) (ps_nk (ps_is r0 1) (ps_Cl d 183 [.ref (ps_c0 r0 3), .int (ps_i s r0 4), .int x2] s (ps_rV (fun s1 =>
      ps_nk (ps_is r0 1) (ps_nk (ps_is r0 1) (ps_nk (ps_is r0 1) (Q (some (.int ((ps_i (ps_ui s1 r0 4 ((ps_i s1 r0 4) + 1)) r0 4) - 1))) (ps_ui s1 r0 4 ((ps_i s1 r0 4) + 1)))))))))) ∧
  (x3 < (ps_i s r0 4) →
    ps_nk (ps_is r0 1) (ps_nk (ps_is (ps_c0 r0 0) 6) (ps_Cl d 104 [.ref (ps_c0 r0 0), .int x2] s (ps_rI (fun v2 s2 =>
      ps_nk (ps_is r0 1) (ps_Cl d 182 [.ref (ps_c0 r0 3), .int x3] s2 (ps_rI (fun v3 s3 =>
        ps_nk (ps_is r1 5) (ps_Cl d 99 [.ref r1, .int x2, .int v2, .ref r1, .int v3] s3 (ps_rI (fun v4 s4 =>
          (v4 = 0 →
            ps_At (d + 1) 22 2 [(0, .ref r0), (1, .ref r1), (2, .int x2), (3, .int (x3 + 1))] [] s4 Q) ∧
          (v4 ≠ 0 →
            Q (some (.int x3)) s4)))))))))))))) : ps_At (d + 1) 22 2 [(0, .ref r0), (1, .ref r1), (2, .int x2), (3, .int x3)] [] s Q :=
  ps_wp_at (stops := [(2, [0, 1, 2, 3])]) (n := 40) h rfl

theorem xs_22_2 {m s : ps_S} {t : Int32} {d : Nat} {r0 : Nat} {r1 : Nat} {x2 : Int32} {x3 : Int32} {Q : Option Value → ps_S → Prop} (h0 : ps_is r0 1 = true) (h1 : ps_is r1 5 = true) (J : xJ m t s) (k : ∀ (v : Int32) (s' : ps_S), xJ m t s' → Q (some (.int v)) s') : ps_At (d + 2) 22 2 [(0, .ref r0), (1, .ref r1), (2, .int x2), (3, .int x3)] [] s Q :=
  xs_up (P := fun x3 => ∀ (s : ps_S), ps_is r0 1 = true → ps_is r1 5 = true → xJ m t s → ps_At (d + 2) 22 2 [(0, .ref r0), (1, .ref r1), (2, .int x2), (3, .int x3)] [] s Q) (fun x3 ih s h0 h1 J => pg_22_2 (d := d + 1) (ps_nk_i h0 (And.intro (fun f1 => (ps_nk_i h0 (ps_nk_i h0 (xs_183 (xk_1_3 h0) J (fun s1 J1 e1 => (ps_nk_i h0 (ps_nk_i h0 (ps_nk_i h0 (k ((ps_i (ps_ui s1 r0 4 ((ps_i s1 r0 4) + 1)) r0 4) - 1) (ps_ui s1 r0 4 ((ps_i s1 r0 4) + 1)) (xw_i (c := 1) (by decide) h0 J1)))))))))) (fun f1 => (ps_nk_i h0 (ps_nk_i (xk_1_0 h0) (xs_104 (xk_1_0 h0) J (fun v2 => (ps_nk_i h0 (xs_182 (xk_1_3 h0) J (fun v3 => (ps_nk_i h1 (xs_99 h1 h1 J (fun v4 b4 => (And.intro (fun f2 => (ih ((x3 + 1)) (xs_lt f1) s h0 h1 J)) (fun f2 => (k x3 s J))))))))))))))))) x3 s h0 h1 J

theorem xs_22 {m s : ps_S} {t : Int32} {d : Nat} {r0 : Nat} {r1 : Nat} {x2 : Int32} {f : Int32 → ps_S → Prop} (h0 : ps_is r0 1 = true) (h1 : ps_is r1 5 = true) (J : xJ m t s) (k : ∀ (v : Int32) (s' : ps_S), xJ m t s' → f v s') : ps_Cl (d + 2) 22 [.ref r0, .ref r1, .int x2] s (ps_rI f) :=
  pg_22_0 (d := d + 1) (xs_22_2 (d := d) (r0 := r0) (r1 := r1) (x2 := x2) (x3 := 0)  h0 h1 J k )

-- ProofBench$Letters.spell(LProofBench$Row;LProofBench$Theory;)V
theorem pg_21_0 {d : Nat} {r0 : Nat} {r1 : Nat} {r2 : Nat} {s : ps_S} {Q : Option Value → ps_S → Prop} (h :
  ps_nk (ps_is r0 1) (ps_nk (ps_is (ps_c0 r0 0) 6) (ps_Cl d 103 [.ref (ps_c0 r0 0), .ref r1, .ref r2] s (ps_rV (fun s1 =>
    ps_nk (ps_is r0 1) (ps_nk (ps_is r0 1) (ps_At (d + 1) 21 21 [(0, .ref r0), (1, .ref r1), (3, .int 0)] [] (ps_ui (ps_ui s1 r0 2 0) r0 4 0) Q))))))) : ps_At (d + 1) 21 0 [(0, .ref r0), (1, .ref r1), (2, .ref r2)] [] s Q :=
  ps_wp_at (stops := [(21, [0, 1, 3])]) (n := 15) h rfl

theorem pg_21_21 {d : Nat} {r0 : Nat} {r1 : Nat} {x3 : Int32} {s : ps_S} {Q : Option Value → ps_S → Prop} (h :
  ps_nk (ps_is r1 5) (((ps_i s r1 1) ≤ x3 →
    Q none s) ∧
  (x3 < (ps_i s r1 1) →
    ps_nk (ps_is r1 5) (ps_Cl d 92 [.ref r1, .int x3] s (ps_rI (fun v1 s1 =>
      (v1 < 4 →
        ps_nk (ps_is r0 1) (ps_nk (ps_is r0 1) (((0 : Int32) = 0 →
          ps_nk (ps_is r1 5) (ps_Cl d 92 [.ref r1, .int x3] s1 (ps_rI (fun v2 s2 =>
            ps_Cl d 183 [.ref (ps_c0 r0 1), .int (ps_i s1 r0 2), .int v2] s2 (ps_rV (fun s3 =>
              ps_nk (ps_is r0 1) (ps_nk (ps_is r0 1) (((0 : Int32) = 0 →
                ps_At (d + 1) 21 21 [(0, .ref r0), (1, .ref r1), (3, .int (x3 + 1))] [] (ps_ui s3 r0 2 ((ps_i s3 r0 2) + 1)) Q) ∧
              ((0 : Int32) ≠ 0 →
                ps_nk (ps_is r0 1) (ps_nk (ps_is (ps_c0 r0 0) 6) (ps_Cl d 104 [.ref (ps_c0 r0 0), .int x3] (ps_ui s3 r0 2 ((ps_i s3 r0 2) + 1)) (ps_rI (fun v4 s4 =>
                  ps_At (d + 1) 21 21 [(0, .ref r0), (1, .ref r1), (3, .int (if (x3 + 1) < v4 then v4 else (x3 + 1)))] [] s4 Q))))))))))))) ∧
        ((0 : Int32) ≠ 0 →
          ps_nk (ps_is r0 1) (ps_Cl d 22 [.ref r0, .ref r1, .int x3] s1 (ps_rI (fun v5 s5 =>
            ps_Cl d 183 [.ref (ps_c0 r0 1), .int (ps_i s1 r0 2), .int ((4 : Int32) + v5)] s5 (ps_rV (fun s6 =>
              ps_nk (ps_is r0 1) (ps_nk (ps_is r0 1) (((0 : Int32) = 0 →
                ps_At (d + 1) 21 21 [(0, .ref r0), (1, .ref r1), (3, .int (x3 + 1))] [] (ps_ui s6 r0 2 ((ps_i s6 r0 2) + 1)) Q) ∧
              ((0 : Int32) ≠ 0 →
                ps_nk (ps_is r0 1) (ps_nk (ps_is (ps_c0 r0 0) 6) (ps_Cl d 104 [.ref (ps_c0 r0 0), .int x3] (ps_ui s6 r0 2 ((ps_i s6 r0 2) + 1)) (ps_rI (fun v7 s7 =>
                  ps_At (d + 1) 21 21 [(0, .ref r0), (1, .ref r1), (3, .int (if (x3 + 1) < v7 then v7 else (x3 + 1)))] [] s7 Q)))))))))))))))) ∧
      (4 ≤ v1 →
        ps_nk (ps_is r0 1) (ps_nk (ps_is r0 1) (((1 : Int32) = 0 →
          ps_nk (ps_is r1 5) (ps_Cl d 92 [.ref r1, .int x3] s1 (ps_rI (fun v8 s8 =>
            ps_Cl d 183 [.ref (ps_c0 r0 1), .int (ps_i s1 r0 2), .int v8] s8 (ps_rV (fun s9 =>
              ps_nk (ps_is r0 1) (ps_nk (ps_is r0 1) (((1 : Int32) = 0 →
                ps_At (d + 1) 21 21 [(0, .ref r0), (1, .ref r1), (3, .int (x3 + 1))] [] (ps_ui s9 r0 2 ((ps_i s9 r0 2) + 1)) Q) ∧
              ((1 : Int32) ≠ 0 →
                ps_nk (ps_is r0 1) (ps_nk (ps_is (ps_c0 r0 0) 6) (ps_Cl d 104 [.ref (ps_c0 r0 0), .int x3] (ps_ui s9 r0 2 ((ps_i s9 r0 2) + 1)) (ps_rI (fun v10 s10 =>
                  ps_At (d + 1) 21 21 [(0, .ref r0), (1, .ref r1), (3, .int (if (x3 + 1) < v10 then v10 else (x3 + 1)))] [] s10 Q))))))))))))) ∧
        ((1 : Int32) ≠ 0 →
          ps_nk (ps_is r0 1) (ps_Cl d 22 [.ref r0, .ref r1, .int x3] s1 (ps_rI (fun v11 s11 =>
            ps_Cl d 183 [.ref (ps_c0 r0 1), .int (ps_i s1 r0 2), .int ((4 : Int32) + v11)] s11 (ps_rV (fun s12 =>
              ps_nk (ps_is r0 1) (ps_nk (ps_is r0 1) (((1 : Int32) = 0 →
                ps_At (d + 1) 21 21 [(0, .ref r0), (1, .ref r1), (3, .int (x3 + 1))] [] (ps_ui s12 r0 2 ((ps_i s12 r0 2) + 1)) Q) ∧
              ((1 : Int32) ≠ 0 →
                ps_nk (ps_is r0 1) (ps_nk (ps_is (ps_c0 r0 0) 6) (ps_Cl d 104 [.ref (ps_c0 r0 0), .int x3] (ps_ui s12 r0 2 ((ps_i s12 r0 2) + 1)) (ps_rI (fun v13 s13 =>
                  ps_At (d + 1) 21 21 [(0, .ref r0), (1, .ref r1), (3, .int (if (x3 + 1) < v13 then v13 else (x3 + 1)))] [] s13 Q)))))))))))))))))))))) : ps_At (d + 1) 21 21 [(0, .ref r0), (1, .ref r1), (3, .int x3)] [] s Q :=
  ps_wp_at (stops := [(21, [0, 1, 3])]) (n := 149) h rfl

theorem xs_21_21 {m s : ps_S} {t : Int32} {d : Nat} {r0 : Nat} {r1 : Nat} {x3 : Int32} {Q : Option Value → ps_S → Prop} (h0 : ps_is r0 1 = true) (h1 : ps_is r1 5 = true) (J : xJ m t s) (k : ∀ (s' : ps_S), xJ m t s' → Q none s') : ps_At (d + 3) 21 21 [(0, .ref r0), (1, .ref r1), (3, .int x3)] [] s Q :=
  xs_up (P := fun x3 => ∀ (s : ps_S), ps_is r0 1 = true → ps_is r1 5 = true → xJ m t s → ps_At (d + 3) 21 21 [(0, .ref r0), (1, .ref r1), (3, .int x3)] [] s Q) (fun x3 ih s h0 h1 J => pg_21_21 (d := d + 2) (ps_nk_i h1 (And.intro (fun f1 => (k s J)) (fun f1 => (ps_nk_i h1 (xs_92 h1 J (fun v1 => (And.intro (fun f2 => (ps_nk_i h0 (ps_nk_i h0 (And.intro (fun f3 => (ps_nk_i h1 (xs_92 h1 J (fun v2 => (xs_183 (xk_1_1 h0) J (fun s3 J3 e3 => (ps_nk_i h0 (ps_nk_i h0 (And.intro (fun f4 => (ih ((x3 + 1)) (xs_lt f1) (ps_ui s3 r0 2 ((ps_i s3 r0 2) + 1)) h0 h1 (xw_i (c := 1) (by decide) h0 J3))) (fun f4 => (ps_nk_i h0 (ps_nk_i (xk_1_0 h0) (xs_104 (xk_1_0 h0) (xw_i (c := 1) (by decide) h0 J3) (fun v4 => (ih ((if (x3 + 1) < v4 then v4 else (x3 + 1))) (xs_max f1) (ps_ui s3 r0 2 ((ps_i s3 r0 2) + 1)) h0 h1 (xw_i (c := 1) (by decide) h0 J3)))))))))))))))) (fun f3 => (ps_nk_i h0 (xs_22 h0 h1 J (fun v5 s5 J5 => (xs_183 (xk_1_1 h0) J5 (fun s6 J6 e6 => (ps_nk_i h0 (ps_nk_i h0 (And.intro (fun f5 => (ih ((x3 + 1)) (xs_lt f1) (ps_ui s6 r0 2 ((ps_i s6 r0 2) + 1)) h0 h1 (xw_i (c := 1) (by decide) h0 J6))) (fun f5 => (ps_nk_i h0 (ps_nk_i (xk_1_0 h0) (xs_104 (xk_1_0 h0) (xw_i (c := 1) (by decide) h0 J6) (fun v7 => (ih ((if (x3 + 1) < v7 then v7 else (x3 + 1))) (xs_max f1) (ps_ui s6 r0 2 ((ps_i s6 r0 2) + 1)) h0 h1 (xw_i (c := 1) (by decide) h0 J6)))))))))))))))))))) (fun f2 => (ps_nk_i h0 (ps_nk_i h0 (And.intro (fun f6 => (ps_nk_i h1 (xs_92 h1 J (fun v8 => (xs_183 (xk_1_1 h0) J (fun s9 J9 e9 => (ps_nk_i h0 (ps_nk_i h0 (And.intro (fun f7 => (ih ((x3 + 1)) (xs_lt f1) (ps_ui s9 r0 2 ((ps_i s9 r0 2) + 1)) h0 h1 (xw_i (c := 1) (by decide) h0 J9))) (fun f7 => (ps_nk_i h0 (ps_nk_i (xk_1_0 h0) (xs_104 (xk_1_0 h0) (xw_i (c := 1) (by decide) h0 J9) (fun v10 => (ih ((if (x3 + 1) < v10 then v10 else (x3 + 1))) (xs_max f1) (ps_ui s9 r0 2 ((ps_i s9 r0 2) + 1)) h0 h1 (xw_i (c := 1) (by decide) h0 J9)))))))))))))))) (fun f6 => (ps_nk_i h0 (xs_22 h0 h1 J (fun v11 s11 J11 => (xs_183 (xk_1_1 h0) J11 (fun s12 J12 e12 => (ps_nk_i h0 (ps_nk_i h0 (And.intro (fun f8 => (ih ((x3 + 1)) (xs_lt f1) (ps_ui s12 r0 2 ((ps_i s12 r0 2) + 1)) h0 h1 (xw_i (c := 1) (by decide) h0 J12))) (fun f8 => (ps_nk_i h0 (ps_nk_i (xk_1_0 h0) (xs_104 (xk_1_0 h0) (xw_i (c := 1) (by decide) h0 J12) (fun v13 => (ih ((if (x3 + 1) < v13 then v13 else (x3 + 1))) (xs_max f1) (ps_ui s12 r0 2 ((ps_i s12 r0 2) + 1)) h0 h1 (xw_i (c := 1) (by decide) h0 J12)))))))))))))))))))))))))))) x3 s h0 h1 J

theorem xs_21 {m s : ps_S} {t : Int32} {d : Nat} {r0 : Nat} {r1 : Nat} {r2 : Nat} {f : ps_S → Prop} (h0 : ps_is r0 1 = true) (h1 : ps_is r1 5 = true) (h2 : ps_is r2 9 = true) (J : xJ m t s) (k : ∀ (s' : ps_S), xJ m t s' → f s') : ps_Cl (d + 3) 21 [.ref r0, .ref r1, .ref r2] s (ps_rV f) :=
  pg_21_0 (d := d + 2) (ps_nk_i h0 (ps_nk_i (xk_1_0 h0) (xs_103 (xk_1_0 h0) h1 h2 J (fun s1 J1 => (ps_nk_i h0 (ps_nk_i h0 (xs_21_21 (d := d) (r0 := r0) (r1 := r1) (x3 := 0)  h0 h1 (xw_i (c := 1) (by decide) h0 (xw_i (c := 1) (by decide) h0 J1)) k )))))))

-- ProofBench$Letters.rowCount()I
theorem pg_25_0 {d : Nat} {r0 : Nat} {s : ps_S} {Q : Option Value → ps_S → Prop} (h :
  ps_nk (ps_is r0 1) (Q (some (.int ((1 : Int32) <<< ((if (12 : Int32) < (ps_i s r0 4) then (12 : Int32) else (ps_i s r0 4)) &&& 31)))) s)) : ps_At d 25 0 [(0, .ref r0)] [] s Q :=
  ps_wp_at (stops := []) (n := 9) h rfl

theorem xs_25 {m s : ps_S} {t : Int32} {d : Nat} {r0 : Nat} {f : Int32 → ps_S → Prop} (h0 : ps_is r0 1 = true) (J : xJ m t s) (k : ∀ (v : Int32), f v s) : ps_Cl d 25 [.ref r0] s (ps_rI f) :=
  pg_25_0 (ps_nk_i h0 (k ((1 : Int32) <<< ((if (12 : Int32) < (ps_i s r0 4) then (12 : Int32) else (ps_i s r0 4)) &&& 31))))

-- ProofBench$Letters.push(I)V
theorem pg_28_0 {d : Nat} {r0 : Nat} {x1 : Int32} {s : ps_S} {Q : Option Value → ps_S → Prop} (h :
  ps_nk (ps_is r0 1) (ps_nk (ps_is r0 1) (ps_Cl d 183 [.ref (ps_c0 r0 5), .int (ps_i s r0 6), .int x1] s (ps_rV (fun s1 =>
    ps_nk (ps_is r0 1) (ps_nk (ps_is r0 1) (Q none (ps_ui s1 r0 6 ((ps_i s1 r0 6) + 1))))))))) : ps_At (d + 1) 28 0 [(0, .ref r0), (1, .int x1)] [] s Q :=
  ps_wp_at (stops := []) (n := 15) h rfl

theorem xs_28 {m s : ps_S} {t : Int32} {d : Nat} {r0 : Nat} {x1 : Int32} {f : ps_S → Prop} (h0 : ps_is r0 1 = true) (J : xJ m t s) (k : ∀ (s' : ps_S), xJ m t s' → f s') : ps_Cl (d + 1) 28 [.ref r0, .int x1] s (ps_rV f) :=
  pg_28_0 (d := d) (ps_nk_i h0 (ps_nk_i h0 (xs_183 (xk_1_5 h0) J (fun s1 J1 e1 => (ps_nk_i h0 (ps_nk_i h0 (k (ps_ui s1 r0 6 ((ps_i s1 r0 6) + 1)) (xw_i (c := 1) (by decide) h0 J1))))))))

-- ProofBench$Letters.pop()I
theorem pg_29_0 {d : Nat} {r0 : Nat} {s : ps_S} {Q : Option Value → ps_S → Prop} (h :
  ps_nk (ps_is r0 1) (ps_nk (ps_is r0 1) (ps_nk (ps_is r0 1) (ps_nk (ps_is r0 1) (ps_Cl d 182 [.ref (ps_c0 r0 5), .int (ps_i (ps_ui s r0 6 ((ps_i s r0 6) - 1)) r0 6)] (ps_ui s r0 6 ((ps_i s r0 6) - 1)) (ps_rI (fun v1 s1 =>
    Q (some (.int v1)) s1))))))) : ps_At (d + 1) 29 0 [(0, .ref r0)] [] s Q :=
  ps_wp_at (stops := []) (n := 14) h rfl

theorem xs_29 {m s : ps_S} {t : Int32} {d : Nat} {r0 : Nat} {f : Int32 → ps_S → Prop} (h0 : ps_is r0 1 = true) (J : xJ m t s) (k : ∀ (v : Int32) (s' : ps_S), xJ m t s' → f v s') : ps_Cl (d + 1) 29 [.ref r0] s (ps_rI f) :=
  pg_29_0 (d := d) (ps_nk_i h0 (ps_nk_i h0 (ps_nk_i h0 (ps_nk_i h0 (xs_182 (xk_1_5 h0) (xw_i (c := 1) (by decide) h0 J) (fun v1 => (k v1 (ps_ui s r0 6 ((ps_i s r0 6) - 1)) (xw_i (c := 1) (by decide) h0 J))))))))

-- ProofBench$Letters.join(III)I
theorem pg_27_0 {d : Nat} {x0 : Int32} {x1 : Int32} {x2 : Int32} {s : ps_S} {Q : Option Value → ps_S → Prop} (h :
  (x0 = 1 →
    Q (some (.int (x1 &&& x2))) s) ∧
  (x0 ≠ 1 →
    (x0 = 2 →
    Q (some (.int (x1 ||| x2))) s) ∧
  (x0 ≠ 2 →
    Q (some (.int (((1 : Int32) - x1) ||| x2))) s))) : ps_At d 27 0 [(0, .int x0), (1, .int x1), (2, .int x2)] [] s Q :=
  ps_wp_at (stops := []) (n := 18) h rfl

theorem xs_27 {m s : ps_S} {t : Int32} {d : Nat} {x0 : Int32} {x1 : Int32} {x2 : Int32} {f : Int32 → ps_S → Prop} (J : xJ m t s) (k : ∀ (v : Int32), f v s) : ps_Cl d 27 [.int x0, .int x1, .int x2] s (ps_rI f) :=
  pg_27_0 (And.intro (fun f1 => (k (x1 &&& x2))) (fun f1 => (And.intro (fun f2 => (k (x1 ||| x2))) (fun f2 => (k (((1 : Int32) - x1) ||| x2))))))

-- ProofBench$Letters.isSo(I)Z
theorem pg_26_0 {d : Nat} {r0 : Nat} {x1 : Int32} {s : ps_S} {Q : Option Value → ps_S → Prop} (h :
  ps_nk (ps_is r0 1) (ps_nk (ps_is r0 1) (ps_At (d + 1) 26 12 [(0, .ref r0), (1, .int x1), (2, .int ((ps_i (ps_ui s r0 6 0) r0 2) - 1))] [] (ps_ui s r0 6 0) Q))) : ps_At (d + 1) 26 0 [(0, .ref r0), (1, .int x1)] [] s Q :=
  ps_wp_at (stops := [(12, [0, 1, 2])]) (n := 10) h rfl

theorem pg_26_12 {d : Nat} {r0 : Nat} {x1 : Int32} {x2 : Int32} {s : ps_S} {Q : Option Value → ps_S → Prop} (h :
  (x2 < 0 →
    ps_nk (ps_is r0 1) (ps_Cl d 29 [.ref r0] s (ps_rI (fun v1 s1 =>
      (v1 ≠ 1 →
        Q (some (.int 0)) s1) ∧
      (v1 = 1 →
        Q (some (.int 1)) s1))))) ∧
  (0 ≤ x2 →
    ps_nk (ps_is r0 1) (ps_Cl d 182 [.ref (ps_c0 r0 1), .int x2] s (ps_rI (fun v2 s2 =>
      (v2 < 4 →
        (v2 ≠ 0 →
          ps_nk (ps_is r0 1) (ps_Cl d 29 [.ref r0] s2 (ps_rI (fun v3 s3 =>
            ps_nk (ps_is r0 1) (ps_Cl d 29 [.ref r0] s3 (ps_rI (fun v4 s4 =>
              ps_Cl d 27 [.int v2, .int v3, .int v4] s4 (ps_rI (fun v5 s5 =>
                ps_nk (ps_is r0 1) (ps_Cl d 28 [.ref r0, .int v5] s5 (ps_rV (fun s6 =>
                  ps_At (d + 1) 26 12 [(0, .ref r0), (1, .int x1), (2, .int (x2 + (-1)))] [] s6 Q)))))))))))) ∧
        (v2 = 0 →
          ps_nk (ps_is r0 1) (ps_Cl d 28 [.ref r0, .int 0] s2 (ps_rV (fun s7 =>
            ps_At (d + 1) 26 12 [(0, .ref r0), (1, .int x1), (2, .int (x2 + (-1)))] [] s7 Q))))) ∧
      (4 ≤ v2 →
        ps_nk (ps_is r0 1) (ps_nk (ps_is r0 1) (ps_Cl d 28 [.ref r0, .int ((x1 >>> ((((ps_i s2 r0 4) - 1) - (v2 - 4)) &&& 31)) &&& 1)] s2 (ps_rV (fun s8 =>
          ps_At (d + 1) 26 12 [(0, .ref r0), (1, .int x1), (2, .int (x2 + (-1)))] [] s8 Q)))))))))) : ps_At (d + 1) 26 12 [(0, .ref r0), (1, .int x1), (2, .int x2)] [] s Q :=
  ps_wp_at (stops := [(12, [0, 1, 2])]) (n := 58) h rfl

theorem xs_26_12 {m s : ps_S} {t : Int32} {d : Nat} {r0 : Nat} {x1 : Int32} {x2 : Int32} {Q : Option Value → ps_S → Prop} (h0 : ps_is r0 1 = true) (J : xJ m t s) (k : ∀ (v : Int32) (s' : ps_S), v &&& 1 = v → xJ m t s' → Q (some (.int v)) s') : ps_At (d + 2) 26 12 [(0, .ref r0), (1, .int x1), (2, .int x2)] [] s Q :=
  xs_dn (P := fun x2 => ∀ (s : ps_S), ps_is r0 1 = true → xJ m t s → ps_At (d + 2) 26 12 [(0, .ref r0), (1, .int x1), (2, .int x2)] [] s Q) (fun x2 ih s h0 J => pg_26_12 (d := d + 1) (And.intro (fun f1 => (ps_nk_i h0 (xs_29 h0 J (fun v1 s1 J1 => (And.intro (fun f2 => (k 0 s1 (by decide) J1)) (fun f2 => (k 1 s1 (by decide) J1))))))) (fun f1 => (ps_nk_i h0 (xs_182 (xk_1_1 h0) J (fun v2 => (And.intro (fun f3 => (And.intro (fun f4 => (ps_nk_i h0 (xs_29 h0 J (fun v3 s3 J3 => (ps_nk_i h0 (xs_29 h0 J3 (fun v4 s4 J4 => (xs_27  J4 (fun v5 => (ps_nk_i h0 (xs_28 h0 J4 (fun s6 J6 => (ih ((x2 + (-1))) (xs_ge f1) s6 h0 J6))))))))))))) (fun f4 => (ps_nk_i h0 (xs_28 h0 J (fun s7 J7 => (ih ((x2 + (-1))) (xs_ge f1) s7 h0 J7))))))) (fun f3 => (ps_nk_i h0 (ps_nk_i h0 (xs_28 h0 J (fun s8 J8 => (ih ((x2 + (-1))) (xs_ge f1) s8 h0 J8))))))))))))) x2 s h0 J

theorem xs_26 {m s : ps_S} {t : Int32} {d : Nat} {r0 : Nat} {x1 : Int32} {f : Int32 → ps_S → Prop} (h0 : ps_is r0 1 = true) (J : xJ m t s) (k : ∀ (v : Int32) (s' : ps_S), v &&& 1 = v → xJ m t s' → f v s') : ps_Cl (d + 2) 26 [.ref r0, .int x1] s (ps_rI f) :=
  pg_26_0 (d := d + 1) (ps_nk_i h0 (ps_nk_i h0 (xs_26_12 (d := d) (r0 := r0) (x1 := x1) (x2 := ((ps_i (ps_ui s r0 6 0) r0 2) - 1))  h0 (xw_i (c := 1) (by decide) h0 J) k )))

-- ProofBench$Letters.rowsThatAreSo()I
theorem pg_23_0 {d : Nat} {r0 : Nat} {s : ps_S} {Q : Option Value → ps_S → Prop} (h :
  ps_At (d + 1) 23 4 [(0, .ref r0), (1, .int 0), (2, .int 0)] [] s Q) : ps_At (d + 1) 23 0 [(0, .ref r0)] [] s Q :=
  ps_wp_at (stops := [(4, [0, 1, 2])]) (n := 6) h rfl

theorem pg_23_4 {d : Nat} {r0 : Nat} {x1 : Int32} {x2 : Int32} {s : ps_S} {Q : Option Value → ps_S → Prop} (h :
  ps_nk (ps_is r0 1) (ps_Cl d 25 [.ref r0] s (ps_rI (fun v1 s1 =>
    (v1 ≤ x2 →
      Q (some (.int x1)) s1) ∧
    (x2 < v1 →
      ps_nk (ps_is r0 1) (ps_Cl d 26 [.ref r0, .int x2] s1 (ps_rI (fun v2 s2 =>
        (v2 = 0 →
          ps_At (d + 1) 23 4 [(0, .ref r0), (1, .int x1), (2, .int (x2 + 1))] [] s2 Q) ∧
        (v2 ≠ 0 →
          ps_At (d + 1) 23 4 [(0, .ref r0), (1, .int (x1 + 1)), (2, .int (x2 + 1))] [] s2 Q))))))))) : ps_At (d + 1) 23 4 [(0, .ref r0), (1, .int x1), (2, .int x2)] [] s Q :=
  ps_wp_at (stops := [(4, [0, 1, 2])]) (n := 17) h rfl

theorem xs_23_4 {m s : ps_S} {t : Int32} {d : Nat} {r0 : Nat} {x1 : Int32} {x2 : Int32} {Q : Option Value → ps_S → Prop} (h0 : ps_is r0 1 = true) (J : xJ m t s) (k : ∀ (v : Int32) (s' : ps_S), xJ m t s' → Q (some (.int v)) s') : ps_At (d + 3) 23 4 [(0, .ref r0), (1, .int x1), (2, .int x2)] [] s Q :=
  xs_up (P := fun x2 => ∀ (x1 : Int32) (s : ps_S), ps_is r0 1 = true → xJ m t s → ps_At (d + 3) 23 4 [(0, .ref r0), (1, .int x1), (2, .int x2)] [] s Q) (fun x2 ih x1 s h0 J => pg_23_4 (d := d + 2) (ps_nk_i h0 (xs_25 h0 J (fun v1 => (And.intro (fun f1 => (k x1 s J)) (fun f1 => (ps_nk_i h0 (xs_26 h0 J (fun v2 s2 b2 J2 => (And.intro (fun f2 => (ih ((x2 + 1)) (xs_lt f1) (x1) s2 h0 J2)) (fun f2 => (ih ((x2 + 1)) (xs_lt f1) ((x1 + 1)) s2 h0 J2)))))))))))) x2 x1 s h0 J

theorem xs_23 {m s : ps_S} {t : Int32} {d : Nat} {r0 : Nat} {f : Int32 → ps_S → Prop} (h0 : ps_is r0 1 = true) (J : xJ m t s) (k : ∀ (v : Int32) (s' : ps_S), xJ m t s' → f v s') : ps_Cl (d + 3) 23 [.ref r0] s (ps_rI f) :=
  pg_23_0 (d := d + 2) (xs_23_4 (d := d) (r0 := r0) (x1 := 0) (x2 := 0)  h0 J k )

-- ProofBench$Letters.firstRowNotSo()I
theorem pg_24_0 {d : Nat} {r0 : Nat} {s : ps_S} {Q : Option Value → ps_S → Prop} (h :
  ps_At (d + 1) 24 2 [(0, .ref r0), (1, .int 0)] [] s Q) : ps_At (d + 1) 24 0 [(0, .ref r0)] [] s Q :=
  ps_wp_at (stops := [(2, [0, 1])]) (n := 4) h rfl

theorem pg_24_2 {d : Nat} {r0 : Nat} {x1 : Int32} {s : ps_S} {Q : Option Value → ps_S → Prop} (h :
  ps_nk (ps_is r0 1) (ps_Cl d 25 [.ref r0] s (ps_rI (fun v1 s1 =>
    (v1 ≤ x1 →
      Q (some (.int (-1))) s1) ∧
    (x1 < v1 →
      ps_nk (ps_is r0 1) (ps_Cl d 26 [.ref r0, .int x1] s1 (ps_rI (fun v2 s2 =>
        (v2 ≠ 0 →
          ps_At (d + 1) 24 2 [(0, .ref r0), (1, .int (x1 + 1))] [] s2 Q) ∧
        (v2 = 0 →
          Q (some (.int x1)) s2))))))))) : ps_At (d + 1) 24 2 [(0, .ref r0), (1, .int x1)] [] s Q :=
  ps_wp_at (stops := [(2, [0, 1])]) (n := 16) h rfl

theorem xs_24_2 {m s : ps_S} {t : Int32} {d : Nat} {r0 : Nat} {x1 : Int32} {Q : Option Value → ps_S → Prop} (h0 : ps_is r0 1 = true) (J : xJ m t s) (k : ∀ (v : Int32) (s' : ps_S), xJ m t s' → Q (some (.int v)) s') : ps_At (d + 3) 24 2 [(0, .ref r0), (1, .int x1)] [] s Q :=
  xs_up (P := fun x1 => ∀ (s : ps_S), ps_is r0 1 = true → xJ m t s → ps_At (d + 3) 24 2 [(0, .ref r0), (1, .int x1)] [] s Q) (fun x1 ih s h0 J => pg_24_2 (d := d + 2) (ps_nk_i h0 (xs_25 h0 J (fun v1 => (And.intro (fun f1 => (k (-1) s J)) (fun f1 => (ps_nk_i h0 (xs_26 h0 J (fun v2 s2 b2 J2 => (And.intro (fun f2 => (ih ((x1 + 1)) (xs_lt f1) s2 h0 J2)) (fun f2 => (k x1 s2 J2)))))))))))) x1 s h0 J

theorem xs_24 {m s : ps_S} {t : Int32} {d : Nat} {r0 : Nat} {f : Int32 → ps_S → Prop} (h0 : ps_is r0 1 = true) (J : xJ m t s) (k : ∀ (v : Int32) (s' : ps_S), xJ m t s' → f v s') : ps_Cl (d + 3) 24 [.ref r0] s (ps_rI f) :=
  pg_24_0 (d := d + 2) (xs_24_2 (d := d) (r0 := r0) (x1 := 0)  h0 J k )
