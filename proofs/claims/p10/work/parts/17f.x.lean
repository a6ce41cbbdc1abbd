set_option maxRecDepth 100000
-- ProofBench$Step.isRule(I)Z
theorem pg_114_0 {d : Nat} {x0 : Int32} {s : ps_S} {Q : Option Value → ps_S → Prop} (h :
  (x0 = 6 →
    Q (some (.int 1)) s) ∧
  (x0 ≠ 6 →
    (x0 < 10 →
      Q (some (.int 0)) s) ∧
    (10 ≤ x0 →
      (27 < x0 →
        Q (some (.int 0)) s) ∧
      (x0 ≤ 27 →
        Q (some (.int 1)) s)))) : ps_At d 114 0 [(0, .int x0)] [] s Q :=
  ps_wp_at (stops := []) (n := 21) h rfl

theorem xs_114 {m s : ps_S} {t : Int32} {d : Nat} {x0 : Int32} {f : Int32 → ps_S → Prop} (J : xJ m t s) (k : ∀ (v : Int32), v &&& 1 = v → f v s) : ps_Cl d 114 [.int x0] s (ps_rI f) :=
  pg_114_0 (And.intro (fun f1 => (k 1 (by decide))) (fun f1 => (And.intro (fun f2 => (k 0 (by decide))) (fun f2 => (And.intro (fun f3 => (k 0 (by decide))) (fun f3 => (k 1 (by decide))))))))

-- ProofBench$Step.begin(I)V
theorem pg_120_0 {d : Nat} {r0 : Nat} {x1 : Int32} {s : ps_S} {Q : Option Value → ps_S → Prop} (h :
  ps_nk (ps_is r0 8) (ps_nk (ps_is r0 8) (ps_nk (ps_is r0 8) (ps_nk (ps_is r0 8) (ps_nk (ps_is (ps_c0 r0 4) 5) (ps_Cl d 91 [.ref (ps_c0 r0 4)] (ps_ui (ps_ui (ps_ui s r0 0 x1) r0 2 (-1)) r0 3 (-1)) (ps_rV (fun s1 =>
    ps_nk (ps_is r0 8) (ps_nk (ps_is (ps_c0 r0 5) 5) (ps_Cl d 91 [.ref (ps_c0 r0 5)] s1 (ps_rV (fun s2 =>
      ps_nk (ps_is r0 8) (ps_nk (ps_is (ps_c0 r0 6) 5) (ps_Cl d 91 [.ref (ps_c0 r0 6)] s2 (ps_rV (fun s3 =>
        ps_nk (ps_is r0 8) (ps_nk (ps_is r0 8) (ps_nk (ps_is r0 8) (ps_nk (ps_is r0 8) (ps_nk (ps_is r0 8) (Q none (ps_uj (ps_ui (ps_ui (ps_ui (ps_ui s3 r0 8 0) r0 9 0) r0 10 0) r0 11 0) r0 12 0)))))))))))))))))))))) : ps_At (d + 1) 120 0 [(0, .ref r0), (1, .int x1)] [] s Q :=
  ps_wp_at (stops := []) (n := 36) h rfl

theorem xs_120 {m s : ps_S} {t : Int32} {d : Nat} {r0 : Nat} {x1 : Int32} {f : ps_S → Prop} (h0 : ps_is r0 8 = true) (J : xJ m t s) (k : ∀ (s' : ps_S), xJ m t s' → f s') : ps_Cl (d + 1) 120 [.ref r0, .int x1] s (ps_rV f) :=
  pg_120_0 (d := d) (ps_nk_i h0 (ps_nk_i h0 (ps_nk_i h0 (ps_nk_i h0 (ps_nk_i (xk_8_4 h0) (xs_91 (xk_8_4 h0) (xw_i (c := 8) (by decide) h0 (xw_i (c := 8) (by decide) h0 (xw_i (c := 8) (by decide) h0 J))) (fun s1 J1 => (ps_nk_i h0 (ps_nk_i (xk_8_5 h0) (xs_91 (xk_8_5 h0) J1 (fun s2 J2 => (ps_nk_i h0 (ps_nk_i (xk_8_6 h0) (xs_91 (xk_8_6 h0) J2 (fun s3 J3 => (ps_nk_i h0 (ps_nk_i h0 (ps_nk_i h0 (ps_nk_i h0 (ps_nk_i h0 (k (ps_uj (ps_ui (ps_ui (ps_ui (ps_ui s3 r0 8 0) r0 9 0) r0 10 0) r0 11 0) r0 12 0) (xw_j (c := 8) (by decide) h0 (xw_i (c := 8) (by decide) h0 (xw_i (c := 8) (by decide) h0 (xw_i (c := 8) (by decide) h0 (xw_i (c := 8) (by decide) h0 J3))))))))))))))))))))))))))

-- ProofBench$Reader.takeAxiomName(LProofBench$Step;)Z
theorem pg_67_0 {d : Nat} {r0 : Nat} {r1 : Nat} {s : ps_S} {Q : Option Value → ps_S → Prop} (h :
  ps_nk (ps_is r0 3) (ps_nk (ps_is (ps_c0 r0 0) 10) (((ps_i s (ps_c0 r0 0) 4) = 2 →
    ps_nk (ps_is r0 3) (ps_nk (ps_is r0 3) (ps_nk (ps_is (ps_c0 r0 0) 10) (ps_nk (ps_is (ps_r s r0 5) 9) (ps_Cl d 129 [.ref (ps_r s r0 5), .long (ps_j s (ps_c0 r0 0) 8)] s (ps_rI (fun v1 s1 =>
      ps_nk (ps_is r1 8) (ps_nk (ps_is r1 8) (((ps_i (ps_ui s1 r1 2 v1) r1 2) ≠ (-1) →
        ps_nk (ps_is r0 3) (ps_nk (ps_is (ps_c0 r0 0) 10) (ps_Cl d 140 [.ref (ps_c0 r0 0)] (ps_ui s1 r1 2 v1) (ps_rV (fun s2 =>
          Q (some (.int 1)) s2))))) ∧
      ((ps_i (ps_ui s1 r1 2 v1) r1 2) = (-1) →
        ps_nk (ps_is r0 3) (ps_Cl d 62 [.ref r0, .int 6] (ps_ui s1 r1 2 v1) (ps_rI (fun v3 s3 =>
          ps_nd (decide (v3 &&& 1 = v3)) (Q (some (.int v3)) s3)))))))))))))) ∧
  ((ps_i s (ps_c0 r0 0) 4) ≠ 2 →
    ps_nk (ps_is r0 3) (ps_Cl d 62 [.ref r0, .int 2] s (ps_rI (fun v4 s4 =>
      ps_nd (decide (v4 &&& 1 = v4)) (Q (some (.int v4)) s4)))))))) : ps_At (d + 1) 67 0 [(0, .ref r0), (1, .ref r1)] [] s Q :=
  ps_wp_at (stops := []) (n := 32) h rfl

theorem xs_67 {m s : ps_S} {t : Int32} {d : Nat} {r0 : Nat} {r1 : Nat} {f : Int32 → ps_S → Prop} (h0 : ps_is r0 3 = true) (h1 : ps_is r1 8 = true) (J : xJ m t s) (k : ∀ (v : Int32) (s' : ps_S), v &&& 1 = v → xJ m t s' → f v s') : ps_Cl (d + 3) 67 [.ref r0, .ref r1] s (ps_rI f) :=
  pg_67_0 (d := d + 2) (ps_nk_i h0 (ps_nk_i (xk_3_0 h0) (And.intro (fun f1 => (ps_nk_i h0 (ps_nk_i h0 (ps_nk_i (xk_3_0 h0) (ps_nk_i (xj_3_5 J h0) (xs_129 (xj_3_5 J h0) J (fun v1 => (ps_nk_i h1 (ps_nk_i h1 (And.intro (fun f2 => (ps_nk_i h0 (ps_nk_i (xk_3_0 h0) (xs_140 (xk_3_0 h0) (xw_i (c := 8) (by decide) h1 J) (fun s2 J2 => (k 1 s2 (by decide) J2)))))) (fun f2 => (ps_nk_i h0 (xs_62 h0 (xw_i (c := 8) (by decide) h1 J) (fun v3 s3 b3 J3 => (ps_nd_i (decide_eq_true b3) ((k v3 s3 (of_decide_eq_true (decide_eq_true b3)) J3))))))))))))))))) (fun f1 => (ps_nk_i h0 (xs_62 h0 J (fun v4 s4 b4 J4 => (ps_nd_i (decide_eq_true b4) ((k v4 s4 (of_decide_eq_true (decide_eq_true b4)) J4))))))))))

-- ProofBench$Step.hasX(I)Z
theorem pg_117_0 {d : Nat} {x0 : Int32} {s : ps_S} {Q : Option Value → ps_S → Prop} (h :
  (x0 = 21 →
    Q (some (.int 1)) s) ∧
  (x0 ≠ 21 →
    (x0 ≠ 24 →
      Q (some (.int 0)) s) ∧
    (x0 = 24 →
      Q (some (.int 1)) s))) : ps_At d 117 0 [(0, .int x0)] [] s Q :=
  ps_wp_at (stops := []) (n := 16) h rfl

theorem xs_117 {m s : ps_S} {t : Int32} {d : Nat} {x0 : Int32} {f : Int32 → ps_S → Prop} (J : xJ m t s) (k : ∀ (v : Int32), v &&& 1 = v → f v s) : ps_Cl d 117 [.int x0] s (ps_rI f) :=
  pg_117_0 (And.intro (fun f1 => (k 1 (by decide))) (fun f1 => (And.intro (fun f2 => (k 0 (by decide))) (fun f2 => (k 1 (by decide))))))

-- ProofBench$Reader.takeX(LProofBench$Step;)Z
theorem pg_68_0 {d : Nat} {r0 : Nat} {r1 : Nat} {s : ps_S} {Q : Option Value → ps_S → Prop} (h :
  ps_nk (ps_is r0 3) (ps_Cl d 77 [.ref r0] s (ps_rI (fun v1 s1 =>
    (v1 ≠ 0 →
      ps_nk (ps_is r0 3) (ps_Cl d 79 [.ref r0] s1 (ps_rI (fun v2 s2 =>
        ps_nk (ps_is r1 8) (ps_nk (ps_is r1 8) (((ps_i (ps_ui s2 r1 3 v2) r1 3) ≠ (-1) →
          ps_nk (ps_is r0 3) (ps_nk (ps_is (ps_c0 r0 0) 10) (ps_Cl d 140 [.ref (ps_c0 r0 0)] (ps_ui s2 r1 3 v2) (ps_rV (fun s3 =>
            Q (some (.int 1)) s3))))) ∧
        ((ps_i (ps_ui s2 r1 3 v2) r1 3) = (-1) →
          ps_nk (ps_is r0 3) (ps_Cl d 62 [.ref r0, .int 2] (ps_ui s2 r1 3 v2) (ps_rI (fun v4 s4 =>
            ps_nd (decide (v4 &&& 1 = v4)) (Q (some (.int v4)) s4))))))))))) ∧
    (v1 = 0 →
      ps_nk (ps_is r0 3) (ps_Cl d 62 [.ref r0, .int 2] s1 (ps_rI (fun v5 s5 =>
        ps_nd (decide (v5 &&& 1 = v5)) (Q (some (.int v5)) s5))))))))) : ps_At (d + 1) 68 0 [(0, .ref r0), (1, .ref r1)] [] s Q :=
  ps_wp_at (stops := []) (n := 26) h rfl

theorem xs_68 {m s : ps_S} {t : Int32} {d : Nat} {r0 : Nat} {r1 : Nat} {f : Int32 → ps_S → Prop} (h0 : ps_is r0 3 = true) (h1 : ps_is r1 8 = true) (J : xJ m t s) (k : ∀ (v : Int32) (s' : ps_S), v &&& 1 = v → xJ m t s' → f v s') : ps_Cl (d + 3) 68 [.ref r0, .ref r1] s (ps_rI f) :=
  pg_68_0 (d := d + 2) (ps_nk_i h0 (xs_77 h0 J (fun v1 b1 => (And.intro (fun f1 => (ps_nk_i h0 (xs_79 h0 J (fun v2 s2 J2 => (ps_nk_i h1 (ps_nk_i h1 (And.intro (fun f2 => (ps_nk_i h0 (ps_nk_i (xk_3_0 h0) (xs_140 (xk_3_0 h0) (xw_i (c := 8) (by decide) h1 J2) (fun s3 J3 => (k 1 s3 (by decide) J3)))))) (fun f2 => (ps_nk_i h0 (xs_62 h0 (xw_i (c := 8) (by decide) h1 J2) (fun v4 s4 b4 J4 => (ps_nd_i (decide_eq_true b4) ((k v4 s4 (of_decide_eq_true (decide_eq_true b4)) J4)))))))))))))) (fun f1 => (ps_nk_i h0 (xs_62 h0 J (fun v5 s5 b5 J5 => (ps_nd_i (decide_eq_true b5) ((k v5 s5 (of_decide_eq_true (decide_eq_true b5)) J5)))))))))))

-- ProofBench$Step.hasTerm(I)Z
theorem pg_118_0 {d : Nat} {x0 : Int32} {s : ps_S} {Q : Option Value → ps_S → Prop} (h :
  (x0 = 22 →
    Q (some (.int 1)) s) ∧
  (x0 ≠ 22 →
    (x0 = 23 →
      Q (some (.int 1)) s) ∧
    (x0 ≠ 23 →
      (x0 ≠ 6 →
        Q (some (.int 0)) s) ∧
      (x0 = 6 →
        Q (some (.int 1)) s)))) : ps_At d 118 0 [(0, .int x0)] [] s Q :=
  ps_wp_at (stops := []) (n := 22) h rfl

theorem xs_118 {m s : ps_S} {t : Int32} {d : Nat} {x0 : Int32} {f : Int32 → ps_S → Prop} (J : xJ m t s) (k : ∀ (v : Int32), v &&& 1 = v → f v s) : ps_Cl d 118 [.int x0] s (ps_rI f) :=
  pg_118_0 (And.intro (fun f1 => (k 1 (by decide))) (fun f1 => (And.intro (fun f2 => (k 1 (by decide))) (fun f2 => (And.intro (fun f3 => (k 0 (by decide))) (fun f3 => (k 1 (by decide))))))))

-- ProofBench$Step.hasFormula(I)Z
theorem pg_119_0 {d : Nat} {x0 : Int32} {s : ps_S} {Q : Option Value → ps_S → Prop} (h :
  (x0 = 11 →
    Q (some (.int 1)) s) ∧
  (x0 ≠ 11 →
    (x0 = 12 →
    Q (some (.int 0)) s) ∧
  (x0 ≠ 12 →
    (x0 = 13 →
    Q (some (.int 0)) s) ∧
  (x0 ≠ 13 →
    (x0 = 14 →
    Q (some (.int 0)) s) ∧
  (x0 ≠ 14 →
    (x0 = 15 →
    Q (some (.int 0)) s) ∧
  (x0 ≠ 15 →
    (x0 = 16 →
    Q (some (.int 1)) s) ∧
  (x0 ≠ 16 →
    (x0 = 17 →
    Q (some (.int 1)) s) ∧
  (x0 ≠ 17 →
    (x0 = 18 →
    Q (some (.int 0)) s) ∧
  (x0 ≠ 18 →
    (x0 = 19 →
    Q (some (.int 0)) s) ∧
  (x0 ≠ 19 →
    (x0 = 20 →
    Q (some (.int 1)) s) ∧
  (x0 ≠ 20 →
    (x0 = 21 →
    Q (some (.int 0)) s) ∧
  (x0 ≠ 21 →
    (x0 = 22 →
    Q (some (.int 0)) s) ∧
  (x0 ≠ 22 →
    (x0 = 23 →
    Q (some (.int 1)) s) ∧
  (x0 ≠ 23 →
    (x0 = 24 →
    Q (some (.int 0)) s) ∧
  (x0 ≠ 24 →
    (x0 = 25 →
    Q (some (.int 1)) s) ∧
  (x0 ≠ 25 →
    (x0 = 26 →
    Q (some (.int 1)) s) ∧
  (x0 ≠ 26 →
    (x0 = 27 →
    Q (some (.int 1)) s) ∧
  (x0 ≠ 27 →
    Q (some (.int 0)) s)))))))))))))))))) : ps_At d 119 0 [(0, .int x0)] [] s Q :=
  ps_wp_at (stops := []) (n := 40) h rfl

theorem xs_119 {m s : ps_S} {t : Int32} {d : Nat} {x0 : Int32} {f : Int32 → ps_S → Prop} (J : xJ m t s) (k : ∀ (v : Int32), v &&& 1 = v → f v s) : ps_Cl d 119 [.int x0] s (ps_rI f) :=
  pg_119_0 (And.intro (fun f1 => (k 1 (by decide))) (fun f1 => (And.intro (fun f2 => (k 0 (by decide))) (fun f2 => (And.intro (fun f3 => (k 0 (by decide))) (fun f3 => (And.intro (fun f4 => (k 0 (by decide))) (fun f4 => (And.intro (fun f5 => (k 0 (by decide))) (fun f5 => (And.intro (fun f6 => (k 1 (by decide))) (fun f6 => (And.intro (fun f7 => (k 1 (by decide))) (fun f7 => (And.intro (fun f8 => (k 0 (by decide))) (fun f8 => (And.intro (fun f9 => (k 0 (by decide))) (fun f9 => (And.intro (fun f10 => (k 1 (by decide))) (fun f10 => (And.intro (fun f11 => (k 0 (by decide))) (fun f11 => (And.intro (fun f12 => (k 0 (by decide))) (fun f12 => (And.intro (fun f13 => (k 1 (by decide))) (fun f13 => (And.intro (fun f14 => (k 0 (by decide))) (fun f14 => (And.intro (fun f15 => (k 1 (by decide))) (fun f15 => (And.intro (fun f16 => (k 1 (by decide))) (fun f16 => (And.intro (fun f17 => (k 1 (by decide))) (fun f17 => (k 0 (by decide))))))))))))))))))))))))))))))))))))

-- ProofBench$Reader.takeStep(LProofBench$Step;)Z
theorem pg_66_0 {d : Nat} {r0 : Nat} {r1 : Nat} {s : ps_S} {Q : Option Value → ps_S → Prop} (h :
  ps_nk (ps_is r0 3) (ps_nk (ps_is (ps_c0 r0 0) 10) (ps_Cl d 114 [.int (ps_i s (ps_c0 r0 0) 6)] s (ps_rI (fun v1 s1 =>
    (v1 ≠ 0 →
      ps_nk (ps_is r1 8) (ps_Cl d 120 [.ref r1, .int (ps_i s (ps_c0 r0 0) 6)] s1 (ps_rV (fun s2 =>
        ps_nk (ps_is r0 3) (ps_nk (ps_is (ps_c0 r0 0) 10) (ps_Cl d 140 [.ref (ps_c0 r0 0)] s2 (ps_rV (fun s3 =>
          ps_At (d + 1) 66 35 [(0, .ref r0), (1, .ref r1), (2, .int (ps_i s (ps_c0 r0 0) 6)), (3, .int 0)] [] s3 Q)))))))) ∧
    (v1 = 0 →
      ps_nk (ps_is r0 3) (ps_Cl d 62 [.ref r0, .int 2] s1 (ps_rI (fun v4 s4 =>
        ps_nd (decide (v4 &&& 1 = v4)) (Q (some (.int v4)) s4)))))))))) : ps_At (d + 1) 66 0 [(0, .ref r0), (1, .ref r1)] [] s Q :=
  ps_wp_at (stops := [(35, [0, 1, 2, 3]), (102, [0, 1, 2]), (119, [0, 1, 2]), (140, [0, 1, 2]), (161, [0])]) (n := 21) h rfl

theorem pg_66_35 {d : Nat} {r0 : Nat} {r1 : Nat} {x2 : Int32} {x3 : Int32} {s : ps_S} {Q : Option Value → ps_S → Prop} (h :
  ps_Cl d 115 [.int x2] s (ps_rI (fun v1 s1 =>
    (v1 ≤ x3 →
      (x2 ≠ 10 →
        ps_At (d + 1) 66 102 [(0, .ref r0), (1, .ref r1), (2, .int x2)] [] s1 Q) ∧
      (x2 = 10 →
        ps_nk (ps_is r0 3) (ps_Cl d 67 [.ref r0, .ref r1] s1 (ps_rI (fun v2 s2 =>
          (v2 = 0 →
            Q (some (.int 0)) s2) ∧
          (v2 ≠ 0 →
            ps_At (d + 1) 66 102 [(0, .ref r0), (1, .ref r1), (2, .int x2)] [] s2 Q)))))) ∧
    (x3 < v1 →
      ps_nk (ps_is r0 3) (ps_nk (ps_is (ps_c0 r0 0) 10) (((ps_i s1 (ps_c0 r0 0) 4) = 4 →
        ps_nk (ps_is r1 8) (ps_nk (ps_is r0 3) (ps_nk (ps_is (ps_c0 r0 0) 10) (ps_Cl d 183 [.ref (ps_c0 r1 1), .int x3, .int (ps_i s1 (ps_c0 r0 0) 7)] s1 (ps_rV (fun s3 =>
          ps_nk (ps_is r0 3) (ps_nk (ps_is (ps_c0 r0 0) 10) (ps_Cl d 140 [.ref (ps_c0 r0 0)] s3 (ps_rV (fun s4 =>
            ps_At (d + 1) 66 35 [(0, .ref r0), (1, .ref r1), (2, .int x2), (3, .int (x3 + 1))] [] s4 Q)))))))))) ∧
      ((ps_i s1 (ps_c0 r0 0) 4) ≠ 4 →
        ps_nk (ps_is r0 3) (ps_Cl d 62 [.ref r0, .int 2] s1 (ps_rI (fun v5 s5 =>
          ps_nd (decide (v5 &&& 1 = v5)) (Q (some (.int v5)) s5))))))))))) : ps_At (d + 1) 66 35 [(0, .ref r0), (1, .ref r1), (2, .int x2), (3, .int x3)] [] s Q :=
  ps_wp_at (stops := [(35, [0, 1, 2, 3]), (102, [0, 1, 2]), (119, [0, 1, 2]), (140, [0, 1, 2]), (161, [0])]) (n := 36) h rfl

theorem pg_66_102 {d : Nat} {r0 : Nat} {r1 : Nat} {x2 : Int32} {s : ps_S} {Q : Option Value → ps_S → Prop} (h :
  ps_Cl d 117 [.int x2] s (ps_rI (fun v1 s1 =>
    (v1 = 0 →
      ps_At (d + 1) 66 119 [(0, .ref r0), (1, .ref r1), (2, .int x2)] [] s1 Q) ∧
    (v1 ≠ 0 →
      ps_nk (ps_is r0 3) (ps_Cl d 68 [.ref r0, .ref r1] s1 (ps_rI (fun v2 s2 =>
        (v2 ≠ 0 →
          ps_At (d + 1) 66 119 [(0, .ref r0), (1, .ref r1), (2, .int x2)] [] s2 Q) ∧
        (v2 = 0 →
          Q (some (.int 0)) s2)))))))) : ps_At (d + 1) 66 102 [(0, .ref r0), (1, .ref r1), (2, .int x2)] [] s Q :=
  ps_wp_at (stops := [(35, [0, 1, 2, 3]), (102, [0, 1, 2]), (119, [0, 1, 2]), (140, [0, 1, 2]), (161, [0])]) (n := 11) h rfl

theorem pg_66_119 {d : Nat} {r0 : Nat} {r1 : Nat} {x2 : Int32} {s : ps_S} {Q : Option Value → ps_S → Prop} (h :
  ps_Cl d 118 [.int x2] s (ps_rI (fun v1 s1 =>
    (v1 = 0 →
      ps_At (d + 1) 66 140 [(0, .ref r0), (1, .ref r1), (2, .int x2)] [] s1 Q) ∧
    (v1 ≠ 0 →
      ps_nk (ps_is r1 8) (ps_nk (ps_is r0 3) (ps_Cl d 69 [.ref r0, .ref (ps_c0 r1 4), .int 1] s1 (ps_rI (fun v2 s2 =>
        (v2 ≠ 0 →
          ps_At (d + 1) 66 140 [(0, .ref r0), (1, .ref r1), (2, .int x2)] [] s2 Q) ∧
        (v2 = 0 →
          Q (some (.int 0)) s2))))))))) : ps_At (d + 1) 66 119 [(0, .ref r0), (1, .ref r1), (2, .int x2)] [] s Q :=
  ps_wp_at (stops := [(35, [0, 1, 2, 3]), (102, [0, 1, 2]), (119, [0, 1, 2]), (140, [0, 1, 2]), (161, [0])]) (n := 13) h rfl

theorem pg_66_140 {d : Nat} {r0 : Nat} {r1 : Nat} {x2 : Int32} {s : ps_S} {Q : Option Value → ps_S → Prop} (h :
  ps_Cl d 119 [.int x2] s (ps_rI (fun v1 s1 =>
    (v1 = 0 →
      ps_At (d + 1) 66 161 [(0, .ref r0)] [] s1 Q) ∧
    (v1 ≠ 0 →
      ps_nk (ps_is r1 8) (ps_nk (ps_is r0 3) (ps_Cl d 69 [.ref r0, .ref (ps_c0 r1 5), .int 0] s1 (ps_rI (fun v2 s2 =>
        (v2 ≠ 0 →
          ps_At (d + 1) 66 161 [(0, .ref r0)] [] s2 Q) ∧
        (v2 = 0 →
          Q (some (.int 0)) s2))))))))) : ps_At (d + 1) 66 140 [(0, .ref r0), (1, .ref r1), (2, .int x2)] [] s Q :=
  ps_wp_at (stops := [(35, [0, 1, 2, 3]), (102, [0, 1, 2]), (119, [0, 1, 2]), (140, [0, 1, 2]), (161, [0])]) (n := 13) h rfl

theorem pg_66_161 {d : Nat} {r0 : Nat} {s : ps_S} {Q : Option Value → ps_S → Prop} (h :
  ps_nk (ps_is r0 3) (ps_Cl d 65 [.ref r0] s (ps_rI (fun v1 s1 =>
    ps_nd (decide (v1 &&& 1 = v1)) (Q (some (.int v1)) s1))))) : ps_At (d + 1) 66 161 [(0, .ref r0)] [] s Q :=
  ps_wp_at (stops := [(35, [0, 1, 2, 3]), (102, [0, 1, 2]), (119, [0, 1, 2]), (140, [0, 1, 2]), (161, [0])]) (n := 5) h rfl

theorem xs_66_161 {m s : ps_S} {t : Int32} {d : Nat} {r0 : Nat} {Q : Option Value → ps_S → Prop} (h0 : ps_is r0 3 = true) (J : xJ m t s) (k : ∀ (v : Int32) (s' : ps_S), v &&& 1 = v → xJ m t s' → Q (some (.int v)) s') : ps_At (d + 38) 66 161 [(0, .ref r0)] [] s Q :=
  pg_66_161 (d := d + 37) (ps_nk_i h0 (xs_65 h0 J (fun v1 s1 b1 J1 => (ps_nd_i (decide_eq_true b1) ((k v1 s1 (of_decide_eq_true (decide_eq_true b1)) J1))))))

theorem xs_66_140 {m s : ps_S} {t : Int32} {d : Nat} {r0 : Nat} {r1 : Nat} {x2 : Int32} {Q : Option Value → ps_S → Prop} (h0 : ps_is r0 3 = true) (h1 : ps_is r1 8 = true) (J : xJ m t s) (k : ∀ (v : Int32) (s' : ps_S), v &&& 1 = v → xJ m t s' → Q (some (.int v)) s') : ps_At (d + 38) 66 140 [(0, .ref r0), (1, .ref r1), (2, .int x2)] [] s Q :=
  pg_66_140 (d := d + 37) (xs_119  J (fun v1 b1 => (And.intro (fun f1 => (xs_66_161 (d := d) (r0 := r0)  h0 J k )) (fun f1 => (ps_nk_i h1 (ps_nk_i h0 (xs_69 h0 (xk_8_5 h1) J (fun v2 s2 b2 J2 => (And.intro (fun f2 => (xs_66_161 (d := d) (r0 := r0)  h0 J2 k )) (fun f2 => (k 0 s2 (by decide) J2)))))))))))

theorem xs_66_119 {m s : ps_S} {t : Int32} {d : Nat} {r0 : Nat} {r1 : Nat} {x2 : Int32} {Q : Option Value → ps_S → Prop} (h0 : ps_is r0 3 = true) (h1 : ps_is r1 8 = true) (J : xJ m t s) (k : ∀ (v : Int32) (s' : ps_S), v &&& 1 = v → xJ m t s' → Q (some (.int v)) s') : ps_At (d + 38) 66 119 [(0, .ref r0), (1, .ref r1), (2, .int x2)] [] s Q :=
  pg_66_119 (d := d + 37) (xs_118  J (fun v1 b1 => (And.intro (fun f1 => (xs_66_140 (d := d) (r0 := r0) (r1 := r1) (x2 := x2)  h0 h1 J k )) (fun f1 => (ps_nk_i h1 (ps_nk_i h0 (xs_69 h0 (xk_8_4 h1) J (fun v2 s2 b2 J2 => (And.intro (fun f2 => (xs_66_140 (d := d) (r0 := r0) (r1 := r1) (x2 := x2)  h0 h1 J2 k )) (fun f2 => (k 0 s2 (by decide) J2)))))))))))

theorem xs_66_102 {m s : ps_S} {t : Int32} {d : Nat} {r0 : Nat} {r1 : Nat} {x2 : Int32} {Q : Option Value → ps_S → Prop} (h0 : ps_is r0 3 = true) (h1 : ps_is r1 8 = true) (J : xJ m t s) (k : ∀ (v : Int32) (s' : ps_S), v &&& 1 = v → xJ m t s' → Q (some (.int v)) s') : ps_At (d + 38) 66 102 [(0, .ref r0), (1, .ref r1), (2, .int x2)] [] s Q :=
  pg_66_102 (d := d + 37) (xs_117  J (fun v1 b1 => (And.intro (fun f1 => (xs_66_119 (d := d) (r0 := r0) (r1 := r1) (x2 := x2)  h0 h1 J k )) (fun f1 => (ps_nk_i h0 (xs_68 h0 h1 J (fun v2 s2 b2 J2 => (And.intro (fun f2 => (xs_66_119 (d := d) (r0 := r0) (r1 := r1) (x2 := x2)  h0 h1 J2 k )) (fun f2 => (k 0 s2 (by decide) J2))))))))))

theorem xs_66_35 {m s : ps_S} {t : Int32} {d : Nat} {r0 : Nat} {r1 : Nat} {x2 : Int32} {x3 : Int32} {Q : Option Value → ps_S → Prop} (h0 : ps_is r0 3 = true) (h1 : ps_is r1 8 = true) (J : xJ m t s) (k : ∀ (v : Int32) (s' : ps_S), v &&& 1 = v → xJ m t s' → Q (some (.int v)) s') : ps_At (d + 38) 66 35 [(0, .ref r0), (1, .ref r1), (2, .int x2), (3, .int x3)] [] s Q :=
  xs_up (P := fun x3 => ∀ (s : ps_S), ps_is r0 3 = true → ps_is r1 8 = true → xJ m t s → ps_At (d + 38) 66 35 [(0, .ref r0), (1, .ref r1), (2, .int x2), (3, .int x3)] [] s Q) (fun x3 ih s h0 h1 J => pg_66_35 (d := d + 37) (xs_115  J (fun v1 => (And.intro (fun f1 => (And.intro (fun f2 => (xs_66_102 (d := d) (r0 := r0) (r1 := r1) (x2 := x2)  h0 h1 J k )) (fun f2 => (ps_nk_i h0 (xs_67 h0 h1 J (fun v2 s2 b2 J2 => (And.intro (fun f3 => (k 0 s2 (by decide) J2)) (fun f3 => (xs_66_102 (d := d) (r0 := r0) (r1 := r1) (x2 := x2)  h0 h1 J2 k ))))))))) (fun f1 => (ps_nk_i h0 (ps_nk_i (xk_3_0 h0) (And.intro (fun f4 => (ps_nk_i h1 (ps_nk_i h0 (ps_nk_i (xk_3_0 h0) (xs_183 (xk_8_1 h1) J (fun s3 J3 e3 => (ps_nk_i h0 (ps_nk_i (xk_3_0 h0) (xs_140 (xk_3_0 h0) J3 (fun s4 J4 => (ih ((x3 + 1)) (xs_lt f1) s4 h0 h1 J4))))))))))) (fun f4 => (ps_nk_i h0 (xs_62 h0 J (fun v5 s5 b5 J5 => (ps_nd_i (decide_eq_true b5) ((k v5 s5 (of_decide_eq_true (decide_eq_true b5)) J5))))))))))))))) x3 s h0 h1 J

theorem xs_66 {m s : ps_S} {t : Int32} {d : Nat} {r0 : Nat} {r1 : Nat} {f : Int32 → ps_S → Prop} (h0 : ps_is r0 3 = true) (h1 : ps_is r1 8 = true) (J : xJ m t s) (k : ∀ (v : Int32) (s' : ps_S), v &&& 1 = v → xJ m t s' → f v s') : ps_Cl (d + 38) 66 [.ref r0, .ref r1] s (ps_rI f) :=
  pg_66_0 (d := d + 37) (ps_nk_i h0 (ps_nk_i (xk_3_0 h0) (xs_114  J (fun v1 b1 => (And.intro (fun f1 => (ps_nk_i h1 (xs_120 h1 J (fun s2 J2 => (ps_nk_i h0 (ps_nk_i (xk_3_0 h0) (xs_140 (xk_3_0 h0) J2 (fun s3 J3 => (xs_66_35 (d := d) (r0 := r0) (r1 := r1) (x2 := (ps_i s (ps_c0 r0 0) 6)) (x3 := 0)  h0 h1 J3 k ))))))))) (fun f1 => (ps_nk_i h0 (xs_62 h0 J (fun v4 s4 b4 J4 => (ps_nd_i (decide_eq_true b4) ((k v4 s4 (of_decide_eq_true (decide_eq_true b4)) J4))))))))))))

-- ProofBench$Reader.takeProof([BILProofBench$Theory;LProofBench$Proof;)Z
theorem pg_59_0 {d : Nat} {r0 : Nat} {r1 : Nat} {x2 : Int32} {r3 : Nat} {r4 : Nat} {s : ps_S} {Q : Option Value → ps_S → Prop} (h :
  ps_nk (ps_is r4 2) (ps_Cl d 31 [.ref r4] s (ps_rV (fun s1 =>
    ps_nk (ps_is r0 3) (ps_Cl d 61 [.ref r0, .ref r1, .int x2, .ref r3] s1 (ps_rV (fun s2 =>
      ps_At (d + 1) 59 15 [(0, .ref r0), (4, .ref r4), (5, .int 0)] [] s2 Q))))))) : ps_At (d + 1) 59 0 [(0, .ref r0), (1, .ref r1), (2, .int x2), (3, .ref r3), (4, .ref r4)] [] s Q :=
  ps_wp_at (stops := [(15, [0, 4, 5])]) (n := 11) h rfl

theorem pg_59_15 {d : Nat} {r0 : Nat} {r4 : Nat} {x5 : Int32} {s : ps_S} {Q : Option Value → ps_S → Prop} (h :
  (40 < x5 →
    Q (some (.int 1)) s) ∧
  (x5 ≤ 40 →
    ps_nk (ps_is r0 3) (ps_nk (ps_is (ps_c0 r0 0) 10) (((ps_i s (ps_c0 r0 0) 4) = 0 →
      Q (some (.int 1)) s) ∧
    ((ps_i s (ps_c0 r0 0) 4) ≠ 0 →
      (x5 ≠ 40 →
        ps_nk (ps_is r4 2) (ps_Cl d 33 [.ref r4, .int x5] s (ps_rA (fun v1 s1 =>
          ps_nk (ps_is r0 3) (ps_Cl d 66 [.ref r0, .ref v1] s1 (ps_rI (fun v2 s2 =>
            (v2 ≠ 0 →
              ps_nk (ps_is r4 2) (ps_At (d + 1) 59 15 [(0, .ref r0), (4, .ref r4), (5, .int (x5 + 1))] [] (ps_ui s2 r4 7 (x5 + 1)) Q)) ∧
            (v2 = 0 →
              Q (some (.int 0)) s2)))))))) ∧
      (x5 = 40 →
        ps_nk (ps_is r0 3) (ps_Cl d 62 [.ref r0, .int 2] s (ps_rI (fun v3 s3 =>
          ps_nd (decide (v3 &&& 1 = v3)) (Q (some (.int v3)) s3)))))))))) : ps_At (d + 1) 59 15 [(0, .ref r0), (4, .ref r4), (5, .int x5)] [] s Q :=
  ps_wp_at (stops := [(15, [0, 4, 5])]) (n := 35) h rfl

theorem xs_59_15 {m s : ps_S} {t : Int32} {d : Nat} {r0 : Nat} {r4 : Nat} {x5 : Int32} {Q : Option Value → ps_S → Prop} (h0 : ps_is r0 3 = true) (h4 : ps_is r4 2 = true) (J : xJ m t s) (k : ∀ (v : Int32) (s' : ps_S), v &&& 1 = v → xJ m t s' → Q (some (.int v)) s') : ps_At (d + 39) 59 15 [(0, .ref r0), (4, .ref r4), (5, .int x5)] [] s Q :=
  xs_up (P := fun x5 => ∀ (s : ps_S), ps_is r0 3 = true → ps_is r4 2 = true → xJ m t s → ps_At (d + 39) 59 15 [(0, .ref r0), (4, .ref r4), (5, .int x5)] [] s Q) (fun x5 ih s h0 h4 J => pg_59_15 (d := d + 38) (And.intro (fun f1 => (k 1 s (by decide) J)) (fun f1 => (ps_nk_i h0 (ps_nk_i (xk_3_0 h0) (And.intro (fun f2 => (k 1 s (by decide) J)) (fun f2 => (And.intro (fun f3 => (ps_nk_i h4 (xs_33 h4 J (fun v1 g1 => (ps_nk_i h0 (xs_66 h0 g1 J (fun v2 s2 b2 J2 => (And.intro (fun f4 => (ps_nk_i h4 (ih ((x5 + 1)) (xs_le f1 (by decide)) (ps_ui s2 r4 7 (x5 + 1)) h0 h4 (xw_i (c := 2) (by decide) h4 J2)))) (fun f4 => (k 0 s2 (by decide) J2)))))))))) (fun f3 => (ps_nk_i h0 (xs_62 h0 J (fun v3 s3 b3 J3 => (ps_nd_i (decide_eq_true b3) ((k v3 s3 (of_decide_eq_true (decide_eq_true b3)) J3))))))))))))))) x5 s h0 h4 J

theorem xs_59 {m s : ps_S} {t : Int32} {d : Nat} {r0 : Nat} {r1 : Nat} {x2 : Int32} {r3 : Nat} {r4 : Nat} {f : Int32 → ps_S → Prop} (h0 : ps_is r0 3 = true) (h1 : ps_ar r1 1 = true ∧ r1 < 1131) (h3 : ps_is r3 9 = true) (h4 : ps_is r4 2 = true) (J : xJ m t s) (k : ∀ (v : Int32) (s' : ps_S), v &&& 1 = v → xJ m t s' → f v s') : ps_Cl (d + 39) 59 [.ref r0, .ref r1, .int x2, .ref r3, .ref r4] s (ps_rI f) :=
  pg_59_0 (d := d + 38) (ps_nk_i h4 (xs_31 h4 J (fun s1 J1 => (ps_nk_i h0 (xs_61 h0 h1 h3 J1 (fun s2 J2 => (xs_59_15 (d := d) (r0 := r0) (r4 := r4) (x5 := 0)  h0 h4 J2 k )))))))

-- ProofBench$Reader.takeText([BILProofBench$Theory;LProofBench$Row;Z)Z
theorem pg_60_0 {d : Nat} {r0 : Nat} {r1 : Nat} {x2 : Int32} {r3 : Nat} {r4 : Nat} {x5 : Int32} {s : ps_S} {Q : Option Value → ps_S → Prop} (h :
  ps_nk (ps_is r0 3) (ps_Cl d 61 [.ref r0, .ref r1, .int x2, .ref r3] s (ps_rV (fun s1 =>
    ps_nk (ps_is r0 3) (ps_Cl d 69 [.ref r0, .ref r4, .int x5] s1 (ps_rI (fun v2 s2 =>
      (v2 ≠ 0 →
        ps_nk (ps_is r0 3) (ps_nk (ps_is (ps_c0 r0 0) 10) (((ps_i s2 (ps_c0 r0 0) 4) = 0 →
          Q (some (.int 1)) s2) ∧
        ((ps_i s2 (ps_c0 r0 0) 4) ≠ 0 →
          ps_nk (ps_is r0 3) (ps_Cl d 62 [.ref r0, .int 2] s2 (ps_rI (fun v3 s3 =>
            ps_nd (decide (v3 &&& 1 = v3)) (Q (some (.int v3)) s3)))))))) ∧
      (v2 = 0 →
        Q (some (.int 0)) s2)))))))) : ps_At (d + 1) 60 0 [(0, .ref r0), (1, .ref r1), (2, .int x2), (3, .ref r3), (4, .ref r4), (5, .int x5)] [] s Q :=
  ps_wp_at (stops := []) (n := 24) h rfl

theorem xs_60 {m s : ps_S} {t : Int32} {d : Nat} {r0 : Nat} {r1 : Nat} {x2 : Int32} {r3 : Nat} {r4 : Nat} {x5 : Int32} {f : Int32 → ps_S → Prop} (h0 : ps_is r0 3 = true) (h1 : ps_ar r1 1 = true ∧ r1 < 1131) (h3 : ps_is r3 9 = true) (h4 : ps_is r4 5 = true) (J : xJ m t s) (k : ∀ (v : Int32) (s' : ps_S), v &&& 1 = v → xJ m t s' → f v s') : ps_Cl (d + 38) 60 [.ref r0, .ref r1, .int x2, .ref r3, .ref r4, .int x5] s (ps_rI f) :=
  pg_60_0 (d := d + 37) (ps_nk_i h0 (xs_61 h0 h1 h3 J (fun s1 J1 => (ps_nk_i h0 (xs_69 h0 h4 J1 (fun v2 s2 b2 J2 => (And.intro (fun f1 => (ps_nk_i h0 (ps_nk_i (xk_3_0 h0) (And.intro (fun f2 => (k 1 s2 (by decide) J2)) (fun f2 => (ps_nk_i h0 (xs_62 h0 J2 (fun v3 s3 b3 J3 => (ps_nd_i (decide_eq_true b3) ((k v3 s3 (of_decide_eq_true (decide_eq_true b3)) J3))))))))))) (fun f1 => (k 0 s2 (by decide) J2)))))))))

-- ProofBench$Rewriter.clear()V
theorem pg_81_0 {d : Nat} {r0 : Nat} {s : ps_S} {Q : Option Value → ps_S → Prop} (h :
  ps_nk (ps_is r0 4) (ps_nk (ps_is (ps_c0 r0 0) 5) (ps_Cl d 91 [.ref (ps_c0 r0 0)] s (ps_rV (fun s1 =>
    Q none s1))))) : ps_At (d + 1) 81 0 [(0, .ref r0)] [] s Q :=
  ps_wp_at (stops := []) (n := 6) h rfl

theorem xs_81 {m s : ps_S} {t : Int32} {d : Nat} {r0 : Nat} {f : ps_S → Prop} (h0 : ps_is r0 4 = true) (J : xJ m t s) (k : ∀ (s' : ps_S), xJ m t s' → f s') : ps_Cl (d + 1) 81 [.ref r0] s (ps_rV f) :=
  pg_81_0 (d := d) (ps_nk_i h0 (ps_nk_i (xk_4_0 h0) (xs_91 (xk_4_0 h0) J (fun s1 J1 => (k s1 J1)))))

-- ProofBench.isFun(I)Z
theorem pg_186_0 {d : Nat} {x0 : Int32} {s : ps_S} {Q : Option Value → ps_S → Prop} (h :
  (x0 < 20 →
    Q (some (.int 0)) s) ∧
  (20 ≤ x0 →
    (24 ≤ x0 →
      Q (some (.int 0)) s) ∧
    (x0 < 24 →
      Q (some (.int 1)) s))) : ps_At d 186 0 [(0, .int x0)] [] s Q :=
  ps_wp_at (stops := []) (n := 15) h rfl

theorem xs_186 {m s : ps_S} {t : Int32} {d : Nat} {x0 : Int32} {f : Int32 → ps_S → Prop} (J : xJ m t s) (k : ∀ (v : Int32), v &&& 1 = v → f v s) : ps_Cl d 186 [.int x0] s (ps_rI f) :=
  pg_186_0 (And.intro (fun f1 => (k 0 (by decide))) (fun f1 => (And.intro (fun f2 => (k 0 (by decide))) (fun f2 => (k 1 (by decide))))))

-- ProofBench$Rewriter.leftHasAll(LProofBench$Row;II)Z
theorem pg_84_0 {d : Nat} {r0 : Nat} {r1 : Nat} {x2 : Int32} {x3 : Int32} {s : ps_S} {Q : Option Value → ps_S → Prop} (h :
  ps_At (d + 1) 84 3 [(1, .ref r1), (2, .int x2), (3, .int x3), (4, .int x3)] [] s Q) : ps_At (d + 1) 84 0 [(0, .ref r0), (1, .ref r1), (2, .int x2), (3, .int x3)] [] s Q :=
  ps_wp_at (stops := [(3, [1, 2, 3, 4]), (34, [1, 2, 3, 4, 5, 6]), (73, [1, 2, 3, 4, 5])]) (n := 4) h rfl

theorem pg_84_3 {d : Nat} {r1 : Nat} {x2 : Int32} {x3 : Int32} {x4 : Int32} {s : ps_S} {Q : Option Value → ps_S → Prop} (h :
  ps_nk (ps_is r1 5) (((ps_i s r1 1) ≤ x4 →
    Q (some (.int 1)) s) ∧
  (x4 < (ps_i s r1 1) →
    ps_nk (ps_is r1 5) (ps_Cl d 92 [.ref r1, .int x4] s (ps_rI (fun v1 s1 =>
      ps_Cl d 185 [.int v1] s1 (ps_rI (fun v2 s2 =>
        (v2 ≠ 0 →
          ps_At (d + 1) 84 34 [(1, .ref r1), (2, .int x2), (3, .int x3), (4, .int x4), (5, .int 0), (6, .int x2)] [] s2 Q) ∧
        (v2 = 0 →
          ps_At (d + 1) 84 34 [(1, .ref r1), (2, .int x2), (3, .int x3), (4, .int x4), (5, .int 1), (6, .int x2)] [] s2 Q))))))))) : ps_At (d + 1) 84 3 [(1, .ref r1), (2, .int x2), (3, .int x3), (4, .int x4)] [] s Q :=
  ps_wp_at (stops := [(3, [1, 2, 3, 4]), (34, [1, 2, 3, 4, 5, 6]), (73, [1, 2, 3, 4, 5])]) (n := 22) h rfl

theorem pg_84_34 {d : Nat} {r1 : Nat} {x2 : Int32} {x3 : Int32} {x4 : Int32} {x5 : Int32} {x6 : Int32} {s : ps_S} {Q : Option Value → ps_S → Prop} (h :
  (x3 ≤ x6 →
    ps_At (d + 1) 84 73 [(1, .ref r1), (2, .int x2), (3, .int x3), (4, .int x4), (5, .int x5)] [] s Q) ∧
  (x6 < x3 →
    (x5 ≠ 0 →
      ps_At (d + 1) 84 73 [(1, .ref r1), (2, .int x2), (3, .int x3), (4, .int x4), (5, .int x5)] [] s Q) ∧
    (x5 = 0 →
      ps_nk (ps_is r1 5) (ps_Cl d 92 [.ref r1, .int x6] s (ps_rI (fun v1 s1 =>
        ps_nk (ps_is r1 5) (ps_Cl d 92 [.ref r1, .int x4] s1 (ps_rI (fun v2 s2 =>
          (v1 ≠ v2 →
            ps_At (d + 1) 84 34 [(1, .ref r1), (2, .int x2), (3, .int x3), (4, .int x4), (5, .int 0), (6, .int (x6 + 1))] [] s2 Q) ∧
          (v1 = v2 →
            ps_At (d + 1) 84 34 [(1, .ref r1), (2, .int x2), (3, .int x3), (4, .int x4), (5, .int 1), (6, .int (x6 + 1))] [] s2 Q)))))))))) : ps_At (d + 1) 84 34 [(1, .ref r1), (2, .int x2), (3, .int x3), (4, .int x4), (5, .int x5), (6, .int x6)] [] s Q :=
  ps_wp_at (stops := [(3, [1, 2, 3, 4]), (34, [1, 2, 3, 4, 5, 6]), (73, [1, 2, 3, 4, 5])]) (n := 23) h rfl

theorem pg_84_73 {d : Nat} {r1 : Nat} {x2 : Int32} {x3 : Int32} {x4 : Int32} {x5 : Int32} {s : ps_S} {Q : Option Value → ps_S → Prop} (h :
  (x5 ≠ 0 →
    ps_At (d + 1) 84 3 [(1, .ref r1), (2, .int x2), (3, .int x3), (4, .int (x4 + 1))] [] s Q) ∧
  (x5 = 0 →
    Q (some (.int 0)) s)) : ps_At (d + 1) 84 73 [(1, .ref r1), (2, .int x2), (3, .int x3), (4, .int x4), (5, .int x5)] [] s Q :=
  ps_wp_at (stops := [(3, [1, 2, 3, 4]), (34, [1, 2, 3, 4, 5, 6]), (73, [1, 2, 3, 4, 5])]) (n := 8) h rfl

theorem xs_84_73 {m s : ps_S} {t : Int32} {d : Nat} {r1 : Nat} {x2 : Int32} {x3 : Int32} {x4 : Int32} {x5 : Int32} {Q : Option Value → ps_S → Prop} (h1 : ps_is r1 5 = true) (J : xJ m t s) (k : ∀ (v : Int32), v &&& 1 = v → Q (some (.int v)) s) (K3 : ps_is r1 5 = true → ps_At (d + 1) 84 3 [(1, .ref r1), (2, .int x2), (3, .int x3), (4, .int (x4 + 1))] [] s Q) : ps_At (d + 1) 84 73 [(1, .ref r1), (2, .int x2), (3, .int x3), (4, .int x4), (5, .int x5)] [] s Q :=
  pg_84_73 (d := d) (And.intro (fun f1 => (K3 h1)) (fun f1 => (k 0 (by decide))))

theorem xs_84_34 {m s : ps_S} {t : Int32} {d : Nat} {r1 : Nat} {x2 : Int32} {x3 : Int32} {x4 : Int32} {x5 : Int32} {x6 : Int32} {Q : Option Value → ps_S → Prop} (h1 : ps_is r1 5 = true) (J : xJ m t s) (k : ∀ (v : Int32), v &&& 1 = v → Q (some (.int v)) s) (K3 : ps_is r1 5 = true → ps_At (d + 1) 84 3 [(1, .ref r1), (2, .int x2), (3, .int x3), (4, .int (x4 + 1))] [] s Q) : ps_At (d + 1) 84 34 [(1, .ref r1), (2, .int x2), (3, .int x3), (4, .int x4), (5, .int x5), (6, .int x6)] [] s Q :=
  xs_up (P := fun x6 => ∀ (x5 : Int32), ps_is r1 5 = true → ps_At (d + 1) 84 34 [(1, .ref r1), (2, .int x2), (3, .int x3), (4, .int x4), (5, .int x5), (6, .int x6)] [] s Q) (fun x6 ih x5 h1 => pg_84_34 (d := d) (And.intro (fun f1 => (xs_84_73 (d := d) (r1 := r1) (x2 := x2) (x3 := x3) (x4 := x4) (x5 := x5)  h1 J k K3)) (fun f1 => (And.intro (fun f2 => (xs_84_73 (d := d) (r1 := r1) (x2 := x2) (x3 := x3) (x4 := x4) (x5 := x5)  h1 J k K3)) (fun f2 => (ps_nk_i h1 (xs_92 h1 J (fun v1 => (ps_nk_i h1 (xs_92 h1 J (fun v2 => (And.intro (fun f3 => (ih ((x6 + 1)) (xs_lt f1) (0) h1)) (fun f3 => (ih ((x6 + 1)) (xs_lt f1) (1) h1)))))))))))))) x6 x5 h1

theorem xs_84_3 {m s : ps_S} {t : Int32} {d : Nat} {r1 : Nat} {x2 : Int32} {x3 : Int32} {x4 : Int32} {Q : Option Value → ps_S → Prop} (h1 : ps_is r1 5 = true) (J : xJ m t s) (k : ∀ (v : Int32), v &&& 1 = v → Q (some (.int v)) s) : ps_At (d + 1) 84 3 [(1, .ref r1), (2, .int x2), (3, .int x3), (4, .int x4)] [] s Q :=
  xs_up (P := fun x4 => ps_is r1 5 = true → ps_At (d + 1) 84 3 [(1, .ref r1), (2, .int x2), (3, .int x3), (4, .int x4)] [] s Q) (fun x4 ih h1 => pg_84_3 (d := d) (ps_nk_i h1 (And.intro (fun f1 => (k 1 (by decide))) (fun f1 => (ps_nk_i h1 (xs_92 h1 J (fun v1 => (xs_185  J (fun v2 b2 => (And.intro (fun f2 => (xs_84_34 (d := d) (r1 := r1) (x2 := x2) (x3 := x3) (x4 := x4) (x5 := 0) (x6 := x2)  h1 J k (fun h1z => ih (x4 + 1) (xs_lt f1) h1z))) (fun f2 => (xs_84_34 (d := d) (r1 := r1) (x2 := x2) (x3 := x3) (x4 := x4) (x5 := 1) (x6 := x2)  h1 J k (fun h1z => ih (x4 + 1) (xs_lt f1) h1z))))))))))))) x4 h1

theorem xs_84 {m s : ps_S} {t : Int32} {d : Nat} {r0 : Nat} {r1 : Nat} {x2 : Int32} {x3 : Int32} {f : Int32 → ps_S → Prop} (h0 : ps_is r0 4 = true) (h1 : ps_is r1 5 = true) (J : xJ m t s) (k : ∀ (v : Int32), v &&& 1 = v → f v s) : ps_Cl (d + 1) 84 [.ref r0, .ref r1, .int x2, .int x3] s (ps_rI f) :=
  pg_84_0 (d := d) (xs_84_3 (d := d) (r1 := r1) (x2 := x2) (x3 := x3) (x4 := x3)  h1 J k )

-- ProofBench$Rewriter.findRules(LProofBench$Theory;)V
theorem pg_83_0 {d : Nat} {r0 : Nat} {r1 : Nat} {s : ps_S} {Q : Option Value → ps_S → Prop} (h :
  ps_At (d + 1) 83 2 [(0, .ref r0), (1, .ref r1), (2, .int 0)] [] s Q) : ps_At (d + 1) 83 0 [(0, .ref r0), (1, .ref r1)] [] s Q :=
  ps_wp_at (stops := [(2, [0, 1, 2]), (19, [0, 1, 2, 3, 4]), (44, [0, 1, 2, 3, 4]), (109, [0, 1, 2, 5, 6])]) (n := 4) h rfl

theorem pg_83_2 {d : Nat} {r0 : Nat} {r1 : Nat} {x2 : Int32} {s : ps_S} {Q : Option Value → ps_S → Prop} (h :
  ps_nk (ps_is r1 9) (((ps_i s r1 8) ≤ x2 →
    Q none s) ∧
  (x2 < (ps_i s r1 8) →
    ps_nk (ps_is r1 9) (ps_Cl d 135 [.ref r1, .int x2] s (ps_rA (fun v1 s1 =>
      ps_At (d + 1) 83 19 [(0, .ref r0), (1, .ref r1), (2, .int x2), (3, .ref v1), (4, .int 0)] [] s1 Q)))))) : ps_At (d + 1) 83 2 [(0, .ref r0), (1, .ref r1), (2, .int x2)] [] s Q :=
  ps_wp_at (stops := [(2, [0, 1, 2]), (19, [0, 1, 2, 3, 4]), (44, [0, 1, 2, 3, 4]), (109, [0, 1, 2, 5, 6])]) (n := 13) h rfl

theorem pg_83_19 {d : Nat} {r0 : Nat} {r1 : Nat} {x2 : Int32} {r3 : Nat} {x4 : Int32} {s : ps_S} {Q : Option Value → ps_S → Prop} (h :
  ps_nk (ps_is r3 5) (((ps_i s r3 1) ≤ x4 →
    ps_At (d + 1) 83 44 [(0, .ref r0), (1, .ref r1), (2, .int x2), (3, .ref r3), (4, .int x4)] [] s Q) ∧
  (x4 < (ps_i s r3 1) →
    ps_nk (ps_is r3 5) (ps_Cl d 92 [.ref r3, .int x4] s (ps_rI (fun v1 s1 =>
      (v1 ≠ 4 →
        ps_At (d + 1) 83 44 [(0, .ref r0), (1, .ref r1), (2, .int x2), (3, .ref r3), (4, .int x4)] [] s1 Q) ∧
      (v1 = 4 →
        ps_At (d + 1) 83 19 [(0, .ref r0), (1, .ref r1), (2, .int x2), (3, .ref r3), (4, .int (x4 + 1))] [] s1 Q))))))) : ps_At (d + 1) 83 19 [(0, .ref r0), (1, .ref r1), (2, .int x2), (3, .ref r3), (4, .int x4)] [] s Q :=
  ps_wp_at (stops := [(2, [0, 1, 2]), (19, [0, 1, 2, 3, 4]), (44, [0, 1, 2, 3, 4]), (109, [0, 1, 2, 5, 6])]) (n := 13) h rfl

theorem pg_83_44 {d : Nat} {r0 : Nat} {r1 : Nat} {x2 : Int32} {r3 : Nat} {x4 : Int32} {s : ps_S} {Q : Option Value → ps_S → Prop} (h :
  ps_nk (ps_is r0 4) (ps_nk (ps_is (ps_c0 r0 3) 6) (ps_Cl d 103 [.ref (ps_c0 r0 3), .ref r3, .ref r1] s (ps_rV (fun s1 =>
    ps_nk (ps_is r0 4) (ps_nk (ps_is (ps_c0 r0 3) 6) (ps_Cl d 104 [.ref (ps_c0 r0 3), .int (x4 + 1)] s1 (ps_rI (fun v2 s2 =>
      ps_nk (ps_is r3 5) (ps_Cl d 92 [.ref r3, .int x4] s2 (ps_rI (fun v3 s3 =>
        (v3 ≠ 6 →
          ps_At (d + 1) 83 109 [(0, .ref r0), (1, .ref r1), (2, .int x2), (5, .int (x4 + 1)), (6, .int v2)] [] s3 Q) ∧
        (v3 = 6 →
          ps_nk (ps_is r3 5) (ps_Cl d 92 [.ref r3, .int (x4 + 1)] s3 (ps_rI (fun v4 s4 =>
            ps_Cl d 186 [.int v4] s4 (ps_rI (fun v5 s5 =>
              (v5 = 0 →
                ps_At (d + 1) 83 109 [(0, .ref r0), (1, .ref r1), (2, .int x2), (5, .int (x4 + 1)), (6, .int v2)] [] s5 Q) ∧
              (v5 ≠ 0 →
                ps_nk (ps_is r0 4) (ps_Cl d 84 [.ref r0, .ref r3, .int (x4 + 1), .int v2] s5 (ps_rI (fun v6 s6 =>
                  (v6 = 0 →
                    ps_At (d + 1) 83 109 [(0, .ref r0), (1, .ref r1), (2, .int x2), (5, .int (x4 + 1)), (6, .int v2)] [] s6 Q) ∧
                  (v6 ≠ 0 →
                    ps_nk (ps_is r0 4) (ps_Cl d 183 [.ref (ps_c0 r0 6), .int x2, .int (x4 + 1)] s6 (ps_rV (fun s7 =>
                      ps_nk (ps_is r0 4) (((1 : Int32) = 0 →
                        ps_Cl d 183 [.ref (ps_c0 r0 7), .int x2, .int (-1)] s7 (ps_rV (fun s8 =>
                          ps_At (d + 1) 83 2 [(0, .ref r0), (1, .ref r1), (2, .int (x2 + 1))] [] s8 Q))) ∧
                      ((1 : Int32) ≠ 0 →
                        ps_Cl d 183 [.ref (ps_c0 r0 7), .int x2, .int v2] s7 (ps_rV (fun s9 =>
                          ps_At (d + 1) 83 2 [(0, .ref r0), (1, .ref r1), (2, .int (x2 + 1))] [] s9 Q)))))))))))))))))))))))))))))) : ps_At (d + 1) 83 44 [(0, .ref r0), (1, .ref r1), (2, .int x2), (3, .ref r3), (4, .int x4)] [] s Q :=
  ps_wp_at (stops := [(2, [0, 1, 2]), (19, [0, 1, 2, 3, 4]), (44, [0, 1, 2, 3, 4]), (109, [0, 1, 2, 5, 6])]) (n := 54) h rfl

theorem pg_83_109 {d : Nat} {r0 : Nat} {r1 : Nat} {x2 : Int32} {x5 : Int32} {x6 : Int32} {s : ps_S} {Q : Option Value → ps_S → Prop} (h :
  ps_nk (ps_is r0 4) (ps_Cl d 183 [.ref (ps_c0 r0 6), .int x2, .int x5] s (ps_rV (fun s1 =>
    ps_nk (ps_is r0 4) (((0 : Int32) = 0 →
      ps_Cl d 183 [.ref (ps_c0 r0 7), .int x2, .int (-1)] s1 (ps_rV (fun s2 =>
        ps_At (d + 1) 83 2 [(0, .ref r0), (1, .ref r1), (2, .int (x2 + 1))] [] s2 Q))) ∧
    ((0 : Int32) ≠ 0 →
      ps_Cl d 183 [.ref (ps_c0 r0 7), .int x2, .int x6] s1 (ps_rV (fun s3 =>
        ps_At (d + 1) 83 2 [(0, .ref r0), (1, .ref r1), (2, .int (x2 + 1))] [] s3 Q)))))))) : ps_At (d + 1) 83 109 [(0, .ref r0), (1, .ref r1), (2, .int x2), (5, .int x5), (6, .int x6)] [] s Q :=
  ps_wp_at (stops := [(2, [0, 1, 2]), (19, [0, 1, 2, 3, 4]), (44, [0, 1, 2, 3, 4]), (109, [0, 1, 2, 5, 6])]) (n := 23) h rfl

theorem xs_83_109 {m s : ps_S} {t : Int32} {d : Nat} {r0 : Nat} {r1 : Nat} {x2 : Int32} {x5 : Int32} {x6 : Int32} {Q : Option Value → ps_S → Prop} (h0 : ps_is r0 4 = true) (h1 : ps_is r1 9 = true) (J : xJ m t s) (k : ∀ (s' : ps_S), xJ m t s' → Q none s') (K2 : ∀ (s : ps_S), ps_is r0 4 = true → ps_is r1 9 = true → xJ m t s → ps_At (d + 2) 83 2 [(0, .ref r0), (1, .ref r1), (2, .int (x2 + 1))] [] s Q) : ps_At (d + 2) 83 109 [(0, .ref r0), (1, .ref r1), (2, .int x2), (5, .int x5), (6, .int x6)] [] s Q :=
  pg_83_109 (d := d + 1) (ps_nk_i h0 (xs_183 (xk_4_6 h0) J (fun s1 J1 e1 => (ps_nk_i h0 (And.intro (fun f1 => (xs_183 (xk_4_7 h0) J1 (fun s2 J2 e2 => (K2 s2 h0 h1 J2)))) (fun f1 => (xs_183 (xk_4_7 h0) J1 (fun s3 J3 e3 => (K2 s3 h0 h1 J3)))))))))

theorem xs_83_44 {m s : ps_S} {t : Int32} {d : Nat} {r0 : Nat} {r1 : Nat} {x2 : Int32} {r3 : Nat} {x4 : Int32} {Q : Option Value → ps_S → Prop} (h0 : ps_is r0 4 = true) (h1 : ps_is r1 9 = true) (h3 : ps_is r3 5 = true) (J : xJ m t s) (k : ∀ (s' : ps_S), xJ m t s' → Q none s') (K2 : ∀ (s : ps_S), ps_is r0 4 = true → ps_is r1 9 = true → xJ m t s → ps_At (d + 2) 83 2 [(0, .ref r0), (1, .ref r1), (2, .int (x2 + 1))] [] s Q) : ps_At (d + 2) 83 44 [(0, .ref r0), (1, .ref r1), (2, .int x2), (3, .ref r3), (4, .int x4)] [] s Q :=
  pg_83_44 (d := d + 1) (ps_nk_i h0 (ps_nk_i (xk_4_3 h0) (xs_103 (xk_4_3 h0) h3 h1 J (fun s1 J1 => (ps_nk_i h0 (ps_nk_i (xk_4_3 h0) (xs_104 (xk_4_3 h0) J1 (fun v2 => (ps_nk_i h3 (xs_92 h3 J1 (fun v3 => (And.intro (fun f1 => (xs_83_109 (d := d) (r0 := r0) (r1 := r1) (x2 := x2) (x5 := (x4 + 1)) (x6 := v2)  h0 h1 J1 k K2)) (fun f1 => (ps_nk_i h3 (xs_92 h3 J1 (fun v4 => (xs_186  J1 (fun v5 b5 => (And.intro (fun f2 => (xs_83_109 (d := d) (r0 := r0) (r1 := r1) (x2 := x2) (x5 := (x4 + 1)) (x6 := v2)  h0 h1 J1 k K2)) (fun f2 => (ps_nk_i h0 (xs_84 h0 h3 J1 (fun v6 b6 => (And.intro (fun f3 => (xs_83_109 (d := d) (r0 := r0) (r1 := r1) (x2 := x2) (x5 := (x4 + 1)) (x6 := v2)  h0 h1 J1 k K2)) (fun f3 => (ps_nk_i h0 (xs_183 (xk_4_6 h0) J1 (fun s7 J7 e7 => (ps_nk_i h0 (And.intro (fun f4 => (xs_183 (xk_4_7 h0) J7 (fun s8 J8 e8 => (K2 s8 h0 h1 J8)))) (fun f4 => (xs_183 (xk_4_7 h0) J7 (fun s9 J9 e9 => (K2 s9 h0 h1 J9))))))))))))))))))))))))))))))))))

theorem xs_83_19 {m s : ps_S} {t : Int32} {d : Nat} {r0 : Nat} {r1 : Nat} {x2 : Int32} {r3 : Nat} {x4 : Int32} {Q : Option Value → ps_S → Prop} (h0 : ps_is r0 4 = true) (h1 : ps_is r1 9 = true) (h3 : ps_is r3 5 = true) (J : xJ m t s) (k : ∀ (s' : ps_S), xJ m t s' → Q none s') (K2 : ∀ (s : ps_S), ps_is r0 4 = true → ps_is r1 9 = true → xJ m t s → ps_At (d + 2) 83 2 [(0, .ref r0), (1, .ref r1), (2, .int (x2 + 1))] [] s Q) : ps_At (d + 2) 83 19 [(0, .ref r0), (1, .ref r1), (2, .int x2), (3, .ref r3), (4, .int x4)] [] s Q :=
  xs_up (P := fun x4 => ∀ (s : ps_S), ps_is r0 4 = true → ps_is r1 9 = true → ps_is r3 5 = true → xJ m t s → ps_At (d + 2) 83 19 [(0, .ref r0), (1, .ref r1), (2, .int x2), (3, .ref r3), (4, .int x4)] [] s Q) (fun x4 ih s h0 h1 h3 J => pg_83_19 (d := d + 1) (ps_nk_i h3 (And.intro (fun f1 => (xs_83_44 (d := d) (r0 := r0) (r1 := r1) (x2 := x2) (r3 := r3) (x4 := x4)  h0 h1 h3 J k K2)) (fun f1 => (ps_nk_i h3 (xs_92 h3 J (fun v1 => (And.intro (fun f2 => (xs_83_44 (d := d) (r0 := r0) (r1 := r1) (x2 := x2) (r3 := r3) (x4 := x4)  h0 h1 h3 J k K2)) (fun f2 => (ih ((x4 + 1)) (xs_lt f1) s h0 h1 h3 J)))))))))) x4 s h0 h1 h3 J

theorem xs_83_2 {m s : ps_S} {t : Int32} {d : Nat} {r0 : Nat} {r1 : Nat} {x2 : Int32} {Q : Option Value → ps_S → Prop} (h0 : ps_is r0 4 = true) (h1 : ps_is r1 9 = true) (J : xJ m t s) (k : ∀ (s' : ps_S), xJ m t s' → Q none s') : ps_At (d + 2) 83 2 [(0, .ref r0), (1, .ref r1), (2, .int x2)] [] s Q :=
  xs_up (P := fun x2 => ∀ (s : ps_S), ps_is r0 4 = true → ps_is r1 9 = true → xJ m t s → ps_At (d + 2) 83 2 [(0, .ref r0), (1, .ref r1), (2, .int x2)] [] s Q) (fun x2 ih s h0 h1 J => pg_83_2 (d := d + 1) (ps_nk_i h1 (And.intro (fun f1 => (k s J)) (fun f1 => (ps_nk_i h1 (xs_135 h1 J (fun v1 g1 => (xs_83_19 (d := d) (r0 := r0) (r1 := r1) (x2 := x2) (r3 := v1) (x4 := 0)  h0 h1 g1 J k (fun s9 h0z h1z J9 => ih (x2 + 1) (xs_lt f1) s9 h0z h1z J9))))))))) x2 s h0 h1 J

theorem xs_83 {m s : ps_S} {t : Int32} {d : Nat} {r0 : Nat} {r1 : Nat} {f : ps_S → Prop} (h0 : ps_is r0 4 = true) (h1 : ps_is r1 9 = true) (J : xJ m t s) (k : ∀ (s' : ps_S), xJ m t s' → f s') : ps_Cl (d + 2) 83 [.ref r0, .ref r1] s (ps_rV f) :=
  pg_83_0 (d := d + 1) (xs_83_2 (d := d) (r0 := r0) (r1 := r1) (x2 := 0)  h0 h1 J k )

-- ProofBench$Rewriter.ruleBits(LProofBench$Theory;)I
theorem pg_82_0 {d : Nat} {r0 : Nat} {r1 : Nat} {s : ps_S} {Q : Option Value → ps_S → Prop} (h :
  ps_nk (ps_is r0 4) (ps_Cl d 83 [.ref r0, .ref r1] s (ps_rV (fun s1 =>
    ps_At (d + 1) 82 9 [(0, .ref r0), (1, .ref r1), (2, .int 0), (3, .int 0)] [] s1 Q)))) : ps_At (d + 1) 82 0 [(0, .ref r0), (1, .ref r1)] [] s Q :=
  ps_wp_at (stops := [(9, [0, 1, 2, 3])]) (n := 9) h rfl

theorem pg_82_9 {d : Nat} {r0 : Nat} {r1 : Nat} {x2 : Int32} {x3 : Int32} {s : ps_S} {Q : Option Value → ps_S → Prop} (h :
  ps_nk (ps_is r1 9) (((ps_i s r1 8) ≤ x3 →
    Q (some (.int x2)) s) ∧
  (x3 < (ps_i s r1 8) →
    ps_nk (ps_is r0 4) (ps_Cl d 182 [.ref (ps_c0 r0 7), .int x3] s (ps_rI (fun v1 s1 =>
      (v1 = (-1) →
        ps_At (d + 1) 82 9 [(0, .ref r0), (1, .ref r1), (2, .int x2), (3, .int (x3 + 1))] [] s1 Q) ∧
      (v1 ≠ (-1) →
        ps_At (d + 1) 82 9 [(0, .ref r0), (1, .ref r1), (2, .int (x2 ||| ((1 : Int32) <<< (x3 &&& 31)))), (3, .int (x3 + 1))] [] s1 Q))))))) : ps_At (d + 1) 82 9 [(0, .ref r0), (1, .ref r1), (2, .int x2), (3, .int x3)] [] s Q :=
  ps_wp_at (stops := [(9, [0, 1, 2, 3])]) (n := 24) h rfl

theorem xs_82_9 {m s : ps_S} {t : Int32} {d : Nat} {r0 : Nat} {r1 : Nat} {x2 : Int32} {x3 : Int32} {Q : Option Value → ps_S → Prop} (h0 : ps_is r0 4 = true) (h1 : ps_is r1 9 = true) (J : xJ m t s) (k : ∀ (v : Int32) (s' : ps_S), xJ m t s' → Q (some (.int v)) s') : ps_At (d + 3) 82 9 [(0, .ref r0), (1, .ref r1), (2, .int x2), (3, .int x3)] [] s Q :=
  xs_up (P := fun x3 => ∀ (x2 : Int32) (s : ps_S), ps_is r0 4 = true → ps_is r1 9 = true → xJ m t s → ps_At (d + 3) 82 9 [(0, .ref r0), (1, .ref r1), (2, .int x2), (3, .int x3)] [] s Q) (fun x3 ih x2 s h0 h1 J => pg_82_9 (d := d + 2) (ps_nk_i h1 (And.intro (fun f1 => (k x2 s J)) (fun f1 => (ps_nk_i h0 (xs_182 (xk_4_7 h0) J (fun v1 => (And.intro (fun f2 => (ih ((x3 + 1)) (xs_lt f1) (x2) s h0 h1 J)) (fun f2 => (ih ((x3 + 1)) (xs_lt f1) ((x2 ||| ((1 : Int32) <<< (x3 &&& 31)))) s h0 h1 J)))))))))) x3 x2 s h0 h1 J

theorem xs_82 {m s : ps_S} {t : Int32} {d : Nat} {r0 : Nat} {r1 : Nat} {f : Int32 → ps_S → Prop} (h0 : ps_is r0 4 = true) (h1 : ps_is r1 9 = true) (J : xJ m t s) (k : ∀ (v : Int32) (s' : ps_S), xJ m t s' → f v s') : ps_Cl (d + 3) 82 [.ref r0, .ref r1] s (ps_rI f) :=
  pg_82_0 (d := d + 2) (ps_nk_i h0 (xs_83 h0 h1 J (fun s1 J1 => (xs_82_9 (d := d) (r0 := r0) (r1 := r1) (x2 := 0) (x3 := 0)  h0 h1 J1 k ))))

-- ProofBench$Rewriter.binds(II)Z
theorem pg_88_0 {d : Nat} {r0 : Nat} {x1 : Int32} {x2 : Int32} {s : ps_S} {Q : Option Value → ps_S → Prop} (h :
  ps_nk (ps_is r0 4) (ps_nk (ps_is (ps_c0 r0 2) 6) (ps_Cl d 104 [.ref (ps_c0 r0 2), .int x2] s (ps_rI (fun v1 s1 =>
    ps_nk (ps_is r0 4) (ps_Cl d 182 [.ref (ps_c0 r0 4), .int x1] s1 (ps_rI (fun v2 s2 =>
      (v2 ≠ (-1) →
        ps_nk (ps_is r0 4) (ps_Cl d 182 [.ref (ps_c0 r0 5), .int x1] s2 (ps_rI (fun v3 s3 =>
          ((v1 - x2) ≠ (v3 - v2) →
            Q (some (.int 0)) s3) ∧
          ((v1 - x2) = (v3 - v2) →
            ps_nk (ps_is r0 4) (ps_nk (ps_is r0 4) (ps_nk (ps_is (ps_c0 r0 0) 5) (ps_Cl d 99 [.ref (ps_c0 r0 0), .int x2, .int v1, .ref (ps_c0 r0 0), .int v2] s3 (ps_rI (fun v4 s4 =>
              (v4 = 0 →
                Q (some (.int 0)) s4) ∧
              (v4 ≠ 0 →
                Q (some (.int 1)) s4))))))))))) ∧
      (v2 = (-1) →
        ps_nk (ps_is r0 4) (ps_Cl d 183 [.ref (ps_c0 r0 4), .int x1, .int x2] s2 (ps_rV (fun s5 =>
          ps_nk (ps_is r0 4) (ps_Cl d 183 [.ref (ps_c0 r0 5), .int x1, .int v1] s5 (ps_rV (fun s6 =>
            Q (some (.int 1)) s6))))))))))))))) : ps_At (d + 1) 88 0 [(0, .ref r0), (1, .int x1), (2, .int x2)] [] s Q :=
  ps_wp_at (stops := []) (n := 53) h rfl

theorem xs_88 {m s : ps_S} {t : Int32} {d : Nat} {r0 : Nat} {x1 : Int32} {x2 : Int32} {f : Int32 → ps_S → Prop} (h0 : ps_is r0 4 = true) (J : xJ m t s) (k : ∀ (v : Int32) (s' : ps_S), v &&& 1 = v → xJ m t s' → f v s') : ps_Cl (d + 2) 88 [.ref r0, .int x1, .int x2] s (ps_rI f) :=
  pg_88_0 (d := d + 1) (ps_nk_i h0 (ps_nk_i (xk_4_2 h0) (xs_104 (xk_4_2 h0) J (fun v1 => (ps_nk_i h0 (xs_182 (xk_4_4 h0) J (fun v2 => (And.intro (fun f1 => (ps_nk_i h0 (xs_182 (xk_4_5 h0) J (fun v3 => (And.intro (fun f2 => (k 0 s (by decide) J)) (fun f2 => (ps_nk_i h0 (ps_nk_i h0 (ps_nk_i (xk_4_0 h0) (xs_99 (xk_4_0 h0) (xk_4_0 h0) J (fun v4 b4 => (And.intro (fun f3 => (k 0 s (by decide) J)) (fun f3 => (k 1 s (by decide) J)))))))))))))) (fun f1 => (ps_nk_i h0 (xs_183 (xk_4_4 h0) J (fun s5 J5 e5 => (ps_nk_i h0 (xs_183 (xk_4_5 h0) J5 (fun s6 J6 e6 => (k 1 s6 (by decide) J6))))))))))))))))

-- ProofBench$Rewriter.stands(LProofBench$Row;III)Z
theorem pg_87_0 {d : Nat} {r0 : Nat} {r1 : Nat} {x2 : Int32} {x3 : Int32} {x4 : Int32} {s : ps_S} {Q : Option Value → ps_S → Prop} (h :
  ps_At (d + 1) 87 3 [(0, .ref r0), (1, .ref r1), (2, .int x2), (3, .int x3), (4, .int x4), (5, .int 0)] [] s Q) : ps_At (d + 1) 87 0 [(0, .ref r0), (1, .ref r1), (2, .int x2), (3, .int x3), (4, .int x4)] [] s Q :=
  ps_wp_at (stops := [(3, [0, 1, 2, 3, 4, 5]), (32, [0, 1, 3, 5, 6])]) (n := 4) h rfl

theorem pg_87_3 {d : Nat} {r0 : Nat} {r1 : Nat} {x2 : Int32} {x3 : Int32} {x4 : Int32} {x5 : Int32} {s : ps_S} {Q : Option Value → ps_S → Prop} (h :
  (5 ≤ x5 →
    ps_At (d + 1) 87 32 [(0, .ref r0), (1, .ref r1), (3, .int x3), (5, .int x4), (6, .int x2)] [] s Q) ∧
  (x5 < 5 →
    ps_nk (ps_is r0 4) (ps_Cl d 183 [.ref (ps_c0 r0 4), .int x5, .int (-1)] s (ps_rV (fun s1 =>
      ps_At (d + 1) 87 3 [(0, .ref r0), (1, .ref r1), (2, .int x2), (3, .int x3), (4, .int x4), (5, .int (x5 + 1))] [] s1 Q))))) : ps_At (d + 1) 87 3 [(0, .ref r0), (1, .ref r1), (2, .int x2), (3, .int x3), (4, .int x4), (5, .int x5)] [] s Q :=
  ps_wp_at (stops := [(3, [0, 1, 2, 3, 4, 5]), (32, [0, 1, 3, 5, 6])]) (n := 16) h rfl

theorem pg_87_32 {d : Nat} {r0 : Nat} {r1 : Nat} {x3 : Int32} {x5 : Int32} {x6 : Int32} {s : ps_S} {Q : Option Value → ps_S → Prop} (h :
  (x3 ≤ x6 →
    Q (some (.int 1)) s) ∧
  (x6 < x3 →
    ps_nk (ps_is r1 5) (ps_Cl d 92 [.ref r1, .int x6] s (ps_rI (fun v1 s1 =>
      ps_Cl d 185 [.int v1] s1 (ps_rI (fun v2 s2 =>
        (v2 = 0 →
          ps_nk (ps_is r0 4) (ps_nk (ps_is (ps_c0 r0 0) 5) (ps_Cl d 92 [.ref (ps_c0 r0 0), .int x5] s2 (ps_rI (fun v3 s3 =>
            (v1 ≠ v3 →
              Q (some (.int 0)) s3) ∧
            (v1 = v3 →
              ps_At (d + 1) 87 32 [(0, .ref r0), (1, .ref r1), (3, .int x3), (5, .int (x5 + 1)), (6, .int (x6 + 1))] [] s3 Q)))))) ∧
        (v2 ≠ 0 →
          ps_nk (ps_is r0 4) (ps_Cl d 88 [.ref r0, .int (v1 - 40), .int x5] s2 (ps_rI (fun v4 s4 =>
            (v4 ≠ 0 →
              ps_nk (ps_is r0 4) (ps_nk (ps_is (ps_c0 r0 2) 6) (ps_Cl d 104 [.ref (ps_c0 r0 2), .int x5] s4 (ps_rI (fun v5 s5 =>
                ps_At (d + 1) 87 32 [(0, .ref r0), (1, .ref r1), (3, .int x3), (5, .int v5), (6, .int (x6 + 1))] [] s5 Q))))) ∧
            (v4 = 0 →
              Q (some (.int 0)) s4)))))))))))) : ps_At (d + 1) 87 32 [(0, .ref r0), (1, .ref r1), (3, .int x3), (5, .int x5), (6, .int x6)] [] s Q :=
  ps_wp_at (stops := [(3, [0, 1, 2, 3, 4, 5]), (32, [0, 1, 3, 5, 6])]) (n := 43) h rfl

theorem xs_87_32 {m s : ps_S} {t : Int32} {d : Nat} {r0 : Nat} {r1 : Nat} {x3 : Int32} {x5 : Int32} {x6 : Int32} {Q : Option Value → ps_S → Prop} (h0 : ps_is r0 4 = true) (h1 : ps_is r1 5 = true) (J : xJ m t s) (k : ∀ (v : Int32) (s' : ps_S), v &&& 1 = v → xJ m t s' → Q (some (.int v)) s') : ps_At (d + 3) 87 32 [(0, .ref r0), (1, .ref r1), (3, .int x3), (5, .int x5), (6, .int x6)] [] s Q :=
  xs_up (P := fun x6 => ∀ (x5 : Int32) (s : ps_S), ps_is r0 4 = true → ps_is r1 5 = true → xJ m t s → ps_At (d + 3) 87 32 [(0, .ref r0), (1, .ref r1), (3, .int x3), (5, .int x5), (6, .int x6)] [] s Q) (fun x6 ih x5 s h0 h1 J => pg_87_32 (d := d + 2) (And.intro (fun f1 => (k 1 s (by decide) J)) (fun f1 => (ps_nk_i h1 (xs_92 h1 J (fun v1 => (xs_185  J (fun v2 b2 => (And.intro (fun f2 => (ps_nk_i h0 (ps_nk_i (xk_4_0 h0) (xs_92 (xk_4_0 h0) J (fun v3 => (And.intro (fun f3 => (k 0 s (by decide) J)) (fun f3 => (ih ((x6 + 1)) (xs_lt f1) ((x5 + 1)) s h0 h1 J)))))))) (fun f2 => (ps_nk_i h0 (xs_88 h0 J (fun v4 s4 b4 J4 => (And.intro (fun f4 => (ps_nk_i h0 (ps_nk_i (xk_4_2 h0) (xs_104 (xk_4_2 h0) J4 (fun v5 => (ih ((x6 + 1)) (xs_lt f1) (v5) s4 h0 h1 J4)))))) (fun f4 => (k 0 s4 (by decide) J4)))))))))))))))) x6 x5 s h0 h1 J

theorem xs_87_3 {m s : ps_S} {t : Int32} {d : Nat} {r0 : Nat} {r1 : Nat} {x2 : Int32} {x3 : Int32} {x4 : Int32} {x5 : Int32} {Q : Option Value → ps_S → Prop} (h0 : ps_is r0 4 = true) (h1 : ps_is r1 5 = true) (J : xJ m t s) (k : ∀ (v : Int32) (s' : ps_S), v &&& 1 = v → xJ m t s' → Q (some (.int v)) s') : ps_At (d + 3) 87 3 [(0, .ref r0), (1, .ref r1), (2, .int x2), (3, .int x3), (4, .int x4), (5, .int x5)] [] s Q :=
  xs_up (P := fun x5 => ∀ (s : ps_S), ps_is r0 4 = true → ps_is r1 5 = true → xJ m t s → ps_At (d + 3) 87 3 [(0, .ref r0), (1, .ref r1), (2, .int x2), (3, .int x3), (4, .int x4), (5, .int x5)] [] s Q) (fun x5 ih s h0 h1 J => pg_87_3 (d := d + 2) (And.intro (fun f1 => (xs_87_32 (d := d) (r0 := r0) (r1 := r1) (x3 := x3) (x5 := x4) (x6 := x2)  h0 h1 J k )) (fun f1 => (ps_nk_i h0 (xs_183 (xk_4_4 h0) J (fun s1 J1 e1 => (ih ((x5 + 1)) (xs_lt f1) s1 h0 h1 J1))))))) x5 s h0 h1 J

theorem xs_87 {m s : ps_S} {t : Int32} {d : Nat} {r0 : Nat} {r1 : Nat} {x2 : Int32} {x3 : Int32} {x4 : Int32} {f : Int32 → ps_S → Prop} (h0 : ps_is r0 4 = true) (h1 : ps_is r1 5 = true) (J : xJ m t s) (k : ∀ (v : Int32) (s' : ps_S), v &&& 1 = v → xJ m t s' → f v s') : ps_Cl (d + 3) 87 [.ref r0, .ref r1, .int x2, .int x3, .int x4] s (ps_rI f) :=
  pg_87_0 (d := d + 2) (xs_87_3 (d := d) (r0 := r0) (r1 := r1) (x2 := x2) (x3 := x3) (x4 := x4) (x5 := 0)  h0 h1 J k )

-- ProofBench$Rewriter.putRight(LProofBench$Row;II)V
theorem pg_89_0 {d : Nat} {r0 : Nat} {r1 : Nat} {x2 : Int32} {x3 : Int32} {s : ps_S} {Q : Option Value → ps_S → Prop} (h :
  ps_nk (ps_is r0 4) (ps_nk (ps_is (ps_c0 r0 1) 5) (ps_Cl d 91 [.ref (ps_c0 r0 1)] s (ps_rV (fun s1 =>
    ps_nk (ps_is r0 4) (ps_nk (ps_is r0 4) (ps_nk (ps_is (ps_c0 r0 1) 5) (ps_Cl d 94 [.ref (ps_c0 r0 1), .ref (ps_c0 r0 0), .int 0, .int x3] s1 (ps_rV (fun s2 =>
      ps_At (d + 1) 89 23 [(0, .ref r0), (1, .ref r1), (3, .int x3), (4, .int x2)] [] s2 Q)))))))))) : ps_At (d + 1) 89 0 [(0, .ref r0), (1, .ref r1), (2, .int x2), (3, .int x3)] [] s Q :=
  ps_wp_at (stops := [(23, [0, 1, 3, 4])]) (n := 14) h rfl

theorem pg_89_23 {d : Nat} {r0 : Nat} {r1 : Nat} {x3 : Int32} {x4 : Int32} {s : ps_S} {Q : Option Value → ps_S → Prop} (h :
  ps_nk (ps_is r1 5) (((ps_i s r1 1) ≤ x4 →
    ps_nk (ps_is r0 4) (ps_nk (ps_is r0 4) (ps_nk (ps_is r0 4) (ps_nk (ps_is (ps_c0 r0 2) 6) (ps_Cl d 104 [.ref (ps_c0 r0 2), .int x3] s (ps_rI (fun v1 s1 =>
      ps_nk (ps_is r0 4) (ps_nk (ps_is (ps_c0 r0 0) 5) (ps_nk (ps_is (ps_c0 r0 1) 5) (ps_Cl d 94 [.ref (ps_c0 r0 1), .ref (ps_c0 r0 0), .int v1, .int (ps_i s1 (ps_c0 r0 0) 1)] s1 (ps_rV (fun s2 =>
        Q none s2)))))))))))) ∧
  (x4 < (ps_i s r1 1) →
    ps_nk (ps_is r1 5) (ps_Cl d 92 [.ref r1, .int x4] s (ps_rI (fun v3 s3 =>
      ps_Cl d 185 [.int v3] s3 (ps_rI (fun v4 s4 =>
        (v4 = 0 →
          ps_nk (ps_is r0 4) (ps_nk (ps_is (ps_c0 r0 1) 5) (ps_Cl d 93 [.ref (ps_c0 r0 1), .int v3] s4 (ps_rV (fun s5 =>
            ps_At (d + 1) 89 23 [(0, .ref r0), (1, .ref r1), (3, .int x3), (4, .int (x4 + 1))] [] s5 Q))))) ∧
        (v4 ≠ 0 →
          ps_nk (ps_is r0 4) (ps_nk (ps_is r0 4) (ps_nk (ps_is r0 4) (ps_Cl d 182 [.ref (ps_c0 r0 4), .int (v3 - 40)] s4 (ps_rI (fun v6 s6 =>
            ps_nk (ps_is r0 4) (ps_Cl d 182 [.ref (ps_c0 r0 5), .int (v3 - 40)] s6 (ps_rI (fun v7 s7 =>
              ps_nk (ps_is (ps_c0 r0 1) 5) (ps_Cl d 94 [.ref (ps_c0 r0 1), .ref (ps_c0 r0 0), .int v6, .int v7] s7 (ps_rV (fun s8 =>
                ps_At (d + 1) 89 23 [(0, .ref r0), (1, .ref r1), (3, .int x3), (4, .int (x4 + 1))] [] s8 Q)))))))))))))))))))) : ps_At (d + 1) 89 23 [(0, .ref r0), (1, .ref r1), (3, .int x3), (4, .int x4)] [] s Q :=
  ps_wp_at (stops := [(23, [0, 1, 3, 4])]) (n := 52) h rfl

theorem xs_89_23 {m s : ps_S} {t : Int32} {d : Nat} {r0 : Nat} {r1 : Nat} {x3 : Int32} {x4 : Int32} {Q : Option Value → ps_S → Prop} (h0 : ps_is r0 4 = true) (h1 : ps_is r1 5 = true) (J : xJ m t s) (k : ∀ (s' : ps_S), xJ m t s' → Q none s') : ps_At (d + 2) 89 23 [(0, .ref r0), (1, .ref r1), (3, .int x3), (4, .int x4)] [] s Q :=
  xs_up (P := fun x4 => ∀ (s : ps_S), ps_is r0 4 = true → ps_is r1 5 = true → xJ m t s → ps_At (d + 2) 89 23 [(0, .ref r0), (1, .ref r1), (3, .int x3), (4, .int x4)] [] s Q) (fun x4 ih s h0 h1 J => pg_89_23 (d := d + 1) (ps_nk_i h1 (And.intro (fun f1 => (ps_nk_i h0 (ps_nk_i h0 (ps_nk_i h0 (ps_nk_i (xk_4_2 h0) (xs_104 (xk_4_2 h0) J (fun v1 => (ps_nk_i h0 (ps_nk_i (xk_4_0 h0) (ps_nk_i (xk_4_1 h0) (xs_94 (xk_4_1 h0) (xk_4_0 h0) J (fun s2 J2 => (k s2 J2))))))))))))) (fun f1 => (ps_nk_i h1 (xs_92 h1 J (fun v3 => (xs_185  J (fun v4 b4 => (And.intro (fun f2 => (ps_nk_i h0 (ps_nk_i (xk_4_1 h0) (xs_93 (xk_4_1 h0) J (fun s5 J5 => (ih ((x4 + 1)) (xs_lt f1) s5 h0 h1 J5)))))) (fun f2 => (ps_nk_i h0 (ps_nk_i h0 (ps_nk_i h0 (xs_182 (xk_4_4 h0) J (fun v6 => (ps_nk_i h0 (xs_182 (xk_4_5 h0) J (fun v7 => (ps_nk_i (xk_4_1 h0) (xs_94 (xk_4_1 h0) (xk_4_0 h0) J (fun s8 J8 => (ih ((x4 + 1)) (xs_lt f1) s8 h0 h1 J8))))))))))))))))))))))) x4 s h0 h1 J

theorem xs_89 {m s : ps_S} {t : Int32} {d : Nat} {r0 : Nat} {r1 : Nat} {x2 : Int32} {x3 : Int32} {f : ps_S → Prop} (h0 : ps_is r0 4 = true) (h1 : ps_is r1 5 = true) (J : xJ m t s) (k : ∀ (s' : ps_S), xJ m t s' → f s') : ps_Cl (d + 2) 89 [.ref r0, .ref r1, .int x2, .int x3] s (ps_rV f) :=
  pg_89_0 (d := d + 1) (ps_nk_i h0 (ps_nk_i (xk_4_1 h0) (xs_91 (xk_4_1 h0) J (fun s1 J1 => (ps_nk_i h0 (ps_nk_i h0 (ps_nk_i (xk_4_1 h0) (xs_94 (xk_4_1 h0) (xk_4_0 h0) J1 (fun s2 J2 => (xs_89_23 (d := d) (r0 := r0) (r1 := r1) (x3 := x3) (x4 := x2)  h0 h1 J2 k ))))))))))

-- ProofBench$Rewriter.goOn(LProofBench$Theory;)Z
theorem pg_86_0 {d : Nat} {r0 : Nat} {r1 : Nat} {s : ps_S} {Q : Option Value → ps_S → Prop} (h :
  ps_At (d + 1) 86 2 [(0, .ref r0), (1, .ref r1), (2, .int 0)] [] s Q) : ps_At (d + 1) 86 0 [(0, .ref r0), (1, .ref r1)] [] s Q :=
  ps_wp_at (stops := [(2, [0, 1, 2]), (15, [0, 1, 2, 3])]) (n := 4) h rfl

theorem pg_86_2 {d : Nat} {r0 : Nat} {r1 : Nat} {x2 : Int32} {s : ps_S} {Q : Option Value → ps_S → Prop} (h :
  ps_nk (ps_is r0 4) (ps_nk (ps_is (ps_c0 r0 0) 5) (((ps_i s (ps_c0 r0 0) 1) ≤ x2 →
    Q (some (.int 0)) s) ∧
  (x2 < (ps_i s (ps_c0 r0 0) 1) →
    ps_At (d + 1) 86 15 [(0, .ref r0), (1, .ref r1), (2, .int x2), (3, .int 0)] [] s Q)))) : ps_At (d + 1) 86 2 [(0, .ref r0), (1, .ref r1), (2, .int x2)] [] s Q :=
  ps_wp_at (stops := [(2, [0, 1, 2]), (15, [0, 1, 2, 3])]) (n := 11) h rfl

theorem pg_86_15 {d : Nat} {r0 : Nat} {r1 : Nat} {x2 : Int32} {x3 : Int32} {s : ps_S} {Q : Option Value → ps_S → Prop} (h :
  ps_nk (ps_is r1 9) (((ps_i s r1 8) ≤ x3 →
    ps_At (d + 1) 86 2 [(0, .ref r0), (1, .ref r1), (2, .int (x2 + 1))] [] s Q) ∧
  (x3 < (ps_i s r1 8) →
    ps_nk (ps_is r0 4) (ps_nk (ps_is (ps_c0 r0 0) 5) (ps_Cl d 92 [.ref (ps_c0 r0 0), .int x2] s (ps_rI (fun v1 s1 =>
      ps_Cl d 186 [.int v1] s1 (ps_rI (fun v2 s2 =>
        (v2 = 0 →
          ps_At (d + 1) 86 2 [(0, .ref r0), (1, .ref r1), (2, .int (x2 + 1))] [] s2 Q) ∧
        (v2 ≠ 0 →
          ps_nk (ps_is r0 4) (ps_Cl d 182 [.ref (ps_c0 r0 7), .int x3] s2 (ps_rI (fun v3 s3 =>
            (v3 = (-1) →
              ps_At (d + 1) 86 15 [(0, .ref r0), (1, .ref r1), (2, .int x2), (3, .int (x3 + 1))] [] s3 Q) ∧
            (v3 ≠ (-1) →
              ps_nk (ps_is r1 9) (ps_Cl d 135 [.ref r1, .int x3] s3 (ps_rA (fun v4 s4 =>
                ps_nk (ps_is r0 4) (ps_Cl d 182 [.ref (ps_c0 r0 6), .int x3] s4 (ps_rI (fun v5 s5 =>
                  ps_nk (ps_is r0 4) (ps_Cl d 87 [.ref r0, .ref v4, .int v5, .int v3, .int x2] s5 (ps_rI (fun v6 s6 =>
                    (v6 = 0 →
                      ps_At (d + 1) 86 15 [(0, .ref r0), (1, .ref r1), (2, .int x2), (3, .int (x3 + 1))] [] s6 Q) ∧
                    (v6 ≠ 0 →
                      ps_nk (ps_is r1 9) (ps_Cl d 135 [.ref r1, .int x3] s6 (ps_rA (fun v7 s7 =>
                        ps_nk (ps_is r0 4) (ps_Cl d 89 [.ref r0, .ref v7, .int v3, .int x2] s7 (ps_rV (fun s8 =>
                          Q (some (.int 1)) s8)))))))))))))))))))))))))))))) : ps_At (d + 1) 86 15 [(0, .ref r0), (1, .ref r1), (2, .int x2), (3, .int x3)] [] s Q :=
  ps_wp_at (stops := [(2, [0, 1, 2]), (15, [0, 1, 2, 3])]) (n := 49) h rfl

theorem xs_86_15 {m s : ps_S} {t : Int32} {d : Nat} {r0 : Nat} {r1 : Nat} {x2 : Int32} {x3 : Int32} {Q : Option Value → ps_S → Prop} (h0 : ps_is r0 4 = true) (h1 : ps_is r1 9 = true) (J : xJ m t s) (k : ∀ (v : Int32) (s' : ps_S), v &&& 1 = v → xJ m t s' → Q (some (.int v)) s') (K2 : ∀ (s : ps_S), ps_is r0 4 = true → ps_is r1 9 = true → xJ m t s → ps_At (d + 4) 86 2 [(0, .ref r0), (1, .ref r1), (2, .int (x2 + 1))] [] s Q) : ps_At (d + 4) 86 15 [(0, .ref r0), (1, .ref r1), (2, .int x2), (3, .int x3)] [] s Q :=
  xs_up (P := fun x3 => ∀ (s : ps_S), ps_is r0 4 = true → ps_is r1 9 = true → xJ m t s → ps_At (d + 4) 86 15 [(0, .ref r0), (1, .ref r1), (2, .int x2), (3, .int x3)] [] s Q) (fun x3 ih s h0 h1 J => pg_86_15 (d := d + 3) (ps_nk_i h1 (And.intro (fun f1 => (K2 s h0 h1 J)) (fun f1 => (ps_nk_i h0 (ps_nk_i (xk_4_0 h0) (xs_92 (xk_4_0 h0) J (fun v1 => (xs_186  J (fun v2 b2 => (And.intro (fun f2 => (K2 s h0 h1 J)) (fun f2 => (ps_nk_i h0 (xs_182 (xk_4_7 h0) J (fun v3 => (And.intro (fun f3 => (ih ((x3 + 1)) (xs_lt f1) s h0 h1 J)) (fun f3 => (ps_nk_i h1 (xs_135 h1 J (fun v4 g4 => (ps_nk_i h0 (xs_182 (xk_4_6 h0) J (fun v5 => (ps_nk_i h0 (xs_87 h0 g4 J (fun v6 s6 b6 J6 => (And.intro (fun f4 => (ih ((x3 + 1)) (xs_lt f1) s6 h0 h1 J6)) (fun f4 => (ps_nk_i h1 (xs_135 h1 J6 (fun v7 g7 => (ps_nk_i h0 (xs_89 h0 g7 J6 (fun s8 J8 => (k 1 s8 (by decide) J8))))))))))))))))))))))))))))))))))) x3 s h0 h1 J

theorem xs_86_2 {m s : ps_S} {t : Int32} {d : Nat} {r0 : Nat} {r1 : Nat} {x2 : Int32} {Q : Option Value → ps_S → Prop} (h0 : ps_is r0 4 = true) (h1 : ps_is r1 9 = true) (J : xJ m t s) (k : ∀ (v : Int32) (s' : ps_S), v &&& 1 = v → xJ m t s' → Q (some (.int v)) s') : ps_At (d + 4) 86 2 [(0, .ref r0), (1, .ref r1), (2, .int x2)] [] s Q :=
  xs_up (P := fun x2 => ∀ (s : ps_S), ps_is r0 4 = true → ps_is r1 9 = true → xJ m t s → ps_At (d + 4) 86 2 [(0, .ref r0), (1, .ref r1), (2, .int x2)] [] s Q) (fun x2 ih s h0 h1 J => pg_86_2 (d := d + 3) (ps_nk_i h0 (ps_nk_i (xk_4_0 h0) (And.intro (fun f1 => (k 0 s (by decide) J)) (fun f1 => (xs_86_15 (d := d) (r0 := r0) (r1 := r1) (x2 := x2) (x3 := 0)  h0 h1 J k (fun s9 h0z h1z J9 => ih (x2 + 1) (xs_lt f1) s9 h0z h1z J9))))))) x2 s h0 h1 J

theorem xs_86 {m s : ps_S} {t : Int32} {d : Nat} {r0 : Nat} {r1 : Nat} {f : Int32 → ps_S → Prop} (h0 : ps_is r0 4 = true) (h1 : ps_is r1 9 = true) (J : xJ m t s) (k : ∀ (v : Int32) (s' : ps_S), v &&& 1 = v → xJ m t s' → f v s') : ps_Cl (d + 4) 86 [.ref r0, .ref r1] s (ps_rI f) :=
  pg_86_0 (d := d + 3) (xs_86_2 (d := d) (r0 := r0) (r1 := r1) (x2 := 0)  h0 h1 J k )

-- ProofBench$Rewriter.makeNormal(LProofBench$Theory;)I
theorem pg_85_0 {d : Nat} {r0 : Nat} {r1 : Nat} {s : ps_S} {Q : Option Value → ps_S → Prop} (h :
  ps_nk (ps_is r0 4) (ps_Cl d 83 [.ref r0, .ref r1] s (ps_rV (fun s1 =>
    ps_nk (ps_is r0 4) (ps_nk (ps_is r0 4) (ps_nk (ps_is (ps_c0 r0 2) 6) (ps_Cl d 103 [.ref (ps_c0 r0 2), .ref (ps_c0 r0 0), .ref r1] s1 (ps_rV (fun s2 =>
      ps_At (d + 1) 85 19 [(0, .ref r0), (1, .ref r1), (2, .int 0)] [] s2 Q))))))))) : ps_At (d + 1) 85 0 [(0, .ref r0), (1, .ref r1)] [] s Q :=
  ps_wp_at (stops := [(19, [0, 1, 2]), (87, [0])]) (n := 13) h rfl

theorem pg_85_19 {d : Nat} {r0 : Nat} {r1 : Nat} {x2 : Int32} {s : ps_S} {Q : Option Value → ps_S → Prop} (h :
  (60 < x2 →
    ps_At (d + 1) 85 87 [(0, .ref r0)] [] s Q) ∧
  (x2 ≤ 60 →
    ps_nk (ps_is r0 4) (ps_Cl d 86 [.ref r0, .ref r1] s (ps_rI (fun v1 s1 =>
      (v1 ≠ 0 →
        ps_nk (ps_is r0 4) (ps_nk (ps_is r0 4) (ps_nk (ps_is (ps_c0 r0 0) 5) (ps_Cl d 95 [.ref (ps_c0 r0 0), .ref (ps_c0 r0 1)] s1 (ps_rV (fun s2 =>
          ps_nk (ps_is r0 4) (ps_nk (ps_is r0 4) (ps_nk (ps_is (ps_c0 r0 2) 6) (ps_Cl d 103 [.ref (ps_c0 r0 2), .ref (ps_c0 r0 0), .ref r1] s2 (ps_rV (fun s3 =>
            ps_nk (ps_is r0 4) (ps_nk (ps_is (ps_c0 r0 1) 5) (((ps_i s3 (ps_c0 r0 1) 2) ≠ 0 →
              ps_At (d + 1) 85 87 [(0, .ref r0)] [] s3 Q) ∧
            ((ps_i s3 (ps_c0 r0 1) 2) = 0 →
              ps_nk (ps_is r0 4) (ps_nk (ps_is (ps_c0 r0 2) 6) (ps_Cl d 106 [.ref (ps_c0 r0 2)] s3 (ps_rI (fun v4 s4 =>
                (v4 = 0 →
                  ps_At (d + 1) 85 19 [(0, .ref r0), (1, .ref r1), (2, .int (x2 + 1))] [] s4 Q) ∧
                (v4 ≠ 0 →
                  ps_At (d + 1) 85 87 [(0, .ref r0)] [] s4 Q))))))))))))))))))) ∧
      (v1 = 0 →
        Q (some (.int x2)) s1)))))) : ps_At (d + 1) 85 19 [(0, .ref r0), (1, .ref r1), (2, .int x2)] [] s Q :=
  ps_wp_at (stops := [(19, [0, 1, 2]), (87, [0])]) (n := 33) h rfl

theorem pg_85_87 {d : Nat} {r0 : Nat} {s : ps_S} {Q : Option Value → ps_S → Prop} (h :
  ps_nk (ps_is r0 4) (ps_nk (ps_is (ps_c0 r0 0) 5) (ps_Cl d 91 [.ref (ps_c0 r0 0)] s (ps_rV (fun s1 =>
    Q (some (.int (-2))) s1))))) : ps_At (d + 1) 85 87 [(0, .ref r0)] [] s Q :=
  ps_wp_at (stops := [(19, [0, 1, 2]), (87, [0])]) (n := 7) h rfl

theorem xs_85_87 {m s : ps_S} {t : Int32} {d : Nat} {r0 : Nat} {Q : Option Value → ps_S → Prop} (h0 : ps_is r0 4 = true) (J : xJ m t s) (k : ∀ (v : Int32) (s' : ps_S), xJ m t s' → Q (some (.int v)) s') : ps_At (d + 5) 85 87 [(0, .ref r0)] [] s Q :=
  pg_85_87 (d := d + 4) (ps_nk_i h0 (ps_nk_i (xk_4_0 h0) (xs_91 (xk_4_0 h0) J (fun s1 J1 => (k (-2) s1 J1)))))

theorem xs_85_19 {m s : ps_S} {t : Int32} {d : Nat} {r0 : Nat} {r1 : Nat} {x2 : Int32} {Q : Option Value → ps_S → Prop} (h0 : ps_is r0 4 = true) (h1 : ps_is r1 9 = true) (J : xJ m t s) (k : ∀ (v : Int32) (s' : ps_S), xJ m t s' → Q (some (.int v)) s') : ps_At (d + 5) 85 19 [(0, .ref r0), (1, .ref r1), (2, .int x2)] [] s Q :=
  xs_up (P := fun x2 => ∀ (s : ps_S), ps_is r0 4 = true → ps_is r1 9 = true → xJ m t s → ps_At (d + 5) 85 19 [(0, .ref r0), (1, .ref r1), (2, .int x2)] [] s Q) (fun x2 ih s h0 h1 J => pg_85_19 (d := d + 4) (And.intro (fun f1 => (xs_85_87 (d := d) (r0 := r0)  h0 J k )) (fun f1 => (ps_nk_i h0 (xs_86 h0 h1 J (fun v1 s1 b1 J1 => (And.intro (fun f2 => (ps_nk_i h0 (ps_nk_i h0 (ps_nk_i (xk_4_0 h0) (xs_95 (xk_4_0 h0) (xk_4_1 h0) J1 (fun s2 J2 => (ps_nk_i h0 (ps_nk_i h0 (ps_nk_i (xk_4_2 h0) (xs_103 (xk_4_2 h0) (xk_4_0 h0) h1 J2 (fun s3 J3 => (ps_nk_i h0 (ps_nk_i (xk_4_1 h0) (And.intro (fun f3 => (xs_85_87 (d := d) (r0 := r0)  h0 J3 k )) (fun f3 => (ps_nk_i h0 (ps_nk_i (xk_4_2 h0) (xs_106 (xk_4_2 h0) J3 (fun v4 b4 => (And.intro (fun f4 => (ih ((x2 + 1)) (xs_le f1 (by decide)) s3 h0 h1 J3)) (fun f4 => (xs_85_87 (d := d) (r0 := r0)  h0 J3 k )))))))))))))))))))))) (fun f2 => (k x2 s1 J1))))))))) x2 s h0 h1 J

theorem xs_85 {m s : ps_S} {t : Int32} {d : Nat} {r0 : Nat} {r1 : Nat} {f : Int32 → ps_S → Prop} (h0 : ps_is r0 4 = true) (h1 : ps_is r1 9 = true) (J : xJ m t s) (k : ∀ (v : Int32) (s' : ps_S), xJ m t s' → f v s') : ps_Cl (d + 5) 85 [.ref r0, .ref r1] s (ps_rI f) :=
  pg_85_0 (d := d + 4) (ps_nk_i h0 (xs_83 h0 h1 J (fun s1 J1 => (ps_nk_i h0 (ps_nk_i h0 (ps_nk_i (xk_4_2 h0) (xs_103 (xk_4_2 h0) (xk_4_0 h0) h1 J1 (fun s2 J2 => (xs_85_19 (d := d) (r0 := r0) (r1 := r1) (x2 := 0)  h0 h1 J2 k )))))))))

-- ProofBench$Row.hasFree()Z
theorem pg_101_0 {d : Nat} {r0 : Nat} {s : ps_S} {Q : Option Value → ps_S → Prop} (h :
  ps_At (d + 1) 101 2 [(0, .ref r0), (1, .int 0)] [] s Q) : ps_At (d + 1) 101 0 [(0, .ref r0)] [] s Q :=
  ps_wp_at (stops := [(2, [0, 1])]) (n := 4) h rfl

theorem pg_101_2 {d : Nat} {r0 : Nat} {x1 : Int32} {s : ps_S} {Q : Option Value → ps_S → Prop} (h :
  ps_nk (ps_is r0 5) (((ps_i s r0 1) ≤ x1 →
    Q (some (.int 0)) s) ∧
  (x1 < (ps_i s r0 1) →
    ps_nk (ps_is r0 5) (ps_Cl d 92 [.ref r0, .int x1] s (ps_rI (fun v1 s1 =>
      (v1 < 60 →
        ps_At (d + 1) 101 2 [(0, .ref r0), (1, .int (x1 + 1))] [] s1 Q) ∧
      (60 ≤ v1 →
        Q (some (.int 1)) s1))))))) : ps_At (d + 1) 101 2 [(0, .ref r0), (1, .int x1)] [] s Q :=
  ps_wp_at (stops := [(2, [0, 1])]) (n := 17) h rfl

theorem xs_101_2 {m s : ps_S} {t : Int32} {d : Nat} {r0 : Nat} {x1 : Int32} {Q : Option Value → ps_S → Prop} (h0 : ps_is r0 5 = true) (J : xJ m t s) (k : ∀ (v : Int32), v &&& 1 = v → Q (some (.int v)) s) : ps_At (d + 1) 101 2 [(0, .ref r0), (1, .int x1)] [] s Q :=
  xs_up (P := fun x1 => ps_is r0 5 = true → ps_At (d + 1) 101 2 [(0, .ref r0), (1, .int x1)] [] s Q) (fun x1 ih h0 => pg_101_2 (d := d) (ps_nk_i h0 (And.intro (fun f1 => (k 0 (by decide))) (fun f1 => (ps_nk_i h0 (xs_92 h0 J (fun v1 => (And.intro (fun f2 => (ih ((x1 + 1)) (xs_lt f1) h0)) (fun f2 => (k 1 (by decide))))))))))) x1 h0

theorem xs_101 {m s : ps_S} {t : Int32} {d : Nat} {r0 : Nat} {f : Int32 → ps_S → Prop} (h0 : ps_is r0 5 = true) (J : xJ m t s) (k : ∀ (v : Int32), v &&& 1 = v → f v s) : ps_Cl (d + 1) 101 [.ref r0] s (ps_rI f) :=
  pg_101_0 (d := d) (xs_101_2 (d := d) (r0 := r0) (x1 := 0)  h0 J k )

-- ProofBench$Shelf.clear()V
theorem pg_108_0 {d : Nat} {r0 : Nat} {s : ps_S} {Q : Option Value → ps_S → Prop} (h :
  ps_nk (ps_is r0 7) (ps_nk (ps_is r0 7) (Q none (ps_ui (ps_ui s r0 5 0) r0 6 0)))) : ps_At d 108 0 [(0, .ref r0)] [] s Q :=
  ps_wp_at (stops := []) (n := 9) h rfl

theorem xs_108 {m s : ps_S} {t : Int32} {d : Nat} {r0 : Nat} {f : ps_S → Prop} (h0 : ps_is r0 7 = true) (J : xJ m t s) (k : ∀ (s' : ps_S), xJ m t s' → f s') : ps_Cl d 108 [.ref r0] s (ps_rV f) :=
  pg_108_0 (ps_nk_i h0 (ps_nk_i h0 (k (ps_ui (ps_ui s r0 5 0) r0 6 0) (xw_i (c := 7) (by decide) h0 (xw_i (c := 7) (by decide) h0 J)))))

-- ProofBench$Shelf.put(LProofBench$Step;)I
theorem pg_111_0 {d : Nat} {r0 : Nat} {r1 : Nat} {s : ps_S} {Q : Option Value → ps_S → Prop} (h :
  ps_nk (ps_is r0 7) (((ps_i s r0 5) < 12 →
    ps_nk (ps_is r1 8) (ps_At (d + 1) 111 18 [(0, .ref r0), (1, .ref r1), (2, .int (ps_i s r1 10)), (3, .int 0)] [] s Q)) ∧
  (12 ≤ (ps_i s r0 5) →
    Q (some (.int (-1))) s))) : ps_At (d + 1) 111 0 [(0, .ref r0), (1, .ref r1)] [] s Q :=
  ps_wp_at (stops := [(18, [0, 1, 2, 3])]) (n := 13) h rfl

theorem pg_111_18 {d : Nat} {r0 : Nat} {r1 : Nat} {x2 : Int32} {x3 : Int32} {s : ps_S} {Q : Option Value → ps_S → Prop} (h :
  ps_nk (ps_is r0 7) (((ps_i s r0 5) ≤ x3 →
    ps_nk (ps_is r0 7) (ps_nk (ps_is r0 7) (ps_Cl d 110 [.ref r0, .int (ps_i s r0 5)] s (ps_rA (fun v1 s1 =>
      ps_nk (ps_is r1 8) (ps_nk (ps_is v1 5) (ps_Cl d 95 [.ref v1, .ref (ps_c0 r1 6)] s1 (ps_rV (fun s2 =>
        ps_nk (ps_is r0 7) (ps_nk (ps_is r0 7) (ps_nk (ps_is r1 8) (ps_Cl d 183 [.ref (ps_c0 r0 2), .int (ps_i s2 r0 5), .int (ps_i s2 r1 10)] s2 (ps_rV (fun s3 =>
          ps_nk (ps_is r0 7) (ps_nk (ps_is r0 7) (ps_nk (ps_is r1 8) (ps_Cl d 183 [.ref (ps_c0 r0 3), .int (ps_i s3 r0 5), .int (ps_i s3 r1 11)] s3 (ps_rV (fun s4 =>
            ps_nk (ps_is r0 7) (ps_nk (ps_is r0 7) (ps_Cl d 183 [.ref (ps_c0 r0 4), .int (ps_i s4 r0 5), .int x2] s4 (ps_rV (fun s5 =>
              ps_nk (ps_is r0 7) (ps_nk (ps_is r0 7) (ps_nk (ps_is r0 7) (Q (some (.int ((ps_i (ps_ui s5 r0 5 ((ps_i s5 r0 5) + 1)) r0 5) - 1))) (ps_ui s5 r0 5 ((ps_i s5 r0 5) + 1)))))))))))))))))))))))))))) ∧
  (x3 < (ps_i s r0 5) →
    ps_nk (ps_is r1 8) (((((ps_i s r1 11) >>> (x3 &&& 31)) &&& 1) = 0 →
      ps_At (d + 1) 111 18 [(0, .ref r0), (1, .ref r1), (2, .int x2), (3, .int (x3 + 1))] [] s Q) ∧
    ((((ps_i s r1 11) >>> (x3 &&& 31)) &&& 1) ≠ 0 →
      ps_nk (ps_is r0 7) (ps_Cl d 182 [.ref (ps_c0 r0 4), .int x3] s (ps_rI (fun v6 s6 =>
        ps_At (d + 1) 111 18 [(0, .ref r0), (1, .ref r1), (2, .int (x2 ||| v6)), (3, .int (x3 + 1))] [] s6 Q)))))))) : ps_At (d + 1) 111 18 [(0, .ref r0), (1, .ref r1), (2, .int x2), (3, .int x3)] [] s Q :=
  ps_wp_at (stops := [(18, [0, 1, 2, 3])]) (n := 62) h rfl

theorem xs_111_18 {m s : ps_S} {t : Int32} {d : Nat} {r0 : Nat} {r1 : Nat} {x2 : Int32} {x3 : Int32} {Q : Option Value → ps_S → Prop} (h0 : ps_is r0 7 = true) (h1 : ps_is r1 8 = true) (J : xJ m t s) (k : ∀ (v : Int32) (s' : ps_S), xJ m t s' → Q (some (.int v)) s') : ps_At (d + 3) 111 18 [(0, .ref r0), (1, .ref r1), (2, .int x2), (3, .int x3)] [] s Q :=
  xs_up (P := fun x3 => ∀ (x2 : Int32) (s : ps_S), ps_is r0 7 = true → ps_is r1 8 = true → xJ m t s → ps_At (d + 3) 111 18 [(0, .ref r0), (1, .ref r1), (2, .int x2), (3, .int x3)] [] s Q) (fun x3 ih x2 s h0 h1 J => pg_111_18 (d := d + 2) (ps_nk_i h0 (And.intro (fun f1 => (ps_nk_i h0 (ps_nk_i h0 (xs_110 h0 J (fun v1 g1 => (ps_nk_i h1 (ps_nk_i g1 (xs_95 g1 (xk_8_6 h1) J (fun s2 J2 => (ps_nk_i h0 (ps_nk_i h0 (ps_nk_i h1 (xs_183 (xk_7_2 h0) J2 (fun s3 J3 e3 => (ps_nk_i h0 (ps_nk_i h0 (ps_nk_i h1 (xs_183 (xk_7_3 h0) J3 (fun s4 J4 e4 => (ps_nk_i h0 (ps_nk_i h0 (xs_183 (xk_7_4 h0) J4 (fun s5 J5 e5 => (ps_nk_i h0 (ps_nk_i h0 (ps_nk_i h0 (k ((ps_i (ps_ui s5 r0 5 ((ps_i s5 r0 5) + 1)) r0 5) - 1) (ps_ui s5 r0 5 ((ps_i s5 r0 5) + 1)) (xw_i (c := 7) (by decide) h0 J5)))))))))))))))))))))))))))) (fun f1 => (ps_nk_i h1 (And.intro (fun f2 => (ih ((x3 + 1)) (xs_lt f1) (x2) s h0 h1 J)) (fun f2 => (ps_nk_i h0 (xs_182 (xk_7_4 h0) J (fun v6 => (ih ((x3 + 1)) (xs_lt f1) ((x2 ||| v6)) s h0 h1 J))))))))))) x3 x2 s h0 h1 J

theorem xs_111 {m s : ps_S} {t : Int32} {d : Nat} {r0 : Nat} {r1 : Nat} {f : Int32 → ps_S → Prop} (h0 : ps_is r0 7 = true) (h1 : ps_is r1 8 = true) (J : xJ m t s) (k : ∀ (v : Int32) (s' : ps_S), xJ m t s' → f v s') : ps_Cl (d + 3) 111 [.ref r0, .ref r1] s (ps_rI f) :=
  pg_111_0 (d := d + 2) (ps_nk_i h0 (And.intro (fun f1 => (ps_nk_i h1 (xs_111_18 (d := d) (r0 := r0) (r1 := r1) (x2 := (ps_i s r1 10)) (x3 := 0)  h0 h1 J k ))) (fun f1 => (k (-1) s J))))

-- ProofBench$Shelf.copy(LProofBench$Shelf;)V
theorem pg_112_0 {d : Nat} {r0 : Nat} {r1 : Nat} {s : ps_S} {Q : Option Value → ps_S → Prop} (h :
  ps_nk (ps_is r1 7) (ps_nk (ps_is r0 7) (ps_At (d + 1) 112 10 [(0, .ref r0), (1, .ref r1), (2, .int 0)] [] (ps_ui s r0 5 (ps_i s r1 5)) Q))) : ps_At (d + 1) 112 0 [(0, .ref r0), (1, .ref r1)] [] s Q :=
  ps_wp_at (stops := [(10, [0, 1, 2])]) (n := 8) h rfl

theorem pg_112_10 {d : Nat} {r0 : Nat} {r1 : Nat} {x2 : Int32} {s : ps_S} {Q : Option Value → ps_S → Prop} (h :
  ps_nk (ps_is r0 7) (((ps_i s r0 5) ≤ x2 →
    Q none s) ∧
  (x2 < (ps_i s r0 5) →
    ps_nk (ps_is r0 7) (ps_Cl d 110 [.ref r0, .int x2] s (ps_rA (fun v1 s1 =>
      ps_nk (ps_is r1 7) (ps_Cl d 110 [.ref r1, .int x2] s1 (ps_rA (fun v2 s2 =>
        ps_nk (ps_is v1 5) (ps_Cl d 95 [.ref v1, .ref v2] s2 (ps_rV (fun s3 =>
          ps_nk (ps_is r0 7) (ps_nk (ps_is r1 7) (ps_Cl d 182 [.ref (ps_c0 r1 2), .int x2] s3 (ps_rI (fun v4 s4 =>
            ps_Cl d 183 [.ref (ps_c0 r0 2), .int x2, .int v4] s4 (ps_rV (fun s5 =>
              ps_nk (ps_is r0 7) (ps_nk (ps_is r1 7) (ps_Cl d 182 [.ref (ps_c0 r1 3), .int x2] s5 (ps_rI (fun v6 s6 =>
                ps_Cl d 183 [.ref (ps_c0 r0 3), .int x2, .int v6] s6 (ps_rV (fun s7 =>
                  ps_nk (ps_is r0 7) (ps_nk (ps_is r1 7) (ps_Cl d 182 [.ref (ps_c0 r1 4), .int x2] s7 (ps_rI (fun v8 s8 =>
                    ps_Cl d 183 [.ref (ps_c0 r0 4), .int x2, .int v8] s8 (ps_rV (fun s9 =>
                      ps_At (d + 1) 112 10 [(0, .ref r0), (1, .ref r1), (2, .int (x2 + 1))] [] s9 Q)))))))))))))))))))))))))))))) : ps_At (d + 1) 112 10 [(0, .ref r0), (1, .ref r1), (2, .int x2)] [] s Q :=
  ps_wp_at (stops := [(10, [0, 1, 2])]) (n := 40) h rfl

theorem xs_112_10 {m s : ps_S} {t : Int32} {d : Nat} {r0 : Nat} {r1 : Nat} {x2 : Int32} {Q : Option Value → ps_S → Prop} (h0 : ps_is r0 7 = true) (h1 : ps_is r1 7 = true) (J : xJ m t s) (k : ∀ (s' : ps_S), xJ m t s' → Q none s') : ps_At (d + 3) 112 10 [(0, .ref r0), (1, .ref r1), (2, .int x2)] [] s Q :=
  xs_up (P := fun x2 => ∀ (s : ps_S), ps_is r0 7 = true → ps_is r1 7 = true → xJ m t s → ps_At (d + 3) 112 10 [(0, .ref r0), (1, .ref r1), (2, .int x2)] [] s Q) (fun x2 ih s h0 h1 J => pg_112_10 (d := d + 2) (ps_nk_i h0 (And.intro (fun f1 => (k s J)) (fun f1 => (ps_nk_i h0 (xs_110 h0 J (fun v1 g1 => (ps_nk_i h1 (xs_110 h1 J (fun v2 g2 => (ps_nk_i g1 (xs_95 g1 g2 J (fun s3 J3 => (ps_nk_i h0 (ps_nk_i h1 (xs_182 (xk_7_2 h1) J3 (fun v4 => (xs_183 (xk_7_2 h0) J3 (fun s5 J5 e5 => (ps_nk_i h0 (ps_nk_i h1 (xs_182 (xk_7_3 h1) J5 (fun v6 => (xs_183 (xk_7_3 h0) J5 (fun s7 J7 e7 => (ps_nk_i h0 (ps_nk_i h1 (xs_182 (xk_7_4 h1) J7 (fun v8 => (xs_183 (xk_7_4 h0) J7 (fun s9 J9 e9 => (ih ((x2 + 1)) (xs_lt f1) s9 h0 h1 J9)))))))))))))))))))))))))))))))) x2 s h0 h1 J

theorem xs_112 {m s : ps_S} {t : Int32} {d : Nat} {r0 : Nat} {r1 : Nat} {f : ps_S → Prop} (h0 : ps_is r0 7 = true) (h1 : ps_is r1 7 = true) (J : xJ m t s) (k : ∀ (s' : ps_S), xJ m t s' → f s') : ps_Cl (d + 3) 112 [.ref r0, .ref r1] s (ps_rV f) :=
  pg_112_0 (d := d + 2) (ps_nk_i h1 (ps_nk_i h0 (xs_112_10 (d := d) (r0 := r0) (r1 := r1) (x2 := 0)  h0 h1 (xw_i (c := 7) (by decide) h0 J) k )))
