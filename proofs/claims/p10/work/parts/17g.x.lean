set_option maxRecDepth 100000
-- ProofBench.boxAt(I)LProofBench$Shelf;
theorem pg_180_0 {d : Nat} {x1 : Int32} {s : ps_S} {Q : Option Value → ps_S → Prop} (h :
  (x1 < 0 →
    Q (some (.ref 870)) s) ∧
  (0 ≤ x1 →
    ((nI 3) ≤ x1 →
      Q (some (.ref 870)) s) ∧
    (x1 < (nI 3) →
      ps_nd (pm_in x1 3) (Q (some (.ref (ps_e0 901 (Int32.toNatClampNeg x1)))) s)))) : ps_At d 180 0 [(0, .ref 0), (1, .int x1)] [] s Q :=
  ps_wp_at (stops := []) (n := 21) h rfl

theorem xs_180 {m s : ps_S} {t : Int32} {d : Nat} {x1 : Int32} {f : Nat → ps_S → Prop} (J : xJ m t s) (k : ∀ (v : Nat), ps_is v 7 = true → f v s) : ps_Cl d 180 [.ref 0, .int x1] s (ps_rA f) :=
  pg_180_0 (And.intro (fun f1 => (k 870 ((rfl : ps_is 870 7 = true)))) (fun f1 => (And.intro (fun f2 => (k 870 ((rfl : ps_is 870 7 = true)))) (fun f2 => (ps_nd_i (xg_in f1 f2) (k (ps_e0 901 (Int32.toNatClampNeg x1)) ((xe_6 (r := 901) rfl (n := 3) (xg_in f1 f2)))))))))

-- ProofBench.theory()I
theorem pg_151_0 {d : Nat} {s : ps_S} {Q : Option Value → ps_S → Prop} (h :
  ps_Cl d 58 [.ref 902, .ref 1, .int (ps_i s 0 1), .ref (ps_r s 0 3)] s (ps_rI (fun v1 s1 =>
    (v1 ≠ 0 →
      ps_nk (ps_is (ps_r (ps_ur (ps_ur (ps_ui s1 0 1 0) 0 2 (ps_r (ps_ui s1 0 1 0) 0 3)) 0 3 (ps_r (ps_ui s1 0 1 0) 0 2)) 0 4) 2) (ps_Cl d 31 [.ref (ps_r (ps_ur (ps_ur (ps_ui s1 0 1 0) 0 2 (ps_r (ps_ui s1 0 1 0) 0 3)) 0 3 (ps_r (ps_ui s1 0 1 0) 0 2)) 0 4)] (ps_ur (ps_ur (ps_ui s1 0 1 0) 0 2 (ps_r (ps_ui s1 0 1 0) 0 3)) 0 3 (ps_r (ps_ui s1 0 1 0) 0 2)) (ps_rV (fun s2 =>
        ps_Cl d 108 [.ref 870] s2 (ps_rV (fun s3 =>
          ps_At (d + 1) 151 65 [(0, .ref 0), (3, .int 0)] [] s3 Q)))))) ∧
    (v1 = 0 →
      Q (some (.int (-1))) (ps_ui s1 0 1 0))))) : ps_At (d + 1) 151 0 [(0, .ref 0)] [] s Q :=
  ps_wp_at (stops := [(65, [0, 3])]) (n := 37) h rfl

theorem pg_151_65 {d : Nat} {x3 : Int32} {s : ps_S} {Q : Option Value → ps_S → Prop} (h :
  ((nI 3) ≤ x3 →
    ps_Cl d 91 [.ref 934] s (ps_rV (fun s1 =>
      ps_Cl d 81 [.ref 1021] s1 (ps_rV (fun s2 =>
        ps_Cl d 1 [.ref 944] s2 (ps_rV (fun s3 =>
          ps_nk (ps_is (ps_r s3 0 2) 9) (Q (some (.int (ps_i s3 (ps_r s3 0 2) 8))) s3)))))))) ∧
  (x3 < (nI 3) →
    ps_Cl d 180 [.ref 0, .int x3] s (ps_rA (fun v4 s4 =>
      ps_nk (ps_is v4 7) (ps_Cl d 108 [.ref v4] s4 (ps_rV (fun s5 =>
        ps_At (d + 1) 151 65 [(0, .ref 0), (3, .int (x3 + 1))] [] s5 Q))))))) : ps_At (d + 1) 151 65 [(0, .ref 0), (3, .int x3)] [] s Q :=
  ps_wp_at (stops := [(65, [0, 3])]) (n := 26) h rfl

theorem xs_151_65 {m s : ps_S} {t : Int32} {d : Nat} {x3 : Int32} {Q : Option Value → ps_S → Prop} (J : xJ m 0 s) (k : ∀ (v : Int32) (s' : ps_S), xJ m 0 s' → Q (some (.int v)) s') : ps_At (d + 40) 151 65 [(0, .ref 0), (3, .int x3)] [] s Q :=
  xs_up (P := fun x3 => ∀ (s : ps_S), xJ m 0 s → ps_At (d + 40) 151 65 [(0, .ref 0), (3, .int x3)] [] s Q) (fun x3 ih s J => pg_151_65 (d := d + 39) (And.intro (fun f1 => (xs_91 (rfl : ps_is 934 5 = true) J (fun s1 J1 => (xs_81 (rfl : ps_is 1021 4 = true) J1 (fun s2 J2 => (xs_1 (rfl : ps_is 944 0 = true) J2 (fun s3 J3 => (ps_nk_i (xj_11_2 J3 (rfl : ps_is 0 11 = true)) (k (ps_i s3 (ps_r s3 0 2) 8) s3 J3))))))))) (fun f1 => (xs_180  J (fun v4 g4 => (ps_nk_i g4 (xs_108 g4 J (fun s5 J5 => (ih ((x3 + 1)) (xs_lt f1) s5 J5))))))))) x3 s J

theorem xs_151 {m s : ps_S} {t : Int32} {d : Nat} {f : Int32 → ps_S → Prop} (J : xJ m t s) (k : ∀ (v : Int32) (s' : ps_S), xJ m 0 s' → f v s') : ps_Cl (d + 40) 151 [.ref 0] s (ps_rI f) :=
  pg_151_0 (d := d + 39) (xs_58 (rfl : ps_is 902 3 = true) (xq_a (r := 1) (t := 1) rfl rfl) (xj_11_3 J (rfl : ps_is 0 11 = true)) J (fun v1 s1 b1 J1 => (And.intro (fun f1 => (ps_nk_i (xj_11_4 (xw_11_3 (rfl : ps_is 0 11 = true) (xj_11_2 (xw_tape J1) (rfl : ps_is 0 11 = true)) (xw_11_2 (rfl : ps_is 0 11 = true) (xj_11_3 (xw_tape J1) (rfl : ps_is 0 11 = true)) (xw_tape J1))) (rfl : ps_is 0 11 = true)) (xs_31 (xj_11_4 (xw_11_3 (rfl : ps_is 0 11 = true) (xj_11_2 (xw_tape J1) (rfl : ps_is 0 11 = true)) (xw_11_2 (rfl : ps_is 0 11 = true) (xj_11_3 (xw_tape J1) (rfl : ps_is 0 11 = true)) (xw_tape J1))) (rfl : ps_is 0 11 = true)) (xw_11_3 (rfl : ps_is 0 11 = true) (xj_11_2 (xw_tape J1) (rfl : ps_is 0 11 = true)) (xw_11_2 (rfl : ps_is 0 11 = true) (xj_11_3 (xw_tape J1) (rfl : ps_is 0 11 = true)) (xw_tape J1))) (fun s2 J2 => (xs_108 (rfl : ps_is 870 7 = true) J2 (fun s3 J3 => (xs_151_65 (d := d) (t := 0) (x3 := 0)  J3 k ))))))) (fun f1 => (k (-1) (ps_ui s1 0 1 0) (xw_tape J1))))))

-- ProofBench.fault(I)I
theorem pg_152_0 {d : Nat} {x1 : Int32} {s : ps_S} {Q : Option Value → ps_S → Prop} (h :
  (x1 = 0 →
    Q (some (.int (ps_i s 902 9))) s) ∧
  (x1 ≠ 0 →
    (x1 = 1 →
    Q (some (.int (ps_i s 902 10))) s) ∧
  (x1 ≠ 1 →
    Q (some (.int (-1))) s))) : ps_At d 152 0 [(0, .ref 0), (1, .int x1)] [] s Q :=
  ps_wp_at (stops := []) (n := 14) h rfl

theorem xs_152 {m s : ps_S} {t : Int32} {d : Nat} {x1 : Int32} {f : Int32 → ps_S → Prop} (J : xJ m t s) (k : ∀ (v : Int32), f v s) : ps_Cl d 152 [.ref 0, .int x1] s (ps_rI f) :=
  pg_152_0 (And.intro (fun f1 => (k (ps_i s 902 9))) (fun f1 => (And.intro (fun f2 => (k (ps_i s 902 10))) (fun f2 => (k (-1))))))

-- ProofBench.prove()I
theorem pg_153_0 {d : Nat} {s : ps_S} {Q : Option Value → ps_S → Prop} (h :
  ps_Cl d 59 [.ref 902, .ref 1, .int (ps_i s 0 1), .ref (ps_r s 0 2), .ref (ps_r s 0 5)] s (ps_rI (fun v1 s1 =>
    (v1 ≠ 0 →
      ps_nk (ps_is (ps_r (ps_ur (ps_ur (ps_ui s1 0 1 0) 0 4 (ps_r (ps_ui s1 0 1 0) 0 5)) 0 5 (ps_r (ps_ui s1 0 1 0) 0 4)) 0 4) 2) (ps_Cl d 34 [.ref (ps_r (ps_ur (ps_ur (ps_ui s1 0 1 0) 0 4 (ps_r (ps_ui s1 0 1 0) 0 5)) 0 5 (ps_r (ps_ui s1 0 1 0) 0 4)) 0 4), .ref (ps_r (ps_ur (ps_ur (ps_ui s1 0 1 0) 0 4 (ps_r (ps_ui s1 0 1 0) 0 5)) 0 5 (ps_r (ps_ui s1 0 1 0) 0 4)) 0 2), .ref 870] (ps_ur (ps_ur (ps_ui s1 0 1 0) 0 4 (ps_r (ps_ui s1 0 1 0) 0 5)) 0 5 (ps_r (ps_ui s1 0 1 0) 0 4)) (ps_rV (fun s2 =>
        ps_nk (ps_is (ps_r s2 0 4) 2) (Q (some (.int (ps_i s2 (ps_r s2 0 4) 8))) s2))))) ∧
    (v1 = 0 →
      Q (some (.int (-1))) (ps_ui s1 0 1 0))))) : ps_At (d + 1) 153 0 [(0, .ref 0)] [] s Q :=
  ps_wp_at (stops := []) (n := 42) h rfl

theorem xs_153 {m s : ps_S} {t : Int32} {d : Nat} {f : Int32 → ps_S → Prop} (J : xJ m t s) (k : ∀ (v : Int32) (s' : ps_S), xJ m 0 s' → f v s') : ps_Cl (d + 40) 153 [.ref 0] s (ps_rI f) :=
  pg_153_0 (d := d + 39) (xs_59 (rfl : ps_is 902 3 = true) (xq_a (r := 1) (t := 1) rfl rfl) (xj_11_2 J (rfl : ps_is 0 11 = true)) (xj_11_5 J (rfl : ps_is 0 11 = true)) J (fun v1 s1 b1 J1 => (And.intro (fun f1 => (ps_nk_i (xj_11_4 (xw_11_5 (rfl : ps_is 0 11 = true) (xj_11_4 (xw_tape J1) (rfl : ps_is 0 11 = true)) (xw_11_4 (rfl : ps_is 0 11 = true) (xj_11_5 (xw_tape J1) (rfl : ps_is 0 11 = true)) (xw_tape J1))) (rfl : ps_is 0 11 = true)) (xs_34 (xj_11_4 (xw_11_5 (rfl : ps_is 0 11 = true) (xj_11_4 (xw_tape J1) (rfl : ps_is 0 11 = true)) (xw_11_4 (rfl : ps_is 0 11 = true) (xj_11_5 (xw_tape J1) (rfl : ps_is 0 11 = true)) (xw_tape J1))) (rfl : ps_is 0 11 = true)) (xj_11_2 (xw_11_5 (rfl : ps_is 0 11 = true) (xj_11_4 (xw_tape J1) (rfl : ps_is 0 11 = true)) (xw_11_4 (rfl : ps_is 0 11 = true) (xj_11_5 (xw_tape J1) (rfl : ps_is 0 11 = true)) (xw_tape J1))) (rfl : ps_is 0 11 = true)) (rfl : ps_is 870 7 = true) (xw_11_5 (rfl : ps_is 0 11 = true) (xj_11_4 (xw_tape J1) (rfl : ps_is 0 11 = true)) (xw_11_4 (rfl : ps_is 0 11 = true) (xj_11_5 (xw_tape J1) (rfl : ps_is 0 11 = true)) (xw_tape J1))) (fun s2 J2 => (ps_nk_i (xj_11_4 J2 (rfl : ps_is 0 11 = true)) (k (ps_i s2 (ps_r s2 0 4) 8) s2 J2)))))) (fun f1 => (k (-1) (ps_ui s1 0 1 0) (xw_tape J1))))))

-- ProofBench.refused(I)I
theorem pg_154_0 {d : Nat} {x1 : Int32} {s : ps_S} {Q : Option Value → ps_S → Prop} (h :
  ps_nk (ps_is (ps_r s 0 4) 2) (((ps_i s (ps_r s 0 4) 9) ≠ 0 →
    (x1 = 0 →
      ps_nk (ps_is (ps_r s 0 4) 2) (Q (some (.int (ps_i s (ps_r s 0 4) 8))) s)) ∧
    (x1 ≠ 0 →
      (x1 = 1 →
      ps_nk (ps_is (ps_r s 0 4) 2) (Q (some (.int (ps_i s (ps_r s 0 4) 9))) s)) ∧
    (x1 ≠ 1 →
      Q (some (.int (-1))) s))) ∧
  ((ps_i s (ps_r s 0 4) 9) = 0 →
    Q (some (.int (-1))) s))) : ps_At d 154 0 [(0, .ref 0), (1, .int x1)] [] s Q :=
  ps_wp_at (stops := []) (n := 20) h rfl

theorem xs_154 {m s : ps_S} {t : Int32} {d : Nat} {x1 : Int32} {f : Int32 → ps_S → Prop} (J : xJ m t s) (k : ∀ (v : Int32), f v s) : ps_Cl d 154 [.ref 0, .int x1] s (ps_rI f) :=
  pg_154_0 (ps_nk_i (xj_11_4 J (rfl : ps_is 0 11 = true)) (And.intro (fun f1 => (And.intro (fun f2 => (ps_nk_i (xj_11_4 J (rfl : ps_is 0 11 = true)) (k (ps_i s (ps_r s 0 4) 8)))) (fun f2 => (And.intro (fun f3 => (ps_nk_i (xj_11_4 J (rfl : ps_is 0 11 = true)) (k (ps_i s (ps_r s 0 4) 9)))) (fun f3 => (k (-1))))))) (fun f1 => (k (-1)))))

-- ProofBench.step(II)I
theorem pg_155_0 {d : Nat} {x1 : Int32} {x2 : Int32} {s : ps_S} {Q : Option Value → ps_S → Prop} (h :
  ps_nk (ps_is (ps_r s 0 4) 2) (ps_Cl d 32 [.ref (ps_r s 0 4), .int x1] s (ps_rI (fun v1 s1 =>
    (v1 ≠ 0 →
      ps_nk (ps_is (ps_r s1 0 4) 2) (ps_Cl d 33 [.ref (ps_r s1 0 4), .int x1] s1 (ps_rA (fun v2 s2 =>
        (x2 = 0 →
          ps_nk (ps_is v2 8) (ps_nk (ps_is (ps_c0 v2 6) 5) (Q (some (.int (ps_i s2 (ps_c0 v2 6) 1))) s2))) ∧
        (x2 ≠ 0 →
          (x2 = 1 →
          ps_nk (ps_is v2 8) (Q (some (.int (ps_i s2 v2 8))) s2)) ∧
        (x2 ≠ 1 →
          (x2 = 2 →
          ps_nk (ps_is v2 8) (Q (some (.int (ps_i s2 v2 10))) s2)) ∧
        (x2 ≠ 2 →
          (x2 = 3 →
          ps_nk (ps_is v2 8) (Q (some (.int (ps_i s2 v2 11))) s2)) ∧
        (x2 ≠ 3 →
          Q (some (.int (-1))) s2)))))))) ∧
    (v1 = 0 →
      Q (some (.int (-1))) s1))))) : ps_At (d + 1) 155 0 [(0, .ref 0), (1, .int x1), (2, .int x2)] [] s Q :=
  ps_wp_at (stops := []) (n := 31) h rfl

theorem xs_155 {m s : ps_S} {t : Int32} {d : Nat} {x1 : Int32} {x2 : Int32} {f : Int32 → ps_S → Prop} (J : xJ m t s) (k : ∀ (v : Int32), f v s) : ps_Cl (d + 1) 155 [.ref 0, .int x1, .int x2] s (ps_rI f) :=
  pg_155_0 (d := d) (ps_nk_i (xj_11_4 J (rfl : ps_is 0 11 = true)) (xs_32 (xj_11_4 J (rfl : ps_is 0 11 = true)) J (fun v1 b1 => (And.intro (fun f1 => (ps_nk_i (xj_11_4 J (rfl : ps_is 0 11 = true)) (xs_33 (xj_11_4 J (rfl : ps_is 0 11 = true)) J (fun v2 g2 => (And.intro (fun f2 => (ps_nk_i g2 (ps_nk_i (xk_8_6 g2) (k (ps_i s (ps_c0 v2 6) 1))))) (fun f2 => (And.intro (fun f3 => (ps_nk_i g2 (k (ps_i s v2 8)))) (fun f3 => (And.intro (fun f4 => (ps_nk_i g2 (k (ps_i s v2 10)))) (fun f4 => (And.intro (fun f5 => (ps_nk_i g2 (k (ps_i s v2 11)))) (fun f5 => (k (-1)))))))))))))) (fun f1 => (k (-1)))))))

-- ProofBench.line(II)I
theorem pg_156_0 {d : Nat} {x1 : Int32} {x2 : Int32} {s : ps_S} {Q : Option Value → ps_S → Prop} (h :
  ps_nk (ps_is (ps_r s 0 4) 2) (ps_Cl d 32 [.ref (ps_r s 0 4), .int x1] s (ps_rI (fun v1 s1 =>
    (v1 = 0 →
      Q (some (.int (-1))) s1) ∧
    (v1 ≠ 0 →
      ps_nk (ps_is (ps_r s1 0 4) 2) (ps_Cl d 33 [.ref (ps_r s1 0 4), .int x1] s1 (ps_rA (fun v2 s2 =>
        ps_nk (ps_is v2 8) (ps_nk (ps_is (ps_c0 v2 6) 5) (ps_Cl d 92 [.ref (ps_c0 v2 6), .int x2] s2 (ps_rI (fun v3 s3 =>
          Q (some (.int v3)) s3)))))))))))) : ps_At (d + 1) 156 0 [(0, .ref 0), (1, .int x1), (2, .int x2)] [] s Q :=
  ps_wp_at (stops := []) (n := 18) h rfl

theorem xs_156 {m s : ps_S} {t : Int32} {d : Nat} {x1 : Int32} {x2 : Int32} {f : Int32 → ps_S → Prop} (J : xJ m t s) (k : ∀ (v : Int32), f v s) : ps_Cl (d + 1) 156 [.ref 0, .int x1, .int x2] s (ps_rI f) :=
  pg_156_0 (d := d) (ps_nk_i (xj_11_4 J (rfl : ps_is 0 11 = true)) (xs_32 (xj_11_4 J (rfl : ps_is 0 11 = true)) J (fun v1 b1 => (And.intro (fun f1 => (k (-1))) (fun f1 => (ps_nk_i (xj_11_4 J (rfl : ps_is 0 11 = true)) (xs_33 (xj_11_4 J (rfl : ps_is 0 11 = true)) J (fun v2 g2 => (ps_nk_i g2 (ps_nk_i (xk_8_6 g2) (xs_92 (xk_8_6 g2) J (fun v3 => (k v3)))))))))))))

-- ProofBench.assumed(III)I
theorem pg_157_0 {d : Nat} {x1 : Int32} {x2 : Int32} {x3 : Int32} {s : ps_S} {Q : Option Value → ps_S → Prop} (h :
  ps_nk (ps_is (ps_r s 0 4) 2) (ps_Cl d 32 [.ref (ps_r s 0 4), .int x1] s (ps_rI (fun v1 s1 =>
    (v1 ≠ 0 →
      ps_nk (ps_is (ps_r s1 0 4) 2) (ps_Cl d 33 [.ref (ps_r s1 0 4), .int x1] s1 (ps_rA (fun v2 s2 =>
        ps_nk (ps_is v2 8) (ps_Cl d 122 [.ref v2, .int x2] s2 (ps_rI (fun v3 s3 =>
          (v3 ≠ (-1) →
            ps_nk (ps_is (ps_r s3 0 4) 2) (ps_Cl d 33 [.ref (ps_r s3 0 4), .int v3] s3 (ps_rA (fun v4 s4 =>
              ps_nk (ps_is v4 8) (ps_nk (ps_is (ps_c0 v4 6) 5) (ps_Cl d 92 [.ref (ps_c0 v4 6), .int x3] s4 (ps_rI (fun v5 s5 =>
                Q (some (.int v5)) s5)))))))) ∧
          (v3 = (-1) →
            Q (some (.int (-1))) s3)))))))) ∧
    (v1 = 0 →
      Q (some (.int (-1))) s1))))) : ps_At (d + 1) 157 0 [(0, .ref 0), (1, .int x1), (2, .int x2), (3, .int x3)] [] s Q :=
  ps_wp_at (stops := []) (n := 30) h rfl

theorem xs_157 {m s : ps_S} {t : Int32} {d : Nat} {x1 : Int32} {x2 : Int32} {x3 : Int32} {f : Int32 → ps_S → Prop} (J : xJ m t s) (k : ∀ (v : Int32), f v s) : ps_Cl (d + 2) 157 [.ref 0, .int x1, .int x2, .int x3] s (ps_rI f) :=
  pg_157_0 (d := d + 1) (ps_nk_i (xj_11_4 J (rfl : ps_is 0 11 = true)) (xs_32 (xj_11_4 J (rfl : ps_is 0 11 = true)) J (fun v1 b1 => (And.intro (fun f1 => (ps_nk_i (xj_11_4 J (rfl : ps_is 0 11 = true)) (xs_33 (xj_11_4 J (rfl : ps_is 0 11 = true)) J (fun v2 g2 => (ps_nk_i g2 (xs_122 g2 J (fun v3 => (And.intro (fun f2 => (ps_nk_i (xj_11_4 J (rfl : ps_is 0 11 = true)) (xs_33 (xj_11_4 J (rfl : ps_is 0 11 = true)) J (fun v4 g4 => (ps_nk_i g4 (ps_nk_i (xk_8_6 g4) (xs_92 (xk_8_6 g4) J (fun v5 => (k v5))))))))) (fun f2 => (k (-1))))))))))) (fun f1 => (k (-1)))))))

-- ProofBench.keep()I
theorem pg_158_0 {d : Nat} {s : ps_S} {Q : Option Value → ps_S → Prop} (h :
  ps_nk (ps_is (ps_r s 0 4) 2) (((ps_i s (ps_r s 0 4) 9) ≠ 0 →
    Q (some (.int (-1))) s) ∧
  ((ps_i s (ps_r s 0 4) 9) = 0 →
    ps_nk (ps_is (ps_r s 0 4) 2) (((ps_i s (ps_r s 0 4) 8) ≠ 0 →
      ps_nk (ps_is (ps_r s 0 4) 2) (ps_nk (ps_is (ps_r s 0 4) 2) (ps_Cl d 33 [.ref (ps_r s 0 4), .int ((ps_i s (ps_r s 0 4) 8) - 1)] s (ps_rA (fun v1 s1 =>
        ps_nk (ps_is v1 8) ((0 < (ps_i s1 v1 8) →
          Q (some (.int (-1))) s1) ∧
        ((ps_i s1 v1 8) ≤ 0 →
          ps_nk (ps_is v1 8) (ps_nk (ps_is (ps_c0 v1 6) 5) (ps_Cl d 101 [.ref (ps_c0 v1 6)] s1 (ps_rI (fun v2 s2 =>
            (v2 = 0 →
              ps_Cl d 111 [.ref 870, .ref v1] s2 (ps_rI (fun v3 s3 =>
                Q (some (.int v3)) s3))) ∧
            (v2 ≠ 0 →
              Q (some (.int (-1))) s2)))))))))))) ∧
    ((ps_i s (ps_r s 0 4) 8) = 0 →
      Q (some (.int (-1))) s))))) : ps_At (d + 1) 158 0 [(0, .ref 0)] [] s Q :=
  ps_wp_at (stops := []) (n := 39) h rfl

theorem xs_158 {m s : ps_S} {t : Int32} {d : Nat} {f : Int32 → ps_S → Prop} (J : xJ m t s) (k : ∀ (v : Int32) (s' : ps_S), xJ m t s' → f v s') : ps_Cl (d + 4) 158 [.ref 0] s (ps_rI f) :=
  pg_158_0 (d := d + 3) (ps_nk_i (xj_11_4 J (rfl : ps_is 0 11 = true)) (And.intro (fun f1 => (k (-1) s J)) (fun f1 => (ps_nk_i (xj_11_4 J (rfl : ps_is 0 11 = true)) (And.intro (fun f2 => (ps_nk_i (xj_11_4 J (rfl : ps_is 0 11 = true)) (ps_nk_i (xj_11_4 J (rfl : ps_is 0 11 = true)) (xs_33 (xj_11_4 J (rfl : ps_is 0 11 = true)) J (fun v1 g1 => (ps_nk_i g1 (And.intro (fun f3 => (k (-1) s J)) (fun f3 => (ps_nk_i g1 (ps_nk_i (xk_8_6 g1) (xs_101 (xk_8_6 g1) J (fun v2 b2 => (And.intro (fun f4 => (xs_111 (rfl : ps_is 870 7 = true) g1 J (fun v3 s3 J3 => (k v3 s3 J3)))) (fun f4 => (k (-1) s J))))))))))))))) (fun f2 => (k (-1) s J)))))))

-- ProofBench.theorem(II)I
theorem pg_159_0 {d : Nat} {x1 : Int32} {x2 : Int32} {s : ps_S} {Q : Option Value → ps_S → Prop} (h :
  ps_Cl d 109 [.ref 870, .int x1] s (ps_rI (fun v1 s1 =>
    (v1 = 0 →
      Q (some (.int (-1))) s1) ∧
    (v1 ≠ 0 →
      ps_Cl d 110 [.ref 870, .int x1] s1 (ps_rA (fun v2 s2 =>
        ps_nk (ps_is v2 5) (ps_Cl d 92 [.ref v2, .int x2] s2 (ps_rI (fun v3 s3 =>
          Q (some (.int v3)) s3))))))))) : ps_At (d + 1) 159 0 [(0, .ref 0), (1, .int x1), (2, .int x2)] [] s Q :=
  ps_wp_at (stops := []) (n := 17) h rfl

theorem xs_159 {m s : ps_S} {t : Int32} {d : Nat} {x1 : Int32} {x2 : Int32} {f : Int32 → ps_S → Prop} (J : xJ m t s) (k : ∀ (v : Int32), f v s) : ps_Cl (d + 1) 159 [.ref 0, .int x1, .int x2] s (ps_rI f) :=
  pg_159_0 (d := d) (xs_109 (rfl : ps_is 870 7 = true) J (fun v1 b1 => (And.intro (fun f1 => (k (-1))) (fun f1 => (xs_110 (rfl : ps_is 870 7 = true) J (fun v2 g2 => (ps_nk_i g2 (xs_92 g2 J (fun v3 => (k v3))))))))))

-- ProofBench.leans(II)I
theorem pg_160_0 {d : Nat} {x1 : Int32} {x2 : Int32} {s : ps_S} {Q : Option Value → ps_S → Prop} (h :
  ps_Cl d 109 [.ref 870, .int x1] s (ps_rI (fun v1 s1 =>
    (v1 ≠ 0 →
      (x2 = 0 →
        ps_Cl d 182 [.ref 874, .int x1] s1 (ps_rI (fun v2 s2 =>
          Q (some (.int v2)) s2))) ∧
      (x2 ≠ 0 →
        (x2 = 1 →
        ps_Cl d 182 [.ref 875, .int x1] s1 (ps_rI (fun v3 s3 =>
          Q (some (.int v3)) s3))) ∧
      (x2 ≠ 1 →
        (x2 = 2 →
        ps_Cl d 182 [.ref 876, .int x1] s1 (ps_rI (fun v4 s4 =>
          Q (some (.int v4)) s4))) ∧
      (x2 ≠ 2 →
        Q (some (.int (-1))) s1)))) ∧
    (v1 = 0 →
      Q (some (.int (-1))) s1)))) : ps_At (d + 1) 160 0 [(0, .ref 0), (1, .int x1), (2, .int x2)] [] s Q :=
  ps_wp_at (stops := []) (n := 31) h rfl

theorem xs_160 {m s : ps_S} {t : Int32} {d : Nat} {x1 : Int32} {x2 : Int32} {f : Int32 → ps_S → Prop} (J : xJ m t s) (k : ∀ (v : Int32), f v s) : ps_Cl (d + 1) 160 [.ref 0, .int x1, .int x2] s (ps_rI f) :=
  pg_160_0 (d := d) (xs_109 (rfl : ps_is 870 7 = true) J (fun v1 b1 => (And.intro (fun f1 => (And.intro (fun f2 => (xs_182 (xq_a (r := 874) (t := 0) rfl rfl) J (fun v2 => (k v2)))) (fun f2 => (And.intro (fun f3 => (xs_182 (xq_a (r := 875) (t := 0) rfl rfl) J (fun v3 => (k v3)))) (fun f3 => (And.intro (fun f4 => (xs_182 (xq_a (r := 876) (t := 0) rfl rfl) J (fun v4 => (k v4)))) (fun f4 => (k (-1))))))))) (fun f1 => (k (-1))))))

-- ProofBench.drop()I
theorem pg_161_0 {d : Nat} {s : ps_S} {Q : Option Value → ps_S → Prop} (h :
  (0 < (ps_i s 870 5) →
    ps_nk (ps_is (ps_r (ps_ui s 870 5 ((ps_i s 870 5) - 1)) 0 4) 2) (ps_Cl d 31 [.ref (ps_r (ps_ui s 870 5 ((ps_i s 870 5) - 1)) 0 4)] (ps_ui s 870 5 ((ps_i s 870 5) - 1)) (ps_rV (fun s1 =>
      Q (some (.int (ps_i s1 870 5))) s1)))) ∧
  ((ps_i s 870 5) ≤ 0 →
    Q (some (.int (-1))) s)) : ps_At (d + 1) 161 0 [(0, .ref 0)] [] s Q :=
  ps_wp_at (stops := []) (n := 22) h rfl

theorem xs_161 {m s : ps_S} {t : Int32} {d : Nat} {f : Int32 → ps_S → Prop} (J : xJ m t s) (k : ∀ (v : Int32) (s' : ps_S), xJ m t s' → f v s') : ps_Cl (d + 1) 161 [.ref 0] s (ps_rI f) :=
  pg_161_0 (d := d) (And.intro (fun f1 => (ps_nk_i (xj_11_4 (xw_i (c := 7) (by decide) (rfl : ps_is 870 7 = true) J) (rfl : ps_is 0 11 = true)) (xs_31 (xj_11_4 (xw_i (c := 7) (by decide) (rfl : ps_is 870 7 = true) J) (rfl : ps_is 0 11 = true)) (xw_i (c := 7) (by decide) (rfl : ps_is 870 7 = true) J) (fun s1 J1 => (k (ps_i s1 870 5) s1 J1))))) (fun f1 => (k (-1) s J)))

-- ProofBench.read()I
theorem pg_162_0 {d : Nat} {s : ps_S} {Q : Option Value → ps_S → Prop} (h :
  ps_Cl d 60 [.ref 902, .ref 1, .int (ps_i s 0 1), .ref (ps_r s 0 2), .ref 934, .int 0] s (ps_rI (fun v1 s1 =>
    (v1 ≠ 0 →
      Q (some (.int (ps_i (ps_ui s1 0 1 0) 934 1))) (ps_ui s1 0 1 0)) ∧
    (v1 = 0 →
      ps_Cl d 91 [.ref 934] (ps_ui s1 0 1 0) (ps_rV (fun s2 =>
        Q (some (.int (-1))) s2)))))) : ps_At (d + 1) 162 0 [(0, .ref 0)] [] s Q :=
  ps_wp_at (stops := []) (n := 29) h rfl

theorem xs_162 {m s : ps_S} {t : Int32} {d : Nat} {f : Int32 → ps_S → Prop} (J : xJ m t s) (k : ∀ (v : Int32) (s' : ps_S), xJ m 0 s' → f v s') : ps_Cl (d + 39) 162 [.ref 0] s (ps_rI f) :=
  pg_162_0 (d := d + 38) (xs_60 (rfl : ps_is 902 3 = true) (xq_a (r := 1) (t := 1) rfl rfl) (xj_11_2 J (rfl : ps_is 0 11 = true)) (rfl : ps_is 934 5 = true) J (fun v1 s1 b1 J1 => (And.intro (fun f1 => (k (ps_i (ps_ui s1 0 1 0) 934 1) (ps_ui s1 0 1 0) (xw_tape J1))) (fun f1 => (xs_91 (rfl : ps_is 934 5 = true) (xw_tape J1) (fun s2 J2 => (k (-1) s2 J2)))))))

-- ProofBench.piece(I)I
theorem pg_163_0 {d : Nat} {x1 : Int32} {s : ps_S} {Q : Option Value → ps_S → Prop} (h :
  ps_Cl d 92 [.ref 934, .int x1] s (ps_rI (fun v1 s1 =>
    Q (some (.int v1)) s1))) : ps_At (d + 1) 163 0 [(0, .ref 0), (1, .int x1)] [] s Q :=
  ps_wp_at (stops := []) (n := 7) h rfl

theorem xs_163 {m s : ps_S} {t : Int32} {d : Nat} {x1 : Int32} {f : Int32 → ps_S → Prop} (J : xJ m t s) (k : ∀ (v : Int32), f v s) : ps_Cl (d + 1) 163 [.ref 0, .int x1] s (ps_rI f) :=
  pg_163_0 (d := d) (xs_92 (rfl : ps_is 934 5 = true) J (fun v1 => (k v1)))

-- ProofBench.alike()I
theorem pg_164_0 {d : Nat} {s : ps_S} {Q : Option Value → ps_S → Prop} (h :
  ps_At (d + 1) 164 2 [(0, .ref 0), (1, .int 0)] [] s Q) : ps_At (d + 1) 164 0 [(0, .ref 0)] [] s Q :=
  ps_wp_at (stops := [(2, [0, 1])]) (n := 4) h rfl

theorem pg_164_2 {d : Nat} {x1 : Int32} {s : ps_S} {Q : Option Value → ps_S → Prop} (h :
  ps_nk (ps_is (ps_r s 0 4) 2) (((ps_i s (ps_r s 0 4) 8) ≤ x1 →
    Q (some (.int (-1))) s) ∧
  (x1 < (ps_i s (ps_r s 0 4) 8) →
    ps_nk (ps_is (ps_r s 0 4) 2) (ps_Cl d 33 [.ref (ps_r s 0 4), .int x1] s (ps_rA (fun v1 s1 =>
      ps_nk (ps_is v1 8) (ps_nk (ps_is (ps_c0 v1 6) 5) (ps_Cl d 98 [.ref (ps_c0 v1 6), .ref 934] s1 (ps_rI (fun v2 s2 =>
        (v2 = 0 →
          ps_At (d + 1) 164 2 [(0, .ref 0), (1, .int (x1 + 1))] [] s2 Q) ∧
        (v2 ≠ 0 →
          Q (some (.int x1)) s2))))))))))) : ps_At (d + 1) 164 2 [(0, .ref 0), (1, .int x1)] [] s Q :=
  ps_wp_at (stops := [(2, [0, 1])]) (n := 22) h rfl

theorem xs_164_2 {m s : ps_S} {t : Int32} {d : Nat} {x1 : Int32} {Q : Option Value → ps_S → Prop} (J : xJ m t s) (k : ∀ (v : Int32), Q (some (.int v)) s) : ps_At (d + 2) 164 2 [(0, .ref 0), (1, .int x1)] [] s Q :=
  xs_up (P := fun x1 => ps_At (d + 2) 164 2 [(0, .ref 0), (1, .int x1)] [] s Q) (fun x1 ih  => pg_164_2 (d := d + 1) (ps_nk_i (xj_11_4 J (rfl : ps_is 0 11 = true)) (And.intro (fun f1 => (k (-1))) (fun f1 => (ps_nk_i (xj_11_4 J (rfl : ps_is 0 11 = true)) (xs_33 (xj_11_4 J (rfl : ps_is 0 11 = true)) J (fun v1 g1 => (ps_nk_i g1 (ps_nk_i (xk_8_6 g1) (xs_98 (xk_8_6 g1) (rfl : ps_is 934 5 = true) J (fun v2 b2 => (And.intro (fun f2 => (ih ((x1 + 1)) (xs_lt f1) )) (fun f2 => (k x1)))))))))))))) x1 

theorem xs_164 {m s : ps_S} {t : Int32} {d : Nat} {f : Int32 → ps_S → Prop} (J : xJ m t s) (k : ∀ (v : Int32), f v s) : ps_Cl (d + 2) 164 [.ref 0] s (ps_rI f) :=
  pg_164_0 (d := d + 1) (xs_164_2 (d := d) (x1 := 0)  J k )

-- ProofBench.needs(I)J
theorem pg_165_0 {d : Nat} {x1 : Int32} {s : ps_S} {Q : Option Value → ps_S → Prop} (h :
  ps_nk (ps_is (ps_r s 0 4) 2) (ps_Cl d 32 [.ref (ps_r s 0 4), .int x1] s (ps_rI (fun v1 s1 =>
    (v1 = 0 →
      Q (some (.long (-1 : Int64))) s1) ∧
    (v1 ≠ 0 →
      ps_nk (ps_is (ps_r s1 0 4) 2) (ps_Cl d 33 [.ref (ps_r s1 0 4), .int x1] s1 (ps_rA (fun v2 s2 =>
        ps_nk (ps_is v2 8) (Q (some (.long (ps_j s2 v2 12))) s2))))))))) : ps_At (d + 1) 165 0 [(0, .ref 0), (1, .int x1)] [] s Q :=
  ps_wp_at (stops := []) (n := 16) h rfl

theorem xs_165 {m s : ps_S} {t : Int32} {d : Nat} {x1 : Int32} {f : Int64 → ps_S → Prop} (J : xJ m t s) (k : ∀ (v : Int64), f v s) : ps_Cl (d + 1) 165 [.ref 0, .int x1] s (ps_rJ f) :=
  pg_165_0 (d := d) (ps_nk_i (xj_11_4 J (rfl : ps_is 0 11 = true)) (xs_32 (xj_11_4 J (rfl : ps_is 0 11 = true)) J (fun v1 b1 => (And.intro (fun f1 => (k (-1 : Int64))) (fun f1 => (ps_nk_i (xj_11_4 J (rfl : ps_is 0 11 = true)) (xs_33 (xj_11_4 J (rfl : ps_is 0 11 = true)) J (fun v2 g2 => (ps_nk_i g2 (k (ps_j s v2 12)))))))))))

-- ProofBench.letters()I
theorem pg_166_0 {d : Nat} {s : ps_S} {Q : Option Value → ps_S → Prop} (h :
  ((ps_i s 934 1) ≠ 0 →
    ps_Cl d 21 [.ref 936, .ref 934, .ref (ps_r s 0 2)] s (ps_rV (fun s1 =>
      Q (some (.int (ps_i s1 936 4))) s1))) ∧
  ((ps_i s 934 1) = 0 →
    Q (some (.int (-1))) s)) : ps_At (d + 1) 166 0 [(0, .ref 0)] [] s Q :=
  ps_wp_at (stops := []) (n := 19) h rfl

theorem xs_166 {m s : ps_S} {t : Int32} {d : Nat} {f : Int32 → ps_S → Prop} (J : xJ m t s) (k : ∀ (v : Int32) (s' : ps_S), xJ m t s' → f v s') : ps_Cl (d + 4) 166 [.ref 0] s (ps_rI f) :=
  pg_166_0 (d := d + 3) (And.intro (fun f1 => (xs_21 (rfl : ps_is 936 1 = true) (rfl : ps_is 934 5 = true) (xj_11_2 J (rfl : ps_is 0 11 = true)) J (fun s1 J1 => (k (ps_i s1 936 4) s1 J1)))) (fun f1 => (k (-1) s J)))

-- ProofBench.table()I
theorem pg_167_0 {d : Nat} {s : ps_S} {Q : Option Value → ps_S → Prop} (h :
  ((ps_i s 934 1) ≠ 0 →
    ps_Cl d 21 [.ref 936, .ref 934, .ref (ps_r s 0 2)] s (ps_rV (fun s1 =>
      ((ps_i s1 936 4) ≤ 12 →
        ps_Cl d 23 [.ref 936] s1 (ps_rI (fun v2 s2 =>
          Q (some (.int v2)) s2))) ∧
      (12 < (ps_i s1 936 4) →
        Q (some (.int (-2))) s1)))) ∧
  ((ps_i s 934 1) = 0 →
    Q (some (.int (-1))) s)) : ps_At (d + 1) 167 0 [(0, .ref 0)] [] s Q :=
  ps_wp_at (stops := []) (n := 27) h rfl

theorem xs_167 {m s : ps_S} {t : Int32} {d : Nat} {f : Int32 → ps_S → Prop} (J : xJ m t s) (k : ∀ (v : Int32) (s' : ps_S), xJ m t s' → f v s') : ps_Cl (d + 4) 167 [.ref 0] s (ps_rI f) :=
  pg_167_0 (d := d + 3) (And.intro (fun f1 => (xs_21 (rfl : ps_is 936 1 = true) (rfl : ps_is 934 5 = true) (xj_11_2 J (rfl : ps_is 0 11 = true)) J (fun s1 J1 => (And.intro (fun f2 => (xs_23 (rfl : ps_is 936 1 = true) J1 (fun v2 s2 J2 => (k v2 s2 J2)))) (fun f2 => (k (-2) s1 J1)))))) (fun f1 => (k (-1) s J)))

-- ProofBench.row()I
theorem pg_168_0 {d : Nat} {s : ps_S} {Q : Option Value → ps_S → Prop} (h :
  ((ps_i s 934 1) ≠ 0 →
    ps_Cl d 21 [.ref 936, .ref 934, .ref (ps_r s 0 2)] s (ps_rV (fun s1 =>
      ((ps_i s1 936 4) ≤ 12 →
        ps_Cl d 24 [.ref 936] s1 (ps_rI (fun v2 s2 =>
          Q (some (.int v2)) s2))) ∧
      (12 < (ps_i s1 936 4) →
        Q (some (.int (-2))) s1)))) ∧
  ((ps_i s 934 1) = 0 →
    Q (some (.int (-1))) s)) : ps_At (d + 1) 168 0 [(0, .ref 0)] [] s Q :=
  ps_wp_at (stops := []) (n := 27) h rfl

theorem xs_168 {m s : ps_S} {t : Int32} {d : Nat} {f : Int32 → ps_S → Prop} (J : xJ m t s) (k : ∀ (v : Int32) (s' : ps_S), xJ m t s' → f v s') : ps_Cl (d + 4) 168 [.ref 0] s (ps_rI f) :=
  pg_168_0 (d := d + 3) (And.intro (fun f1 => (xs_21 (rfl : ps_is 936 1 = true) (rfl : ps_is 934 5 = true) (xj_11_2 J (rfl : ps_is 0 11 = true)) J (fun s1 J1 => (And.intro (fun f2 => (xs_24 (rfl : ps_is 936 1 = true) J1 (fun v2 s2 J2 => (k v2 s2 J2)))) (fun f2 => (k (-2) s1 J1)))))) (fun f1 => (k (-1) s J)))

-- ProofBench.rewrite()I
theorem pg_169_0 {d : Nat} {s : ps_S} {Q : Option Value → ps_S → Prop} (h :
  ps_Cl d 60 [.ref 902, .ref 1, .int (ps_i s 0 1), .ref (ps_r s 0 2), .ref 1022, .int 1] s (ps_rI (fun v1 s1 =>
    (v1 ≠ 0 →
      ps_Cl d 85 [.ref 1021, .ref (ps_r (ps_ui s1 0 1 0) 0 2)] (ps_ui s1 0 1 0) (ps_rI (fun v2 s2 =>
        Q (some (.int v2)) s2))) ∧
    (v1 = 0 →
      ps_Cl d 81 [.ref 1021] (ps_ui s1 0 1 0) (ps_rV (fun s3 =>
        Q (some (.int (-1))) s3)))))) : ps_At (d + 1) 169 0 [(0, .ref 0)] [] s Q :=
  ps_wp_at (stops := []) (n := 32) h rfl

theorem xs_169 {m s : ps_S} {t : Int32} {d : Nat} {f : Int32 → ps_S → Prop} (J : xJ m t s) (k : ∀ (v : Int32) (s' : ps_S), xJ m 0 s' → f v s') : ps_Cl (d + 39) 169 [.ref 0] s (ps_rI f) :=
  pg_169_0 (d := d + 38) (xs_60 (rfl : ps_is 902 3 = true) (xq_a (r := 1) (t := 1) rfl rfl) (xj_11_2 J (rfl : ps_is 0 11 = true)) (rfl : ps_is 1022 5 = true) J (fun v1 s1 b1 J1 => (And.intro (fun f1 => (xs_85 (rfl : ps_is 1021 4 = true) (xj_11_2 (xw_tape J1) (rfl : ps_is 0 11 = true)) (xw_tape J1) (fun v2 s2 J2 => (k v2 s2 J2)))) (fun f1 => (xs_81 (rfl : ps_is 1021 4 = true) (xw_tape J1) (fun s3 J3 => (k (-1) s3 J3)))))))

-- ProofBench.normal(I)I
theorem pg_170_0 {d : Nat} {x1 : Int32} {s : ps_S} {Q : Option Value → ps_S → Prop} (h :
  ps_Cl d 92 [.ref 1022, .int x1] s (ps_rI (fun v1 s1 =>
    Q (some (.int v1)) s1))) : ps_At (d + 1) 170 0 [(0, .ref 0), (1, .int x1)] [] s Q :=
  ps_wp_at (stops := []) (n := 8) h rfl

theorem xs_170 {m s : ps_S} {t : Int32} {d : Nat} {x1 : Int32} {f : Int32 → ps_S → Prop} (J : xJ m t s) (k : ∀ (v : Int32), f v s) : ps_Cl (d + 1) 170 [.ref 0, .int x1] s (ps_rI f) :=
  pg_170_0 (d := d) (xs_92 (rfl : ps_is 1022 5 = true) J (fun v1 => (k v1)))

-- ProofBench.rules()I
theorem pg_171_0 {d : Nat} {s : ps_S} {Q : Option Value → ps_S → Prop} (h :
  ps_Cl d 82 [.ref 1021, .ref (ps_r s 0 2)] s (ps_rI (fun v1 s1 =>
    Q (some (.int v1)) s1))) : ps_At (d + 1) 171 0 [(0, .ref 0)] [] s Q :=
  ps_wp_at (stops := []) (n := 8) h rfl

theorem xs_171 {m s : ps_S} {t : Int32} {d : Nat} {f : Int32 → ps_S → Prop} (J : xJ m t s) (k : ∀ (v : Int32) (s' : ps_S), xJ m t s' → f v s') : ps_Cl (d + 4) 171 [.ref 0] s (ps_rI f) :=
  pg_171_0 (d := d + 3) (xs_82 (rfl : ps_is 1021 4 = true) (xj_11_2 J (rfl : ps_is 0 11 = true)) J (fun v1 s1 J1 => (k v1 s1 J1)))

-- ProofBench.areThings(I)Z
theorem pg_181_0 {d : Nat} {x0 : Int32} {s : ps_S} {Q : Option Value → ps_S → Prop} (h :
  (x0 < 1 →
    Q (some (.int 0)) s) ∧
  (1 ≤ x0 →
    (3 < x0 →
      Q (some (.int 0)) s) ∧
    (x0 ≤ 3 →
      Q (some (.int 1)) s))) : ps_At d 181 0 [(0, .int x0)] [] s Q :=
  ps_wp_at (stops := []) (n := 15) h rfl

theorem xs_181 {m s : ps_S} {t : Int32} {d : Nat} {x0 : Int32} {f : Int32 → ps_S → Prop} (J : xJ m t s) (k : ∀ (v : Int32), v &&& 1 = v → f v s) : ps_Cl d 181 [.int x0] s (ps_rI f) :=
  pg_181_0 (And.intro (fun f1 => (k 0 (by decide))) (fun f1 => (And.intro (fun f2 => (k 0 (by decide))) (fun f2 => (k 1 (by decide))))))

-- ProofBench.models(I)I
theorem pg_172_0 {d : Nat} {x1 : Int32} {s : ps_S} {Q : Option Value → ps_S → Prop} (h :
  ps_Cl d 181 [.int x1] s (ps_rI (fun v1 s1 =>
    (v1 = 0 →
      Q (some (.int (-1))) s1) ∧
    (v1 ≠ 0 →
      ps_Cl d 2 [.ref 944, .ref (ps_r s1 0 2), .int x1] s1 (ps_rI (fun v2 s2 =>
        Q (some (.int v2)) s2)))))) : ps_At (d + 1) 172 0 [(0, .ref 0), (1, .int x1)] [] s Q :=
  ps_wp_at (stops := []) (n := 15) h rfl

theorem xs_172 {m s : ps_S} {t : Int32} {d : Nat} {x1 : Int32} {f : Int32 → ps_S → Prop} (J : xJ m t s) (k : ∀ (v : Int32) (s' : ps_S), xJ m t s' → f v s') : ps_Cl (d + 4) 172 [.ref 0, .int x1] s (ps_rI f) :=
  pg_172_0 (d := d + 3) (xs_181  J (fun v1 b1 => (And.intro (fun f1 => (k (-1) s J)) (fun f1 => (xs_2 (rfl : ps_is 944 0 = true) (xj_11_2 J (rfl : ps_is 0 11 = true)) J (fun v2 s2 J2 => (k v2 s2 J2)))))))

-- ProofBench.hold(I)I
theorem pg_173_0 {d : Nat} {x1 : Int32} {s : ps_S} {Q : Option Value → ps_S → Prop} (h :
  ps_Cl d 181 [.int x1] s (ps_rI (fun v1 s1 =>
    (v1 = 0 →
      Q (some (.int (-1))) s1) ∧
    (v1 ≠ 0 →
      ps_Cl d 3 [.ref 944, .ref (ps_r s1 0 2), .int x1] s1 (ps_rI (fun v2 s2 =>
        Q (some (.int v2)) s2)))))) : ps_At (d + 1) 173 0 [(0, .ref 0), (1, .int x1)] [] s Q :=
  ps_wp_at (stops := []) (n := 15) h rfl

theorem xs_173 {m s : ps_S} {t : Int32} {d : Nat} {x1 : Int32} {f : Int32 → ps_S → Prop} (J : xJ m t s) (k : ∀ (v : Int32) (s' : ps_S), xJ m t s' → f v s') : ps_Cl (d + 40) 173 [.ref 0, .int x1] s (ps_rI f) :=
  pg_173_0 (d := d + 39) (xs_181  J (fun v1 b1 => (And.intro (fun f1 => (k (-1) s J)) (fun f1 => (xs_3 (rfl : ps_is 944 0 = true) (xj_11_2 J (rfl : ps_is 0 11 = true)) J (fun v2 s2 J2 => (k v2 s2 J2)))))))

-- ProofBench.holds(II)I
theorem pg_174_0 {d : Nat} {x1 : Int32} {x2 : Int32} {s : ps_S} {Q : Option Value → ps_S → Prop} (h :
  ps_Cl d 181 [.int x1] s (ps_rI (fun v1 s1 =>
    (v1 = 0 →
      Q (some (.int (-1))) s1) ∧
    (v1 ≠ 0 →
      (x2 < 0 →
        Q (some (.int (-1))) s1) ∧
      (0 ≤ x2 →
        ((ps_i s1 934 1) ≠ 0 →
          ps_Cl d 4 [.ref 944, .ref (ps_r s1 0 2), .ref 934, .int x1, .int x2] s1 (ps_rI (fun v2 s2 =>
            Q (some (.int v2)) s2))) ∧
        ((ps_i s1 934 1) = 0 →
          Q (some (.int (-1))) s1)))))) : ps_At (d + 1) 174 0 [(0, .ref 0), (1, .int x1), (2, .int x2)] [] s Q :=
  ps_wp_at (stops := []) (n := 27) h rfl

theorem xs_174 {m s : ps_S} {t : Int32} {d : Nat} {x1 : Int32} {x2 : Int32} {f : Int32 → ps_S → Prop} (J : xJ m t s) (k : ∀ (v : Int32) (s' : ps_S), xJ m t s' → f v s') : ps_Cl (d + 39) 174 [.ref 0, .int x1, .int x2] s (ps_rI f) :=
  pg_174_0 (d := d + 38) (xs_181  J (fun v1 b1 => (And.intro (fun f1 => (k (-1) s J)) (fun f1 => (And.intro (fun f2 => (k (-1) s J)) (fun f2 => (And.intro (fun f3 => (xs_4 (rfl : ps_is 944 0 = true) (xj_11_2 J (rfl : ps_is 0 11 = true)) (rfl : ps_is 934 5 = true) J (fun v2 s2 J2 => (k v2 s2 J2)))) (fun f3 => (k (-1) s J)))))))))

-- ProofBench.counter(I)I
theorem pg_175_0 {d : Nat} {x1 : Int32} {s : ps_S} {Q : Option Value → ps_S → Prop} (h :
  ps_Cl d 181 [.int x1] s (ps_rI (fun v1 s1 =>
    (v1 = 0 →
      Q (some (.int (-1))) s1) ∧
    (v1 ≠ 0 →
      ((ps_i s1 934 1) ≠ 0 →
        ps_Cl d 5 [.ref 944, .ref (ps_r s1 0 2), .ref 934, .int x1] s1 (ps_rI (fun v2 s2 =>
          Q (some (.int v2)) s2))) ∧
      ((ps_i s1 934 1) = 0 →
        Q (some (.int (-1))) s1))))) : ps_At (d + 1) 175 0 [(0, .ref 0), (1, .int x1)] [] s Q :=
  ps_wp_at (stops := []) (n := 22) h rfl

theorem xs_175 {m s : ps_S} {t : Int32} {d : Nat} {x1 : Int32} {f : Int32 → ps_S → Prop} (J : xJ m t s) (k : ∀ (v : Int32) (s' : ps_S), xJ m t s' → f v s') : ps_Cl (d + 40) 175 [.ref 0, .int x1] s (ps_rI f) :=
  pg_175_0 (d := d + 39) (xs_181  J (fun v1 b1 => (And.intro (fun f1 => (k (-1) s J)) (fun f1 => (And.intro (fun f2 => (xs_5 (rfl : ps_is 944 0 = true) (xj_11_2 J (rfl : ps_is 0 11 = true)) (rfl : ps_is 934 5 = true) J (fun v2 s2 J2 => (k v2 s2 J2)))) (fun f2 => (k (-1) s J)))))))

-- ProofBench.image(I)I
theorem pg_176_0 {d : Nat} {x1 : Int32} {s : ps_S} {Q : Option Value → ps_S → Prop} (h :
  (x1 < 0 →
    Q (some (.int (-1))) s) ∧
  (0 ≤ x1 →
    (x1 < (nI 3) →
      ps_Cl d 180 [.ref 0, .int x1] s (ps_rA (fun v1 s1 =>
        ps_nk (ps_is v1 7) (ps_Cl d 112 [.ref v1, .ref 870] s1 (ps_rV (fun s2 =>
          ps_Cl d 180 [.ref 0, .int x1] s2 (ps_rA (fun v3 s3 =>
            ps_nk (ps_is v3 7) (Q (some (.int (ps_i (ps_ui s3 v3 6 1) 870 5))) (ps_ui s3 v3 6 1)))))))))) ∧
    ((nI 3) ≤ x1 →
      Q (some (.int (-1))) s))) : ps_At (d + 1) 176 0 [(0, .ref 0), (1, .int x1)] [] s Q :=
  ps_wp_at (stops := []) (n := 28) h rfl

theorem xs_176 {m s : ps_S} {t : Int32} {d : Nat} {x1 : Int32} {f : Int32 → ps_S → Prop} (J : xJ m t s) (k : ∀ (v : Int32) (s' : ps_S), xJ m t s' → f v s') : ps_Cl (d + 4) 176 [.ref 0, .int x1] s (ps_rI f) :=
  pg_176_0 (d := d + 3) (And.intro (fun f1 => (k (-1) s J)) (fun f1 => (And.intro (fun f2 => (xs_180  J (fun v1 g1 => (ps_nk_i g1 (xs_112 g1 (rfl : ps_is 870 7 = true) J (fun s2 J2 => (xs_180  J2 (fun v3 g3 => (ps_nk_i g3 (k (ps_i (ps_ui s2 v3 6 1) 870 5) (ps_ui s2 v3 6 1) (xw_i (c := 7) (by decide) g3 J2))))))))))) (fun f2 => (k (-1) s J)))))

-- ProofBench.back(I)I
theorem pg_177_0 {d : Nat} {x1 : Int32} {s : ps_S} {Q : Option Value → ps_S → Prop} (h :
  (x1 < 0 →
    Q (some (.int (-1))) s) ∧
  (0 ≤ x1 →
    ((nI 3) ≤ x1 →
      Q (some (.int (-1))) s) ∧
    (x1 < (nI 3) →
      ps_Cl d 180 [.ref 0, .int x1] s (ps_rA (fun v1 s1 =>
        ps_nk (ps_is v1 7) (((ps_i s1 v1 6) ≠ 0 →
          ps_Cl d 180 [.ref 0, .int x1] s1 (ps_rA (fun v2 s2 =>
            ps_Cl d 112 [.ref 870, .ref v2] s2 (ps_rV (fun s3 =>
              ps_nk (ps_is (ps_r s3 0 4) 2) (ps_Cl d 31 [.ref (ps_r s3 0 4)] s3 (ps_rV (fun s4 =>
                Q (some (.int (ps_i s4 870 5))) s4)))))))) ∧
        ((ps_i s1 v1 6) = 0 →
          Q (some (.int (-1))) s1))))))) : ps_At (d + 1) 177 0 [(0, .ref 0), (1, .int x1)] [] s Q :=
  ps_wp_at (stops := []) (n := 33) h rfl

theorem xs_177 {m s : ps_S} {t : Int32} {d : Nat} {x1 : Int32} {f : Int32 → ps_S → Prop} (J : xJ m t s) (k : ∀ (v : Int32) (s' : ps_S), xJ m t s' → f v s') : ps_Cl (d + 4) 177 [.ref 0, .int x1] s (ps_rI f) :=
  pg_177_0 (d := d + 3) (And.intro (fun f1 => (k (-1) s J)) (fun f1 => (And.intro (fun f2 => (k (-1) s J)) (fun f2 => (xs_180  J (fun v1 g1 => (ps_nk_i g1 (And.intro (fun f3 => (xs_180  J (fun v2 g2 => (xs_112 (rfl : ps_is 870 7 = true) g2 J (fun s3 J3 => (ps_nk_i (xj_11_4 J3 (rfl : ps_is 0 11 = true)) (xs_31 (xj_11_4 J3 (rfl : ps_is 0 11 = true)) J3 (fun s4 J4 => (k (ps_i s4 870 5) s4 J4))))))))) (fun f3 => (k (-1) s J))))))))))

-- ProofBench.about(I)I
theorem pg_178_0 {d : Nat} {x1 : Int32} {s : ps_S} {Q : Option Value → ps_S → Prop} (h :
  (x1 = 0 →
    ps_nk (ps_is (ps_r s 0 2) 9) (Q (some (.int (ps_i s (ps_r s 0 2) 6))) s)) ∧
  (x1 ≠ 0 →
    (x1 = 1 →
    ps_nk (ps_is (ps_r s 0 2) 9) (Q (some (.int (ps_i s (ps_r s 0 2) 7))) s)) ∧
  (x1 ≠ 1 →
    (x1 = 2 →
    ps_nk (ps_is (ps_r s 0 2) 9) (Q (some (.int (ps_i s (ps_r s 0 2) 8))) s)) ∧
  (x1 ≠ 2 →
    (x1 = 3 →
    ps_nk (ps_is (ps_r s 0 4) 2) (Q (some (.int (ps_i s (ps_r s 0 4) 8))) s)) ∧
  (x1 ≠ 3 →
    (x1 = 4 →
    Q (some (.int (ps_i s 870 5))) s) ∧
  (x1 ≠ 4 →
    (x1 = 5 →
    Q (some (.int (ps_i s 0 1))) s) ∧
  (x1 ≠ 5 →
    (x1 = 6 →
    Q (some (.int (ps_i s 934 1))) s) ∧
  (x1 ≠ 6 →
    Q (some (.int (-1))) s)))))))) : ps_At d 178 0 [(0, .ref 0), (1, .int x1)] [] s Q :=
  ps_wp_at (stops := []) (n := 33) h rfl

theorem xs_178 {m s : ps_S} {t : Int32} {d : Nat} {x1 : Int32} {f : Int32 → ps_S → Prop} (J : xJ m t s) (k : ∀ (v : Int32), f v s) : ps_Cl d 178 [.ref 0, .int x1] s (ps_rI f) :=
  pg_178_0 (And.intro (fun f1 => (ps_nk_i (xj_11_2 J (rfl : ps_is 0 11 = true)) (k (ps_i s (ps_r s 0 2) 6)))) (fun f1 => (And.intro (fun f2 => (ps_nk_i (xj_11_2 J (rfl : ps_is 0 11 = true)) (k (ps_i s (ps_r s 0 2) 7)))) (fun f2 => (And.intro (fun f3 => (ps_nk_i (xj_11_2 J (rfl : ps_is 0 11 = true)) (k (ps_i s (ps_r s 0 2) 8)))) (fun f3 => (And.intro (fun f4 => (ps_nk_i (xj_11_4 J (rfl : ps_is 0 11 = true)) (k (ps_i s (ps_r s 0 4) 8)))) (fun f4 => (And.intro (fun f5 => (k (ps_i s 870 5))) (fun f5 => (And.intro (fun f6 => (k (ps_i s 0 1))) (fun f6 => (And.intro (fun f7 => (k (ps_i s 934 1))) (fun f7 => (k (-1))))))))))))))))
