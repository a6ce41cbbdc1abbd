set_option maxRecDepth 100000
theorem xs_14_17 {m s : ps_S} {t : Int32} {d : Nat} {r0 : Nat} {x2 : Int32} {x3 : Int32} {Q : Option Value → ps_S → Prop} (h0 : ps_is r0 0 = true) (J : xJ m t s) (k : ∀ (v : Int32) (s' : ps_S), v &&& 1 = v → xJ m t s' → Q (some (.int v)) s') : ps_At (d + 37) 14 17 [(0, .ref r0), (2, .int x2), (3, .int x3)] [] s Q :=
  xs_up (P := fun x3 => ∀ (x2 : Int32) (s : ps_S), ps_is r0 0 = true → xJ m t s → ps_At (d + 37) 14 17 [(0, .ref r0), (2, .int x2), (3, .int x3)] [] s Q) (fun x3 ih x2 s h0 J => pg_14_17 (d := d + 36) (ps_nk_i h0 (And.intro (fun f1 => (xs_14_40 (d := d) (r0 := r0) (x2 := x2) (x3 := 0)  h0 J k )) (fun f1 => (ps_nk_i h0 (ih ((x3 + 1)) (xs_lt f1) ((x2 * (ps_i s r0 11))) s h0 J)))))) x3 x2 s h0 J


theorem xs_14 {m s : ps_S} {t : Int32} {d : Nat} {r0 : Nat} {r1 : Nat} {f : Int32 → ps_S → Prop} (h0 : ps_is r0 0 = true) (h1 : ps_is r1 5 = true) (J : xJ m t s) (k : ∀ (v : Int32) (s' : ps_S), v &&& 1 = v → xJ m t s' → f v s') : ps_Cl (d + 37) 14 [.ref r0, .ref r1] s (ps_rI f) :=
  pg_14_0 (d := d + 36) (ps_nk_i h0 (ps_nk_i h0 (ps_nk_i h0 (xs_14_17 (d := d) (r0 := r0) (x2 := 1) (x3 := 0)  h0 (xw_0_15 h0 (xk_0_6 h0) (xw_0_14 h0 h1 J)) k ))))


-- ProofBench$Judge.holdsIn(LProofBench$Theory;LProofBench$Row;II)I
theorem pg_4_0 {d : Nat} {r0 : Nat} {r1 : Nat} {r2 : Nat} {x3 : Int32} {x4 : Int32} {s : ps_S} {Q : Option Value → ps_S → Prop} (h :
  ps_nk (ps_is r0 0) (ps_Cl d 6 [.ref r0, .ref r1, .int x3] s (ps_rJ (fun v1 s1 =>
    ((lg_cmp (Int32.toInt64 x4) v1) < 0 →
      ps_nk (ps_is r0 0) (ps_Cl d 13 [.ref r0, .ref r2] s1 (ps_rV (fun s2 =>
        (0 < (lg_cmp v1 (4096 : Int64)) →
          Q (some (.int (-2))) s2) ∧
        ((lg_cmp v1 (4096 : Int64)) ≤ 0 →
          ps_nk (ps_is r0 0) (((ps_i s2 r0 10) ≤ 4 →
            ps_nk (ps_is r0 0) (ps_nk (ps_is r0 0) (ps_nk (ps_is (ps_c0 r0 6) 6) (ps_Cl d 103 [.ref (ps_c0 r0 6), .ref r2, .ref (ps_r s2 r0 16)] s2 (ps_rV (fun s3 =>
              ps_nk (ps_is r0 0) (ps_Cl d 8 [.ref r0, .int x4] s3 (ps_rV (fun s4 =>
                ps_nk (ps_is r0 0) (ps_Cl d 14 [.ref r0, .ref r2] s4 (ps_rI (fun v5 s5 =>
                  (v5 = 0 →
                    Q (some (.int 0)) s5) ∧
                  (v5 ≠ 0 →
                    Q (some (.int 1)) s5))))))))))))) ∧
          (4 < (ps_i s2 r0 10) →
            Q (some (.int (-2))) s2))))))) ∧
    (0 ≤ (lg_cmp (Int32.toInt64 x4) v1) →
      Q (some (.int (-1))) s1))))) : ps_At (d + 1) 4 0 [(0, .ref r0), (1, .ref r1), (2, .ref r2), (3, .int x3), (4, .int x4)] [] s Q :=
  ps_wp_at (stops := []) (n := 47) h rfl


theorem xs_4 {m s : ps_S} {t : Int32} {d : Nat} {r0 : Nat} {r1 : Nat} {r2 : Nat} {x3 : Int32} {x4 : Int32} {f : Int32 → ps_S → Prop} (h0 : ps_is r0 0 = true) (h1 : ps_is r1 9 = true) (h2 : ps_is r2 5 = true) (J : xJ m t s) (k : ∀ (v : Int32) (s' : ps_S), xJ m t s' → f v s') : ps_Cl (d + 38) 4 [.ref r0, .ref r1, .ref r2, .int x3, .int x4] s (ps_rI f) :=
  pg_4_0 (d := d + 37) (ps_nk_i h0 (xs_6 h0 h1 J (fun v1 s1 J1 => (And.intro (fun f1 => (ps_nk_i h0 (xs_13 h0 h2 J1 (fun s2 J2 => (And.intro (fun f2 => (k (-2) s2 J2)) (fun f2 => (ps_nk_i h0 (And.intro (fun f3 => (ps_nk_i h0 (ps_nk_i h0 (ps_nk_i (xk_0_6 h0) (xs_103 (xk_0_6 h0) h2 (xj_0_16 J2 h0) J2 (fun s3 J3 => (ps_nk_i h0 (xs_8 h0 J3 (fun s4 J4 => (ps_nk_i h0 (xs_14 h0 h2 J4 (fun v5 s5 b5 J5 => (And.intro (fun f4 => (k 0 s5 J5)) (fun f4 => (k 1 s5 J5))))))))))))))) (fun f3 => (k (-2) s2 J2)))))))))) (fun f1 => (k (-1) s1 J1))))))


-- ProofBench$Judge.firstAgainst(LProofBench$Theory;LProofBench$Row;I)I
theorem pg_5_0 {d : Nat} {r0 : Nat} {r1 : Nat} {r2 : Nat} {x3 : Int32} {s : ps_S} {Q : Option Value → ps_S → Prop} (h :
  ps_nk (ps_is r0 0) (ps_Cl d 2 [.ref r0, .ref r1, .int x3] s (ps_rI (fun v1 s1 =>
    ps_nk (ps_is r0 0) (ps_Cl d 13 [.ref r0, .ref r2] s1 (ps_rV (fun s2 =>
      (v1 = (-2) →
        Q (some (.int (-2))) s2) ∧
      (v1 ≠ (-2) →
        ps_nk (ps_is r0 0) (((ps_i s2 r0 10) ≤ 4 →
          ps_nk (ps_is r0 0) (ps_Cl d 9 [.ref r0] s2 (ps_rV (fun s3 =>
            ps_nk (ps_is r0 0) (ps_nk (ps_is r0 0) (ps_nk (ps_is (ps_c0 r0 6) 6) (ps_Cl d 103 [.ref (ps_c0 r0 6), .ref r2, .ref (ps_r s3 r0 16)] s3 (ps_rV (fun s4 =>
              ps_At (d + 1) 5 50 [(0, .ref r0), (2, .ref r2), (4, .int v1), (5, .int 0)] [] s4 Q))))))))) ∧
        (4 < (ps_i s2 r0 10) →
          Q (some (.int (-2))) s2)))))))))) : ps_At (d + 1) 5 0 [(0, .ref r0), (1, .ref r1), (2, .ref r2), (3, .int x3)] [] s Q :=
  ps_wp_at (stops := [(50, [0, 2, 4, 5])]) (n := 31) h rfl

