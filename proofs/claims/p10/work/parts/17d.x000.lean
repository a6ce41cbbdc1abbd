set_option maxRecDepth 100000
-- ProofBench$Proof.generalise(LProofBench$Step;LProofBench$Row;)I
theorem pg_49_0 {d : Nat} {r0 : Nat} {r1 : Nat} {r2 : Nat} {s : ps_S} {Q : Option Value → ps_S → Prop} (h :
  ps_nk (ps_is r0 2) (ps_Cl d 37 [.ref r0, .ref r1, .int 0] s (ps_rA (fun v1 s1 =>
    ps_nk (ps_is r1 8) (ps_nk (ps_is r0 2) (ps_nk (ps_is r0 2) (ps_Cl d 51 [.ref r0, .ref v1, .int (ps_i s1 r1 3), .ref (ps_c0 r0 3)] s1 (ps_rI (fun v2 s2 =>
      (v2 = 0 →
        ps_nk (ps_is r0 2) (ps_nk (ps_is r0 2) (ps_nk (ps_is (ps_c0 r0 5) 6) (ps_Cl d 103 [.ref (ps_c0 r0 5), .ref r2, .ref (ps_r s2 r0 6)] s2 (ps_rV (fun s3 =>
          ps_nk (ps_is r1 8) (ps_nk (ps_is (ps_c0 r1 6) 5) (ps_Cl d 91 [.ref (ps_c0 r1 6)] s3 (ps_rV (fun s4 =>
            ps_nk (ps_is r1 8) (ps_nk (ps_is (ps_c0 r1 6) 5) (ps_Cl d 93 [.ref (ps_c0 r1 6), .int 4] s4 (ps_rV (fun s5 =>
              ps_At (d + 1) 49 52 [(0, .ref r0), (1, .ref r1), (2, .ref r2), (3, .int 0)] [] s5 Q)))))))))))))) ∧
      (v2 ≠ 0 →
        Q (some (.int 3)) s2)))))))))) : ps_At (d + 1) 49 0 [(0, .ref r0), (1, .ref r1), (2, .ref r2)] [] s Q :=
  ps_wp_at (stops := [(52, [0, 1, 2, 3])]) (n := 30) h rfl


theorem pg_49_52 {d : Nat} {r0 : Nat} {r1 : Nat} {r2 : Nat} {x3 : Int32} {s : ps_S} {Q : Option Value → ps_S → Prop} (h :
  ps_nk (ps_is r2 5) (((ps_i s r2 1) ≤ x3 →
    Q (some (.int 0)) s) ∧
  (x3 < (ps_i s r2 1) →
    ps_nk (ps_is r1 8) (ps_nk (ps_is r2 5) (ps_Cl d 92 [.ref r2, .int x3] s (ps_rI (fun v1 s1 =>
      ps_nk (ps_is r1 8) ((v1 ≠ (ps_i s1 r1 3) →
        ps_nk (ps_is r2 5) (ps_Cl d 92 [.ref r2, .int x3] s1 (ps_rI (fun v2 s2 =>
          ps_nk (ps_is (ps_c0 r1 6) 5) (ps_Cl d 93 [.ref (ps_c0 r1 6), .int v2] s2 (ps_rV (fun s3 =>
            ps_At (d + 1) 49 52 [(0, .ref r0), (1, .ref r1), (2, .ref r2), (3, .int (x3 + 1))] [] s3 Q))))))) ∧
      (v1 = (ps_i s1 r1 3) →
        ps_nk (ps_is r0 2) (ps_nk (ps_is (ps_c0 r0 5) 6) (ps_Cl d 105 [.ref (ps_c0 r0 5), .int x3] s1 (ps_rI (fun v4 s4 =>
          ps_nk (ps_is (ps_c0 r1 6) 5) (ps_Cl d 93 [.ref (ps_c0 r1 6), .int ((40 : Int32) + v4)] s4 (ps_rV (fun s5 =>
            ps_At (d + 1) 49 52 [(0, .ref r0), (1, .ref r1), (2, .ref r2), (3, .int (x3 + 1))] [] s5 Q)))))))))))))))) : ps_At (d + 1) 49 52 [(0, .ref r0), (1, .ref r1), (2, .ref r2), (3, .int x3)] [] s Q :=
  ps_wp_at (stops := [(52, [0, 1, 2, 3])]) (n := 32) h rfl


theorem xs_49_52 {m s : ps_S} {t : Int32} {d : Nat} {r0 : Nat} {r1 : Nat} {r2 : Nat} {x3 : Int32} {Q : Option Value → ps_S → Prop} (h0 : ps_is r0 2 = true) (h1 : ps_is r1 8 = true) (h2 : ps_is r2 5 = true) (J : xJ m t s) (k : ∀ (v : Int32) (s' : ps_S), xJ m t s' → Q (some (.int v)) s') : ps_At (d + 3) 49 52 [(0, .ref r0), (1, .ref r1), (2, .ref r2), (3, .int x3)] [] s Q :=
  xs_up (P := fun x3 => ∀ (s : ps_S), ps_is r0 2 = true → ps_is r1 8 = true → ps_is r2 5 = true → xJ m t s → ps_At (d + 3) 49 52 [(0, .ref r0), (1, .ref r1), (2, .ref r2), (3, .int x3)] [] s Q) (fun x3 ih s h0 h1 h2 J => pg_49_52 (d := d + 2) (ps_nk_i h2 (And.intro (fun f1 => (k 0 s J)) (fun f1 => (ps_nk_i h1 (ps_nk_i h2 (xs_92 h2 J (fun v1 => (ps_nk_i h1 (And.intro (fun f2 => (ps_nk_i h2 (xs_92 h2 J (fun v2 => (ps_nk_i (xk_8_6 h1) (xs_93 (xk_8_6 h1) J (fun s3 J3 => (ih ((x3 + 1)) (xs_lt f1) s3 h0 h1 h2 J3)))))))) (fun f2 => (ps_nk_i h0 (ps_nk_i (xk_2_5 h0) (xs_105 (xk_2_5 h0) J (fun v4 => (ps_nk_i (xk_8_6 h1) (xs_93 (xk_8_6 h1) J (fun s5 J5 => (ih ((x3 + 1)) (xs_lt f1) s5 h0 h1 h2 J5))))))))))))))))))) x3 s h0 h1 h2 J


theorem xs_49 {m s : ps_S} {t : Int32} {d : Nat} {r0 : Nat} {r1 : Nat} {r2 : Nat} {f : Int32 → ps_S → Prop} (h0 : ps_is r0 2 = true) (h1 : ps_is r1 8 = true) (h2 : ps_is r2 5 = true) (J : xJ m t s) (k : ∀ (v : Int32) (s' : ps_S), xJ m t s' → f v s') : ps_Cl (d + 3) 49 [.ref r0, .ref r1, .ref r2] s (ps_rI f) :=
  pg_49_0 (d := d + 2) (ps_nk_i h0 (xs_37 h0 h1 J (fun v1 g1 => (ps_nk_i h1 (ps_nk_i h0 (ps_nk_i h0 (xs_51 h0 g1 (xk_2_3 h0) J (fun v2 b2 => (And.intro (fun f1 => (ps_nk_i h0 (ps_nk_i h0 (ps_nk_i (xk_2_5 h0) (xs_103 (xk_2_5 h0) h2 (xj_2_6 J h0) J (fun s3 J3 => (ps_nk_i h1 (ps_nk_i (xk_8_6 h1) (xs_91 (xk_8_6 h1) J3 (fun s4 J4 => (ps_nk_i h1 (ps_nk_i (xk_8_6 h1) (xs_93 (xk_8_6 h1) J4 (fun s5 J5 => (xs_49_52 (d := d) (r0 := r0) (r1 := r1) (r2 := r2) (x3 := 0)  h0 h1 h2 J5 k ))))))))))))))) (fun f1 => (k 3 s J)))))))))))


-- ProofBench$Proof.putInto(LProofBench$Row;LProofBench$Row;LProofBench$Row;)V
theorem pg_52_0 {d : Nat} {r0 : Nat} {r1 : Nat} {r2 : Nat} {r3 : Nat} {s : ps_S} {Q : Option Value → ps_S → Prop} (h :
  ps_nk (ps_is r0 2) (ps_nk (ps_is r0 2) (ps_nk (ps_is (ps_c0 r0 5) 6) (ps_Cl d 103 [.ref (ps_c0 r0 5), .ref r2, .ref (ps_r s r0 6)] s (ps_rV (fun s1 =>
    ps_nk (ps_is r1 5) (ps_Cl d 91 [.ref r1] s1 (ps_rV (fun s2 =>
      ps_At (d + 1) 52 19 [(0, .ref r0), (1, .ref r1), (2, .ref r2), (3, .ref r3), (4, .int 1)] [] s2 Q))))))))) : ps_At (d + 1) 52 0 [(0, .ref r0), (1, .ref r1), (2, .ref r2), (3, .ref r3)] [] s Q :=
  ps_wp_at (stops := [(19, [0, 1, 2, 3, 4])]) (n := 12) h rfl

