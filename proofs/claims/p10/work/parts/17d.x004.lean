set_option maxRecDepth 100000
theorem pg_54_68 {d : Nat} {r0 : Nat} {r1 : Nat} {r3 : Nat} {s : ps_S} {Q : Option Value → ps_S → Prop} (h :
  ((1 : Int32) ≠ 0 →
    Q (some (.int 3)) s) ∧
  ((1 : Int32) = 0 →
    ps_nk (ps_is r1 8) (ps_nk (ps_is r0 2) (ps_Cl d 38 [.ref r0, .int 1] s (ps_rA (fun v1 s1 =>
      ps_nk (ps_is r0 2) (ps_Cl d 51 [.ref r0, .ref r3, .int (ps_i s r1 3), .ref v1] s1 (ps_rI (fun v2 s2 =>
        (v2 = 0 →
          ps_nk (ps_is r1 8) (ps_nk (ps_is r3 8) (ps_nk (ps_is (ps_c0 r1 6) 5) (ps_Cl d 95 [.ref (ps_c0 r1 6), .ref (ps_c0 r3 6)] s2 (ps_rV (fun s3 =>
            Q (some (.int 0)) s3)))))) ∧
        (v2 ≠ 0 →
          Q (some (.int 3)) s2)))))))))) : ps_At (d + 1) 54 68 [(0, .ref r0), (1, .ref r1), (3, .ref r3)] [] s Q :=
  ps_wp_at (stops := [(68, [0, 1, 3])]) (n := 27) h rfl


theorem xs_54_68 {m s : ps_S} {t : Int32} {d : Nat} {r0 : Nat} {r1 : Nat} {r3 : Nat} {Q : Option Value → ps_S → Prop} (h0 : ps_is r0 2 = true) (h1 : ps_is r1 8 = true) (h3 : ps_is r3 8 = true) (J : xJ m t s) (k : ∀ (v : Int32) (s' : ps_S), xJ m t s' → Q (some (.int v)) s') : ps_At (d + 3) 54 68 [(0, .ref r0), (1, .ref r1), (3, .ref r3)] [] s Q :=
  pg_54_68 (d := d + 2) (And.intro (fun f1 => (k 3 s J)) (fun f1 => (ps_nk_i h1 (ps_nk_i h0 (xs_38 h0 J (fun v1 g1 => (ps_nk_i h0 (xs_51 h0 h3 g1 J (fun v2 b2 => (And.intro (fun f2 => (ps_nk_i h1 (ps_nk_i h3 (ps_nk_i (xk_8_6 h1) (xs_95 (xk_8_6 h1) (xk_8_6 h3) J (fun s3 J3 => (k 0 s3 J3))))))) (fun f2 => (k 3 s J))))))))))))


theorem xs_54 {m s : ps_S} {t : Int32} {d : Nat} {r0 : Nat} {r1 : Nat} {r2 : Nat} {r3 : Nat} {f : Int32 → ps_S → Prop} (h0 : ps_is r0 2 = true) (h1 : ps_is r1 8 = true) (h2 : ps_is r2 5 = true) (h3 : ps_is r3 8 = true) (J : xJ m t s) (k : ∀ (v : Int32) (s' : ps_S), xJ m t s' → f v s') : ps_Cl (d + 3) 54 [.ref r0, .ref r1, .ref r2, .ref r3] s (ps_rI f) :=
  pg_54_0 (d := d + 2) (ps_nk_i h2 (xs_92 h2 J (fun v1 => (And.intro (fun f1 => (ps_nk_i h1 (ps_nk_i (xk_8_4 h1) (xs_91 (xk_8_4 h1) J (fun s2 J2 => (ps_nk_i h1 (ps_nk_i h1 (ps_nk_i (xk_8_4 h1) (xs_93 (xk_8_4 h1) J2 (fun s3 J3 => (ps_nk_i h0 (xs_38 h0 J3 (fun v4 g4 => (ps_nk_i h1 (ps_nk_i h0 (xs_52 h0 g4 h2 (xk_8_4 h1) J3 (fun s5 J5 => (ps_nk_i h1 (ps_nk_i h2 (xs_100 h2 J5 (fun v6 b6 => (And.intro (fun f2 => (xs_54_68 (d := d) (r0 := r0) (r1 := r1) (r3 := r3)  h0 h1 h3 J5 k )) (fun f2 => (ps_nk_i h3 (ps_nk_i h1 (ps_nk_i (xk_8_6 h3) (xs_100 (xk_8_6 h3) J5 (fun v7 b7 => (And.intro (fun f3 => (And.intro (fun f4 => (k 3 s5 J5)) (fun f4 => (ps_nk_i h1 (ps_nk_i h0 (xs_38 h0 J5 (fun v8 g8 => (ps_nk_i h0 (xs_51 h0 h3 g8 J5 (fun v9 b9 => (And.intro (fun f5 => (ps_nk_i h1 (ps_nk_i h3 (ps_nk_i (xk_8_6 h1) (xs_95 (xk_8_6 h1) (xk_8_6 h3) J5 (fun s10 J10 => (k 0 s10 J10))))))) (fun f5 => (k 3 s5 J5))))))))))))) (fun f3 => (xs_54_68 (d := d) (r0 := r0) (r1 := r1) (r3 := r3)  h0 h1 h3 J5 k ))))))))))))))))))))))))))))))) (fun f1 => (k 2 s J))))))


-- ProofBench$Proof.isExchanged(LProofBench$Row;LProofBench$Row;LProofBench$Row;)Z
theorem pg_56_0 {d : Nat} {r0 : Nat} {r1 : Nat} {r2 : Nat} {r3 : Nat} {s : ps_S} {Q : Option Value → ps_S → Prop} (h :
  ps_nk (ps_is r0 2) (ps_nk (ps_is r0 2) (ps_nk (ps_is (ps_c0 r0 5) 6) (ps_Cl d 103 [.ref (ps_c0 r0 5), .ref r2, .ref (ps_r s r0 6)] s (ps_rV (fun s1 =>
    ps_nk (ps_is r0 2) (ps_nk (ps_is (ps_c0 r0 5) 6) (ps_Cl d 104 [.ref (ps_c0 r0 5), .int 1] s1 (ps_rI (fun v2 s2 =>
      ps_nk (ps_is r2 5) (ps_At (d + 1) 56 46 [(1, .ref r1), (2, .ref r2), (3, .ref r3), (4, .int v2), (5, .int (v2 - 1)), (6, .int ((ps_i s2 r2 1) - v2)), (7, .int 0), (8, .int 0), (9, .int 0)] [] s2 Q))))))))))) : ps_At (d + 1) 56 0 [(0, .ref r0), (1, .ref r1), (2, .ref r2), (3, .ref r3)] [] s Q :=
  ps_wp_at (stops := [(46, [1, 2, 3, 4, 5, 6, 7, 8, 9]), (117, [1, 2, 3, 4, 5, 6, 7, 8, 9]), (149, [1, 3, 7, 8])]) (n := 28) h rfl

