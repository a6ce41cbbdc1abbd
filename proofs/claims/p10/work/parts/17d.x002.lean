set_option maxRecDepth 100000
-- ProofBench$Proof.makeSome(LProofBench$Step;LProofBench$Row;)I
theorem pg_53_0 {d : Nat} {r0 : Nat} {r1 : Nat} {r2 : Nat} {s : ps_S} {Q : Option Value → ps_S → Prop} (h :
  ps_nk (ps_is r1 8) (ps_nk (ps_is (ps_c0 r1 5) 5) (ps_Cl d 92 [.ref (ps_c0 r1 5), .int 0] s (ps_rI (fun v1 s1 =>
    (v1 = 5 →
      ps_nk (ps_is r0 2) (ps_nk (ps_is r1 8) (ps_nk (ps_is r1 8) (ps_nk (ps_is r0 2) (ps_Cl d 52 [.ref r0, .ref (ps_c0 r0 4), .ref (ps_c0 r1 5), .ref (ps_c0 r1 4)] s1 (ps_rV (fun s2 =>
        ps_nk (ps_is r0 2) (ps_nk (ps_is (ps_c0 r0 4) 5) (ps_Cl d 98 [.ref (ps_c0 r0 4), .ref r2] s2 (ps_rI (fun v3 s3 =>
          (v3 ≠ 0 →
            ps_nk (ps_is r1 8) (ps_nk (ps_is r1 8) (ps_nk (ps_is (ps_c0 r1 6) 5) (ps_Cl d 95 [.ref (ps_c0 r1 6), .ref (ps_c0 r1 5)] s3 (ps_rV (fun s4 =>
              Q (some (.int 0)) s4)))))) ∧
          (v3 = 0 →
            Q (some (.int 4)) s3)))))))))))) ∧
    (v1 ≠ 5 →
      Q (some (.int 4)) s1)))))) : ps_At (d + 1) 53 0 [(0, .ref r0), (1, .ref r1), (2, .ref r2)] [] s Q :=
  ps_wp_at (stops := []) (n := 32) h rfl


theorem xs_53 {m s : ps_S} {t : Int32} {d : Nat} {r0 : Nat} {r1 : Nat} {r2 : Nat} {f : Int32 → ps_S → Prop} (h0 : ps_is r0 2 = true) (h1 : ps_is r1 8 = true) (h2 : ps_is r2 5 = true) (J : xJ m t s) (k : ∀ (v : Int32) (s' : ps_S), xJ m t s' → f v s') : ps_Cl (d + 3) 53 [.ref r0, .ref r1, .ref r2] s (ps_rI f) :=
  pg_53_0 (d := d + 2) (ps_nk_i h1 (ps_nk_i (xk_8_5 h1) (xs_92 (xk_8_5 h1) J (fun v1 => (And.intro (fun f1 => (ps_nk_i h0 (ps_nk_i h1 (ps_nk_i h1 (ps_nk_i h0 (xs_52 h0 (xk_2_4 h0) (xk_8_5 h1) (xk_8_4 h1) J (fun s2 J2 => (ps_nk_i h0 (ps_nk_i (xk_2_4 h0) (xs_98 (xk_2_4 h0) h2 J2 (fun v3 b3 => (And.intro (fun f2 => (ps_nk_i h1 (ps_nk_i h1 (ps_nk_i (xk_8_6 h1) (xs_95 (xk_8_6 h1) (xk_8_5 h1) J2 (fun s4 J4 => (k 0 s4 J4))))))) (fun f2 => (k 4 s2 J2)))))))))))))) (fun f1 => (k 4 s J)))))))

