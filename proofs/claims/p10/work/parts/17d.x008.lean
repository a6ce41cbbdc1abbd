set_option maxRecDepth 100000
theorem xs_56 {m s : ps_S} {t : Int32} {d : Nat} {r0 : Nat} {r1 : Nat} {r2 : Nat} {r3 : Nat} {f : Int32 → ps_S → Prop} (h0 : ps_is r0 2 = true) (h1 : ps_is r1 5 = true) (h2 : ps_is r2 5 = true) (h3 : ps_is r3 5 = true) (J : xJ m t s) (k : ∀ (v : Int32) (s' : ps_S), v &&& 1 = v → xJ m t s' → f v s') : ps_Cl (d + 2) 56 [.ref r0, .ref r1, .ref r2, .ref r3] s (ps_rI f) :=
  pg_56_0 (d := d + 1) (ps_nk_i h0 (ps_nk_i h0 (ps_nk_i (xk_2_5 h0) (xs_103 (xk_2_5 h0) h2 (xj_2_6 J h0) J (fun s1 J1 => (ps_nk_i h0 (ps_nk_i (xk_2_5 h0) (xs_104 (xk_2_5 h0) J1 (fun v2 => (ps_nk_i h2 (xs_56_46 (d := d) (r1 := r1) (r2 := r2) (r3 := r3) (x4 := v2) (x5 := (v2 - 1)) (x6 := ((ps_i s1 r2 1) - v2)) (x7 := 0) (x8 := 0) (x9 := 0)  h1 h2 h3 J1 k )))))))))))


-- ProofBench$Proof.exchange(LProofBench$Step;LProofBench$Row;LProofBench$Row;)I
theorem pg_55_0 {d : Nat} {r0 : Nat} {r1 : Nat} {r2 : Nat} {r3 : Nat} {s : ps_S} {Q : Option Value → ps_S → Prop} (h :
  ps_nk (ps_is r2 5) (ps_Cl d 92 [.ref r2, .int 0] s (ps_rI (fun v1 s1 =>
    (v1 = 6 →
      ps_nk (ps_is r1 8) (ps_nk (ps_is r0 2) (ps_Cl d 56 [.ref r0, .ref (ps_c0 r1 5), .ref r2, .ref r3] s1 (ps_rI (fun v2 s2 =>
        (v2 ≠ 0 →
          ps_nk (ps_is r1 8) (ps_nk (ps_is r1 8) (ps_nk (ps_is (ps_c0 r1 6) 5) (ps_Cl d 95 [.ref (ps_c0 r1 6), .ref (ps_c0 r1 5)] s2 (ps_rV (fun s3 =>
            Q (some (.int 0)) s3)))))) ∧
        (v2 = 0 →
          Q (some (.int 4)) s2)))))) ∧
    (v1 ≠ 6 →
      Q (some (.int 2)) s1))))) : ps_At (d + 1) 55 0 [(0, .ref r0), (1, .ref r1), (2, .ref r2), (3, .ref r3)] [] s Q :=
  ps_wp_at (stops := []) (n := 25) h rfl


theorem xs_55 {m s : ps_S} {t : Int32} {d : Nat} {r0 : Nat} {r1 : Nat} {r2 : Nat} {r3 : Nat} {f : Int32 → ps_S → Prop} (h0 : ps_is r0 2 = true) (h1 : ps_is r1 8 = true) (h2 : ps_is r2 5 = true) (h3 : ps_is r3 5 = true) (J : xJ m t s) (k : ∀ (v : Int32) (s' : ps_S), xJ m t s' → f v s') : ps_Cl (d + 3) 55 [.ref r0, .ref r1, .ref r2, .ref r3] s (ps_rI f) :=
  pg_55_0 (d := d + 2) (ps_nk_i h2 (xs_92 h2 J (fun v1 => (And.intro (fun f1 => (ps_nk_i h1 (ps_nk_i h0 (xs_56 h0 (xk_8_5 h1) h2 h3 J (fun v2 s2 b2 J2 => (And.intro (fun f2 => (ps_nk_i h1 (ps_nk_i h1 (ps_nk_i (xk_8_6 h1) (xs_95 (xk_8_6 h1) (xk_8_5 h1) J2 (fun s3 J3 => (k 0 s3 J3))))))) (fun f2 => (k 4 s2 J2)))))))) (fun f1 => (k 2 s J))))))

