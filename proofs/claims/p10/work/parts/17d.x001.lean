set_option maxRecDepth 100000
theorem pg_52_19 {d : Nat} {r0 : Nat} {r1 : Nat} {r2 : Nat} {r3 : Nat} {x4 : Int32} {s : ps_S} {Q : Option Value → ps_S → Prop} (h :
  ps_nk (ps_is r2 5) (((ps_i s r2 1) ≤ x4 →
    Q none s) ∧
  (x4 < (ps_i s r2 1) →
    ps_nk (ps_is r2 5) (ps_Cl d 92 [.ref r2, .int x4] s (ps_rI (fun v1 s1 =>
      ps_nk (ps_is r0 2) (ps_nk (ps_is (ps_c0 r0 5) 6) (ps_Cl d 105 [.ref (ps_c0 r0 5), .int x4] s1 (ps_rI (fun v2 s2 =>
        (v1 ≠ (((40 : Int32) + v2) - 1) →
          ps_nk (ps_is r2 5) (ps_Cl d 92 [.ref r2, .int x4] s2 (ps_rI (fun v3 s3 =>
            ps_nk (ps_is r1 5) (ps_Cl d 93 [.ref r1, .int v3] s3 (ps_rV (fun s4 =>
              ps_At (d + 1) 52 19 [(0, .ref r0), (1, .ref r1), (2, .ref r2), (3, .ref r3), (4, .int (x4 + 1))] [] s4 Q))))))) ∧
        (v1 = (((40 : Int32) + v2) - 1) →
          ps_nk (ps_is r3 5) (ps_nk (ps_is r1 5) (ps_Cl d 94 [.ref r1, .ref r3, .int 0, .int (ps_i s2 r3 1)] s2 (ps_rV (fun s5 =>
            ps_At (d + 1) 52 19 [(0, .ref r0), (1, .ref r1), (2, .ref r2), (3, .ref r3), (4, .int (x4 + 1))] [] s5 Q))))))))))))))) : ps_At (d + 1) 52 19 [(0, .ref r0), (1, .ref r1), (2, .ref r2), (3, .ref r3), (4, .int x4)] [] s Q :=
  ps_wp_at (stops := [(19, [0, 1, 2, 3, 4])]) (n := 35) h rfl


theorem xs_52_19 {m s : ps_S} {t : Int32} {d : Nat} {r0 : Nat} {r1 : Nat} {r2 : Nat} {r3 : Nat} {x4 : Int32} {Q : Option Value → ps_S → Prop} (h0 : ps_is r0 2 = true) (h1 : ps_is r1 5 = true) (h2 : ps_is r2 5 = true) (h3 : ps_is r3 5 = true) (J : xJ m t s) (k : ∀ (s' : ps_S), xJ m t s' → Q none s') : ps_At (d + 2) 52 19 [(0, .ref r0), (1, .ref r1), (2, .ref r2), (3, .ref r3), (4, .int x4)] [] s Q :=
  xs_up (P := fun x4 => ∀ (s : ps_S), ps_is r0 2 = true → ps_is r1 5 = true → ps_is r2 5 = true → ps_is r3 5 = true → xJ m t s → ps_At (d + 2) 52 19 [(0, .ref r0), (1, .ref r1), (2, .ref r2), (3, .ref r3), (4, .int x4)] [] s Q) (fun x4 ih s h0 h1 h2 h3 J => pg_52_19 (d := d + 1) (ps_nk_i h2 (And.intro (fun f1 => (k s J)) (fun f1 => (ps_nk_i h2 (xs_92 h2 J (fun v1 => (ps_nk_i h0 (ps_nk_i (xk_2_5 h0) (xs_105 (xk_2_5 h0) J (fun v2 => (And.intro (fun f2 => (ps_nk_i h2 (xs_92 h2 J (fun v3 => (ps_nk_i h1 (xs_93 h1 J (fun s4 J4 => (ih ((x4 + 1)) (xs_lt f1) s4 h0 h1 h2 h3 J4)))))))) (fun f2 => (ps_nk_i h3 (ps_nk_i h1 (xs_94 h1 h3 J (fun s5 J5 => (ih ((x4 + 1)) (xs_lt f1) s5 h0 h1 h2 h3 J5)))))))))))))))))) x4 s h0 h1 h2 h3 J


theorem xs_52 {m s : ps_S} {t : Int32} {d : Nat} {r0 : Nat} {r1 : Nat} {r2 : Nat} {r3 : Nat} {f : ps_S → Prop} (h0 : ps_is r0 2 = true) (h1 : ps_is r1 5 = true) (h2 : ps_is r2 5 = true) (h3 : ps_is r3 5 = true) (J : xJ m t s) (k : ∀ (s' : ps_S), xJ m t s' → f s') : ps_Cl (d + 2) 52 [.ref r0, .ref r1, .ref r2, .ref r3] s (ps_rV f) :=
  pg_52_0 (d := d + 1) (ps_nk_i h0 (ps_nk_i h0 (ps_nk_i (xk_2_5 h0) (xs_103 (xk_2_5 h0) h2 (xj_2_6 J h0) J (fun s1 J1 => (ps_nk_i h1 (xs_91 h1 J1 (fun s2 J2 => (xs_52_19 (d := d) (r0 := r0) (r1 := r1) (r2 := r2) (r3 := r3) (x4 := 1)  h0 h1 h2 h3 J2 k )))))))))


-- ProofBench$Proof.specialise(LProofBench$Step;LProofBench$Row;)I
theorem pg_50_0 {d : Nat} {r0 : Nat} {r1 : Nat} {r2 : Nat} {s : ps_S} {Q : Option Value → ps_S → Prop} (h :
  ps_nk (ps_is r2 5) (ps_Cl d 92 [.ref r2, .int 0] s (ps_rI (fun v1 s1 =>
    (v1 = 4 →
      ps_nk (ps_is r1 8) (ps_nk (ps_is r1 8) (ps_nk (ps_is r0 2) (ps_Cl d 52 [.ref r0, .ref (ps_c0 r1 6), .ref r2, .ref (ps_c0 r1 4)] s1 (ps_rV (fun s2 =>
        Q (some (.int 0)) s2)))))) ∧
    (v1 ≠ 4 →
      Q (some (.int 2)) s1))))) : ps_At (d + 1) 50 0 [(0, .ref r0), (1, .ref r1), (2, .ref r2)] [] s Q :=
  ps_wp_at (stops := []) (n := 18) h rfl


theorem xs_50 {m s : ps_S} {t : Int32} {d : Nat} {r0 : Nat} {r1 : Nat} {r2 : Nat} {f : Int32 → ps_S → Prop} (h0 : ps_is r0 2 = true) (h1 : ps_is r1 8 = true) (h2 : ps_is r2 5 = true) (J : xJ m t s) (k : ∀ (v : Int32) (s' : ps_S), xJ m t s' → f v s') : ps_Cl (d + 3) 50 [.ref r0, .ref r1, .ref r2] s (ps_rI f) :=
  pg_50_0 (d := d + 2) (ps_nk_i h2 (xs_92 h2 J (fun v1 => (And.intro (fun f1 => (ps_nk_i h1 (ps_nk_i h1 (ps_nk_i h0 (xs_52 h0 (xk_8_6 h1) h2 (xk_8_4 h1) J (fun s2 J2 => (k 0 s2 J2))))))) (fun f1 => (k 2 s J))))))

