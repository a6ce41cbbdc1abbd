set_option maxRecDepth 100000
theorem xs_40 {m s : ps_S} {t : Int32} {d : Nat} {r0 : Nat} {r1 : Nat} {r2 : Nat} {f : Int32 → ps_S → Prop} (h0 : ps_is r0 2 = true) (h1 : ps_is r1 8 = true) (h2 : ps_is r2 5 = true) (J : xJ m t s) (k : ∀ (v : Int32), v &&& 1 = v → f v s) : ps_Cl (d + 2) 40 [.ref r0, .ref r1, .ref r2] s (ps_rI f) :=
  pg_40_0 (d := d + 1) (xs_40_2 (d := d) (r0 := r0) (r1 := r1) (r2 := r2) (x3 := 0)  h0 h1 h2 J k )


-- ProofBench$Proof.gather(LProofBench$Step;LProofBench$Step;LProofBench$Row;)V
theorem pg_39_0 {d : Nat} {r0 : Nat} {r1 : Nat} {r2 : Nat} {r3 : Nat} {s : ps_S} {Q : Option Value → ps_S → Prop} (h :
  ps_At (d + 1) 39 3 [(0, .ref r0), (1, .ref r1), (2, .ref r2), (3, .ref r3), (4, .int 0)] [] s Q) : ps_At (d + 1) 39 0 [(0, .ref r0), (1, .ref r1), (2, .ref r2), (3, .ref r3)] [] s Q :=
  ps_wp_at (stops := [(3, [0, 1, 2, 3, 4])]) (n := 4) h rfl


theorem pg_39_3 {d : Nat} {r0 : Nat} {r1 : Nat} {r2 : Nat} {r3 : Nat} {x4 : Int32} {s : ps_S} {Q : Option Value → ps_S → Prop} (h :
  ps_nk (ps_is r2 8) (((ps_i s r2 8) ≤ x4 →
    Q none s) ∧
  (x4 < (ps_i s r2 8) →
    ps_nk (ps_is r2 8) (ps_Cl d 122 [.ref r2, .int x4] s (ps_rI (fun v1 s1 =>
      ps_nk (ps_is r0 2) (ps_Cl d 33 [.ref r0, .int v1] s1 (ps_rA (fun v2 s2 =>
        ps_nk (ps_is v2 8) (ps_nk (ps_is (ps_c0 v2 6) 5) (ps_Cl d 98 [.ref (ps_c0 v2 6), .ref r3] s2 (ps_rI (fun v3 s3 =>
          (v3 ≠ 0 →
            ps_At (d + 1) 39 3 [(0, .ref r0), (1, .ref r1), (2, .ref r2), (3, .ref r3), (4, .int (x4 + 1))] [] s3 Q) ∧
          (v3 = 0 →
            ps_nk (ps_is r0 2) (ps_Cl d 40 [.ref r0, .ref r1, .ref (ps_c0 v2 6)] s3 (ps_rI (fun v4 s4 =>
              (v4 ≠ 0 →
                ps_At (d + 1) 39 3 [(0, .ref r0), (1, .ref r1), (2, .ref r2), (3, .ref r3), (4, .int (x4 + 1))] [] s4 Q) ∧
              (v4 = 0 →
                ps_nk (ps_is r1 8) (ps_Cl d 123 [.ref r1, .int v1] s4 (ps_rV (fun s5 =>
                  ps_At (d + 1) 39 3 [(0, .ref r0), (1, .ref r1), (2, .ref r2), (3, .ref r3), (4, .int (x4 + 1))] [] s5 Q))))))))))))))))))))) : ps_At (d + 1) 39 3 [(0, .ref r0), (1, .ref r1), (2, .ref r2), (3, .ref r3), (4, .int x4)] [] s Q :=
  ps_wp_at (stops := [(3, [0, 1, 2, 3, 4])]) (n := 34) h rfl


theorem xs_39_3 {m s : ps_S} {t : Int32} {d : Nat} {r0 : Nat} {r1 : Nat} {r2 : Nat} {r3 : Nat} {x4 : Int32} {Q : Option Value → ps_S → Prop} (h0 : ps_is r0 2 = true) (h1 : ps_is r1 8 = true) (h2 : ps_is r2 8 = true) (h3 : ps_is r3 5 = true) (J : xJ m t s) (k : ∀ (s' : ps_S), xJ m t s' → Q none s') : ps_At (d + 3) 39 3 [(0, .ref r0), (1, .ref r1), (2, .ref r2), (3, .ref r3), (4, .int x4)] [] s Q :=
  xs_up (P := fun x4 => ∀ (s : ps_S), ps_is r0 2 = true → ps_is r1 8 = true → ps_is r2 8 = true → ps_is r3 5 = true → xJ m t s → ps_At (d + 3) 39 3 [(0, .ref r0), (1, .ref r1), (2, .ref r2), (3, .ref r3), (4, .int x4)] [] s Q) (fun x4 ih s h0 h1 h2 h3 J => pg_39_3 (d := d + 2) (ps_nk_i h2 (And.intro (fun f1 => (k s J)) (fun f1 => (ps_nk_i h2 (xs_122 h2 J (fun v1 => (ps_nk_i h0 (xs_33 h0 J (fun v2 g2 => (ps_nk_i g2 (ps_nk_i (xk_8_6 g2) (xs_98 (xk_8_6 g2) h3 J (fun v3 b3 => (And.intro (fun f2 => (ih ((x4 + 1)) (xs_lt f1) s h0 h1 h2 h3 J)) (fun f2 => (ps_nk_i h0 (xs_40 h0 h1 (xk_8_6 g2) J (fun v4 b4 => (And.intro (fun f3 => (ih ((x4 + 1)) (xs_lt f1) s h0 h1 h2 h3 J)) (fun f3 => (ps_nk_i h1 (xs_123 h1 J (fun s5 J5 => (ih ((x4 + 1)) (xs_lt f1) s5 h0 h1 h2 h3 J5))))))))))))))))))))))))) x4 s h0 h1 h2 h3 J


theorem xs_39 {m s : ps_S} {t : Int32} {d : Nat} {r0 : Nat} {r1 : Nat} {r2 : Nat} {r3 : Nat} {f : ps_S → Prop} (h0 : ps_is r0 2 = true) (h1 : ps_is r1 8 = true) (h2 : ps_is r2 8 = true) (h3 : ps_is r3 5 = true) (J : xJ m t s) (k : ∀ (s' : ps_S), xJ m t s' → f s') : ps_Cl (d + 3) 39 [.ref r0, .ref r1, .ref r2, .ref r3] s (ps_rV f) :=
  pg_39_0 (d := d + 2) (xs_39_3 (d := d) (r0 := r0) (r1 := r1) (r2 := r2) (r3 := r3) (x4 := 0)  h0 h1 h2 h3 J k )

