set_option maxRecDepth 100000
-- ProofBench$Judge.place(III)I
theorem pg_19_0 {d : Nat} {r0 : Nat} {x1 : Int32} {x2 : Int32} {x3 : Int32} {s : ps_S} {Q : Option Value → ps_S → Prop} (h :
  ps_nk (ps_is r0 0) (ps_nk (ps_is r0 0) (ps_nk (ps_is (ps_r s r0 14) 5) (ps_Cl d 92 [.ref (ps_r s r0 14), .int x1] s (ps_rI (fun v1 s1 =>
    ps_nk (ps_is (ps_r s r0 16) 9) (ps_Cl d 136 [.ref (ps_r s r0 16), .int v1] s1 (ps_rI (fun v2 s2 =>
      (v2 ≠ 0 →
        ps_nk (ps_is r0 0) (ps_Cl d 18 [.ref r0, .int (x1 + 1), .int x2, .int (x3 + 1)] s2 (ps_rI (fun v3 s3 =>
          (v2 ≠ 1 →
            ps_nk (ps_is r0 0) (ps_nk (ps_is r0 0) (ps_nk (ps_is (ps_r s3 r0 15) 6) (ps_Cl d 104 [.ref (ps_r s3 r0 15), .int (x1 + 1)] s3 (ps_rI (fun v4 s4 =>
              ps_nk (ps_is r0 0) (ps_Cl d 18 [.ref r0, .int v4, .int x2, .int (x3 + 1)] s4 (ps_rI (fun v5 s5 =>
                Q (some (.int ((v3 * (ps_i s3 r0 11)) + v5))) s5))))))))) ∧
          (v2 = 1 →
            Q (some (.int v3)) s3))))) ∧
      (v2 = 0 →
        Q (some (.int 0)) s2)))))))))) : ps_At (d + 1) 19 0 [(0, .ref r0), (1, .int x1), (2, .int x2), (3, .int x3)] [] s Q :=
  ps_wp_at (stops := []) (n := 48) h rfl


theorem xr_19 {m s : ps_S} {t : Int32} {d : Nat} {r0 : Nat} {x1 : Int32} {x2 : Int32} {x3 : Int32} {f : Int32 → ps_S → Prop} (HG : xsG d (x3 + 1)) (h0 : ps_is r0 0 = true) (J : xJ m t s) (k : ∀ (v : Int32), f v s) : ps_Cl (d + 9) 19 [.ref r0, .int x1, .int x2, .int x3] s (ps_rI f) :=
  pg_19_0 (d := d + 8) (ps_nk_i h0 (ps_nk_i h0 (ps_nk_i (xj_0_14 J h0) (xs_92 (xj_0_14 J h0) J (fun v1 => (ps_nk_i (xj_0_16 J h0) (xs_136 (xj_0_16 J h0) J (fun v2 => (And.intro (fun f1 => (ps_nk_i h0 (HG _ _ _ _ _ _ _ h0 J (fun v3 => (And.intro (fun f2 => (ps_nk_i h0 (ps_nk_i h0 (ps_nk_i (xj_0_15 J h0) (xs_104 (xj_0_15 J h0) J (fun v4 => (ps_nk_i h0 (HG _ _ _ _ _ _ _ h0 J (fun v5 => (k ((v3 * (ps_i s r0 11)) + v5))))))))))) (fun f2 => (k v3))))))) (fun f1 => (k 0)))))))))))


-- ProofBench$Judge.thingOf(III)I
theorem pg_18_0 {d : Nat} {r0 : Nat} {x1 : Int32} {x2 : Int32} {x3 : Int32} {s : ps_S} {Q : Option Value → ps_S → Prop} (h :
  (x3 ≤ 12 →
    ps_nk (ps_is r0 0) (ps_nk (ps_is (ps_r s r0 14) 5) (ps_Cl d 92 [.ref (ps_r s r0 14), .int x1] s (ps_rI (fun v1 s1 =>
      (v1 < 60 →
        ps_Cl d 185 [.int v1] s1 (ps_rI (fun v2 s2 =>
          (v2 = 0 →
            ps_nk (ps_is r0 0) (ps_nk (ps_is r0 0) (ps_Cl d 182 [.ref (ps_c0 r0 4), .int (v1 - 20)] s2 (ps_rI (fun v3 s3 =>
              ps_nk (ps_is r0 0) (ps_Cl d 19 [.ref r0, .int x1, .int x2, .int x3] s3 (ps_rI (fun v4 s4 =>
                ps_Cl d 182 [.ref (ps_c0 r0 1), .int (v3 + v4)] s4 (ps_rI (fun v5 s5 =>
                  Q (some (.int v5)) s5)))))))))) ∧
          (v2 ≠ 0 →
            ps_nk (ps_is r0 0) (ps_Cl d 182 [.ref (ps_c0 r0 7), .int ((x2 - 1) - (v1 - 40))] s2 (ps_rI (fun v6 s6 =>
              Q (some (.int v6)) s6))))))) ∧
      (60 ≤ v1 →
        ps_nk (ps_is r0 0) (ps_Cl d 182 [.ref (ps_c0 r0 8), .int (v1 - 60)] s1 (ps_rI (fun v7 s7 =>
          Q (some (.int v7)) s7))))))))) ∧
  (12 < x3 →
    Q (some (.int 0)) s)) : ps_At (d + 1) 18 0 [(0, .ref r0), (1, .int x1), (2, .int x2), (3, .int x3)] [] s Q :=
  ps_wp_at (stops := []) (n := 52) h rfl


theorem xr_18 {m s : ps_S} {t : Int32} {d : Nat} {r0 : Nat} {x1 : Int32} {x2 : Int32} {x3 : Int32} {f : Int32 → ps_S → Prop} (H : x3 ≤ 12 → xsG d (x3 + 1)) (h0 : ps_is r0 0 = true) (J : xJ m t s) (k : ∀ (v : Int32), f v s) : ps_Cl (d + 10) 18 [.ref r0, .int x1, .int x2, .int x3] s (ps_rI f) :=
  pg_18_0 (d := d + 9) (And.intro (fun f1 => (ps_nk_i h0 (ps_nk_i (xj_0_14 J h0) (xs_92 (xj_0_14 J h0) J (fun v1 => (And.intro (fun f2 => (xs_185  J (fun v2 b2 => (And.intro (fun f3 => (ps_nk_i h0 (ps_nk_i h0 (xs_182 (xk_0_4 h0) J (fun v3 => (ps_nk_i h0 (xr_19 (H f1) h0 J (fun v4 => (xs_182 (xk_0_1 h0) J (fun v5 => (k v5))))))))))) (fun f3 => (ps_nk_i h0 (xs_182 (xk_0_7 h0) J (fun v6 => (k v6))))))))) (fun f2 => (ps_nk_i h0 (xs_182 (xk_0_8 h0) J (fun v7 => (k v7))))))))))) (fun f1 => (k 0)))

