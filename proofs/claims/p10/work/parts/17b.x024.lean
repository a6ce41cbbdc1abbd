set_option maxRecDepth 100000
theorem pg_26_12 {d : Nat} {r0 : Nat} {x1 : Int32} {x2 : Int32} {s : ps_S} {Q : Option Value → ps_S → Prop} (h :
  (x2 < 0 →
    ps_nk (ps_is r0 1) (ps_Cl d 29 [.ref r0] s (ps_rI (fun v1 s1 =>
      (v1 ≠ 1 →
        Q (some (.int 0)) s1) ∧
      (v1 = 1 →
        Q (some (.int 1)) s1))))) ∧
  (0 ≤ x2 →
    ps_nk (ps_is r0 1) (ps_Cl d 182 [.ref (ps_c0 r0 1), .int x2] s (ps_rI (fun v2 s2 =>
      (v2 < 4 →
        (v2 ≠ 0 →
          ps_nk (ps_is r0 1) (ps_Cl d 29 [.ref r0] s2 (ps_rI (fun v3 s3 =>
            ps_nk (ps_is r0 1) (ps_Cl d 29 [.ref r0] s3 (ps_rI (fun v4 s4 =>
              ps_Cl d 27 [.int v2, .int v3, .int v4] s4 (ps_rI (fun v5 s5 =>
                ps_nk (ps_is r0 1) (ps_Cl d 28 [.ref r0, .int v5] s5 (ps_rV (fun s6 =>
                  ps_At (d + 1) 26 12 [(0, .ref r0), (1, .int x1), (2, .int (x2 + (-1)))] [] s6 Q)))))))))))) ∧
        (v2 = 0 →
          ps_nk (ps_is r0 1) (ps_Cl d 28 [.ref r0, .int 0] s2 (ps_rV (fun s7 =>
            ps_At (d + 1) 26 12 [(0, .ref r0), (1, .int x1), (2, .int (x2 + (-1)))] [] s7 Q))))) ∧
      (4 ≤ v2 →
        ps_nk (ps_is r0 1) (ps_nk (ps_is r0 1) (ps_Cl d 28 [.ref r0, .int ((x1 >>> ((((ps_i s2 r0 4) - 1) - (v2 - 4)) &&& 31)) &&& 1)] s2 (ps_rV (fun s8 =>
          ps_At (d + 1) 26 12 [(0, .ref r0), (1, .int x1), (2, .int (x2 + (-1)))] [] s8 Q)))))))))) : ps_At (d + 1) 26 12 [(0, .ref r0), (1, .int x1), (2, .int x2)] [] s Q :=
  ps_wp_at (stops := [(12, [0, 1, 2])]) (n := 58) h rfl


theorem xs_26_12 {m s : ps_S} {t : Int32} {d : Nat} {r0 : Nat} {x1 : Int32} {x2 : Int32} {Q : Option Value → ps_S → Prop} (h0 : ps_is r0 1 = true) (J : xJ m t s) (k : ∀ (v : Int32) (s' : ps_S), v &&& 1 = v → xJ m t s' → Q (some (.int v)) s') : ps_At (d + 2) 26 12 [(0, .ref r0), (1, .int x1), (2, .int x2)] [] s Q :=
  xs_dn (P := fun x2 => ∀ (s : ps_S), ps_is r0 1 = true → xJ m t s → ps_At (d + 2) 26 12 [(0, .ref r0), (1, .int x1), (2, .int x2)] [] s Q) (fun x2 ih s h0 J => pg_26_12 (d := d + 1) (And.intro (fun f1 => (ps_nk_i h0 (xs_29 h0 J (fun v1 s1 J1 => (And.intro (fun f2 => (k 0 s1 (by decide) J1)) (fun f2 => (k 1 s1 (by decide) J1))))))) (fun f1 => (ps_nk_i h0 (xs_182 (xk_1_1 h0) J (fun v2 => (And.intro (fun f3 => (And.intro (fun f4 => (ps_nk_i h0 (xs_29 h0 J (fun v3 s3 J3 => (ps_nk_i h0 (xs_29 h0 J3 (fun v4 s4 J4 => (xs_27  J4 (fun v5 => (ps_nk_i h0 (xs_28 h0 J4 (fun s6 J6 => (ih ((x2 + (-1))) (xs_ge f1) s6 h0 J6))))))))))))) (fun f4 => (ps_nk_i h0 (xs_28 h0 J (fun s7 J7 => (ih ((x2 + (-1))) (xs_ge f1) s7 h0 J7))))))) (fun f3 => (ps_nk_i h0 (ps_nk_i h0 (xs_28 h0 J (fun s8 J8 => (ih ((x2 + (-1))) (xs_ge f1) s8 h0 J8))))))))))))) x2 s h0 J


theorem xs_26 {m s : ps_S} {t : Int32} {d : Nat} {r0 : Nat} {x1 : Int32} {f : Int32 → ps_S → Prop} (h0 : ps_is r0 1 = true) (J : xJ m t s) (k : ∀ (v : Int32) (s' : ps_S), v &&& 1 = v → xJ m t s' → f v s') : ps_Cl (d + 2) 26 [.ref r0, .int x1] s (ps_rI f) :=
  pg_26_0 (d := d + 1) (ps_nk_i h0 (ps_nk_i h0 (xs_26_12 (d := d) (r0 := r0) (x1 := x1) (x2 := ((ps_i (ps_ui s r0 6 0) r0 2) - 1))  h0 (xw_i (c := 1) (by decide) h0 J) k )))


-- ProofBench$Letters.rowsThatAreSo()I
theorem pg_23_0 {d : Nat} {r0 : Nat} {s : ps_S} {Q : Option Value → ps_S → Prop} (h :
  ps_At (d + 1) 23 4 [(0, .ref r0), (1, .int 0), (2, .int 0)] [] s Q) : ps_At (d + 1) 23 0 [(0, .ref r0)] [] s Q :=
  ps_wp_at (stops := [(4, [0, 1, 2])]) (n := 6) h rfl


theorem pg_23_4 {d : Nat} {r0 : Nat} {x1 : Int32} {x2 : Int32} {s : ps_S} {Q : Option Value → ps_S → Prop} (h :
  ps_nk (ps_is r0 1) (ps_Cl d 25 [.ref r0] s (ps_rI (fun v1 s1 =>
    (v1 ≤ x2 →
      Q (some (.int x1)) s1) ∧
    (x2 < v1 →
      ps_nk (ps_is r0 1) (ps_Cl d 26 [.ref r0, .int x2] s1 (ps_rI (fun v2 s2 =>
        (v2 = 0 →
          ps_At (d + 1) 23 4 [(0, .ref r0), (1, .int x1), (2, .int (x2 + 1))] [] s2 Q) ∧
        (v2 ≠ 0 →
          ps_At (d + 1) 23 4 [(0, .ref r0), (1, .int (x1 + 1)), (2, .int (x2 + 1))] [] s2 Q))))))))) : ps_At (d + 1) 23 4 [(0, .ref r0), (1, .int x1), (2, .int x2)] [] s Q :=
  ps_wp_at (stops := [(4, [0, 1, 2])]) (n := 17) h rfl

