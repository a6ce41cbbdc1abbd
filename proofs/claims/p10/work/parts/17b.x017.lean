set_option maxRecDepth 100000
theorem pg_5_50 {d : Nat} {r0 : Nat} {r2 : Nat} {x4 : Int32} {x5 : Int32} {s : ps_S} {Q : Option Value → ps_S → Prop} (h :
  (x4 ≤ x5 →
    Q (some (.int (-1))) s) ∧
  (x5 < x4 →
    ps_nk (ps_is r0 0) (ps_Cl d 11 [.ref r0, .int x5] s (ps_rI (fun v1 s1 =>
      (v1 = 0 →
        ps_At (d + 1) 5 50 [(0, .ref r0), (2, .ref r2), (4, .int x4), (5, .int (x5 + 1))] [] s1 Q) ∧
      (v1 ≠ 0 →
        ps_nk (ps_is r0 0) (ps_Cl d 8 [.ref r0, .int x5] s1 (ps_rV (fun s2 =>
          ps_nk (ps_is r0 0) (ps_Cl d 14 [.ref r0, .ref r2] s2 (ps_rI (fun v3 s3 =>
            (v3 ≠ 0 →
              ps_At (d + 1) 5 50 [(0, .ref r0), (2, .ref r2), (4, .int x4), (5, .int (x5 + 1))] [] s3 Q) ∧
            (v3 = 0 →
              Q (some (.int x5)) s3))))))))))))) : ps_At (d + 1) 5 50 [(0, .ref r0), (2, .ref r2), (4, .int x4), (5, .int x5)] [] s Q :=
  ps_wp_at (stops := [(50, [0, 2, 4, 5])]) (n := 24) h rfl


theorem xs_5_50 {m s : ps_S} {t : Int32} {d : Nat} {r0 : Nat} {r2 : Nat} {x4 : Int32} {x5 : Int32} {Q : Option Value → ps_S → Prop} (h0 : ps_is r0 0 = true) (h2 : ps_is r2 5 = true) (J : xJ m t s) (k : ∀ (v : Int32) (s' : ps_S), xJ m t s' → Q (some (.int v)) s') : ps_At (d + 39) 5 50 [(0, .ref r0), (2, .ref r2), (4, .int x4), (5, .int x5)] [] s Q :=
  xs_up (P := fun x5 => ∀ (s : ps_S), ps_is r0 0 = true → ps_is r2 5 = true → xJ m t s → ps_At (d + 39) 5 50 [(0, .ref r0), (2, .ref r2), (4, .int x4), (5, .int x5)] [] s Q) (fun x5 ih s h0 h2 J => pg_5_50 (d := d + 38) (And.intro (fun f1 => (k (-1) s J)) (fun f1 => (ps_nk_i h0 (xs_11 h0 J (fun v1 s1 b1 J1 => (And.intro (fun f2 => (ih ((x5 + 1)) (xs_lt f1) s1 h0 h2 J1)) (fun f2 => (ps_nk_i h0 (xs_8 h0 J1 (fun s2 J2 => (ps_nk_i h0 (xs_14 h0 h2 J2 (fun v3 s3 b3 J3 => (And.intro (fun f3 => (ih ((x5 + 1)) (xs_lt f1) s3 h0 h2 J3)) (fun f3 => (k x5 s3 J3))))))))))))))))) x5 s h0 h2 J


theorem xs_5 {m s : ps_S} {t : Int32} {d : Nat} {r0 : Nat} {r1 : Nat} {r2 : Nat} {x3 : Int32} {f : Int32 → ps_S → Prop} (h0 : ps_is r0 0 = true) (h1 : ps_is r1 9 = true) (h2 : ps_is r2 5 = true) (J : xJ m t s) (k : ∀ (v : Int32) (s' : ps_S), xJ m t s' → f v s') : ps_Cl (d + 39) 5 [.ref r0, .ref r1, .ref r2, .int x3] s (ps_rI f) :=
  pg_5_0 (d := d + 38) (ps_nk_i h0 (xs_2 h0 h1 J (fun v1 s1 J1 => (ps_nk_i h0 (xs_13 h0 h2 J1 (fun s2 J2 => (And.intro (fun f1 => (k (-2) s2 J2)) (fun f1 => (ps_nk_i h0 (And.intro (fun f2 => (ps_nk_i h0 (xs_9 h0 J2 (fun s3 J3 => (ps_nk_i h0 (ps_nk_i h0 (ps_nk_i (xk_0_6 h0) (xs_103 (xk_0_6 h0) h2 (xj_0_16 J3 h0) J3 (fun s4 J4 => (xs_5_50 (d := d) (r0 := r0) (r2 := r2) (x4 := v1) (x5 := 0)  h0 h2 J4 k )))))))))) (fun f2 => (k (-2) s2 J2))))))))))))


-- ProofBench$Row.isPartAt(IILProofBench$Row;I)Z
theorem pg_99_0 {d : Nat} {r0 : Nat} {x1 : Int32} {x2 : Int32} {r3 : Nat} {x4 : Int32} {s : ps_S} {Q : Option Value → ps_S → Prop} (h :
  ps_At (d + 1) 99 3 [(0, .ref r0), (1, .int x1), (2, .int x2), (3, .ref r3), (4, .int x4), (5, .int x1)] [] s Q) : ps_At (d + 1) 99 0 [(0, .ref r0), (1, .int x1), (2, .int x2), (3, .ref r3), (4, .int x4)] [] s Q :=
  ps_wp_at (stops := [(3, [0, 1, 2, 3, 4, 5])]) (n := 4) h rfl


theorem pg_99_3 {d : Nat} {r0 : Nat} {x1 : Int32} {x2 : Int32} {r3 : Nat} {x4 : Int32} {x5 : Int32} {s : ps_S} {Q : Option Value → ps_S → Prop} (h :
  (x2 ≤ x5 →
    Q (some (.int 1)) s) ∧
  (x5 < x2 →
    ps_nk (ps_is r0 5) (ps_Cl d 92 [.ref r0, .int x5] s (ps_rI (fun v1 s1 =>
      ps_nk (ps_is r3 5) (ps_Cl d 92 [.ref r3, .int ((x4 + x5) - x1)] s1 (ps_rI (fun v2 s2 =>
        (v1 = v2 →
          ps_At (d + 1) 99 3 [(0, .ref r0), (1, .int x1), (2, .int x2), (3, .ref r3), (4, .int x4), (5, .int (x5 + 1))] [] s2 Q) ∧
        (v1 ≠ v2 →
          Q (some (.int 0)) s2))))))))) : ps_At (d + 1) 99 3 [(0, .ref r0), (1, .int x1), (2, .int x2), (3, .ref r3), (4, .int x4), (5, .int x5)] [] s Q :=
  ps_wp_at (stops := [(3, [0, 1, 2, 3, 4, 5])]) (n := 22) h rfl

