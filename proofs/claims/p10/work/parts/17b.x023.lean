set_option maxRecDepth 100000
-- ProofBench$Letters.pop()I
theorem pg_29_0 {d : Nat} {r0 : Nat} {s : ps_S} {Q : Option Value → ps_S → Prop} (h :
  ps_nk (ps_is r0 1) (ps_nk (ps_is r0 1) (ps_nk (ps_is r0 1) (ps_nk (ps_is r0 1) (ps_Cl d 182 [.ref (ps_c0 r0 5), .int (ps_i (ps_ui s r0 6 ((ps_i s r0 6) - 1)) r0 6)] (ps_ui s r0 6 ((ps_i s r0 6) - 1)) (ps_rI (fun v1 s1 =>
    Q (some (.int v1)) s1))))))) : ps_At (d + 1) 29 0 [(0, .ref r0)] [] s Q :=
  ps_wp_at (stops := []) (n := 14) h rfl


theorem xs_29 {m s : ps_S} {t : Int32} {d : Nat} {r0 : Nat} {f : Int32 → ps_S → Prop} (h0 : ps_is r0 1 = true) (J : xJ m t s) (k : ∀ (v : Int32) (s' : ps_S), xJ m t s' → f v s') : ps_Cl (d + 1) 29 [.ref r0] s (ps_rI f) :=
  pg_29_0 (d := d) (ps_nk_i h0 (ps_nk_i h0 (ps_nk_i h0 (ps_nk_i h0 (xs_182 (xk_1_5 h0) (xw_i (c := 1) (by decide) h0 J) (fun v1 => (k v1 (ps_ui s r0 6 ((ps_i s r0 6) - 1)) (xw_i (c := 1) (by decide) h0 J))))))))


-- ProofBench$Letters.join(III)I
theorem pg_27_0 {d : Nat} {x0 : Int32} {x1 : Int32} {x2 : Int32} {s : ps_S} {Q : Option Value → ps_S → Prop} (h :
  (x0 = 1 →
    Q (some (.int (x1 &&& x2))) s) ∧
  (x0 ≠ 1 →
    (x0 = 2 →
    Q (some (.int (x1 ||| x2))) s) ∧
  (x0 ≠ 2 →
    Q (some (.int (((1 : Int32) - x1) ||| x2))) s))) : ps_At d 27 0 [(0, .int x0), (1, .int x1), (2, .int x2)] [] s Q :=
  ps_wp_at (stops := []) (n := 18) h rfl


theorem xs_27 {m s : ps_S} {t : Int32} {d : Nat} {x0 : Int32} {x1 : Int32} {x2 : Int32} {f : Int32 → ps_S → Prop} (J : xJ m t s) (k : ∀ (v : Int32), f v s) : ps_Cl d 27 [.int x0, .int x1, .int x2] s (ps_rI f) :=
  pg_27_0 (And.intro (fun f1 => (k (x1 &&& x2))) (fun f1 => (And.intro (fun f2 => (k (x1 ||| x2))) (fun f2 => (k (((1 : Int32) - x1) ||| x2))))))


-- ProofBench$Letters.isSo(I)Z
theorem pg_26_0 {d : Nat} {r0 : Nat} {x1 : Int32} {s : ps_S} {Q : Option Value → ps_S → Prop} (h :
  ps_nk (ps_is r0 1) (ps_nk (ps_is r0 1) (ps_At (d + 1) 26 12 [(0, .ref r0), (1, .int x1), (2, .int ((ps_i (ps_ui s r0 6 0) r0 2) - 1))] [] (ps_ui s r0 6 0) Q))) : ps_At (d + 1) 26 0 [(0, .ref r0), (1, .int x1)] [] s Q :=
  ps_wp_at (stops := [(12, [0, 1, 2])]) (n := 10) h rfl

