set_option maxRecDepth 100000
-- ProofBench$Step.leanAs(LProofBench$Step;)V
theorem pg_124_0 {d : Nat} {r0 : Nat} {r1 : Nat} {s : ps_S} {Q : Option Value → ps_S → Prop} (h :
  ps_nk (ps_is r0 8) (ps_nk (ps_is r1 8) (ps_nk (ps_is r0 8) (ps_nk (ps_is r0 8) (ps_nk (ps_is r1 8) (ps_nk (ps_is r0 8) (ps_nk (ps_is r0 8) (ps_nk (ps_is r1 8) (ps_nk (ps_is r0 8) (Q none (ps_uj (ps_ui (ps_ui s r0 10 ((ps_i s r0 10) ||| (ps_i s r1 10))) r0 11 ((ps_i (ps_ui s r0 10 ((ps_i s r0 10) ||| (ps_i s r1 10))) r0 11) ||| (ps_i (ps_ui s r0 10 ((ps_i s r0 10) ||| (ps_i s r1 10))) r1 11))) r0 12 ((ps_j (ps_ui (ps_ui s r0 10 ((ps_i s r0 10) ||| (ps_i s r1 10))) r0 11 ((ps_i (ps_ui s r0 10 ((ps_i s r0 10) ||| (ps_i s r1 10))) r0 11) ||| (ps_i (ps_ui s r0 10 ((ps_i s r0 10) ||| (ps_i s r1 10))) r1 11))) r0 12) ||| (ps_j (ps_ui (ps_ui s r0 10 ((ps_i s r0 10) ||| (ps_i s r1 10))) r0 11 ((ps_i (ps_ui s r0 10 ((ps_i s r0 10) ||| (ps_i s r1 10))) r0 11) ||| (ps_i (ps_ui s r0 10 ((ps_i s r0 10) ||| (ps_i s r1 10))) r1 11))) r1 12))))))))))))) : ps_At d 124 0 [(0, .ref r0), (1, .ref r1)] [] s Q :=
  ps_wp_at (stops := []) (n := 24) h rfl


theorem xs_124 {m s : ps_S} {t : Int32} {d : Nat} {r0 : Nat} {r1 : Nat} {f : ps_S → Prop} (h0 : ps_is r0 8 = true) (h1 : ps_is r1 8 = true) (J : xJ m t s) (k : ∀ (s' : ps_S), xJ m t s' → f s') : ps_Cl d 124 [.ref r0, .ref r1] s (ps_rV f) :=
  pg_124_0 (ps_nk_i h0 (ps_nk_i h1 (ps_nk_i h0 (ps_nk_i h0 (ps_nk_i h1 (ps_nk_i h0 (ps_nk_i h0 (ps_nk_i h1 (ps_nk_i h0 (k (ps_uj (ps_ui (ps_ui s r0 10 ((ps_i s r0 10) ||| (ps_i s r1 10))) r0 11 ((ps_i (ps_ui s r0 10 ((ps_i s r0 10) ||| (ps_i s r1 10))) r0 11) ||| (ps_i (ps_ui s r0 10 ((ps_i s r0 10) ||| (ps_i s r1 10))) r1 11))) r0 12 ((ps_j (ps_ui (ps_ui s r0 10 ((ps_i s r0 10) ||| (ps_i s r1 10))) r0 11 ((ps_i (ps_ui s r0 10 ((ps_i s r0 10) ||| (ps_i s r1 10))) r0 11) ||| (ps_i (ps_ui s r0 10 ((ps_i s r0 10) ||| (ps_i s r1 10))) r1 11))) r0 12) ||| (ps_j (ps_ui (ps_ui s r0 10 ((ps_i s r0 10) ||| (ps_i s r1 10))) r0 11 ((ps_i (ps_ui s r0 10 ((ps_i s r0 10) ||| (ps_i s r1 10))) r0 11) ||| (ps_i (ps_ui s r0 10 ((ps_i s r0 10) ||| (ps_i s r1 10))) r1 11))) r1 12))) (xw_j (c := 8) (by decide) h0 (xw_i (c := 8) (by decide) h0 (xw_i (c := 8) (by decide) h0 J)))))))))))))


-- ProofBench$Proof.assumes(LProofBench$Step;LProofBench$Row;)Z
theorem pg_40_0 {d : Nat} {r0 : Nat} {r1 : Nat} {r2 : Nat} {s : ps_S} {Q : Option Value → ps_S → Prop} (h :
  ps_At (d + 1) 40 2 [(0, .ref r0), (1, .ref r1), (2, .ref r2), (3, .int 0)] [] s Q) : ps_At (d + 1) 40 0 [(0, .ref r0), (1, .ref r1), (2, .ref r2)] [] s Q :=
  ps_wp_at (stops := [(2, [0, 1, 2, 3])]) (n := 4) h rfl


theorem pg_40_2 {d : Nat} {r0 : Nat} {r1 : Nat} {r2 : Nat} {x3 : Int32} {s : ps_S} {Q : Option Value → ps_S → Prop} (h :
  ps_nk (ps_is r1 8) (((ps_i s r1 8) ≤ x3 →
    Q (some (.int 0)) s) ∧
  (x3 < (ps_i s r1 8) →
    ps_nk (ps_is r1 8) (ps_Cl d 122 [.ref r1, .int x3] s (ps_rI (fun v1 s1 =>
      ps_nk (ps_is r0 2) (ps_Cl d 33 [.ref r0, .int v1] s1 (ps_rA (fun v2 s2 =>
        ps_nk (ps_is v2 8) (ps_nk (ps_is (ps_c0 v2 6) 5) (ps_Cl d 98 [.ref (ps_c0 v2 6), .ref r2] s2 (ps_rI (fun v3 s3 =>
          (v3 = 0 →
            ps_At (d + 1) 40 2 [(0, .ref r0), (1, .ref r1), (2, .ref r2), (3, .int (x3 + 1))] [] s3 Q) ∧
          (v3 ≠ 0 →
            Q (some (.int 1)) s3)))))))))))))) : ps_At (d + 1) 40 2 [(0, .ref r0), (1, .ref r1), (2, .ref r2), (3, .int x3)] [] s Q :=
  ps_wp_at (stops := [(2, [0, 1, 2, 3])]) (n := 21) h rfl


theorem xs_40_2 {m s : ps_S} {t : Int32} {d : Nat} {r0 : Nat} {r1 : Nat} {r2 : Nat} {x3 : Int32} {Q : Option Value → ps_S → Prop} (h0 : ps_is r0 2 = true) (h1 : ps_is r1 8 = true) (h2 : ps_is r2 5 = true) (J : xJ m t s) (k : ∀ (v : Int32), v &&& 1 = v → Q (some (.int v)) s) : ps_At (d + 2) 40 2 [(0, .ref r0), (1, .ref r1), (2, .ref r2), (3, .int x3)] [] s Q :=
  xs_up (P := fun x3 => ps_is r0 2 = true → ps_is r1 8 = true → ps_is r2 5 = true → ps_At (d + 2) 40 2 [(0, .ref r0), (1, .ref r1), (2, .ref r2), (3, .int x3)] [] s Q) (fun x3 ih h0 h1 h2 => pg_40_2 (d := d + 1) (ps_nk_i h1 (And.intro (fun f1 => (k 0 (by decide))) (fun f1 => (ps_nk_i h1 (xs_122 h1 J (fun v1 => (ps_nk_i h0 (xs_33 h0 J (fun v2 g2 => (ps_nk_i g2 (ps_nk_i (xk_8_6 g2) (xs_98 (xk_8_6 g2) h2 J (fun v3 b3 => (And.intro (fun f2 => (ih ((x3 + 1)) (xs_lt f1) h0 h1 h2)) (fun f2 => (k 1 (by decide)))))))))))))))))) x3 h0 h1 h2

