set_option maxRecDepth 100000
theorem xs_13_7 {m s : ps_S} {t : Int32} {d : Nat} {r0 : Nat} {r1 : Nat} {x2 : Int32} {Q : Option Value → ps_S → Prop} (h0 : ps_is r0 0 = true) (h1 : ps_is r1 5 = true) (J : xJ m t s) (k : ∀ (s' : ps_S), xJ m t s' → Q none s') : ps_At (d + 2) 13 7 [(0, .ref r0), (1, .ref r1), (2, .int x2)] [] s Q :=
  xs_up (P := fun x2 => ∀ (s : ps_S), ps_is r0 0 = true → ps_is r1 5 = true → xJ m t s → ps_At (d + 2) 13 7 [(0, .ref r0), (1, .ref r1), (2, .int x2)] [] s Q) (fun x2 ih s h0 h1 J => pg_13_7 (d := d + 1) (And.intro (fun f1 => (k s J)) (fun f1 => (ps_nk_i h1 (xs_100 h1 J (fun v1 b1 => (And.intro (fun f2 => (ih ((x2 + 1)) (xs_lt f1) s h0 h1 J)) (fun f2 => (ps_nk_i h0 (ps_nk_i h0 (xs_183 (xk_0_9 h0) J (fun s2 J2 e2 => (ps_nk_i h0 (ps_nk_i h0 (ih ((x2 + 1)) (xs_lt f1) (ps_ui s2 r0 10 ((ps_i s2 r0 10) + 1)) h0 h1 (xw_i (c := 0) (by decide) h0 J2)))))))))))))))) x2 s h0 h1 J


theorem xs_13 {m s : ps_S} {t : Int32} {d : Nat} {r0 : Nat} {r1 : Nat} {f : ps_S → Prop} (h0 : ps_is r0 0 = true) (h1 : ps_is r1 5 = true) (J : xJ m t s) (k : ∀ (s' : ps_S), xJ m t s' → f s') : ps_Cl (d + 2) 13 [.ref r0, .ref r1] s (ps_rV f) :=
  pg_13_0 (d := d + 1) (ps_nk_i h0 (xs_13_7 (d := d) (r0 := r0) (r1 := r1) (x2 := 0)  h0 h1 (xw_i (c := 0) (by decide) h0 J) k ))


-- ProofBench$Judge.isSoForAll(LProofBench$Row;)Z
theorem pg_14_0 {d : Nat} {r0 : Nat} {r1 : Nat} {s : ps_S} {Q : Option Value → ps_S → Prop} (h :
  ps_nk (ps_is r0 0) (ps_nk (ps_is r0 0) (ps_nk (ps_is r0 0) (ps_At (d + 1) 14 17 [(0, .ref r0), (2, .int 1), (3, .int 0)] [] (ps_ur (ps_ur s r0 14 r1) r0 15 (ps_c0 r0 6)) Q)))) : ps_At (d + 1) 14 0 [(0, .ref r0), (1, .ref r1)] [] s Q :=
  ps_wp_at (stops := [(17, [0, 2, 3]), (40, [0, 2, 3]), (51, [0, 2, 3, 4, 5]), (105, [0, 2, 3])]) (n := 13) h rfl


theorem pg_14_17 {d : Nat} {r0 : Nat} {x2 : Int32} {x3 : Int32} {s : ps_S} {Q : Option Value → ps_S → Prop} (h :
  ps_nk (ps_is r0 0) (((ps_i s r0 10) ≤ x3 →
    ps_At (d + 1) 14 40 [(0, .ref r0), (2, .int x2), (3, .int 0)] [] s Q) ∧
  (x3 < (ps_i s r0 10) →
    ps_nk (ps_is r0 0) (ps_At (d + 1) 14 17 [(0, .ref r0), (2, .int (x2 * (ps_i s r0 11))), (3, .int (x3 + 1))] [] s Q)))) : ps_At (d + 1) 14 17 [(0, .ref r0), (2, .int x2), (3, .int x3)] [] s Q :=
  ps_wp_at (stops := [(17, [0, 2, 3]), (40, [0, 2, 3]), (51, [0, 2, 3, 4, 5]), (105, [0, 2, 3])]) (n := 15) h rfl


theorem pg_14_40 {d : Nat} {r0 : Nat} {x2 : Int32} {x3 : Int32} {s : ps_S} {Q : Option Value → ps_S → Prop} (h :
  (x2 ≤ x3 →
    Q (some (.int 1)) s) ∧
  (x3 < x2 →
    ps_At (d + 1) 14 51 [(0, .ref r0), (2, .int x2), (3, .int x3), (4, .int x3), (5, .int 0)] [] s Q)) : ps_At (d + 1) 14 40 [(0, .ref r0), (2, .int x2), (3, .int x3)] [] s Q :=
  ps_wp_at (stops := [(17, [0, 2, 3]), (40, [0, 2, 3]), (51, [0, 2, 3, 4, 5]), (105, [0, 2, 3])]) (n := 11) h rfl

