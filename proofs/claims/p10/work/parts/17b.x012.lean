set_option maxRecDepth 100000
-- ProofBench$Judge.goodModels(LProofBench$Theory;I)I
theorem pg_3_0 {d : Nat} {r0 : Nat} {r1 : Nat} {x2 : Int32} {s : ps_S} {Q : Option Value → ps_S → Prop} (h :
  ps_nk (ps_is r0 0) (ps_Cl d 2 [.ref r0, .ref r1, .int x2] s (ps_rI (fun v1 s1 =>
    ps_nk (ps_is r0 0) (ps_Cl d 9 [.ref r0] s1 (ps_rV (fun s2 =>
      ps_At (d + 1) 3 17 [(0, .ref r0), (3, .int v1), (4, .int 0), (5, .int 0)] [] s2 Q))))))) : ps_At (d + 1) 3 0 [(0, .ref r0), (1, .ref r1), (2, .int x2)] [] s Q :=
  ps_wp_at (stops := [(17, [0, 3, 4, 5])]) (n := 13) h rfl


theorem pg_3_17 {d : Nat} {r0 : Nat} {x3 : Int32} {x4 : Int32} {x5 : Int32} {s : ps_S} {Q : Option Value → ps_S → Prop} (h :
  (x3 ≤ x5 →
    (x3 ≠ (-2) →
      Q (some (.int x4)) s) ∧
    (x3 = (-2) →
      Q (some (.int (-2))) s)) ∧
  (x5 < x3 →
    ps_nk (ps_is r0 0) (ps_Cl d 11 [.ref r0, .int x5] s (ps_rI (fun v1 s1 =>
      (v1 = 0 →
        ps_At (d + 1) 3 17 [(0, .ref r0), (3, .int x3), (4, .int x4), (5, .int (x5 + 1))] [] s1 Q) ∧
      (v1 ≠ 0 →
        ps_At (d + 1) 3 17 [(0, .ref r0), (3, .int x3), (4, .int (x4 + 1)), (5, .int (x5 + 1))] [] s1 Q)))))) : ps_At (d + 1) 3 17 [(0, .ref r0), (3, .int x3), (4, .int x4), (5, .int x5)] [] s Q :=
  ps_wp_at (stops := [(17, [0, 3, 4, 5])]) (n := 22) h rfl


theorem xs_3_17 {m s : ps_S} {t : Int32} {d : Nat} {r0 : Nat} {x3 : Int32} {x4 : Int32} {x5 : Int32} {Q : Option Value → ps_S → Prop} (h0 : ps_is r0 0 = true) (J : xJ m t s) (k : ∀ (v : Int32) (s' : ps_S), xJ m t s' → Q (some (.int v)) s') : ps_At (d + 39) 3 17 [(0, .ref r0), (3, .int x3), (4, .int x4), (5, .int x5)] [] s Q :=
  xs_up (P := fun x5 => ∀ (x4 : Int32) (s : ps_S), ps_is r0 0 = true → xJ m t s → ps_At (d + 39) 3 17 [(0, .ref r0), (3, .int x3), (4, .int x4), (5, .int x5)] [] s Q) (fun x5 ih x4 s h0 J => pg_3_17 (d := d + 38) (And.intro (fun f1 => (And.intro (fun f2 => (k x4 s J)) (fun f2 => (k (-2) s J)))) (fun f1 => (ps_nk_i h0 (xs_11 h0 J (fun v1 s1 b1 J1 => (And.intro (fun f3 => (ih ((x5 + 1)) (xs_lt f1) (x4) s1 h0 J1)) (fun f3 => (ih ((x5 + 1)) (xs_lt f1) ((x4 + 1)) s1 h0 J1))))))))) x5 x4 s h0 J


theorem xs_3 {m s : ps_S} {t : Int32} {d : Nat} {r0 : Nat} {r1 : Nat} {x2 : Int32} {f : Int32 → ps_S → Prop} (h0 : ps_is r0 0 = true) (h1 : ps_is r1 9 = true) (J : xJ m t s) (k : ∀ (v : Int32) (s' : ps_S), xJ m t s' → f v s') : ps_Cl (d + 39) 3 [.ref r0, .ref r1, .int x2] s (ps_rI f) :=
  pg_3_0 (d := d + 38) (ps_nk_i h0 (xs_2 h0 h1 J (fun v1 s1 J1 => (ps_nk_i h0 (xs_9 h0 J1 (fun s2 J2 => (xs_3_17 (d := d) (r0 := r0) (x3 := v1) (x4 := 0) (x5 := 0)  h0 J2 k )))))))


-- ProofBench$Row.contains(I)Z
theorem pg_100_0 {d : Nat} {r0 : Nat} {x1 : Int32} {s : ps_S} {Q : Option Value → ps_S → Prop} (h :
  ps_At (d + 1) 100 2 [(0, .ref r0), (1, .int x1), (2, .int 0)] [] s Q) : ps_At (d + 1) 100 0 [(0, .ref r0), (1, .int x1)] [] s Q :=
  ps_wp_at (stops := [(2, [0, 1, 2])]) (n := 4) h rfl

