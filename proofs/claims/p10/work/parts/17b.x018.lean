set_option maxRecDepth 100000
theorem xs_99_3 {m s : ps_S} {t : Int32} {d : Nat} {r0 : Nat} {x1 : Int32} {x2 : Int32} {r3 : Nat} {x4 : Int32} {x5 : Int32} {Q : Option Value → ps_S → Prop} (h0 : ps_is r0 5 = true) (h3 : ps_is r3 5 = true) (J : xJ m t s) (k : ∀ (v : Int32), v &&& 1 = v → Q (some (.int v)) s) : ps_At (d + 1) 99 3 [(0, .ref r0), (1, .int x1), (2, .int x2), (3, .ref r3), (4, .int x4), (5, .int x5)] [] s Q :=
  xs_up (P := fun x5 => ps_is r0 5 = true → ps_is r3 5 = true → ps_At (d + 1) 99 3 [(0, .ref r0), (1, .int x1), (2, .int x2), (3, .ref r3), (4, .int x4), (5, .int x5)] [] s Q) (fun x5 ih h0 h3 => pg_99_3 (d := d) (And.intro (fun f1 => (k 1 (by decide))) (fun f1 => (ps_nk_i h0 (xs_92 h0 J (fun v1 => (ps_nk_i h3 (xs_92 h3 J (fun v2 => (And.intro (fun f2 => (ih ((x5 + 1)) (xs_lt f1) h0 h3)) (fun f2 => (k 0 (by decide))))))))))))) x5 h0 h3


theorem xs_99 {m s : ps_S} {t : Int32} {d : Nat} {r0 : Nat} {x1 : Int32} {x2 : Int32} {r3 : Nat} {x4 : Int32} {f : Int32 → ps_S → Prop} (h0 : ps_is r0 5 = true) (h3 : ps_is r3 5 = true) (J : xJ m t s) (k : ∀ (v : Int32), v &&& 1 = v → f v s) : ps_Cl (d + 1) 99 [.ref r0, .int x1, .int x2, .ref r3, .int x4] s (ps_rI f) :=
  pg_99_0 (d := d) (xs_99_3 (d := d) (r0 := r0) (x1 := x1) (x2 := x2) (r3 := r3) (x4 := x4) (x5 := x1)  h0 h3 J k )


-- ProofBench$Letters.letterAt(LProofBench$Row;I)I
theorem pg_22_0 {d : Nat} {r0 : Nat} {r1 : Nat} {x2 : Int32} {s : ps_S} {Q : Option Value → ps_S → Prop} (h :
  ps_At (d + 1) 22 2 [(0, .ref r0), (1, .ref r1), (2, .int x2), (3, .int 0)] [] s Q) : ps_At (d + 1) 22 0 [(0, .ref r0), (1, .ref r1), (2, .int x2)] [] s Q :=
  ps_wp_at (stops := [(2, [0, 1, 2, 3])]) (n := 4) h rfl


theorem pg_22_2 {d : Nat} {r0 : Nat} {r1 : Nat} {x2 : Int32} {x3 : Int32} {s : ps_S} {Q : Option Value → ps_S → Prop} (h :
  ps_nk (ps_is r0 1) (((ps_i s r0 4) ≤ x3 →
    ps_nk (ps_is r0 1) (ps_nk (ps_is r0 1) (ps_Cl d 183 [.ref (ps_c0 r0 3), .int (ps_i s r0 4), .int x2] s (ps_rV (fun s1 =>
      ps_nk (ps_is r0 1) (ps_nk (ps_is r0 1) (ps_nk (ps_is r0 1) (Q (some (.int ((ps_i (ps_ui s1 r0 4 ((ps_i s1 r0 4) + 1)) r0 4) - 1))) (ps_ui s1 r0 4 ((ps_i s1 r0 4) + 1)))))))))) ∧
  (x3 < (ps_i s r0 4) →
    ps_nk (ps_is r0 1) (ps_nk (ps_is (ps_c0 r0 0) 6) (ps_Cl d 104 [.ref (ps_c0 r0 0), .int x2] s (ps_rI (fun v2 s2 =>
      ps_nk (ps_is r0 1) (ps_Cl d 182 [.ref (ps_c0 r0 3), .int x3] s2 (ps_rI (fun v3 s3 =>
        ps_nk (ps_is r1 5) (ps_Cl d 99 [.ref r1, .int x2, .int v2, .ref r1, .int v3] s3 (ps_rI (fun v4 s4 =>
          (v4 = 0 →
            ps_At (d + 1) 22 2 [(0, .ref r0), (1, .ref r1), (2, .int x2), (3, .int (x3 + 1))] [] s4 Q) ∧
          (v4 ≠ 0 →
            Q (some (.int x3)) s4)))))))))))))) : ps_At (d + 1) 22 2 [(0, .ref r0), (1, .ref r1), (2, .int x2), (3, .int x3)] [] s Q :=
  ps_wp_at (stops := [(2, [0, 1, 2, 3])]) (n := 40) h rfl


theorem xs_22_2 {m s : ps_S} {t : Int32} {d : Nat} {r0 : Nat} {r1 : Nat} {x2 : Int32} {x3 : Int32} {Q : Option Value → ps_S → Prop} (h0 : ps_is r0 1 = true) (h1 : ps_is r1 5 = true) (J : xJ m t s) (k : ∀ (v : Int32) (s' : ps_S), xJ m t s' → Q (some (.int v)) s') : ps_At (d + 2) 22 2 [(0, .ref r0), (1, .ref r1), (2, .int x2), (3, .int x3)] [] s Q :=
  xs_up (P := fun x3 => ∀ (s : ps_S), ps_is r0 1 = true → ps_is r1 5 = true → xJ m t s → ps_At (d + 2) 22 2 [(0, .ref r0), (1, .ref r1), (2, .int x2), (3, .int x3)] [] s Q) (fun x3 ih s h0 h1 J => pg_22_2 (d := d + 1) (ps_nk_i h0 (And.intro (fun f1 => (ps_nk_i h0 (ps_nk_i h0 (xs_183 (xk_1_3 h0) J (fun s1 J1 e1 => (ps_nk_i h0 (ps_nk_i h0 (ps_nk_i h0 (k ((ps_i (ps_ui s1 r0 4 ((ps_i s1 r0 4) + 1)) r0 4) - 1) (ps_ui s1 r0 4 ((ps_i s1 r0 4) + 1)) (xw_i (c := 1) (by decide) h0 J1)))))))))) (fun f1 => (ps_nk_i h0 (ps_nk_i (xk_1_0 h0) (xs_104 (xk_1_0 h0) J (fun v2 => (ps_nk_i h0 (xs_182 (xk_1_3 h0) J (fun v3 => (ps_nk_i h1 (xs_99 h1 h1 J (fun v4 b4 => (And.intro (fun f2 => (ih ((x3 + 1)) (xs_lt f1) s h0 h1 J)) (fun f2 => (k x3 s J))))))))))))))))) x3 s h0 h1 J

