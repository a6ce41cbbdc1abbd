set_option maxRecDepth 100000
theorem pg_100_2 {d : Nat} {r0 : Nat} {x1 : Int32} {x2 : Int32} {s : ps_S} {Q : Option Value → ps_S → Prop} (h :
  ps_nk (ps_is r0 5) (((ps_i s r0 1) ≤ x2 →
    Q (some (.int 0)) s) ∧
  (x2 < (ps_i s r0 1) →
    ps_nk (ps_is r0 5) (ps_Cl d 92 [.ref r0, .int x2] s (ps_rI (fun v1 s1 =>
      (v1 ≠ x1 →
        ps_At (d + 1) 100 2 [(0, .ref r0), (1, .int x1), (2, .int (x2 + 1))] [] s1 Q) ∧
      (v1 = x1 →
        Q (some (.int 1)) s1))))))) : ps_At (d + 1) 100 2 [(0, .ref r0), (1, .int x1), (2, .int x2)] [] s Q :=
  ps_wp_at (stops := [(2, [0, 1, 2])]) (n := 17) h rfl


theorem xs_100_2 {m s : ps_S} {t : Int32} {d : Nat} {r0 : Nat} {x1 : Int32} {x2 : Int32} {Q : Option Value → ps_S → Prop} (h0 : ps_is r0 5 = true) (J : xJ m t s) (k : ∀ (v : Int32), v &&& 1 = v → Q (some (.int v)) s) : ps_At (d + 1) 100 2 [(0, .ref r0), (1, .int x1), (2, .int x2)] [] s Q :=
  xs_up (P := fun x2 => ps_is r0 5 = true → ps_At (d + 1) 100 2 [(0, .ref r0), (1, .int x1), (2, .int x2)] [] s Q) (fun x2 ih h0 => pg_100_2 (d := d) (ps_nk_i h0 (And.intro (fun f1 => (k 0 (by decide))) (fun f1 => (ps_nk_i h0 (xs_92 h0 J (fun v1 => (And.intro (fun f2 => (ih ((x2 + 1)) (xs_lt f1) h0)) (fun f2 => (k 1 (by decide))))))))))) x2 h0


theorem xs_100 {m s : ps_S} {t : Int32} {d : Nat} {r0 : Nat} {x1 : Int32} {f : Int32 → ps_S → Prop} (h0 : ps_is r0 5 = true) (J : xJ m t s) (k : ∀ (v : Int32), v &&& 1 = v → f v s) : ps_Cl (d + 1) 100 [.ref r0, .int x1] s (ps_rI f) :=
  pg_100_0 (d := d) (xs_100_2 (d := d) (r0 := r0) (x1 := x1) (x2 := 0)  h0 J k )


-- ProofBench$Judge.findFree(LProofBench$Row;)V
theorem pg_13_0 {d : Nat} {r0 : Nat} {r1 : Nat} {s : ps_S} {Q : Option Value → ps_S → Prop} (h :
  ps_nk (ps_is r0 0) (ps_At (d + 1) 13 7 [(0, .ref r0), (1, .ref r1), (2, .int 0)] [] (ps_ui s r0 10 0) Q)) : ps_At (d + 1) 13 0 [(0, .ref r0), (1, .ref r1)] [] s Q :=
  ps_wp_at (stops := [(7, [0, 1, 2])]) (n := 7) h rfl


theorem pg_13_7 {d : Nat} {r0 : Nat} {r1 : Nat} {x2 : Int32} {s : ps_S} {Q : Option Value → ps_S → Prop} (h :
  (12 ≤ x2 →
    Q none s) ∧
  (x2 < 12 →
    ps_nk (ps_is r1 5) (ps_Cl d 100 [.ref r1, .int ((60 : Int32) + x2)] s (ps_rI (fun v1 s1 =>
      (v1 = 0 →
        ps_At (d + 1) 13 7 [(0, .ref r0), (1, .ref r1), (2, .int (x2 + 1))] [] s1 Q) ∧
      (v1 ≠ 0 →
        ps_nk (ps_is r0 0) (ps_nk (ps_is r0 0) (ps_Cl d 183 [.ref (ps_c0 r0 9), .int (ps_i s1 r0 10), .int x2] s1 (ps_rV (fun s2 =>
          ps_nk (ps_is r0 0) (ps_nk (ps_is r0 0) (ps_At (d + 1) 13 7 [(0, .ref r0), (1, .ref r1), (2, .int (x2 + 1))] [] (ps_ui s2 r0 10 ((ps_i s2 r0 10) + 1)) Q)))))))))))) : ps_At (d + 1) 13 7 [(0, .ref r0), (1, .ref r1), (2, .int x2)] [] s Q :=
  ps_wp_at (stops := [(7, [0, 1, 2])]) (n := 28) h rfl

