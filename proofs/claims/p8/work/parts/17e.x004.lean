set_option maxRecDepth 100000
theorem pg_72_0 {d : Nat} {r0 : Nat} {s : ps_S} {Q : Option Value → ps_S → Prop} (h :
  ps_nk (ps_is r0 3) (ps_nk (ps_is (ps_c0 r0 0) 10) (((ps_i s (ps_c0 r0 0) 6) < 0 →
    ps_At (d + 1) 72 30 [(0, .ref r0)] [] s Q) ∧
  (0 ≤ (ps_i s (ps_c0 r0 0) 6) →
    ps_nk (ps_is r0 3) (ps_nk (ps_is (ps_c0 r0 0) 10) ((6 < (ps_i s (ps_c0 r0 0) 6) →
      ps_At (d + 1) 72 30 [(0, .ref r0)] [] s Q) ∧
    ((ps_i s (ps_c0 r0 0) 6) ≤ 6 →
      ps_nk (ps_is r0 3) (ps_nk (ps_is (ps_c0 r0 0) 10) (Q (some (.int (ps_i s (ps_c0 r0 0) 6))) s))))))))) : ps_At (d + 1) 72 0 [(0, .ref r0)] [] s Q :=
  ps_wp_at (stops := [(30, [0])]) (n := 15) h rfl

theorem pg_72_30 {d : Nat} {r0 : Nat} {s : ps_S} {Q : Option Value → ps_S → Prop} (h :
  ps_nk (ps_is r0 3) (ps_nk (ps_is (ps_c0 r0 0) 10) (((ps_i s (ps_c0 r0 0) 4) ≠ 2 →
    ((-1 : Int32) ≠ (-1) →
      Q (some (.int ((10 : Int32) + (-1)))) s) ∧
    ((-1 : Int32) = (-1) →
      Q (some (.int (-1))) s)) ∧
  ((ps_i s (ps_c0 r0 0) 4) = 2 →
    ps_nk (ps_is r0 3) (ps_nk (ps_is r0 3) (ps_nk (ps_is (ps_c0 r0 0) 10) (ps_nk (ps_is (ps_r s r0 5) 9) (ps_Cl d 127 [.ref (ps_r s r0 5), .long (ps_j s (ps_c0 r0 0) 8)] s (ps_rI (fun v1 s1 =>
      (v1 ≠ (-1) →
        Q (some (.int ((10 : Int32) + v1))) s1) ∧
      (v1 = (-1) →
        Q (some (.int (-1))) s1))))))))))) : ps_At (d + 1) 72 30 [(0, .ref r0)] [] s Q :=
  ps_wp_at (stops := [(30, [0])]) (n := 37) h rfl

theorem xs_72_30 {m s : ps_S} {t : Int32} {d : Nat} {r0 : Nat} {Q : Option Value → ps_S → Prop} (h0 : ps_is r0 3 = true) (J : xJ m t s) (k : ∀ (v : Int32), Q (some (.int v)) s) : ps_At (d + 2) 72 30 [(0, .ref r0)] [] s Q :=
  pg_72_30 (d := d + 1) (ps_nk_i h0 (ps_nk_i (xk_3_0 h0) (And.intro (fun f1 => (And.intro (fun f2 => (k ((10 : Int32) + (-1)))) (fun f2 => (k (-1))))) (fun f1 => (ps_nk_i h0 (ps_nk_i h0 (ps_nk_i (xk_3_0 h0) (ps_nk_i (xj_3_5 J h0) (xs_127 (xj_3_5 J h0) J (fun v1 => (And.intro (fun f3 => (k ((10 : Int32) + v1))) (fun f3 => (k (-1))))))))))))))

theorem xs_72 {m s : ps_S} {t : Int32} {d : Nat} {r0 : Nat} {f : Int32 → ps_S → Prop} (h0 : ps_is r0 3 = true) (J : xJ m t s) (k : ∀ (v : Int32), f v s) : ps_Cl (d + 2) 72 [.ref r0] s (ps_rI f) :=
  pg_72_0 (d := d + 1) (ps_nk_i h0 (ps_nk_i (xk_3_0 h0) (And.intro (fun f1 => (xs_72_30 (d := d) (r0 := r0)  h0 J k )) (fun f1 => (ps_nk_i h0 (ps_nk_i (xk_3_0 h0) (And.intro (fun f2 => (xs_72_30 (d := d) (r0 := r0)  h0 J k )) (fun f2 => (ps_nk_i h0 (ps_nk_i (xk_3_0 h0) (k (ps_i s (ps_c0 r0 0) 6))))))))))))

-- ProofBench$Theory.funOf(J)I
theorem pg_128_0 {d : Nat} {r0 : Nat} {l1 : Int64} {s : ps_S} {Q : Option Value → ps_S → Prop} (h :
  ps_nk (ps_is r0 9) (ps_nk (ps_is r0 9) (ps_Cl d 131 [.ref (ps_c0 r0 1), .int (ps_i s r0 7), .long l1] s (ps_rI (fun v1 s1 =>
    Q (some (.int v1)) s1))))) : ps_At (d + 1) 128 0 [(0, .ref r0), (1, .long l1)] [] s Q :=
  ps_wp_at (stops := []) (n := 9) h rfl

