set_option maxRecDepth 100000
theorem xs_62 {m s : ps_S} {t : Int32} {d : Nat} {r0 : Nat} {x1 : Int32} {f : Int32 → ps_S → Prop} (h0 : ps_is r0 3 = true) (J : xJ m t s) (k : ∀ (v : Int32) (s' : ps_S), v &&& 1 = v → xJ m t s' → f v s') : ps_Cl d 62 [.ref r0, .int x1] s (ps_rI f) :=
  pg_62_0 (ps_nk_i h0 (ps_nk_i (xk_3_0 h0) (And.intro (fun f1 => (ps_nk_i h0 (ps_nk_i h0 (ps_nk_i (xk_3_0 h0) (ps_nk_i h0 (k 0 (ps_ui (ps_ui s r0 9 x1) r0 10 (ps_i (ps_ui s r0 9 x1) (ps_c0 r0 0) 5)) (by decide) (xw_i (c := 3) (by decide) h0 (xw_i (c := 3) (by decide) h0 J)))))))) (fun f1 => (ps_nk_i h0 (ps_nk_i h0 (ps_nk_i (xk_3_0 h0) (ps_nk_i h0 (k 0 (ps_ui (ps_ui s r0 9 1) r0 10 (ps_i (ps_ui s r0 9 1) (ps_c0 r0 0) 5)) (by decide) (xw_i (c := 3) (by decide) h0 (xw_i (c := 3) (by decide) h0 J)))))))))))

-- ProofBench$Theory.find([JIJ)I
theorem pg_131_0 {d : Nat} {r0 : Nat} {x1 : Int32} {l2 : Int64} {s : ps_S} {Q : Option Value → ps_S → Prop} (h :
  ps_At d 131 3 [(0, .ref r0), (1, .int x1), (2, .long l2), (4, .int 0)] [] s Q) : ps_At d 131 0 [(0, .ref r0), (1, .int x1), (2, .long l2)] [] s Q :=
  ps_wp_at (stops := [(3, [0, 1, 2, 4])]) (n := 4) h rfl

theorem pg_131_3 {d : Nat} {r0 : Nat} {x1 : Int32} {l2 : Int64} {x4 : Int32} {s : ps_S} {Q : Option Value → ps_S → Prop} (h :
  (x1 ≤ x4 →
    Q (some (.int (-1))) s) ∧
  (x4 < x1 →
    ps_nk (Nat.beq (ps_K r0).1 0) (((nI (ps_ln r0)) ≤ x4 →
      Q (some (.int (-1))) s) ∧
    (x4 < (nI (ps_ln r0)) →
      ps_nk (ps_ar r0 3) (ps_nd (pm_in x4 (ps_ln r0)) (((lg_cmp (ps_b s r0 (Int32.toNatClampNeg x4)) l2) ≠ 0 →
        ps_At d 131 3 [(0, .ref r0), (1, .int x1), (2, .long l2), (4, .int (x4 + 1))] [] s Q) ∧
      ((lg_cmp (ps_b s r0 (Int32.toNatClampNeg x4)) l2) = 0 →
        Q (some (.int x4)) s))))))) : ps_At d 131 3 [(0, .ref r0), (1, .int x1), (2, .long l2), (4, .int x4)] [] s Q :=
  ps_wp_at (stops := [(3, [0, 1, 2, 4])]) (n := 23) h rfl

theorem xs_131_3 {m s : ps_S} {t : Int32} {d : Nat} {r0 : Nat} {x1 : Int32} {l2 : Int64} {x4 : Int32} {Q : Option Value → ps_S → Prop} (h0 : ps_ar r0 3 = true ∧ r0 < 1131) (e0 : 0 ≤ x4) (J : xJ m t s) (k : ∀ (v : Int32), Q (some (.int v)) s) : ps_At d 131 3 [(0, .ref r0), (1, .int x1), (2, .long l2), (4, .int x4)] [] s Q :=
  xs_up (P := fun x4 => ps_ar r0 3 = true ∧ r0 < 1131 → 0 ≤ x4 → ps_At d 131 3 [(0, .ref r0), (1, .int x1), (2, .long l2), (4, .int x4)] [] s Q) (fun x4 ih h0 e0 => pg_131_3 (And.intro (fun f1 => (k (-1))) (fun f1 => (ps_nk_i (xn_l (h0).1) (And.intro (fun f2 => (k (-1))) (fun f2 => (ps_nk_i (xn_3 (h0).1) (ps_nd_i (xg_in e0 f2) (And.intro (fun f3 => (ih ((x4 + 1)) (xs_lt f1) h0 (xs_nn e0 f1))) (fun f3 => (k x4))))))))))) x4 h0 e0

theorem xs_131 {m s : ps_S} {t : Int32} {d : Nat} {r0 : Nat} {x1 : Int32} {l2 : Int64} {f : Int32 → ps_S → Prop} (h0 : ps_ar r0 3 = true ∧ r0 < 1131) (J : xJ m t s) (k : ∀ (v : Int32), f v s) : ps_Cl d 131 [.ref r0, .int x1, .long l2] s (ps_rI f) :=
  pg_131_0 (xs_131_3 (d := d) (r0 := r0) (x1 := x1) (l2 := l2) (x4 := 0)  h0 (by decide) J k )

-- ProofBench$Theory.axiomOf(J)I
