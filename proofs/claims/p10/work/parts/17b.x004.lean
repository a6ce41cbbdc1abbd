set_option maxRecDepth 100000
theorem xr_16 {m s : ps_S} {t : Int32} {d : Nat} {r0 : Nat} {x1 : Int32} {x2 : Int32} {x3 : Int32} {f : Int32 → ps_S → Prop} (HS : xsS d x3) (h0 : ps_is r0 0 = true) (J : xJ m t s) (k : ∀ (v : Int32) (s' : ps_S), v &&& 1 = v → xJ m t s' → f v s') : ps_Cl (d + 9) 16 [.ref r0, .int x1, .int x2, .int x3] s (ps_rI f) :=
  pg_16_0 (d := d + 8) (ps_nk_i h0 (HS _ _ _ _ _ _ _ h0 J (fun v1 s1 b1 J1 => (ps_nk_i h0 (ps_nk_i (xj_0_14 J1 h0) (xs_92 (xj_0_14 J1 h0) J1 (fun v2 => (And.intro (fun f1 => (And.intro (fun f2 => (k 0 s1 (by decide) J1)) (fun f2 => (ps_nk_i h0 (ps_nk_i (xj_0_15 J1 h0) (xs_104 (xj_0_15 J1 h0) J1 (fun v3 => (ps_nk_i h0 (HS _ _ _ _ _ _ _ h0 J1 (fun v4 s4 b4 J4 => (And.intro (fun f3 => (k 0 s4 (by decide) J4)) (fun f3 => (k 1 s4 (by decide) J4))))))))))))) (fun f1 => (And.intro (fun f4 => (And.intro (fun f5 => (k 1 s1 (by decide) J1)) (fun f5 => (ps_nk_i h0 (ps_nk_i (xj_0_15 J1 h0) (xs_104 (xj_0_15 J1 h0) J1 (fun v5 => (ps_nk_i h0 (HS _ _ _ _ _ _ _ h0 J1 (fun v6 s6 b6 J6 => (And.intro (fun f6 => (k 0 s6 (by decide) J6)) (fun f6 => (k 1 s6 (by decide) J6))))))))))))) (fun f4 => (And.intro (fun f7 => (k 1 s1 (by decide) J1)) (fun f7 => (ps_nk_i h0 (ps_nk_i (xj_0_15 J1 h0) (xs_104 (xj_0_15 J1 h0) J1 (fun v7 => (ps_nk_i h0 (HS _ _ _ _ _ _ _ h0 J1 (fun v8 s8 b8 J8 => (And.intro (fun f8 => (k 0 s8 (by decide) J8)) (fun f8 => (k 1 s8 (by decide) J8)))))))))))))))))))))))


-- ProofBench$Judge.isSoForThings(III)Z
theorem pg_17_0 {d : Nat} {r0 : Nat} {x1 : Int32} {x2 : Int32} {x3 : Int32} {s : ps_S} {Q : Option Value → ps_S → Prop} (h :
  ps_nk (ps_is r0 0) (ps_nk (ps_is (ps_r s r0 14) 5) (ps_Cl d 92 [.ref (ps_r s r0 14), .int x1] s (ps_rI (fun v1 s1 =>
    (v1 ≠ 4 →
      ps_At (d + 1) 17 22 [(0, .ref r0), (1, .int x1), (2, .int x2), (3, .int x3), (4, .int 0), (5, .int 0)] [] s1 Q) ∧
    (v1 = 4 →
      ps_At (d + 1) 17 22 [(0, .ref r0), (1, .int x1), (2, .int x2), (3, .int x3), (4, .int 1), (5, .int 0)] [] s1 Q)))))) : ps_At (d + 1) 17 0 [(0, .ref r0), (1, .int x1), (2, .int x2), (3, .int x3)] [] s Q :=
  ps_wp_at (stops := [(22, [0, 1, 2, 3, 4, 5])]) (n := 17) h rfl


theorem pg_17_22 {d : Nat} {r0 : Nat} {x1 : Int32} {x2 : Int32} {x3 : Int32} {x4 : Int32} {x5 : Int32} {s : ps_S} {Q : Option Value → ps_S → Prop} (h :
  ps_nk (ps_is r0 0) (((ps_i s r0 11) ≤ x5 →
    ps_nd (decide (x4 &&& 1 = x4)) (Q (some (.int x4)) s)) ∧
  (x5 < (ps_i s r0 11) →
    ps_nk (ps_is r0 0) (ps_Cl d 183 [.ref (ps_c0 r0 7), .int x2, .int x5] s (ps_rV (fun s1 =>
      ps_nk (ps_is r0 0) (ps_Cl d 15 [.ref r0, .int (x1 + 1), .int (x2 + 1), .int (x3 + 1)] s1 (ps_rI (fun v2 s2 =>
        (v2 = x4 →
          ps_At (d + 1) 17 22 [(0, .ref r0), (1, .int x1), (2, .int x2), (3, .int x3), (4, .int x4), (5, .int (x5 + 1))] [] s2 Q) ∧
        (v2 ≠ x4 →
          (x4 ≠ 0 →
            Q (some (.int 0)) s2) ∧
          (x4 = 0 →
            Q (some (.int 1)) s2))))))))))) : ps_At (d + 1) 17 22 [(0, .ref r0), (1, .int x1), (2, .int x2), (3, .int x3), (4, .int x4), (5, .int x5)] [] s Q :=
  ps_wp_at (stops := [(22, [0, 1, 2, 3, 4, 5])]) (n := 35) h rfl


theorem xr_17_22 {m s : ps_S} {t : Int32} {d : Nat} {r0 : Nat} {x1 : Int32} {x2 : Int32} {x3 : Int32} {x4 : Int32} {x5 : Int32} {Q : Option Value → ps_S → Prop} (HS : xsS d (x3 + 1)) (h0 : ps_is r0 0 = true) (e0 : x4 &&& 1 = x4) (J : xJ m t s) (k : ∀ (v : Int32) (s' : ps_S), v &&& 1 = v → xJ m t s' → Q (some (.int v)) s') : ps_At (d + 9) 17 22 [(0, .ref r0), (1, .int x1), (2, .int x2), (3, .int x3), (4, .int x4), (5, .int x5)] [] s Q :=
  xs_up (P := fun x5 => ∀ (s : ps_S), ps_is r0 0 = true → x4 &&& 1 = x4 → xJ m t s → ps_At (d + 9) 17 22 [(0, .ref r0), (1, .int x1), (2, .int x2), (3, .int x3), (4, .int x4), (5, .int x5)] [] s Q) (fun x5 ih s h0 e0 J => pg_17_22 (d := d + 8) (ps_nk_i h0 (And.intro (fun f1 => (ps_nd_i (decide_eq_true e0) ((k x4 s (of_decide_eq_true (decide_eq_true e0)) J)))) (fun f1 => (ps_nk_i h0 (xs_183 (xk_0_7 h0) J (fun s1 J1 e1 => (ps_nk_i h0 (HS _ _ _ _ _ _ _ h0 J1 (fun v2 s2 b2 J2 => (And.intro (fun f2 => (ih ((x5 + 1)) (xs_lt f1) s2 h0 e0 J2)) (fun f2 => (And.intro (fun f3 => (k 0 s2 (by decide) J2)) (fun f3 => (k 1 s2 (by decide) J2))))))))))))))) x5 s h0 e0 J


theorem xr_17 {m s : ps_S} {t : Int32} {d : Nat} {r0 : Nat} {x1 : Int32} {x2 : Int32} {x3 : Int32} {f : Int32 → ps_S → Prop} (HS : xsS d (x3 + 1)) (h0 : ps_is r0 0 = true) (J : xJ m t s) (k : ∀ (v : Int32) (s' : ps_S), v &&& 1 = v → xJ m t s' → f v s') : ps_Cl (d + 9) 17 [.ref r0, .int x1, .int x2, .int x3] s (ps_rI f) :=
  pg_17_0 (d := d + 8) (ps_nk_i h0 (ps_nk_i (xj_0_14 J h0) (xs_92 (xj_0_14 J h0) J (fun v1 => (And.intro (fun f1 => (xr_17_22 (d := d) (r0 := r0) (x1 := x1) (x2 := x2) (x3 := x3) (x4 := 0) (x5 := 0) HS h0 (by decide) J k )) (fun f1 => (xr_17_22 (d := d) (r0 := r0) (x1 := x1) (x2 := x2) (x3 := x3) (x4 := 1) (x5 := 0) HS h0 (by decide) J k )))))))

