set_option maxRecDepth 100000
theorem pg_70_42 {d : Nat} {r0 : Nat} {x1 : Int32} {x2 : Int32} {s : ps_S} {Q : Option Value → ps_S → Prop} (h :
  (x2 = (-1) →
    ps_At (d + 1) 70 62 [(0, .ref r0)] [] s Q) ∧
  (x2 ≠ (-1) →
    ((0 : Int32) ≠ 0 →
      ps_At (d + 1) 70 62 [(0, .ref r0)] [] s Q) ∧
    ((0 : Int32) = 0 →
      ps_nk (ps_is r0 3) (ps_Cl d 73 [.ref r0, .int x1, .int 1] s (ps_rI (fun v1 s1 =>
        (v1 ≠ 0 →
          ps_nk (ps_is r0 3) (ps_nk (ps_is (ps_r s1 r0 6) 5) (ps_Cl d 93 [.ref (ps_r s1 r0 6), .int x2] s1 (ps_rV (fun s2 =>
            ps_nk (ps_is r0 3) (ps_nk (ps_is (ps_c0 r0 0) 10) (ps_Cl d 140 [.ref (ps_c0 r0 0)] s2 (ps_rV (fun s3 =>
              ps_Cl d 184 [.int x2] s3 (ps_rI (fun v4 s4 =>
                (v4 = 0 →
                  ps_nk (ps_is r0 3) (ps_Cl d 71 [.ref r0, .int x2, .int (x1 + 1)] s4 (ps_rI (fun v5 s5 =>
                    ps_nd (decide (v5 &&& 1 = v5)) (Q (some (.int v5)) s5))))) ∧
                (v4 ≠ 0 →
                  ps_nk (ps_is r0 3) (ps_Cl d 75 [.ref r0, .int x1] s4 (ps_rI (fun v6 s6 =>
                    ps_nd (decide (v6 &&& 1 = v6)) (Q (some (.int v6)) s6)))))))))))))))) ∧
        (v1 = 0 →
          ps_At (d + 1) 70 62 [(0, .ref r0)] [] s1 Q))))))) : ps_At (d + 1) 70 42 [(0, .ref r0), (1, .int x1), (2, .int x2)] [] s Q :=
  ps_wp_at (stops := [(42, [0, 1, 2]), (62, [0])]) (n := 35) h rfl

theorem pg_70_62 {d : Nat} {r0 : Nat} {s : ps_S} {Q : Option Value → ps_S → Prop} (h :
  ps_nk (ps_is r0 3) (ps_Cl d 62 [.ref r0, .int 2] s (ps_rI (fun v1 s1 =>
    ps_nd (decide (v1 &&& 1 = v1)) (Q (some (.int v1)) s1))))) : ps_At (d + 1) 70 62 [(0, .ref r0)] [] s Q :=
  ps_wp_at (stops := [(42, [0, 1, 2]), (62, [0])]) (n := 6) h rfl

theorem xr_70_62 {m s : ps_S} {t : Int32} {d : Nat} {r0 : Nat} {Q : Option Value → ps_S → Prop} (h0 : ps_is r0 3 = true) (J : xJ m t s) (k : ∀ (v : Int32) (s' : ps_S), v &&& 1 = v → xJ m t s' → Q (some (.int v)) s') : ps_At (d + 10) 70 62 [(0, .ref r0)] [] s Q :=
  pg_70_62 (d := d + 9) (ps_nk_i h0 (xs_62 h0 J (fun v1 s1 b1 J1 => (ps_nd_i (decide_eq_true b1) ((k v1 s1 (of_decide_eq_true (decide_eq_true b1)) J1))))))

theorem xr_70_42 {m s : ps_S} {t : Int32} {d : Nat} {r0 : Nat} {x1 : Int32} {x2 : Int32} {Q : Option Value → ps_S → Prop} (H : x1 ≤ 12 → xsF d (x1 + 1) ∧ xsT d (x1 + 1)) (H2 : x1 + 1 ≤ 12 → xsF d (x1 + 1)) (h0 : ps_is r0 3 = true) (J : xJ m t s) (k : ∀ (v : Int32) (s' : ps_S), v &&& 1 = v → xJ m t s' → Q (some (.int v)) s') : ps_At (d + 10) 70 42 [(0, .ref r0), (1, .int x1), (2, .int x2)] [] s Q :=
  pg_70_42 (d := d + 9) (And.intro (fun f1 => (xr_70_62 (d := d) (r0 := r0)  h0 J k )) (fun f1 => (And.intro (fun f2 => (xr_70_62 (d := d) (r0 := r0)  h0 J k )) (fun f2 => (ps_nk_i h0 (xs_73 h0 J (fun v1 b1 q1 => (And.intro (fun f3 => (ps_nk_i h0 (ps_nk_i (xj_3_6 J h0) (xs_93 (xj_3_6 J h0) J (fun s2 J2 => (ps_nk_i h0 (ps_nk_i (xk_3_0 h0) (xs_140 (xk_3_0 h0) J2 (fun s3 J3 => (xs_184  J3 (fun v4 b4 => (And.intro (fun f4 => (ps_nk_i h0 (xr_71 (H (q1 f3)).1 (H (q1 f3)).2 h0 J3 (fun v5 s5 b5 J5 => (ps_nd_i (decide_eq_true b5) ((k v5 s5 (of_decide_eq_true (decide_eq_true b5)) J5))))))) (fun f4 => (ps_nk_i h0 (xr_75 (H (q1 f3)).1 h0 J3 (fun v6 s6 b6 J6 => (ps_nd_i (decide_eq_true b6) ((k v6 s6 (of_decide_eq_true (decide_eq_true b6)) J6))))))))))))))))))) (fun f3 => (xr_70_62 (d := d) (r0 := r0)  h0 J k ))))))))))

