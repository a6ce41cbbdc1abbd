set_option maxRecDepth 100000
theorem pg_75_0 {d : Nat} {r0 : Nat} {x1 : Int32} {s : ps_S} {Q : Option Value → ps_S → Prop} (h :
  ps_nk (ps_is r0 3) (ps_Cl d 77 [.ref r0] s (ps_rI (fun v1 s1 =>
    (v1 ≠ 0 →
      ps_nk (ps_is r0 3) (((ps_i s1 r0 4) < 0 →
        ps_At (d + 1) 75 58 [(0, .ref r0), (1, .int x1)] [] s1 Q) ∧
      (0 ≤ (ps_i s1 r0 4) →
        ps_nk (ps_is r0 3) (ps_nk (ps_is r0 3) (ps_nk (Nat.beq (ps_K (ps_c0 r0 3)).1 0) (((nI (ps_ln (ps_c0 r0 3))) ≤ (ps_i s1 r0 4) →
          ps_At (d + 1) 75 58 [(0, .ref r0), (1, .int x1)] [] s1 Q) ∧
        ((ps_i s1 r0 4) < (nI (ps_ln (ps_c0 r0 3))) →
          ps_nk (ps_is r0 3) (ps_nk (ps_is r0 3) (ps_nk (ps_is r0 3) (ps_nk (ps_is (ps_c0 r0 0) 10) (ps_nk (ps_ar (ps_c0 r0 3) 3) (ps_nd (pm_in (ps_i s1 r0 4) (ps_ln (ps_c0 r0 3))) (ps_nk (ps_is r0 3) (ps_nk (ps_is r0 3) (ps_At (d + 1) 75 58 [(0, .ref r0), (1, .int x1)] [] (ps_ui (ps_ub s1 (ps_c0 r0 3) (Int32.toNatClampNeg (ps_i s1 r0 4)) (ps_j s1 (ps_c0 r0 0) 8)) r0 4 ((ps_i (ps_ub s1 (ps_c0 r0 3) (Int32.toNatClampNeg (ps_i s1 r0 4)) (ps_j s1 (ps_c0 r0 0) 8)) r0 4) + 1)) Q))))))))))))))) ∧
    (v1 = 0 →
      ps_nk (ps_is r0 3) (ps_Cl d 62 [.ref r0, .int 2] s1 (ps_rI (fun v2 s2 =>
        ps_nd (decide (v2 &&& 1 = v2)) (Q (some (.int v2)) s2))))))))) : ps_At (d + 1) 75 0 [(0, .ref r0), (1, .int x1)] [] s Q :=
  ps_wp_at (stops := [(58, [0, 1])]) (n := 32) h rfl

theorem pg_75_58 {d : Nat} {r0 : Nat} {x1 : Int32} {s : ps_S} {Q : Option Value → ps_S → Prop} (h :
  ps_nk (ps_is r0 3) (ps_nk (ps_is (ps_c0 r0 0) 10) (ps_Cl d 140 [.ref (ps_c0 r0 0)] s (ps_rV (fun s1 =>
    ps_nk (ps_is r0 3) (ps_Cl d 70 [.ref r0, .int (x1 + 1)] s1 (ps_rI (fun v2 s2 =>
      ps_nk (ps_is r0 3) (ps_nk (ps_is r0 3) (ps_nd (decide (v2 &&& 1 = v2)) (Q (some (.int v2)) (ps_ui s2 r0 4 ((ps_i s2 r0 4) - 1))))))))))))) : ps_At (d + 1) 75 58 [(0, .ref r0), (1, .int x1)] [] s Q :=
  ps_wp_at (stops := [(58, [0, 1])]) (n := 19) h rfl

theorem xr_75_58 {m s : ps_S} {t : Int32} {d : Nat} {r0 : Nat} {x1 : Int32} {Q : Option Value → ps_S → Prop} (HF : xsF d (x1 + 1)) (h0 : ps_is r0 3 = true) (J : xJ m t s) (k : ∀ (v : Int32) (s' : ps_S), v &&& 1 = v → xJ m t s' → Q (some (.int v)) s') : ps_At (d + 9) 75 58 [(0, .ref r0), (1, .int x1)] [] s Q :=
  pg_75_58 (d := d + 8) (ps_nk_i h0 (ps_nk_i (xk_3_0 h0) (xs_140 (xk_3_0 h0) J (fun s1 J1 => (ps_nk_i h0 (HF _ _ _ _ _ h0 J1 (fun v2 s2 b2 J2 => (ps_nk_i h0 (ps_nk_i h0 (ps_nd_i (decide_eq_true b2) ((k v2 (ps_ui s2 r0 4 ((ps_i s2 r0 4) - 1)) (of_decide_eq_true (decide_eq_true b2)) (xw_i (c := 3) (by decide) h0 J2)))))))))))))

theorem xr_75 {m s : ps_S} {t : Int32} {d : Nat} {r0 : Nat} {x1 : Int32} {f : Int32 → ps_S → Prop} (HF : xsF d (x1 + 1)) (h0 : ps_is r0 3 = true) (J : xJ m t s) (k : ∀ (v : Int32) (s' : ps_S), v &&& 1 = v → xJ m t s' → f v s') : ps_Cl (d + 9) 75 [.ref r0, .int x1] s (ps_rI f) :=
  pg_75_0 (d := d + 8) (ps_nk_i h0 (xs_77 h0 J (fun v1 b1 => (And.intro (fun f1 => (ps_nk_i h0 (And.intro (fun f2 => (xr_75_58 (d := d) (r0 := r0) (x1 := x1) HF h0 J k )) (fun f2 => (ps_nk_i h0 (ps_nk_i h0 (ps_nk_i (xn_l ((xk_3_3 h0)).1) (And.intro (fun f3 => (xr_75_58 (d := d) (r0 := r0) (x1 := x1) HF h0 J k )) (fun f3 => (ps_nk_i h0 (ps_nk_i h0 (ps_nk_i h0 (ps_nk_i (xk_3_0 h0) (ps_nk_i (xn_3 ((xk_3_3 h0)).1) (ps_nd_i (xg_in f2 f3) (ps_nk_i h0 (ps_nk_i h0 (xr_75_58 (d := d) (r0 := r0) (x1 := x1) HF h0 (xw_i (c := 3) (by decide) h0 (xw_b (((xk_3_3 h0)).2) J)) k )))))))))))))))))) (fun f1 => (ps_nk_i h0 (xs_62 h0 J (fun v2 s2 b2 J2 => (ps_nd_i (decide_eq_true b2) ((k v2 s2 (of_decide_eq_true (decide_eq_true b2)) J2)))))))))))

-- ProofBench$Reader.takeNot(I)Z
theorem pg_74_0 {d : Nat} {r0 : Nat} {x1 : Int32} {s : ps_S} {Q : Option Value → ps_S → Prop} (h :
  ps_nk (ps_is r0 3) (ps_Cl d 73 [.ref r0, .int (x1 + 1), .int 2] s (ps_rI (fun v1 s1 =>
    (v1 ≠ 0 →
      ps_nk (ps_is r0 3) (ps_nk (ps_is (ps_r s1 r0 6) 5) (ps_Cl d 93 [.ref (ps_r s1 r0 6), .int 3] s1 (ps_rV (fun s2 =>
        ps_nk (ps_is r0 3) (ps_nk (ps_is (ps_c0 r0 0) 10) (ps_Cl d 140 [.ref (ps_c0 r0 0)] s2 (ps_rV (fun s3 =>
          ps_nk (ps_is r0 3) (ps_nk (ps_is r0 3) (ps_nk (ps_is r0 3) (ps_Cl d 70 [.ref r0, .int (x1 + 1)] (ps_ui s3 r0 7 ((ps_i s3 r0 7) + 1)) (ps_rI (fun v4 s4 =>
            (v4 ≠ 0 →
              ps_nk (ps_is r0 3) (ps_nk (ps_is r0 3) (ps_nk (ps_is r0 3) (ps_nk (ps_is (ps_r (ps_ui s4 r0 7 ((ps_i s4 r0 7) - 1)) r0 6) 5) (ps_Cl d 93 [.ref (ps_r (ps_ui s4 r0 7 ((ps_i s4 r0 7) - 1)) r0 6), .int 0] (ps_ui s4 r0 7 ((ps_i s4 r0 7) - 1)) (ps_rV (fun s5 =>
                Q (some (.int 1)) s5))))))) ∧
            (v4 = 0 →
              Q (some (.int 0)) s4))))))))))))))) ∧
    (v1 = 0 →
      ps_nk (ps_is r0 3) (ps_Cl d 62 [.ref r0, .int 2] s1 (ps_rI (fun v6 s6 =>
        ps_nd (decide (v6 &&& 1 = v6)) (Q (some (.int v6)) s6))))))))) : ps_At (d + 1) 74 0 [(0, .ref r0), (1, .int x1)] [] s Q :=
  ps_wp_at (stops := []) (n := 46) h rfl

