set_option maxRecDepth 100000
theorem xs_64 {m s : ps_S} {t : Int32} {d : Nat} {r0 : Nat} {f : Int32 → ps_S → Prop} (h0 : ps_is r0 3 = true) (J : xJ m t s) (k : ∀ (v : Int32) (s' : ps_S), v &&& 1 = v → xJ m t s' → f v s') : ps_Cl (d + 38) 64 [.ref r0] s (ps_rI f) :=
  pg_64_0 (d := d + 37) (ps_nk_i h0 (ps_nk_i (xk_3_0 h0) (And.intro (fun f1 => (ps_nk_i h0 (ps_nk_i (xk_3_0 h0) (ps_nk_i h0 (ps_nk_i (xj_3_5 J h0) (xs_129 (xj_3_5 J h0) J (fun v1 => (And.intro (fun f2 => (ps_nk_i h0 (ps_nk_i (xk_3_0 h0) (xs_140 (xk_3_0 h0) J (fun s2 J2 => (ps_nk_i h0 (ps_nk_i h0 (ps_nk_i h0 (ps_nk_i (xj_3_5 (xw_i (c := 3) (by decide) h0 J2) h0) (ps_nk_i (xj_3_5 (xw_i (c := 3) (by decide) h0 J2) h0) (xs_135 (xj_3_5 (xw_i (c := 3) (by decide) h0 J2) h0) (xw_i (c := 3) (by decide) h0 J2) (fun v3 g3 => (ps_nk_i h0 (xs_69 h0 g3 (xw_i (c := 3) (by decide) h0 J2) (fun v4 s4 b4 J4 => (And.intro (fun f3 => (k 0 s4 (by decide) J4)) (fun f3 => (ps_nk_i h0 (xs_65 h0 J4 (fun v5 s5 b5 J5 => (And.intro (fun f4 => (ps_nk_i h0 (ps_nk_i (xj_3_5 J5 h0) (xs_134 (xj_3_5 J5 h0) J5 (fun s6 J6 => (k 1 s6 (by decide) J6)))))) (fun f4 => (k 0 s5 (by decide) J5))))))))))))))))))))))) (fun f2 => (ps_nk_i h0 (xs_62 h0 J (fun v7 s7 b7 J7 => (ps_nd_i (decide_eq_true b7) ((k v7 s7 (of_decide_eq_true (decide_eq_true b7)) J7))))))))))))))) (fun f1 => (ps_nk_i h0 (xs_62 h0 J (fun v8 s8 b8 J8 => (ps_nd_i (decide_eq_true b8) ((k v8 s8 (of_decide_eq_true (decide_eq_true b8)) J8))))))))))

-- ProofBench$Theory.addSymbol(IJI)V
theorem pg_133_0 {d : Nat} {r0 : Nat} {x1 : Int32} {l2 : Int64} {x4 : Int32} {s : ps_S} {Q : Option Value → ps_S → Prop} (h :
  (x1 ≠ 8 →
    ps_At (d + 1) 133 61 [(0, .ref r0), (1, .int x1), (2, .long l2), (4, .int x4)] [] s Q) ∧
  (x1 = 8 →
    ps_nk (ps_is r0 9) (((ps_i s r0 6) < 0 →
      ps_At (d + 1) 133 61 [(0, .ref r0), (1, .int x1), (2, .long l2), (4, .int x4)] [] s Q) ∧
    (0 ≤ (ps_i s r0 6) →
      ps_nk (ps_is r0 9) (ps_nk (ps_is r0 9) (ps_nk (Nat.beq (ps_K (ps_c0 r0 0)).1 0) (((nI (ps_ln (ps_c0 r0 0))) ≤ (ps_i s r0 6) →
        ps_At (d + 1) 133 61 [(0, .ref r0), (1, .int x1), (2, .long l2), (4, .int x4)] [] s Q) ∧
      ((ps_i s r0 6) < (nI (ps_ln (ps_c0 r0 0))) →
        ps_nk (ps_is r0 9) (ps_nk (ps_is r0 9) (ps_Cl d 183 [.ref (ps_c0 r0 3), .int ((10 : Int32) + (ps_i s r0 6)), .int x4] s (ps_rV (fun s1 =>
          ps_nk (ps_is r0 9) (ps_nk (ps_is r0 9) (ps_nk (ps_ar (ps_c0 r0 0) 3) (ps_nd (pm_in (ps_i s1 r0 6) (ps_ln (ps_c0 r0 0))) (ps_nk (ps_is r0 9) (ps_nk (ps_is r0 9) (ps_At (d + 1) 133 61 [(0, .ref r0), (1, .int x1), (2, .long l2), (4, .int x4)] [] (ps_ui (ps_ub s1 (ps_c0 r0 0) (Int32.toNatClampNeg (ps_i s1 r0 6)) l2) r0 6 ((ps_i (ps_ub s1 (ps_c0 r0 0) (Int32.toNatClampNeg (ps_i s1 r0 6)) l2) r0 6) + 1)) Q)))))))))))))))))) : ps_At (d + 1) 133 0 [(0, .ref r0), (1, .int x1), (2, .long l2), (4, .int x4)] [] s Q :=
  ps_wp_at (stops := [(61, [0, 1, 2, 4])]) (n := 34) h rfl

theorem pg_133_61 {d : Nat} {r0 : Nat} {x1 : Int32} {l2 : Int64} {x4 : Int32} {s : ps_S} {Q : Option Value → ps_S → Prop} (h :
  (x1 ≠ 9 →
    Q none s) ∧
  (x1 = 9 →
    ps_nk (ps_is r0 9) (((ps_i s r0 7) < 0 →
      Q none s) ∧
    (0 ≤ (ps_i s r0 7) →
      ps_nk (ps_is r0 9) (ps_nk (ps_is r0 9) (ps_nk (Nat.beq (ps_K (ps_c0 r0 1)).1 0) (((nI (ps_ln (ps_c0 r0 1))) ≤ (ps_i s r0 7) →
        Q none s) ∧
      ((ps_i s r0 7) < (nI (ps_ln (ps_c0 r0 1))) →
        ps_nk (ps_is r0 9) (ps_nk (ps_is r0 9) (ps_Cl d 183 [.ref (ps_c0 r0 3), .int ((20 : Int32) + (ps_i s r0 7)), .int x4] s (ps_rV (fun s1 =>
          ps_nk (ps_is r0 9) (ps_nk (ps_is r0 9) (ps_nk (ps_ar (ps_c0 r0 1) 3) (ps_nd (pm_in (ps_i s1 r0 7) (ps_ln (ps_c0 r0 1))) (ps_nk (ps_is r0 9) (ps_nk (ps_is r0 9) (Q none (ps_ui (ps_ub s1 (ps_c0 r0 1) (Int32.toNatClampNeg (ps_i s1 r0 7)) l2) r0 7 ((ps_i (ps_ub s1 (ps_c0 r0 1) (Int32.toNatClampNeg (ps_i s1 r0 7)) l2) r0 7) + 1)))))))))))))))))))) : ps_At (d + 1) 133 61 [(0, .ref r0), (1, .int x1), (2, .long l2), (4, .int x4)] [] s Q :=
  ps_wp_at (stops := [(61, [0, 1, 2, 4])]) (n := 38) h rfl

theorem xs_133_61 {m s : ps_S} {t : Int32} {d : Nat} {r0 : Nat} {x1 : Int32} {l2 : Int64} {x4 : Int32} {Q : Option Value → ps_S → Prop} (h0 : ps_is r0 9 = true) (J : xJ m t s) (k : ∀ (s' : ps_S), xJ m t s' → Q none s') : ps_At (d + 1) 133 61 [(0, .ref r0), (1, .int x1), (2, .long l2), (4, .int x4)] [] s Q :=
  pg_133_61 (d := d) (And.intro (fun f1 => (k s J)) (fun f1 => (ps_nk_i h0 (And.intro (fun f2 => (k s J)) (fun f2 => (ps_nk_i h0 (ps_nk_i h0 (ps_nk_i (xn_l ((xk_9_1 h0)).1) (And.intro (fun f3 => (k s J)) (fun f3 => (ps_nk_i h0 (ps_nk_i h0 (xs_183 (xk_9_3 h0) J (fun s1 J1 e1 => (ps_nk_i h0 (ps_nk_i h0 (ps_nk_i (xn_3 ((xk_9_1 h0)).1) (ps_nd_i (xg_in (by rw [e1]; exact f2) (by rw [e1]; exact f3)) (ps_nk_i h0 (ps_nk_i h0 (k (ps_ui (ps_ub s1 (ps_c0 r0 1) (Int32.toNatClampNeg (ps_i s1 r0 7)) l2) r0 7 ((ps_i (ps_ub s1 (ps_c0 r0 1) (Int32.toNatClampNeg (ps_i s1 r0 7)) l2) r0 7) + 1)) (xw_i (c := 9) (by decide) h0 (xw_b (((xk_9_1 h0)).2) J1)))))))))))))))))))))))

theorem xs_133 {m s : ps_S} {t : Int32} {d : Nat} {r0 : Nat} {x1 : Int32} {l2 : Int64} {x4 : Int32} {f : ps_S → Prop} (h0 : ps_is r0 9 = true) (J : xJ m t s) (k : ∀ (s' : ps_S), xJ m t s' → f s') : ps_Cl (d + 1) 133 [.ref r0, .int x1, .long l2, .int x4] s (ps_rV f) :=
  pg_133_0 (d := d) (And.intro (fun f1 => (xs_133_61 (d := d) (r0 := r0) (x1 := x1) (l2 := l2) (x4 := x4)  h0 J k )) (fun f1 => (ps_nk_i h0 (And.intro (fun f2 => (xs_133_61 (d := d) (r0 := r0) (x1 := x1) (l2 := l2) (x4 := x4)  h0 J k )) (fun f2 => (ps_nk_i h0 (ps_nk_i h0 (ps_nk_i (xn_l ((xk_9_0 h0)).1) (And.intro (fun f3 => (xs_133_61 (d := d) (r0 := r0) (x1 := x1) (l2 := l2) (x4 := x4)  h0 J k )) (fun f3 => (ps_nk_i h0 (ps_nk_i h0 (xs_183 (xk_9_3 h0) J (fun s1 J1 e1 => (ps_nk_i h0 (ps_nk_i h0 (ps_nk_i (xn_3 ((xk_9_0 h0)).1) (ps_nd_i (xg_in (by rw [e1]; exact f2) (by rw [e1]; exact f3)) (ps_nk_i h0 (ps_nk_i h0 (xs_133_61 (d := d) (r0 := r0) (x1 := x1) (l2 := l2) (x4 := x4)  h0 (xw_i (c := 9) (by decide) h0 (xw_b (((xk_9_0 h0)).2) J1)) k )))))))))))))))))))))

-- ProofBench$Reader.takeSymbol(I)Z
