set_option maxRecDepth 100000
theorem xs_69 {m s : ps_S} {t : Int32} {d : Nat} {r0 : Nat} {r1 : Nat} {x2 : Int32} {f : Int32 → ps_S → Prop} (h0 : ps_is r0 3 = true) (h1 : ps_is r1 5 = true) (J : xJ m t s) (k : ∀ (v : Int32) (s' : ps_S), v &&& 1 = v → xJ m t s' → f v s') : ps_Cl (d + 37) 69 [.ref r0, .ref r1, .int x2] s (ps_rI f) :=
  pg_69_0 (d := d + 36) (ps_nk_i h0 (ps_nk_i h0 (ps_nk_i (xj_3_6 (xw_3_6 h0 h1 J) h0) (xs_91 (xj_3_6 (xw_3_6 h0 h1 J) h0) (xw_3_6 h0 h1 J) (fun s1 J1 => (ps_nk_i h0 (And.intro (fun f1 => (ps_nk_i h0 (xs_70 h0 (xw_i (c := 3) (by decide) h0 J1) (fun v2 s2 b2 J2 => (ps_nd_i (decide_eq_true b2) ((k v2 s2 (of_decide_eq_true (decide_eq_true b2)) J2))))))) (fun f1 => (ps_nk_i h0 (xs_76 h0 (xw_i (c := 3) (by decide) h0 J1) (fun v3 s3 b3 J3 => (ps_nd_i (decide_eq_true b3) ((k v3 s3 (of_decide_eq_true (decide_eq_true b3)) J3))))))))))))))

-- ProofBench$Reader.takeSemicolon()Z
theorem pg_65_0 {d : Nat} {r0 : Nat} {s : ps_S} {Q : Option Value → ps_S → Prop} (h :
  ps_nk (ps_is r0 3) (ps_nk (ps_is (ps_c0 r0 0) 10) (((ps_i s (ps_c0 r0 0) 4) = 5 →
    ps_nk (ps_is r0 3) (ps_nk (ps_is (ps_c0 r0 0) 10) (ps_Cl d 140 [.ref (ps_c0 r0 0)] s (ps_rV (fun s1 =>
      Q (some (.int 1)) s1))))) ∧
  ((ps_i s (ps_c0 r0 0) 4) ≠ 5 →
    ps_nk (ps_is r0 3) (ps_Cl d 62 [.ref r0, .int 2] s (ps_rI (fun v2 s2 =>
      ps_nd (decide (v2 &&& 1 = v2)) (Q (some (.int v2)) s2)))))))) : ps_At (d + 1) 65 0 [(0, .ref r0)] [] s Q :=
  ps_wp_at (stops := []) (n := 16) h rfl

theorem xs_65 {m s : ps_S} {t : Int32} {d : Nat} {r0 : Nat} {f : Int32 → ps_S → Prop} (h0 : ps_is r0 3 = true) (J : xJ m t s) (k : ∀ (v : Int32) (s' : ps_S), v &&& 1 = v → xJ m t s' → f v s') : ps_Cl (d + 3) 65 [.ref r0] s (ps_rI f) :=
  pg_65_0 (d := d + 2) (ps_nk_i h0 (ps_nk_i (xk_3_0 h0) (And.intro (fun f1 => (ps_nk_i h0 (ps_nk_i (xk_3_0 h0) (xs_140 (xk_3_0 h0) J (fun s1 J1 => (k 1 s1 (by decide) J1)))))) (fun f1 => (ps_nk_i h0 (xs_62 h0 J (fun v2 s2 b2 J2 => (ps_nd_i (decide_eq_true b2) ((k v2 s2 (of_decide_eq_true (decide_eq_true b2)) J2))))))))))

-- ProofBench$Theory.addAxiom(J)V
theorem pg_134_0 {d : Nat} {r0 : Nat} {l1 : Int64} {s : ps_S} {Q : Option Value → ps_S → Prop} (h :
  ps_nk (ps_is r0 9) (((ps_i s r0 8) < 0 →
    Q none s) ∧
  (0 ≤ (ps_i s r0 8) →
    ps_nk (ps_is r0 9) (ps_nk (ps_is r0 9) (ps_nk (Nat.beq (ps_K (ps_c0 r0 2)).1 0) (((nI (ps_ln (ps_c0 r0 2))) ≤ (ps_i s r0 8) →
      Q none s) ∧
    ((ps_i s r0 8) < (nI (ps_ln (ps_c0 r0 2))) →
      ps_nk (ps_is r0 9) (ps_nk (ps_is r0 9) (ps_nk (ps_ar (ps_c0 r0 2) 3) (ps_nd (pm_in (ps_i s r0 8) (ps_ln (ps_c0 r0 2))) (ps_nk (ps_is r0 9) (ps_nk (ps_is r0 9) (Q none (ps_ui (ps_ub s (ps_c0 r0 2) (Int32.toNatClampNeg (ps_i s r0 8)) l1) r0 8 ((ps_i (ps_ub s (ps_c0 r0 2) (Int32.toNatClampNeg (ps_i s r0 8)) l1) r0 8) + 1))))))))))))))) : ps_At d 134 0 [(0, .ref r0), (1, .long l1)] [] s Q :=
  ps_wp_at (stops := []) (n := 26) h rfl

theorem xs_134 {m s : ps_S} {t : Int32} {d : Nat} {r0 : Nat} {l1 : Int64} {f : ps_S → Prop} (h0 : ps_is r0 9 = true) (J : xJ m t s) (k : ∀ (s' : ps_S), xJ m t s' → f s') : ps_Cl d 134 [.ref r0, .long l1] s (ps_rV f) :=
  pg_134_0 (ps_nk_i h0 (And.intro (fun f1 => (k s J)) (fun f1 => (ps_nk_i h0 (ps_nk_i h0 (ps_nk_i (xn_l ((xk_9_2 h0)).1) (And.intro (fun f2 => (k s J)) (fun f2 => (ps_nk_i h0 (ps_nk_i h0 (ps_nk_i (xn_3 ((xk_9_2 h0)).1) (ps_nd_i (xg_in f1 f2) (ps_nk_i h0 (ps_nk_i h0 (k (ps_ui (ps_ub s (ps_c0 r0 2) (Int32.toNatClampNeg (ps_i s r0 8)) l1) r0 8 ((ps_i (ps_ub s (ps_c0 r0 2) (Int32.toNatClampNeg (ps_i s r0 8)) l1) r0 8) + 1)) (xw_i (c := 9) (by decide) h0 (xw_b (((xk_9_2 h0)).2) J)))))))))))))))))

-- ProofBench$Reader.takeAxiom()Z
