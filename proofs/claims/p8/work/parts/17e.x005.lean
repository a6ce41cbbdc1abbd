set_option maxRecDepth 100000
theorem xs_128 {m s : ps_S} {t : Int32} {d : Nat} {r0 : Nat} {l1 : Int64} {f : Int32 → ps_S → Prop} (h0 : ps_is r0 9 = true) (J : xJ m t s) (k : ∀ (v : Int32), f v s) : ps_Cl (d + 1) 128 [.ref r0, .long l1] s (ps_rI f) :=
  pg_128_0 (d := d) (ps_nk_i h0 (ps_nk_i h0 (xs_131 (xk_9_1 h0) J (fun v1 => (k v1)))))

-- ProofBench$Reader.freePiece()I
theorem pg_79_0 {d : Nat} {r0 : Nat} {s : ps_S} {Q : Option Value → ps_S → Prop} (h :
  ps_At d 79 2 [(0, .ref r0), (1, .int 0)] [] s Q) : ps_At d 79 0 [(0, .ref r0)] [] s Q :=
  ps_wp_at (stops := [(2, [0, 1]), (47, [0])]) (n := 4) h rfl

theorem pg_79_2 {d : Nat} {r0 : Nat} {x1 : Int32} {s : ps_S} {Q : Option Value → ps_S → Prop} (h :
  ps_nk (ps_is r0 3) (((ps_i s r0 2) ≤ x1 →
    ps_At d 79 47 [(0, .ref r0)] [] s Q) ∧
  (x1 < (ps_i s r0 2) →
    ps_nk (ps_is r0 3) (ps_nk (Nat.beq (ps_K (ps_c0 r0 1)).1 0) (((nI (ps_ln (ps_c0 r0 1))) ≤ x1 →
      ps_At d 79 47 [(0, .ref r0)] [] s Q) ∧
    (x1 < (nI (ps_ln (ps_c0 r0 1))) →
      ps_nk (ps_is r0 3) (ps_nk (ps_ar (ps_c0 r0 1) 3) (ps_nd (pm_in x1 (ps_ln (ps_c0 r0 1))) (ps_nk (ps_is r0 3) (ps_nk (ps_is (ps_c0 r0 0) 10) (((lg_cmp (ps_b s (ps_c0 r0 1) (Int32.toNatClampNeg x1)) (ps_j s (ps_c0 r0 0) 8)) ≠ 0 →
        ps_At d 79 2 [(0, .ref r0), (1, .int (x1 + 1))] [] s Q) ∧
      ((lg_cmp (ps_b s (ps_c0 r0 1) (Int32.toNatClampNeg x1)) (ps_j s (ps_c0 r0 0) 8)) = 0 →
        Q (some (.int ((60 : Int32) + x1))) s)))))))))))) : ps_At d 79 2 [(0, .ref r0), (1, .int x1)] [] s Q :=
  ps_wp_at (stops := [(2, [0, 1]), (47, [0])]) (n := 26) h rfl

theorem pg_79_47 {d : Nat} {r0 : Nat} {s : ps_S} {Q : Option Value → ps_S → Prop} (h :
  ps_nk (ps_is r0 3) (((ps_i s r0 2) < 0 →
    Q (some (.int (-1))) s) ∧
  (0 ≤ (ps_i s r0 2) →
    ps_nk (ps_is r0 3) (ps_nk (ps_is r0 3) (ps_nk (Nat.beq (ps_K (ps_c0 r0 1)).1 0) (((ps_i s r0 2) < (nI (ps_ln (ps_c0 r0 1))) →
      ps_nk (ps_is r0 3) (ps_nk (ps_is r0 3) (ps_nk (ps_is r0 3) (ps_nk (ps_is (ps_c0 r0 0) 10) (ps_nk (ps_ar (ps_c0 r0 1) 3) (ps_nd (pm_in (ps_i s r0 2) (ps_ln (ps_c0 r0 1))) (ps_nk (ps_is r0 3) (ps_nk (ps_is r0 3) (ps_nk (ps_is r0 3) (Q (some (.int (((60 : Int32) + (ps_i (ps_ui (ps_ub s (ps_c0 r0 1) (Int32.toNatClampNeg (ps_i s r0 2)) (ps_j s (ps_c0 r0 0) 8)) r0 2 ((ps_i (ps_ub s (ps_c0 r0 1) (Int32.toNatClampNeg (ps_i s r0 2)) (ps_j s (ps_c0 r0 0) 8)) r0 2) + 1)) r0 2)) - 1))) (ps_ui (ps_ub s (ps_c0 r0 1) (Int32.toNatClampNeg (ps_i s r0 2)) (ps_j s (ps_c0 r0 0) 8)) r0 2 ((ps_i (ps_ub s (ps_c0 r0 1) (Int32.toNatClampNeg (ps_i s r0 2)) (ps_j s (ps_c0 r0 0) 8)) r0 2) + 1)))))))))))) ∧
    ((nI (ps_ln (ps_c0 r0 1))) ≤ (ps_i s r0 2) →
      Q (some (.int (-1))) s))))))) : ps_At d 79 47 [(0, .ref r0)] [] s Q :=
  ps_wp_at (stops := [(2, [0, 1]), (47, [0])]) (n := 36) h rfl

theorem xs_79_47 {m s : ps_S} {t : Int32} {d : Nat} {r0 : Nat} {Q : Option Value → ps_S → Prop} (h0 : ps_is r0 3 = true) (J : xJ m t s) (k : ∀ (v : Int32) (s' : ps_S), xJ m t s' → Q (some (.int v)) s') : ps_At d 79 47 [(0, .ref r0)] [] s Q :=
  pg_79_47 (ps_nk_i h0 (And.intro (fun f1 => (k (-1) s J)) (fun f1 => (ps_nk_i h0 (ps_nk_i h0 (ps_nk_i (xn_l ((xk_3_1 h0)).1) (And.intro (fun f2 => (ps_nk_i h0 (ps_nk_i h0 (ps_nk_i h0 (ps_nk_i (xk_3_0 h0) (ps_nk_i (xn_3 ((xk_3_1 h0)).1) (ps_nd_i (xg_in f1 f2) (ps_nk_i h0 (ps_nk_i h0 (ps_nk_i h0 (k (((60 : Int32) + (ps_i (ps_ui (ps_ub s (ps_c0 r0 1) (Int32.toNatClampNeg (ps_i s r0 2)) (ps_j s (ps_c0 r0 0) 8)) r0 2 ((ps_i (ps_ub s (ps_c0 r0 1) (Int32.toNatClampNeg (ps_i s r0 2)) (ps_j s (ps_c0 r0 0) 8)) r0 2) + 1)) r0 2)) - 1) (ps_ui (ps_ub s (ps_c0 r0 1) (Int32.toNatClampNeg (ps_i s r0 2)) (ps_j s (ps_c0 r0 0) 8)) r0 2 ((ps_i (ps_ub s (ps_c0 r0 1) (Int32.toNatClampNeg (ps_i s r0 2)) (ps_j s (ps_c0 r0 0) 8)) r0 2) + 1)) (xw_i (c := 3) (by decide) h0 (xw_b (((xk_3_1 h0)).2) J))))))))))))) (fun f2 => (k (-1) s J)))))))))

