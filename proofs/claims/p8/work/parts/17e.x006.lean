set_option maxRecDepth 100000
theorem xs_79_2 {m s : ps_S} {t : Int32} {d : Nat} {r0 : Nat} {x1 : Int32} {Q : Option Value → ps_S → Prop} (h0 : ps_is r0 3 = true) (e0 : 0 ≤ x1) (J : xJ m t s) (k : ∀ (v : Int32) (s' : ps_S), xJ m t s' → Q (some (.int v)) s') : ps_At d 79 2 [(0, .ref r0), (1, .int x1)] [] s Q :=
  xs_up (P := fun x1 => ∀ (s : ps_S), ps_is r0 3 = true → 0 ≤ x1 → xJ m t s → ps_At d 79 2 [(0, .ref r0), (1, .int x1)] [] s Q) (fun x1 ih s h0 e0 J => pg_79_2 (ps_nk_i h0 (And.intro (fun f1 => (xs_79_47 (d := d) (r0 := r0)  h0 J k )) (fun f1 => (ps_nk_i h0 (ps_nk_i (xn_l ((xk_3_1 h0)).1) (And.intro (fun f2 => (xs_79_47 (d := d) (r0 := r0)  h0 J k )) (fun f2 => (ps_nk_i h0 (ps_nk_i (xn_3 ((xk_3_1 h0)).1) (ps_nd_i (xg_in e0 f2) (ps_nk_i h0 (ps_nk_i (xk_3_0 h0) (And.intro (fun f3 => (ih ((x1 + 1)) (xs_lt f1) s h0 (xs_nn e0 f1) J)) (fun f3 => (k ((60 : Int32) + x1) s J)))))))))))))))) x1 s h0 e0 J

theorem xs_79 {m s : ps_S} {t : Int32} {d : Nat} {r0 : Nat} {f : Int32 → ps_S → Prop} (h0 : ps_is r0 3 = true) (J : xJ m t s) (k : ∀ (v : Int32) (s' : ps_S), xJ m t s' → f v s') : ps_Cl d 79 [.ref r0] s (ps_rI f) :=
  pg_79_0 (xs_79_2 (d := d) (r0 := r0) (x1 := 0)  h0 (by decide) J k )

-- ProofBench$Reader.pieceOfX()I
theorem pg_78_0 {d : Nat} {r0 : Nat} {s : ps_S} {Q : Option Value → ps_S → Prop} (h :
  ps_At (d + 1) 78 2 [(0, .ref r0), (1, .int 0)] [] s Q) : ps_At (d + 1) 78 0 [(0, .ref r0)] [] s Q :=
  ps_wp_at (stops := [(2, [0, 1])]) (n := 4) h rfl

theorem pg_78_2 {d : Nat} {r0 : Nat} {x1 : Int32} {s : ps_S} {Q : Option Value → ps_S → Prop} (h :
  ps_nk (ps_is r0 3) (((ps_i s r0 4) ≤ x1 →
    ps_nk (ps_is r0 3) (((ps_i s r0 8) = 0 →
      ps_nk (ps_is r0 3) (ps_Cl d 79 [.ref r0] s (ps_rI (fun v1 s1 =>
        Q (some (.int v1)) s1)))) ∧
    ((ps_i s r0 8) ≠ 0 →
      Q (some (.int (-1))) s))) ∧
  (x1 < (ps_i s r0 4) →
    ps_nk (ps_is r0 3) (((((ps_i s r0 4) - 1) - x1) < 0 →
      ps_At (d + 1) 78 2 [(0, .ref r0), (1, .int (x1 + 1))] [] s Q) ∧
    (0 ≤ (((ps_i s r0 4) - 1) - x1) →
      ps_nk (ps_is r0 3) (ps_nk (Nat.beq (ps_K (ps_c0 r0 3)).1 0) (((nI (ps_ln (ps_c0 r0 3))) ≤ (((ps_i s r0 4) - 1) - x1) →
        ps_At (d + 1) 78 2 [(0, .ref r0), (1, .int (x1 + 1))] [] s Q) ∧
      ((((ps_i s r0 4) - 1) - x1) < (nI (ps_ln (ps_c0 r0 3))) →
        ps_nk (ps_is r0 3) (ps_nk (ps_ar (ps_c0 r0 3) 3) (ps_nd (pm_in (((ps_i s r0 4) - 1) - x1) (ps_ln (ps_c0 r0 3))) (ps_nk (ps_is r0 3) (ps_nk (ps_is (ps_c0 r0 0) 10) (((lg_cmp (ps_b s (ps_c0 r0 3) (Int32.toNatClampNeg (((ps_i s r0 4) - 1) - x1))) (ps_j s (ps_c0 r0 0) 8)) ≠ 0 →
          ps_At (d + 1) 78 2 [(0, .ref r0), (1, .int (x1 + 1))] [] s Q) ∧
        ((lg_cmp (ps_b s (ps_c0 r0 3) (Int32.toNatClampNeg (((ps_i s r0 4) - 1) - x1))) (ps_j s (ps_c0 r0 0) 8)) = 0 →
          Q (some (.int ((40 : Int32) + x1))) s)))))))))))))) : ps_At (d + 1) 78 2 [(0, .ref r0), (1, .int x1)] [] s Q :=
  ps_wp_at (stops := [(2, [0, 1])]) (n := 48) h rfl

theorem xs_78_2 {m s : ps_S} {t : Int32} {d : Nat} {r0 : Nat} {x1 : Int32} {Q : Option Value → ps_S → Prop} (h0 : ps_is r0 3 = true) (J : xJ m t s) (k : ∀ (v : Int32) (s' : ps_S), xJ m t s' → Q (some (.int v)) s') : ps_At (d + 1) 78 2 [(0, .ref r0), (1, .int x1)] [] s Q :=
  xs_up (P := fun x1 => ∀ (s : ps_S), ps_is r0 3 = true → xJ m t s → ps_At (d + 1) 78 2 [(0, .ref r0), (1, .int x1)] [] s Q) (fun x1 ih s h0 J => pg_78_2 (d := d) (ps_nk_i h0 (And.intro (fun f1 => (ps_nk_i h0 (And.intro (fun f2 => (ps_nk_i h0 (xs_79 h0 J (fun v1 s1 J1 => (k v1 s1 J1))))) (fun f2 => (k (-1) s J))))) (fun f1 => (ps_nk_i h0 (And.intro (fun f3 => (ih ((x1 + 1)) (xs_lt f1) s h0 J)) (fun f3 => (ps_nk_i h0 (ps_nk_i (xn_l ((xk_3_3 h0)).1) (And.intro (fun f4 => (ih ((x1 + 1)) (xs_lt f1) s h0 J)) (fun f4 => (ps_nk_i h0 (ps_nk_i (xn_3 ((xk_3_3 h0)).1) (ps_nd_i (xg_in f3 f4) (ps_nk_i h0 (ps_nk_i (xk_3_0 h0) (And.intro (fun f5 => (ih ((x1 + 1)) (xs_lt f1) s h0 J)) (fun f5 => (k ((40 : Int32) + x1) s J))))))))))))))))))) x1 s h0 J

