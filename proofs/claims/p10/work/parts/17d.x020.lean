set_option maxRecDepth 100000
theorem pg_141_10 {d : Nat} {r0 : Nat} {x1 : Int32} {s : ps_S} {Q : Option Value → ps_S → Prop} (h :
  ps_nk (ps_is r0 10) (((ps_i s r0 2) ≤ x1 →
    ps_At (d + 1) 141 51 [(0, .ref r0), (1, .int x1)] [] s Q) ∧
  (x1 < (ps_i s r0 2) →
    ps_nk (ps_is r0 10) (ps_Cl d 143 [.ref r0, .int x1] s (ps_rI (fun v1 s1 =>
      ps_Cl d 146 [.int v1] s1 (ps_rI (fun v2 s2 =>
        (v2 = 0 →
          ps_At (d + 1) 141 51 [(0, .ref r0), (1, .int x1)] [] s2 Q) ∧
        (v2 ≠ 0 →
          ps_nk (ps_is r0 10) (ps_nk (ps_is r0 10) (ps_Cl d 143 [.ref r0, .int x1] s2 (ps_rI (fun v3 s3 =>
            ps_Cl d 144 [.long (ps_j s2 r0 8), .int v3] s3 (ps_rJ (fun v4 s4 =>
              ps_nk (ps_is r0 10) (ps_At (d + 1) 141 10 [(0, .ref r0), (1, .int (x1 + 1))] [] (ps_uj s4 r0 8 v4) Q)))))))))))))))) : ps_At (d + 1) 141 10 [(0, .ref r0), (1, .int x1)] [] s Q :=
  ps_wp_at (stops := [(10, [0, 1]), (51, [0, 1]), (78, [0, 2])]) (n := 21) h rfl


theorem pg_141_51 {d : Nat} {r0 : Nat} {x1 : Int32} {s : ps_S} {Q : Option Value → ps_S → Prop} (h :
  ps_nk (ps_is r0 10) (ps_nk (ps_is r0 10) (((x1 - (ps_i (ps_ui s r0 3 x1) r0 5)) ≤ 8 →
    ps_nk (ps_is r0 10) (ps_At (d + 1) 141 78 [(0, .ref r0), (2, .int 0)] [] (ps_ui (ps_ui s r0 3 x1) r0 4 2) Q)) ∧
  (8 < (x1 - (ps_i (ps_ui s r0 3 x1) r0 5)) →
    ps_nk (ps_is r0 10) (ps_At (d + 1) 141 78 [(0, .ref r0), (2, .int 0)] [] (ps_ui (ps_ui s r0 3 x1) r0 4 1) Q))))) : ps_At (d + 1) 141 51 [(0, .ref r0), (1, .int x1)] [] s Q :=
  ps_wp_at (stops := [(10, [0, 1]), (51, [0, 1]), (78, [0, 2])]) (n := 21) h rfl


theorem pg_141_78 {d : Nat} {r0 : Nat} {x2 : Int32} {s : ps_S} {Q : Option Value → ps_S → Prop} (h :
  ps_nk (ps_is r0 10) (ps_nk (Nat.beq (ps_K (ps_c0 r0 0)).1 0) (((nI (ps_ln (ps_c0 r0 0))) ≤ x2 →
    Q none s) ∧
  (x2 < (nI (ps_ln (ps_c0 r0 0))) →
    ps_nk (ps_is r0 10) (((ps_i s r0 4) ≠ 2 →
      Q none s) ∧
    ((ps_i s r0 4) = 2 →
      ps_nk (ps_is r0 10) (ps_nk (ps_ar (ps_c0 r0 0) 3) (ps_nd (pm_in x2 (ps_ln (ps_c0 r0 0))) (ps_nk (ps_is r0 10) (((lg_cmp (ps_b s (ps_c0 r0 0) (Int32.toNatClampNeg x2)) (ps_j s r0 8)) ≠ 0 →
        ps_At (d + 1) 141 78 [(0, .ref r0), (2, .int (x2 + 1))] [] s Q) ∧
      ((lg_cmp (ps_b s (ps_c0 r0 0) (Int32.toNatClampNeg x2)) (ps_j s r0 8)) = 0 →
        ps_nk (ps_is r0 10) (ps_nk (ps_is r0 10) (ps_At (d + 1) 141 78 [(0, .ref r0), (2, .int (x2 + 1))] [] (ps_ui (ps_ui s r0 4 3) r0 6 x2) Q))))))))))))) : ps_At (d + 1) 141 78 [(0, .ref r0), (2, .int x2)] [] s Q :=
  ps_wp_at (stops := [(10, [0, 1]), (51, [0, 1]), (78, [0, 2])]) (n := 31) h rfl


theorem xs_141_78 {m s : ps_S} {t : Int32} {d : Nat} {r0 : Nat} {x2 : Int32} {Q : Option Value → ps_S → Prop} (h0 : ps_is r0 10 = true) (e0 : 0 ≤ x2) (J : xJ m t s) (k : ∀ (s' : ps_S), xJ m t s' → Q none s') : ps_At (d + 1) 141 78 [(0, .ref r0), (2, .int x2)] [] s Q :=
  xs_up (P := fun x2 => ∀ (s : ps_S), ps_is r0 10 = true → 0 ≤ x2 → xJ m t s → ps_At (d + 1) 141 78 [(0, .ref r0), (2, .int x2)] [] s Q) (fun x2 ih s h0 e0 J => pg_141_78 (d := d) (ps_nk_i h0 (ps_nk_i (xn_l ((xk_10_0 h0)).1) (And.intro (fun f1 => (k s J)) (fun f1 => (ps_nk_i h0 (And.intro (fun f2 => (k s J)) (fun f2 => (ps_nk_i h0 (ps_nk_i (xn_3 ((xk_10_0 h0)).1) (ps_nd_i (xg_in e0 f1) (ps_nk_i h0 (And.intro (fun f3 => (ih ((x2 + 1)) (xs_lt f1) s h0 (xs_nn e0 f1) J)) (fun f3 => (ps_nk_i h0 (ps_nk_i h0 (ih ((x2 + 1)) (xs_lt f1) (ps_ui (ps_ui s r0 4 3) r0 6 x2) h0 (xs_nn e0 f1) (xw_i (c := 10) (by decide) h0 (xw_i (c := 10) (by decide) h0 J))))))))))))))))))) x2 s h0 e0 J


theorem xs_141_51 {m s : ps_S} {t : Int32} {d : Nat} {r0 : Nat} {x1 : Int32} {Q : Option Value → ps_S → Prop} (h0 : ps_is r0 10 = true) (J : xJ m t s) (k : ∀ (s' : ps_S), xJ m t s' → Q none s') : ps_At (d + 1) 141 51 [(0, .ref r0), (1, .int x1)] [] s Q :=
  pg_141_51 (d := d) (ps_nk_i h0 (ps_nk_i h0 (And.intro (fun f1 => (ps_nk_i h0 (xs_141_78 (d := d) (r0 := r0) (x2 := 0)  h0 (by decide) (xw_i (c := 10) (by decide) h0 (xw_i (c := 10) (by decide) h0 J)) k ))) (fun f1 => (ps_nk_i h0 (xs_141_78 (d := d) (r0 := r0) (x2 := 0)  h0 (by decide) (xw_i (c := 10) (by decide) h0 (xw_i (c := 10) (by decide) h0 J)) k ))))))

