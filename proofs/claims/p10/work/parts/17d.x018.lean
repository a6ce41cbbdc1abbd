set_option maxRecDepth 100000
theorem xs_126 {m s : ps_S} {t : Int32} {d : Nat} {r0 : Nat} {f : ps_S → Prop} (h0 : ps_is r0 9 = true) (J : xJ m t s) (k : ∀ (s' : ps_S), xJ m t s' → f s') : ps_Cl d 126 [.ref r0] s (ps_rV f) :=
  pg_126_0 (ps_nk_i h0 (ps_nk_i h0 (ps_nk_i h0 (k (ps_ui (ps_ui (ps_ui s r0 6 0) r0 7 0) r0 8 0) (xw_i (c := 9) (by decide) h0 (xw_i (c := 9) (by decide) h0 (xw_i (c := 9) (by decide) h0 J)))))))


-- ProofBench$Tokens.byteAt(I)I
theorem pg_143_0 {d : Nat} {r0 : Nat} {x1 : Int32} {s : ps_S} {Q : Option Value → ps_S → Prop} (h :
  (x1 < 0 →
    Q (some (.int (-1))) s) ∧
  (0 ≤ x1 →
    ps_nk (ps_is r0 10) (((ps_i s r0 2) ≤ x1 →
      Q (some (.int (-1))) s) ∧
    (x1 < (ps_i s r0 2) →
      ps_nk (ps_is r0 10) (ps_nk (Nat.beq (ps_K (ps_r s r0 1)).1 0) (((nI (ps_ln (ps_r s r0 1))) ≤ x1 →
        Q (some (.int (-1))) s) ∧
      (x1 < (nI (ps_ln (ps_r s r0 1))) →
        ps_nk (ps_is r0 10) (ps_nk (ps_ar (ps_r s r0 1) 1 || ps_ar (ps_r s r0 1) 2) (ps_nd (pm_in x1 (ps_ln (ps_r s r0 1))) (Q (some (.int ((ps_a s (ps_r s r0 1) (Int32.toNatClampNeg x1)) &&& 255))) s)))))))))) : ps_At d 143 0 [(0, .ref r0), (1, .int x1)] [] s Q :=
  ps_wp_at (stops := []) (n := 27) h rfl


theorem xs_143 {m s : ps_S} {t : Int32} {d : Nat} {r0 : Nat} {x1 : Int32} {f : Int32 → ps_S → Prop} (h0 : ps_is r0 10 = true) (J : xJ m t s) (k : ∀ (v : Int32), f v s) : ps_Cl d 143 [.ref r0, .int x1] s (ps_rI f) :=
  pg_143_0 (And.intro (fun f1 => (k (-1))) (fun f1 => (ps_nk_i h0 (And.intro (fun f2 => (k (-1))) (fun f2 => (ps_nk_i h0 (ps_nk_i (xn_l ((xj_10_1 J h0)).1) (And.intro (fun f3 => (k (-1))) (fun f3 => (ps_nk_i h0 (ps_nk_i (xn_1 ((xj_10_1 J h0)).1) (ps_nd_i (xg_in f1 f3) (k ((ps_a s (ps_r s r0 1) (Int32.toNatClampNeg x1)) &&& 255))))))))))))))


-- ProofBench$Tokens.isBlank(I)Z
theorem pg_145_0 {d : Nat} {x0 : Int32} {s : ps_S} {Q : Option Value → ps_S → Prop} (h :
  (x0 = 32 →
    Q (some (.int 1)) s) ∧
  (x0 ≠ 32 →
    (x0 ≠ 10 →
      Q (some (.int 0)) s) ∧
    (x0 = 10 →
      Q (some (.int 1)) s))) : ps_At d 145 0 [(0, .int x0)] [] s Q :=
  ps_wp_at (stops := []) (n := 16) h rfl


theorem xs_145 {m s : ps_S} {t : Int32} {d : Nat} {x0 : Int32} {f : Int32 → ps_S → Prop} (J : xJ m t s) (k : ∀ (v : Int32), v &&& 1 = v → f v s) : ps_Cl d 145 [.int x0] s (ps_rI f) :=
  pg_145_0 (And.intro (fun f1 => (k 1 (by decide))) (fun f1 => (And.intro (fun f2 => (k 0 (by decide))) (fun f2 => (k 1 (by decide))))))

