set_option maxRecDepth 100000
theorem pg_8_9 {d : Nat} {r0 : Nat} {x2 : Int32} {x3 : Int32} {s : ps_S} {Q : Option Value → ps_S → Prop} (h :
  (x3 < 0 →
    Q none s) ∧
  (0 ≤ x3 →
    ps_nk (ps_is r0 0) (ps_Cl d 182 [.ref (ps_c0 r0 0), .int x3] s (ps_rI (fun v1 s1 =>
      (v1 ≤ 0 →
        ps_At (d + 1) 8 9 [(0, .ref r0), (2, .int x2), (3, .int (x3 + (-1)))] [] s1 Q) ∧
      (0 < v1 →
        ps_nk (ps_is r0 0) (ps_nd (!decide (v1 = 0)) (ps_Cl d 183 [.ref (ps_c0 r0 1), .int x3, .int (x2 - (x2 / v1) * v1)] s1 (ps_rV (fun s2 =>
          ps_nd (!decide (v1 = 0)) (ps_At (d + 1) 8 9 [(0, .ref r0), (2, .int (x2 / v1)), (3, .int (x3 + (-1)))] [] s2 Q))))))))))) : ps_At (d + 1) 8 9 [(0, .ref r0), (2, .int x2), (3, .int x3)] [] s Q :=
  ps_wp_at (stops := [(9, [0, 2, 3])]) (n := 27) h rfl


theorem xs_8_9 {m s : ps_S} {t : Int32} {d : Nat} {r0 : Nat} {x2 : Int32} {x3 : Int32} {Q : Option Value → ps_S → Prop} (h0 : ps_is r0 0 = true) (J : xJ m t s) (k : ∀ (s' : ps_S), xJ m t s' → Q none s') : ps_At (d + 1) 8 9 [(0, .ref r0), (2, .int x2), (3, .int x3)] [] s Q :=
  xs_dn (P := fun x3 => ∀ (x2 : Int32) (s : ps_S), ps_is r0 0 = true → xJ m t s → ps_At (d + 1) 8 9 [(0, .ref r0), (2, .int x2), (3, .int x3)] [] s Q) (fun x3 ih x2 s h0 J => pg_8_9 (d := d) (And.intro (fun f1 => (k s J)) (fun f1 => (ps_nk_i h0 (xs_182 (xk_0_0 h0) J (fun v1 => (And.intro (fun f2 => (ih ((x3 + (-1))) (xs_ge f1) (x2) s h0 J)) (fun f2 => (ps_nk_i h0 (ps_nd_i (xg_nz f2) (xs_183 (xk_0_1 h0) J (fun s2 J2 e2 => (ps_nd_i (xg_nz f2) (ih ((x3 + (-1))) (xs_ge f1) ((x2 / v1)) s2 h0 J2)))))))))))))) x3 x2 s h0 J


theorem xs_8 {m s : ps_S} {t : Int32} {d : Nat} {r0 : Nat} {x1 : Int32} {f : ps_S → Prop} (h0 : ps_is r0 0 = true) (J : xJ m t s) (k : ∀ (s' : ps_S), xJ m t s' → f s') : ps_Cl (d + 1) 8 [.ref r0, .int x1] s (ps_rV f) :=
  pg_8_0 (d := d) (ps_nk_i h0 (xs_8_9 (d := d) (r0 := r0) (x2 := x1) (x3 := ((ps_i s r0 2) - 1))  h0 J k ))


-- ProofBench.isBound(I)Z
theorem pg_185_0 {d : Nat} {x0 : Int32} {s : ps_S} {Q : Option Value → ps_S → Prop} (h :
  (x0 < 40 →
    Q (some (.int 0)) s) ∧
  (40 ≤ x0 →
    (60 ≤ x0 →
      Q (some (.int 0)) s) ∧
    (x0 < 60 →
      Q (some (.int 1)) s))) : ps_At d 185 0 [(0, .int x0)] [] s Q :=
  ps_wp_at (stops := []) (n := 15) h rfl


theorem xs_185 {m s : ps_S} {t : Int32} {d : Nat} {x0 : Int32} {f : Int32 → ps_S → Prop} (J : xJ m t s) (k : ∀ (v : Int32), v &&& 1 = v → f v s) : ps_Cl d 185 [.int x0] s (ps_rI f) :=
  pg_185_0 (And.intro (fun f1 => (k 0 (by decide))) (fun f1 => (And.intro (fun f2 => (k 0 (by decide))) (fun f2 => (k 1 (by decide))))))

