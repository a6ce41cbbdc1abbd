set_option maxRecDepth 100000
theorem pg_35_21 {d : Nat} {r0 : Nat} {x1 : Int32} {r2 : Nat} {r3 : Nat} {x4 : Int32} {s : ps_S} {Q : Option Value → ps_S → Prop} (h :
  ps_nk (ps_is r0 2) (ps_nk (Nat.beq (ps_K (ps_c0 r0 2)).1 0) (((nI (ps_ln (ps_c0 r0 2))) ≤ x4 →
    ps_nk (ps_is r0 2) (ps_Cl d 42 [.ref r0, .ref r3, .int x1, .ref r2] s (ps_rI (fun v1 s1 =>
      (v1 = 0 →
        ps_nk (ps_is r3 8) (ps_At (d + 1) 35 73 [(0, .ref r0), (3, .ref r3), (5, .int 0)] [] (ps_uj s1 r3 12 ((1 : Int64) <<< (Int32.toInt64 x1 &&& 63))) Q)) ∧
      (v1 ≠ 0 →
        Q (some (.int v1)) s1))))) ∧
  (x4 < (nI (ps_ln (ps_c0 r0 2))) →
    ps_nk (ps_is r0 2) (ps_Cl d 38 [.ref r0, .int x4] s (ps_rA (fun v2 s2 =>
      ps_nk (ps_is v2 5) (ps_Cl d 91 [.ref v2] s2 (ps_rV (fun s3 =>
        ps_At (d + 1) 35 21 [(0, .ref r0), (1, .int x1), (2, .ref r2), (3, .ref r3), (4, .int (x4 + 1))] [] s3 Q)))))))))) : ps_At (d + 1) 35 21 [(0, .ref r0), (1, .int x1), (2, .ref r2), (3, .ref r3), (4, .int x4)] [] s Q :=
  ps_wp_at (stops := [(21, [0, 1, 2, 3, 4]), (73, [0, 3, 5])]) (n := 30) h rfl


theorem pg_35_73 {d : Nat} {r0 : Nat} {r3 : Nat} {x5 : Int32} {s : ps_S} {Q : Option Value → ps_S → Prop} (h :
  ps_nk (ps_is r3 8) (ps_Cl d 116 [.int (ps_i s r3 0)] s (ps_rI (fun v1 s1 =>
    (v1 ≤ x5 →
      ps_nk (ps_is r0 2) (ps_Cl d 41 [.ref r0, .ref r3] s1 (ps_rI (fun v2 s2 =>
        (v2 = 0 →
          Q (some (.int 0)) s2) ∧
        (v2 ≠ 0 →
          Q (some (.int 5)) s2))))) ∧
    (x5 < v1 →
      ps_nk (ps_is r0 2) (ps_Cl d 37 [.ref r0, .ref r3, .int x5] s1 (ps_rA (fun v3 s3 =>
        ps_nk (ps_is r3 8) (ps_Cl d 124 [.ref r3, .ref v3] s3 (ps_rV (fun s4 =>
          ps_nk (ps_is r0 2) (ps_Cl d 37 [.ref r0, .ref r3, .int x5] s4 (ps_rA (fun v5 s5 =>
            ps_nk (ps_is r0 2) (ps_Cl d 38 [.ref r0, .int x5] s5 (ps_rA (fun v6 s6 =>
              ps_nk (ps_is r0 2) (ps_Cl d 39 [.ref r0, .ref r3, .ref v5, .ref v6] s6 (ps_rV (fun s7 =>
                ps_At (d + 1) 35 73 [(0, .ref r0), (3, .ref r3), (5, .int (x5 + 1))] [] s7 Q)))))))))))))))))))) : ps_At (d + 1) 35 73 [(0, .ref r0), (3, .ref r3), (5, .int x5)] [] s Q :=
  ps_wp_at (stops := [(21, [0, 1, 2, 3, 4]), (73, [0, 3, 5])]) (n := 34) h rfl


theorem xs_35_73 {m s : ps_S} {t : Int32} {d : Nat} {r0 : Nat} {r3 : Nat} {x5 : Int32} {Q : Option Value → ps_S → Prop} (h0 : ps_is r0 2 = true) (h3 : ps_is r3 8 = true) (J : xJ m t s) (k : ∀ (v : Int32) (s' : ps_S), xJ m t s' → Q (some (.int v)) s') : ps_At (d + 5) 35 73 [(0, .ref r0), (3, .ref r3), (5, .int x5)] [] s Q :=
  xs_up (P := fun x5 => ∀ (s : ps_S), ps_is r0 2 = true → ps_is r3 8 = true → xJ m t s → ps_At (d + 5) 35 73 [(0, .ref r0), (3, .ref r3), (5, .int x5)] [] s Q) (fun x5 ih s h0 h3 J => pg_35_73 (d := d + 4) (ps_nk_i h3 (xs_116  J (fun v1 => (And.intro (fun f1 => (ps_nk_i h0 (xs_41 h0 h3 J (fun v2 s2 b2 J2 => (And.intro (fun f2 => (k 0 s2 J2)) (fun f2 => (k 5 s2 J2))))))) (fun f1 => (ps_nk_i h0 (xs_37 h0 h3 J (fun v3 g3 => (ps_nk_i h3 (xs_124 h3 g3 J (fun s4 J4 => (ps_nk_i h0 (xs_37 h0 h3 J4 (fun v5 g5 => (ps_nk_i h0 (xs_38 h0 J4 (fun v6 g6 => (ps_nk_i h0 (xs_39 h0 h3 g5 g6 J4 (fun s7 J7 => (ih ((x5 + 1)) (xs_lt f1) s7 h0 h3 J7)))))))))))))))))))))) x5 s h0 h3 J


theorem xs_35_21 {m s : ps_S} {t : Int32} {d : Nat} {r0 : Nat} {x1 : Int32} {r2 : Nat} {r3 : Nat} {x4 : Int32} {Q : Option Value → ps_S → Prop} (h0 : ps_is r0 2 = true) (h2 : ps_is r2 7 = true) (h3 : ps_is r3 8 = true) (J : xJ m t s) (k : ∀ (v : Int32) (s' : ps_S), xJ m t s' → Q (some (.int v)) s') : ps_At (d + 5) 35 21 [(0, .ref r0), (1, .int x1), (2, .ref r2), (3, .ref r3), (4, .int x4)] [] s Q :=
  xs_up (P := fun x4 => ∀ (s : ps_S), ps_is r0 2 = true → ps_is r2 7 = true → ps_is r3 8 = true → xJ m t s → ps_At (d + 5) 35 21 [(0, .ref r0), (1, .int x1), (2, .ref r2), (3, .ref r3), (4, .int x4)] [] s Q) (fun x4 ih s h0 h2 h3 J => pg_35_21 (d := d + 4) (ps_nk_i h0 (ps_nk_i (xn_l ((xk_2_2 h0)).1) (And.intro (fun f1 => (ps_nk_i h0 (xs_42 h0 h3 h2 J (fun v1 s1 J1 => (And.intro (fun f2 => (ps_nk_i h3 (xs_35_73 (d := d) (r0 := r0) (r3 := r3) (x5 := 0)  h0 h3 (xw_j (c := 8) (by decide) h3 J1) k ))) (fun f2 => (k v1 s1 J1))))))) (fun f1 => (ps_nk_i h0 (xs_38 h0 J (fun v2 g2 => (ps_nk_i g2 (xs_91 g2 J (fun s3 J3 => (ih ((x4 + 1)) (xs_lt f1) s3 h0 h2 h3 J3)))))))))))) x4 s h0 h2 h3 J


theorem xs_35 {m s : ps_S} {t : Int32} {d : Nat} {r0 : Nat} {x1 : Int32} {r2 : Nat} {f : Int32 → ps_S → Prop} (h0 : ps_is r0 2 = true) (h2 : ps_is r2 7 = true) (J : xJ m t s) (k : ∀ (v : Int32) (s' : ps_S), xJ m t s' → f v s') : ps_Cl (d + 5) 35 [.ref r0, .int x1, .ref r2] s (ps_rI f) :=
  pg_35_0 (d := d + 4) (ps_nk_i h0 (xs_33 h0 J (fun v1 g1 => (ps_nk_i h0 (xs_36 h0 g1 h2 J (fun v2 b2 => (And.intro (fun f1 => (xs_35_21 (d := d) (r0 := r0) (x1 := x1) (r2 := r2) (r3 := v1) (x4 := 0)  h0 h2 g1 J k )) (fun f1 => (k 1 s J)))))))))

