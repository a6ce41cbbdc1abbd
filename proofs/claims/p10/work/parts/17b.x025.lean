set_option maxRecDepth 100000
theorem xs_23_4 {m s : ps_S} {t : Int32} {d : Nat} {r0 : Nat} {x1 : Int32} {x2 : Int32} {Q : Option Value → ps_S → Prop} (h0 : ps_is r0 1 = true) (J : xJ m t s) (k : ∀ (v : Int32) (s' : ps_S), xJ m t s' → Q (some (.int v)) s') : ps_At (d + 3) 23 4 [(0, .ref r0), (1, .int x1), (2, .int x2)] [] s Q :=
  xs_up (P := fun x2 => ∀ (x1 : Int32) (s : ps_S), ps_is r0 1 = true → xJ m t s → ps_At (d + 3) 23 4 [(0, .ref r0), (1, .int x1), (2, .int x2)] [] s Q) (fun x2 ih x1 s h0 J => pg_23_4 (d := d + 2) (ps_nk_i h0 (xs_25 h0 J (fun v1 => (And.intro (fun f1 => (k x1 s J)) (fun f1 => (ps_nk_i h0 (xs_26 h0 J (fun v2 s2 b2 J2 => (And.intro (fun f2 => (ih ((x2 + 1)) (xs_lt f1) (x1) s2 h0 J2)) (fun f2 => (ih ((x2 + 1)) (xs_lt f1) ((x1 + 1)) s2 h0 J2)))))))))))) x2 x1 s h0 J


theorem xs_23 {m s : ps_S} {t : Int32} {d : Nat} {r0 : Nat} {f : Int32 → ps_S → Prop} (h0 : ps_is r0 1 = true) (J : xJ m t s) (k : ∀ (v : Int32) (s' : ps_S), xJ m t s' → f v s') : ps_Cl (d + 3) 23 [.ref r0] s (ps_rI f) :=
  pg_23_0 (d := d + 2) (xs_23_4 (d := d) (r0 := r0) (x1 := 0) (x2 := 0)  h0 J k )


-- ProofBench$Letters.firstRowNotSo()I
theorem pg_24_0 {d : Nat} {r0 : Nat} {s : ps_S} {Q : Option Value → ps_S → Prop} (h :
  ps_At (d + 1) 24 2 [(0, .ref r0), (1, .int 0)] [] s Q) : ps_At (d + 1) 24 0 [(0, .ref r0)] [] s Q :=
  ps_wp_at (stops := [(2, [0, 1])]) (n := 4) h rfl


theorem pg_24_2 {d : Nat} {r0 : Nat} {x1 : Int32} {s : ps_S} {Q : Option Value → ps_S → Prop} (h :
  ps_nk (ps_is r0 1) (ps_Cl d 25 [.ref r0] s (ps_rI (fun v1 s1 =>
    (v1 ≤ x1 →
      Q (some (.int (-1))) s1) ∧
    (x1 < v1 →
      ps_nk (ps_is r0 1) (ps_Cl d 26 [.ref r0, .int x1] s1 (ps_rI (fun v2 s2 =>
        (v2 ≠ 0 →
          ps_At (d + 1) 24 2 [(0, .ref r0), (1, .int (x1 + 1))] [] s2 Q) ∧
        (v2 = 0 →
          Q (some (.int x1)) s2))))))))) : ps_At (d + 1) 24 2 [(0, .ref r0), (1, .int x1)] [] s Q :=
  ps_wp_at (stops := [(2, [0, 1])]) (n := 16) h rfl


theorem xs_24_2 {m s : ps_S} {t : Int32} {d : Nat} {r0 : Nat} {x1 : Int32} {Q : Option Value → ps_S → Prop} (h0 : ps_is r0 1 = true) (J : xJ m t s) (k : ∀ (v : Int32) (s' : ps_S), xJ m t s' → Q (some (.int v)) s') : ps_At (d + 3) 24 2 [(0, .ref r0), (1, .int x1)] [] s Q :=
  xs_up (P := fun x1 => ∀ (s : ps_S), ps_is r0 1 = true → xJ m t s → ps_At (d + 3) 24 2 [(0, .ref r0), (1, .int x1)] [] s Q) (fun x1 ih s h0 J => pg_24_2 (d := d + 2) (ps_nk_i h0 (xs_25 h0 J (fun v1 => (And.intro (fun f1 => (k (-1) s J)) (fun f1 => (ps_nk_i h0 (xs_26 h0 J (fun v2 s2 b2 J2 => (And.intro (fun f2 => (ih ((x1 + 1)) (xs_lt f1) s2 h0 J2)) (fun f2 => (k x1 s2 J2)))))))))))) x1 s h0 J

