set_option maxRecDepth 100000
theorem pg_142_10 {d : Nat} {r0 : Nat} {x1 : Int32} {s : ps_S} {Q : Option Value → ps_S → Prop} (h :
  ps_nk (ps_is r0 10) (((ps_i s r0 2) ≤ x1 →
    ps_At (d + 1) 142 55 [(0, .ref r0), (1, .int x1)] [] s Q) ∧
  (x1 < (ps_i s r0 2) →
    ps_nk (ps_is r0 10) (ps_Cl d 143 [.ref r0, .int x1] s (ps_rI (fun v1 s1 =>
      ps_Cl d 147 [.int v1] s1 (ps_rI (fun v2 s2 =>
        (v2 = 0 →
          ps_At (d + 1) 142 55 [(0, .ref r0), (1, .int x1)] [] s2 Q) ∧
        (v2 ≠ 0 →
          ps_nk (ps_is r0 10) (ps_nk (ps_is r0 10) (ps_Cl d 143 [.ref r0, .int x1] s2 (ps_rI (fun v3 s3 =>
            ps_nk (ps_is r0 10) (ps_At (d + 1) 142 10 [(0, .ref r0), (1, .int (x1 + 1))] [] (ps_ui s3 r0 7 ((((ps_i s2 r0 7) * 10) + v3) - 48)) Q)))))))))))))) : ps_At (d + 1) 142 10 [(0, .ref r0), (1, .int x1)] [] s Q :=
  ps_wp_at (stops := [(10, [0, 1]), (55, [0, 1])]) (n := 25) h rfl


theorem pg_142_55 {d : Nat} {r0 : Nat} {x1 : Int32} {s : ps_S} {Q : Option Value → ps_S → Prop} (h :
  ps_nk (ps_is r0 10) (ps_nk (ps_is r0 10) ((4 < (x1 - (ps_i (ps_ui s r0 3 x1) r0 5)) →
    ps_nk (ps_is r0 10) (Q none (ps_ui (ps_ui s r0 3 x1) r0 4 1))) ∧
  ((x1 - (ps_i (ps_ui s r0 3 x1) r0 5)) ≤ 4 →
    ps_nk (ps_is r0 10) (ps_Cl d 143 [.ref r0, .int x1] (ps_ui s r0 3 x1) (ps_rI (fun v1 s1 =>
      ps_Cl d 146 [.int v1] s1 (ps_rI (fun v2 s2 =>
        (v2 = 0 →
          ps_nk (ps_is r0 10) (Q none (ps_ui s2 r0 4 4))) ∧
        (v2 ≠ 0 →
          ps_nk (ps_is r0 10) (Q none (ps_ui s2 r0 4 1)))))))))))) : ps_At (d + 1) 142 55 [(0, .ref r0), (1, .int x1)] [] s Q :=
  ps_wp_at (stops := [(10, [0, 1]), (55, [0, 1])]) (n := 28) h rfl


theorem xs_142_55 {m s : ps_S} {t : Int32} {d : Nat} {r0 : Nat} {x1 : Int32} {Q : Option Value → ps_S → Prop} (h0 : ps_is r0 10 = true) (J : xJ m t s) (k : ∀ (s' : ps_S), xJ m t s' → Q none s') : ps_At (d + 1) 142 55 [(0, .ref r0), (1, .int x1)] [] s Q :=
  pg_142_55 (d := d) (ps_nk_i h0 (ps_nk_i h0 (And.intro (fun f1 => (ps_nk_i h0 (k (ps_ui (ps_ui s r0 3 x1) r0 4 1) (xw_i (c := 10) (by decide) h0 (xw_i (c := 10) (by decide) h0 J))))) (fun f1 => (ps_nk_i h0 (xs_143 h0 (xw_i (c := 10) (by decide) h0 J) (fun v1 => (xs_146  (xw_i (c := 10) (by decide) h0 J) (fun v2 b2 => (And.intro (fun f2 => (ps_nk_i h0 (k (ps_ui (ps_ui s r0 3 x1) r0 4 4) (xw_i (c := 10) (by decide) h0 (xw_i (c := 10) (by decide) h0 J))))) (fun f2 => (ps_nk_i h0 (k (ps_ui (ps_ui s r0 3 x1) r0 4 1) (xw_i (c := 10) (by decide) h0 (xw_i (c := 10) (by decide) h0 J)))))))))))))))


theorem xs_142_10 {m s : ps_S} {t : Int32} {d : Nat} {r0 : Nat} {x1 : Int32} {Q : Option Value → ps_S → Prop} (h0 : ps_is r0 10 = true) (J : xJ m t s) (k : ∀ (s' : ps_S), xJ m t s' → Q none s') : ps_At (d + 1) 142 10 [(0, .ref r0), (1, .int x1)] [] s Q :=
  xs_up (P := fun x1 => ∀ (s : ps_S), ps_is r0 10 = true → xJ m t s → ps_At (d + 1) 142 10 [(0, .ref r0), (1, .int x1)] [] s Q) (fun x1 ih s h0 J => pg_142_10 (d := d) (ps_nk_i h0 (And.intro (fun f1 => (xs_142_55 (d := d) (r0 := r0) (x1 := x1)  h0 J k )) (fun f1 => (ps_nk_i h0 (xs_143 h0 J (fun v1 => (xs_147  J (fun v2 b2 => (And.intro (fun f2 => (xs_142_55 (d := d) (r0 := r0) (x1 := x1)  h0 J k )) (fun f2 => (ps_nk_i h0 (ps_nk_i h0 (xs_143 h0 J (fun v3 => (ps_nk_i h0 (ih ((x1 + 1)) (xs_lt f1) (ps_ui s r0 7 ((((ps_i s r0 7) * 10) + v3) - 48)) h0 (xw_i (c := 10) (by decide) h0 J)))))))))))))))))) x1 s h0 J


theorem xs_142 {m s : ps_S} {t : Int32} {d : Nat} {r0 : Nat} {f : ps_S → Prop} (h0 : ps_is r0 10 = true) (J : xJ m t s) (k : ∀ (s' : ps_S), xJ m t s' → f s') : ps_Cl (d + 1) 142 [.ref r0] s (ps_rV f) :=
  pg_142_0 (d := d) (ps_nk_i h0 (ps_nk_i h0 (xs_142_10 (d := d) (r0 := r0) (x1 := (ps_i s r0 5))  h0 (xw_i (c := 10) (by decide) h0 J) k )))

