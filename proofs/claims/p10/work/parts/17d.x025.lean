set_option maxRecDepth 100000
theorem xs_140_5 {m s : ps_S} {t : Int32} {d : Nat} {r0 : Nat} {x1 : Int32} {Q : Option Value → ps_S → Prop} (h0 : ps_is r0 10 = true) (J : xJ m t s) (k : ∀ (s' : ps_S), xJ m t s' → Q none s') : ps_At (d + 2) 140 5 [(0, .ref r0), (1, .int x1)] [] s Q :=
  xs_up (P := fun x1 => ∀ (s : ps_S), ps_is r0 10 = true → xJ m t s → ps_At (d + 2) 140 5 [(0, .ref r0), (1, .int x1)] [] s Q) (fun x1 ih s h0 J => pg_140_5 (d := d + 1) (ps_nk_i h0 (And.intro (fun f1 => (xs_140_30 (d := d) (r0 := r0) (x1 := x1)  h0 J k )) (fun f1 => (ps_nk_i h0 (xs_143 h0 J (fun v1 => (xs_145  J (fun v2 b2 => (And.intro (fun f2 => (xs_140_30 (d := d) (r0 := r0) (x1 := x1)  h0 J k )) (fun f2 => (ih ((x1 + 1)) (xs_lt f1) s h0 J)))))))))))) x1 s h0 J


theorem xs_140 {m s : ps_S} {t : Int32} {d : Nat} {r0 : Nat} {f : ps_S → Prop} (h0 : ps_is r0 10 = true) (J : xJ m t s) (k : ∀ (s' : ps_S), xJ m t s' → f s') : ps_Cl (d + 2) 140 [.ref r0] s (ps_rV f) :=
  pg_140_0 (d := d + 1) (ps_nk_i h0 (xs_140_5 (d := d) (r0 := r0) (x1 := (ps_i s r0 3))  h0 J k ))


-- ProofBench$Tokens.begin([BI)V
theorem pg_139_0 {d : Nat} {r0 : Nat} {r1 : Nat} {x2 : Int32} {s : ps_S} {Q : Option Value → ps_S → Prop} (h :
  ps_nk (ps_is r0 10) (ps_nk (ps_is r0 10) (ps_nk (ps_is r0 10) (ps_nk (ps_is r0 10) (ps_Cl d 140 [.ref r0] (ps_ui (ps_ui (ps_ur s r0 1 r1) r0 2 x2) r0 3 0) (ps_rV (fun s1 =>
    Q none s1))))))) : ps_At (d + 1) 139 0 [(0, .ref r0), (1, .ref r1), (2, .int x2)] [] s Q :=
  ps_wp_at (stops := []) (n := 14) h rfl


theorem xs_139 {m s : ps_S} {t : Int32} {d : Nat} {r0 : Nat} {r1 : Nat} {x2 : Int32} {f : ps_S → Prop} (h0 : ps_is r0 10 = true) (h1 : ps_ar r1 1 = true ∧ r1 < 1131) (J : xJ m t s) (k : ∀ (s' : ps_S), xJ m t s' → f s') : ps_Cl (d + 3) 139 [.ref r0, .ref r1, .int x2] s (ps_rV f) :=
  pg_139_0 (d := d + 2) (ps_nk_i h0 (ps_nk_i h0 (ps_nk_i h0 (ps_nk_i h0 (xs_140 h0 (xw_i (c := 10) (by decide) h0 (xw_i (c := 10) (by decide) h0 (xw_10_1 h0 h1 J))) (fun s1 J1 => (k s1 J1)))))))

