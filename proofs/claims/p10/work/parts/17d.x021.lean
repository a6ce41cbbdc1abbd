set_option maxRecDepth 100000
theorem xs_141_10 {m s : ps_S} {t : Int32} {d : Nat} {r0 : Nat} {x1 : Int32} {Q : Option Value → ps_S → Prop} (h0 : ps_is r0 10 = true) (J : xJ m t s) (k : ∀ (s' : ps_S), xJ m t s' → Q none s') : ps_At (d + 1) 141 10 [(0, .ref r0), (1, .int x1)] [] s Q :=
  xs_up (P := fun x1 => ∀ (s : ps_S), ps_is r0 10 = true → xJ m t s → ps_At (d + 1) 141 10 [(0, .ref r0), (1, .int x1)] [] s Q) (fun x1 ih s h0 J => pg_141_10 (d := d) (ps_nk_i h0 (And.intro (fun f1 => (xs_141_51 (d := d) (r0 := r0) (x1 := x1)  h0 J k )) (fun f1 => (ps_nk_i h0 (xs_143 h0 J (fun v1 => (xs_146  J (fun v2 b2 => (And.intro (fun f2 => (xs_141_51 (d := d) (r0 := r0) (x1 := x1)  h0 J k )) (fun f2 => (ps_nk_i h0 (ps_nk_i h0 (xs_143 h0 J (fun v3 => (xs_144  J (fun v4 => (ps_nk_i h0 (ih ((x1 + 1)) (xs_lt f1) (ps_uj s r0 8 v4) h0 (xw_j (c := 10) (by decide) h0 J)))))))))))))))))))) x1 s h0 J


theorem xs_141 {m s : ps_S} {t : Int32} {d : Nat} {r0 : Nat} {f : ps_S → Prop} (h0 : ps_is r0 10 = true) (J : xJ m t s) (k : ∀ (s' : ps_S), xJ m t s' → f s') : ps_Cl (d + 1) 141 [.ref r0] s (ps_rV f) :=
  pg_141_0 (d := d) (ps_nk_i h0 (ps_nk_i h0 (xs_141_10 (d := d) (r0 := r0) (x1 := (ps_i s r0 5))  h0 (xw_j (c := 10) (by decide) h0 J) k )))


-- ProofBench$Tokens.isDigit(I)Z
theorem pg_147_0 {d : Nat} {x0 : Int32} {s : ps_S} {Q : Option Value → ps_S → Prop} (h :
  (x0 < 48 →
    Q (some (.int 0)) s) ∧
  (48 ≤ x0 →
    (57 < x0 →
      Q (some (.int 0)) s) ∧
    (x0 ≤ 57 →
      Q (some (.int 1)) s))) : ps_At d 147 0 [(0, .int x0)] [] s Q :=
  ps_wp_at (stops := []) (n := 15) h rfl


theorem xs_147 {m s : ps_S} {t : Int32} {d : Nat} {x0 : Int32} {f : Int32 → ps_S → Prop} (J : xJ m t s) (k : ∀ (v : Int32), v &&& 1 = v → f v s) : ps_Cl d 147 [.int x0] s (ps_rI f) :=
  pg_147_0 (And.intro (fun f1 => (k 0 (by decide))) (fun f1 => (And.intro (fun f2 => (k 0 (by decide))) (fun f2 => (k 1 (by decide))))))


-- ProofBench$Tokens.takeDigits()V
theorem pg_142_0 {d : Nat} {r0 : Nat} {s : ps_S} {Q : Option Value → ps_S → Prop} (h :
  ps_nk (ps_is r0 10) (ps_nk (ps_is r0 10) (ps_At (d + 1) 142 10 [(0, .ref r0), (1, .int (ps_i s r0 5))] [] (ps_ui s r0 7 0) Q))) : ps_At (d + 1) 142 0 [(0, .ref r0)] [] s Q :=
  ps_wp_at (stops := [(10, [0, 1]), (55, [0, 1])]) (n := 8) h rfl

