set_option maxRecDepth 100000
theorem xs_21 {m s : ps_S} {t : Int32} {d : Nat} {r0 : Nat} {r1 : Nat} {r2 : Nat} {f : ps_S → Prop} (h0 : ps_is r0 1 = true) (h1 : ps_is r1 5 = true) (h2 : ps_is r2 9 = true) (J : xJ m t s) (k : ∀ (s' : ps_S), xJ m t s' → f s') : ps_Cl (d + 3) 21 [.ref r0, .ref r1, .ref r2] s (ps_rV f) :=
  pg_21_0 (d := d + 2) (ps_nk_i h0 (ps_nk_i (xk_1_0 h0) (xs_103 (xk_1_0 h0) h1 h2 J (fun s1 J1 => (ps_nk_i h0 (ps_nk_i h0 (xs_21_21 (d := d) (r0 := r0) (r1 := r1) (x3 := 0)  h0 h1 (xw_i (c := 1) (by decide) h0 (xw_i (c := 1) (by decide) h0 J1)) k )))))))


-- ProofBench$Letters.rowCount()I
theorem pg_25_0 {d : Nat} {r0 : Nat} {s : ps_S} {Q : Option Value → ps_S → Prop} (h :
  ps_nk (ps_is r0 1) (Q (some (.int ((1 : Int32) <<< ((if (12 : Int32) < (ps_i s r0 4) then (12 : Int32) else (ps_i s r0 4)) &&& 31)))) s)) : ps_At d 25 0 [(0, .ref r0)] [] s Q :=
  ps_wp_at (stops := []) (n := 9) h rfl


theorem xs_25 {m s : ps_S} {t : Int32} {d : Nat} {r0 : Nat} {f : Int32 → ps_S → Prop} (h0 : ps_is r0 1 = true) (J : xJ m t s) (k : ∀ (v : Int32), f v s) : ps_Cl d 25 [.ref r0] s (ps_rI f) :=
  pg_25_0 (ps_nk_i h0 (k ((1 : Int32) <<< ((if (12 : Int32) < (ps_i s r0 4) then (12 : Int32) else (ps_i s r0 4)) &&& 31))))


-- ProofBench$Letters.push(I)V
theorem pg_28_0 {d : Nat} {r0 : Nat} {x1 : Int32} {s : ps_S} {Q : Option Value → ps_S → Prop} (h :
  ps_nk (ps_is r0 1) (ps_nk (ps_is r0 1) (ps_Cl d 183 [.ref (ps_c0 r0 5), .int (ps_i s r0 6), .int x1] s (ps_rV (fun s1 =>
    ps_nk (ps_is r0 1) (ps_nk (ps_is r0 1) (Q none (ps_ui s1 r0 6 ((ps_i s1 r0 6) + 1))))))))) : ps_At (d + 1) 28 0 [(0, .ref r0), (1, .int x1)] [] s Q :=
  ps_wp_at (stops := []) (n := 15) h rfl


theorem xs_28 {m s : ps_S} {t : Int32} {d : Nat} {r0 : Nat} {x1 : Int32} {f : ps_S → Prop} (h0 : ps_is r0 1 = true) (J : xJ m t s) (k : ∀ (s' : ps_S), xJ m t s' → f s') : ps_Cl (d + 1) 28 [.ref r0, .int x1] s (ps_rV f) :=
  pg_28_0 (d := d) (ps_nk_i h0 (ps_nk_i h0 (xs_183 (xk_1_5 h0) J (fun s1 J1 e1 => (ps_nk_i h0 (ps_nk_i h0 (k (ps_ui s1 r0 6 ((ps_i s1 r0 6) + 1)) (xw_i (c := 1) (by decide) h0 J1))))))))

