set_option maxRecDepth 100000
theorem xs_22 {m s : ps_S} {t : Int32} {d : Nat} {r0 : Nat} {r1 : Nat} {x2 : Int32} {f : Int32 → ps_S → Prop} (h0 : ps_is r0 1 = true) (h1 : ps_is r1 5 = true) (J : xJ m t s) (k : ∀ (v : Int32) (s' : ps_S), xJ m t s' → f v s') : ps_Cl (d + 2) 22 [.ref r0, .ref r1, .int x2] s (ps_rI f) :=
  pg_22_0 (d := d + 1) (xs_22_2 (d := d) (r0 := r0) (r1 := r1) (x2 := x2) (x3 := 0)  h0 h1 J k )


-- ProofBench$Letters.spell(LProofBench$Row;LProofBench$Theory;)V
theorem pg_21_0 {d : Nat} {r0 : Nat} {r1 : Nat} {r2 : Nat} {s : ps_S} {Q : Option Value → ps_S → Prop} (h :
  ps_nk (ps_is r0 1) (ps_nk (ps_is (ps_c0 r0 0) 6) (ps_Cl d 103 [.ref (ps_c0 r0 0), .ref r1, .ref r2] s (ps_rV (fun s1 =>
    ps_nk (ps_is r0 1) (ps_nk (ps_is r0 1) (ps_At (d + 1) 21 21 [(0, .ref r0), (1, .ref r1), (3, .int 0)] [] (ps_ui (ps_ui s1 r0 2 0) r0 4 0) Q))))))) : ps_At (d + 1) 21 0 [(0, .ref r0), (1, .ref r1), (2, .ref r2)] [] s Q :=
  ps_wp_at (stops := [(21, [0, 1, 3])]) (n := 15) h rfl

