set_option maxRecDepth 100000
theorem xs_24 {m s : ps_S} {t : Int32} {d : Nat} {r0 : Nat} {f : Int32 → ps_S → Prop} (h0 : ps_is r0 1 = true) (J : xJ m t s) (k : ∀ (v : Int32) (s' : ps_S), xJ m t s' → f v s') : ps_Cl (d + 3) 24 [.ref r0] s (ps_rI f) :=
  pg_24_0 (d := d + 2) (xs_24_2 (d := d) (r0 := r0) (x1 := 0)  h0 J k )

