set_option maxRecDepth 100000
theorem xs_12_7 {m s : ps_S} {t : Int32} {d : Nat} {r0 : Nat} {x2 : Int32} {Q : Option Value → ps_S → Prop} (h0 : ps_is r0 0 = true) (J : xJ m t s) (k : ∀ (v : Int32) (s' : ps_S), v &&& 1 = v → xJ m t s' → Q (some (.int v)) s') : ps_At (d + 37) 12 7 [(0, .ref r0), (2, .int x2)] [] s Q :=
  xs_up (P := fun x2 => ∀ (s : ps_S), ps_is r0 0 = true → xJ m t s → ps_At (d + 37) 12 7 [(0, .ref r0), (2, .int x2)] [] s Q) (fun x2 ih s h0 J => pg_12_7 (d := d + 36) (ps_nk_i h0 (ps_nk_i (xj_0_16 J h0) (And.intro (fun f1 => (k 1 s (by decide) J)) (fun f1 => (ps_nk_i h0 (ps_nk_i (xj_0_16 J h0) (xs_135 (xj_0_16 J h0) J (fun v1 h1 => (ps_nk_i h0 (ps_nk_i h0 (xs_10 h0 (xw_0_14 h0 h1 J) (fun v2 h2 => (ps_nk_i h0 (ps_nk_i h0 (xs_15 h0 (xw_0_15 h0 h2 (xw_0_14 h0 h1 J)) (fun v3 s3 b3 J3 => (And.intro (fun f2 => (ih ((x2 + 1)) (xs_lt f1) s3 h0 J3)) (fun f2 => (k 0 s3 (by decide) J3)))))))))))))))))))) x2 s h0 J


theorem xs_12 {m s : ps_S} {t : Int32} {d : Nat} {r0 : Nat} {x1 : Int32} {f : Int32 → ps_S → Prop} (h0 : ps_is r0 0 = true) (J : xJ m t s) (k : ∀ (v : Int32) (s' : ps_S), v &&& 1 = v → xJ m t s' → f v s') : ps_Cl (d + 37) 12 [.ref r0, .int x1] s (ps_rI f) :=
  pg_12_0 (d := d + 36) (ps_nk_i h0 (xs_8 h0 J (fun s1 J1 => (xs_12_7 (d := d) (r0 := r0) (x2 := 0)  h0 J1 k ))))

