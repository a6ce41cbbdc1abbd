set_option maxRecDepth 100000
theorem pg_11_106 {d : Nat} {r0 : Nat} {x2 : Int32} {l3 : Int64} {s : ps_S} {Q : Option Value → ps_S → Prop} (h :
  ps_nk (ps_is r0 0) (ps_nk (ps_ar (ps_c0 r0 13) 3) (ps_nd (pm_in x2 (ps_ln (ps_c0 r0 13))) (((lg_cmp ((ps_b s (ps_c0 r0 13) (Int32.toNatClampNeg x2)) &&& l3) 0) = 0 →
    Q (some (.int 0)) s) ∧
  ((lg_cmp ((ps_b s (ps_c0 r0 13) (Int32.toNatClampNeg x2)) &&& l3) 0) ≠ 0 →
    Q (some (.int 1)) s))))) : ps_At (d + 1) 11 106 [(0, .ref r0), (2, .int x2), (3, .long l3)] [] s Q :=
  ps_wp_at (stops := [(106, [0, 2, 3])]) (n := 16) h rfl


theorem xs_11_106 {m s : ps_S} {t : Int32} {d : Nat} {r0 : Nat} {x2 : Int32} {l3 : Int64} {Q : Option Value → ps_S → Prop} (h0 : ps_is r0 0 = true) (e0 : 0 ≤ x2) (e1 : x2 < (nI (ps_ln (ps_c0 r0 13)))) (J : xJ m t s) (k : ∀ (v : Int32) (s' : ps_S), v &&& 1 = v → xJ m t s' → Q (some (.int v)) s') : ps_At (d + 38) 11 106 [(0, .ref r0), (2, .int x2), (3, .long l3)] [] s Q :=
  pg_11_106 (d := d + 37) (ps_nk_i h0 (ps_nk_i (xn_3 ((xk_0_13 h0)).1) (ps_nd_i (xg_in e0 e1) (And.intro (fun f1 => (k 0 s (by decide) J)) (fun f1 => (k 1 s (by decide) J))))))

