set_option maxRecDepth 100000
theorem pg_56_117 {d : Nat} {r1 : Nat} {r2 : Nat} {r3 : Nat} {x4 : Int32} {x5 : Int32} {x6 : Int32} {x7 : Int32} {x8 : Int32} {x9 : Int32} {s : ps_S} {Q : Option Value → ps_S → Prop} (h :
  ps_nk (ps_is r1 5) (ps_Cl d 92 [.ref r1, .int x7] s (ps_rI (fun v1 s1 =>
    ps_nk (ps_is r3 5) (ps_Cl d 92 [.ref r3, .int x8] s1 (ps_rI (fun v2 s2 =>
      (v1 ≠ v2 →
        Q (some (.int 0)) s2) ∧
      (v1 = v2 →
        ps_At (d + 1) 56 46 [(1, .ref r1), (2, .ref r2), (3, .ref r3), (4, .int x4), (5, .int x5), (6, .int x6), (7, .int (x7 + 1)), (8, .int (x8 + 1)), (9, .int (x9 + 1))] [] s2 Q)))))))) : ps_At (d + 1) 56 117 [(1, .ref r1), (2, .ref r2), (3, .ref r3), (4, .int x4), (5, .int x5), (6, .int x6), (7, .int x7), (8, .int x8), (9, .int x9)] [] s Q :=
  ps_wp_at (stops := [(46, [1, 2, 3, 4, 5, 6, 7, 8, 9]), (117, [1, 2, 3, 4, 5, 6, 7, 8, 9]), (149, [1, 3, 7, 8])]) (n := 16) h rfl


theorem pg_56_149 {d : Nat} {r1 : Nat} {r3 : Nat} {x7 : Int32} {x8 : Int32} {s : ps_S} {Q : Option Value → ps_S → Prop} (h :
  ps_nk (ps_is r1 5) ((x7 ≠ (ps_i s r1 1) →
    Q (some (.int 0)) s) ∧
  (x7 = (ps_i s r1 1) →
    ps_nk (ps_is r3 5) ((x8 ≠ (ps_i s r3 1) →
      Q (some (.int 0)) s) ∧
    (x8 = (ps_i s r3 1) →
      Q (some (.int 1)) s))))) : ps_At (d + 1) 56 149 [(1, .ref r1), (3, .ref r3), (7, .int x7), (8, .int x8)] [] s Q :=
  ps_wp_at (stops := [(46, [1, 2, 3, 4, 5, 6, 7, 8, 9]), (117, [1, 2, 3, 4, 5, 6, 7, 8, 9]), (149, [1, 3, 7, 8])]) (n := 17) h rfl


theorem xs_56_117 {m s : ps_S} {t : Int32} {d : Nat} {r1 : Nat} {r2 : Nat} {r3 : Nat} {x4 : Int32} {x5 : Int32} {x6 : Int32} {x7 : Int32} {x8 : Int32} {x9 : Int32} {Q : Option Value → ps_S → Prop} (h1 : ps_is r1 5 = true) (h2 : ps_is r2 5 = true) (h3 : ps_is r3 5 = true) (J : xJ m t s) (k : ∀ (v : Int32) (s' : ps_S), v &&& 1 = v → xJ m t s' → Q (some (.int v)) s') (K46 : ∀ (x7 : Int32) (x8 : Int32) (s : ps_S), ps_is r1 5 = true → ps_is r2 5 = true → ps_is r3 5 = true → xJ m t s → ps_At (d + 2) 56 46 [(1, .ref r1), (2, .ref r2), (3, .ref r3), (4, .int x4), (5, .int x5), (6, .int x6), (7, .int x7), (8, .int x8), (9, .int (x9 + 1))] [] s Q) : ps_At (d + 2) 56 117 [(1, .ref r1), (2, .ref r2), (3, .ref r3), (4, .int x4), (5, .int x5), (6, .int x6), (7, .int x7), (8, .int x8), (9, .int x9)] [] s Q :=
  pg_56_117 (d := d + 1) (ps_nk_i h1 (xs_92 h1 J (fun v1 => (ps_nk_i h3 (xs_92 h3 J (fun v2 => (And.intro (fun f1 => (k 0 s (by decide) J)) (fun f1 => (K46 ((x7 + 1)) ((x8 + 1)) s h1 h2 h3 J)))))))))


theorem xs_56_149 {m s : ps_S} {t : Int32} {d : Nat} {r1 : Nat} {r3 : Nat} {x7 : Int32} {x8 : Int32} {Q : Option Value → ps_S → Prop} (h1 : ps_is r1 5 = true) (h3 : ps_is r3 5 = true) (J : xJ m t s) (k : ∀ (v : Int32) (s' : ps_S), v &&& 1 = v → xJ m t s' → Q (some (.int v)) s') : ps_At (d + 2) 56 149 [(1, .ref r1), (3, .ref r3), (7, .int x7), (8, .int x8)] [] s Q :=
  pg_56_149 (d := d + 1) (ps_nk_i h1 (And.intro (fun f1 => (k 0 s (by decide) J)) (fun f1 => (ps_nk_i h3 (And.intro (fun f2 => (k 0 s (by decide) J)) (fun f2 => (k 1 s (by decide) J)))))))

