set_option maxRecDepth 100000
theorem pl_56_117 {n : Nat} {r1 : Nat} {r2 : Nat} {r3 : Nat} {x4 : Int32} {x5 : Int32} {x6 : Int32} {x7 : Int32} {x8 : Int32} {x9 : Int32} {s : ps_S} {Q : Option Value → ps_S → Prop} (h :
  pl_Cl n 92 [.ref r1, .int x7] s (ps_rI (fun v1 s1 =>
    pl_Cl n 92 [.ref r3, .int x8] s1 (ps_rI (fun v2 s2 =>
      (v1 ≠ v2 →
        Q (some (.int 0)) s2) ∧
      (v1 = v2 →
        pl_At n 56 46 [(1, .ref r1), (2, .ref r2), (3, .ref r3), (4, .int x4), (5, .int x5), (6, .int x6), (7, .int (x7 + 1)), (8, .int (x8 + 1)), (9, .int (x9 + 1))] [] s2 Q)))))) : pl_At (n + 1) 56 117 [(1, .ref r1), (2, .ref r2), (3, .ref r3), (4, .int x4), (5, .int x5), (6, .int x6), (7, .int x7), (8, .int x8), (9, .int x9)] [] s Q :=
  pl_wp_at (stops := [(46, [1, 2, 3, 4, 5, 6, 7, 8, 9]), (117, [1, 2, 3, 4, 5, 6, 7, 8, 9]), (149, [1, 3, 7, 8])]) (f := 16) h rfl


theorem pl_56_149 {n : Nat} {r1 : Nat} {r3 : Nat} {x7 : Int32} {x8 : Int32} {s : ps_S} {Q : Option Value → ps_S → Prop} (h :
  pl_nk (ps_is r1 5) ((x7 ≠ (ps_i s r1 1) →
    Q (some (.int 0)) s) ∧
  (x7 = (ps_i s r1 1) →
    pl_nk (ps_is r3 5) ((x8 ≠ (ps_i s r3 1) →
      Q (some (.int 0)) s) ∧
    (x8 = (ps_i s r3 1) →
      Q (some (.int 1)) s))))) : pl_At (n + 1) 56 149 [(1, .ref r1), (3, .ref r3), (7, .int x7), (8, .int x8)] [] s Q :=
  pl_wp_at (stops := [(46, [1, 2, 3, 4, 5, 6, 7, 8, 9]), (117, [1, 2, 3, 4, 5, 6, 7, 8, 9]), (149, [1, 3, 7, 8])]) (f := 17) h rfl

