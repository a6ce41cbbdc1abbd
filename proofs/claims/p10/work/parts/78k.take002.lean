set_option maxRecDepth 100000
theorem pl_34_7 {n : Nat} {r0 : Nat} {r2 : Nat} {x3 : Int32} {s : ps_S} {Q : Option Value → ps_S → Prop} (h :
  pl_nk (ps_is r0 2) (((ps_i s r0 7) ≤ x3 →
    Q none s) ∧
  (x3 < (ps_i s r0 7) →
    pl_Cl n 35 [.ref r0, .int x3, .ref r2] s (ps_rI (fun v1 s1 =>
      pl_nk (ps_is r0 2) (pl_nk (ps_is r0 2) (((ps_i (ps_ui s1 r0 9 v1) r0 9) = 0 →
        pl_nk (ps_is r0 2) (pl_At n 34 7 [(0, .ref r0), (2, .ref r2), (3, .int (x3 + 1))] [] (ps_ui (ps_ui s1 r0 9 v1) r0 8 (x3 + 1)) Q)) ∧
      ((ps_i (ps_ui s1 r0 9 v1) r0 9) ≠ 0 →
        Q none (ps_ui s1 r0 9 v1))))))))) : pl_At (n + 1) 34 7 [(0, .ref r0), (2, .ref r2), (3, .int x3)] [] s Q :=
  pl_wp_at (stops := [(7, [0, 2, 3])]) (f := 24) h rfl

