set_option maxRecDepth 100000
theorem pg_129_0 {d : Nat} {r0 : Nat} {l1 : Int64} {s : ps_S} {Q : Option Value → ps_S → Prop} (h :
  ps_nk (ps_is r0 9) (ps_nk (ps_is r0 9) (ps_Cl d 131 [.ref (ps_c0 r0 2), .int (ps_i s r0 8), .long l1] s (ps_rI (fun v1 s1 =>
    Q (some (.int v1)) s1))))) : ps_At (d + 1) 129 0 [(0, .ref r0), (1, .long l1)] [] s Q :=
  ps_wp_at (stops := []) (n := 9) h rfl

theorem xs_129 {m s : ps_S} {t : Int32} {d : Nat} {r0 : Nat} {l1 : Int64} {f : Int32 → ps_S → Prop} (h0 : ps_is r0 9 = true) (J : xJ m t s) (k : ∀ (v : Int32), f v s) : ps_Cl (d + 1) 129 [.ref r0, .long l1] s (ps_rI f) :=
  pg_129_0 (d := d) (ps_nk_i h0 (ps_nk_i h0 (xs_131 (xk_9_2 h0) J (fun v1 => (k v1)))))

-- ProofBench$Theory.isSymbol(J)Z
theorem pg_130_0 {d : Nat} {r0 : Nat} {l1 : Int64} {s : ps_S} {Q : Option Value → ps_S → Prop} (h :
  ps_nk (ps_is r0 9) (ps_nk (ps_is r0 9) (ps_Cl d 131 [.ref (ps_c0 r0 0), .int (ps_i s r0 6), .long l1] s (ps_rI (fun v1 s1 =>
    (v1 ≠ (-1) →
      Q (some (.int 1)) s1) ∧
    (v1 = (-1) →
      ps_nk (ps_is r0 9) (ps_nk (ps_is r0 9) (ps_Cl d 131 [.ref (ps_c0 r0 1), .int (ps_i s1 r0 7), .long l1] s1 (ps_rI (fun v2 s2 =>
        (v2 = (-1) →
          Q (some (.int 0)) s2) ∧
        (v2 ≠ (-1) →
          Q (some (.int 1)) s2))))))))))) : ps_At (d + 1) 130 0 [(0, .ref r0), (1, .long l1)] [] s Q :=
  ps_wp_at (stops := []) (n := 26) h rfl

theorem xs_130 {m s : ps_S} {t : Int32} {d : Nat} {r0 : Nat} {l1 : Int64} {f : Int32 → ps_S → Prop} (h0 : ps_is r0 9 = true) (J : xJ m t s) (k : ∀ (v : Int32), v &&& 1 = v → f v s) : ps_Cl (d + 1) 130 [.ref r0, .long l1] s (ps_rI f) :=
  pg_130_0 (d := d) (ps_nk_i h0 (ps_nk_i h0 (xs_131 (xk_9_0 h0) J (fun v1 => (And.intro (fun f1 => (k 1 (by decide))) (fun f1 => (ps_nk_i h0 (ps_nk_i h0 (xs_131 (xk_9_1 h0) J (fun v2 => (And.intro (fun f2 => (k 0 (by decide))) (fun f2 => (k 1 (by decide))))))))))))))

-- ProofBench$Reader.isX()Z
theorem pg_77_0 {d : Nat} {r0 : Nat} {s : ps_S} {Q : Option Value → ps_S → Prop} (h :
  ps_nk (ps_is r0 3) (ps_nk (ps_is (ps_c0 r0 0) 10) (((ps_i s (ps_c0 r0 0) 4) ≠ 2 →
    Q (some (.int 0)) s) ∧
  ((ps_i s (ps_c0 r0 0) 4) = 2 →
    ps_nk (ps_is r0 3) (ps_nk (ps_is r0 3) (ps_nk (ps_is (ps_c0 r0 0) 10) (ps_nk (ps_is (ps_r s r0 5) 9) (ps_Cl d 130 [.ref (ps_r s r0 5), .long (ps_j s (ps_c0 r0 0) 8)] s (ps_rI (fun v1 s1 =>
      (v1 ≠ 0 →
        Q (some (.int 0)) s1) ∧
      (v1 = 0 →
        Q (some (.int 1)) s1))))))))))) : ps_At (d + 1) 77 0 [(0, .ref r0)] [] s Q :=
  ps_wp_at (stops := []) (n := 21) h rfl

