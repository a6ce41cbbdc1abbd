set_option maxRecDepth 100000
theorem xs_77 {m s : ps_S} {t : Int32} {d : Nat} {r0 : Nat} {f : Int32 → ps_S → Prop} (h0 : ps_is r0 3 = true) (J : xJ m t s) (k : ∀ (v : Int32), v &&& 1 = v → f v s) : ps_Cl (d + 2) 77 [.ref r0] s (ps_rI f) :=
  pg_77_0 (d := d + 1) (ps_nk_i h0 (ps_nk_i (xk_3_0 h0) (And.intro (fun f1 => (k 0 (by decide))) (fun f1 => (ps_nk_i h0 (ps_nk_i h0 (ps_nk_i (xk_3_0 h0) (ps_nk_i (xj_3_5 J h0) (xs_130 (xj_3_5 J h0) J (fun v1 b1 => (And.intro (fun f2 => (k 0 (by decide))) (fun f2 => (k 1 (by decide))))))))))))))

-- ProofBench$Reader.hasRoom(II)Z
theorem pg_73_0 {d : Nat} {r0 : Nat} {x1 : Int32} {x2 : Int32} {s : ps_S} {Q : Option Value → ps_S → Prop} (h :
  (12 < x1 →
    Q (some (.int 0)) s) ∧
  (x1 ≤ 12 →
    ps_nk (ps_is r0 3) (ps_nk (ps_is (ps_r s r0 6) 5) (ps_nk (ps_is r0 3) ((40 < (((ps_i s (ps_r s r0 6) 1) + (ps_i s r0 7)) + x2) →
      Q (some (.int 0)) s) ∧
    ((((ps_i s (ps_r s r0 6) 1) + (ps_i s r0 7)) + x2) ≤ 40 →
      Q (some (.int 1)) s)))))) : ps_At d 73 0 [(0, .ref r0), (1, .int x1), (2, .int x2)] [] s Q :=
  ps_wp_at (stops := []) (n := 22) h rfl

theorem xs_73 {m s : ps_S} {t : Int32} {d : Nat} {r0 : Nat} {x1 : Int32} {x2 : Int32} {f : Int32 → ps_S → Prop} (h0 : ps_is r0 3 = true) (J : xJ m t s) (k : ∀ (v : Int32), v &&& 1 = v → (v ≠ 0 → x1 ≤ 12) → f v s) : ps_Cl d 73 [.ref r0, .int x1, .int x2] s (ps_rI f) :=
  pg_73_0 (And.intro (fun f1 => (k 0 (by decide) (fun z => absurd rfl z))) (fun f1 => (ps_nk_i h0 (ps_nk_i (xj_3_6 J h0) (ps_nk_i h0 (And.intro (fun f2 => (k 0 (by decide) (fun z => absurd rfl z))) (fun f2 => (k 1 (by decide) (fun _ => f1)))))))))

-- ProofBench$Theory.relOf(J)I
theorem pg_127_0 {d : Nat} {r0 : Nat} {l1 : Int64} {s : ps_S} {Q : Option Value → ps_S → Prop} (h :
  ps_nk (ps_is r0 9) (ps_nk (ps_is r0 9) (ps_Cl d 131 [.ref (ps_c0 r0 0), .int (ps_i s r0 6), .long l1] s (ps_rI (fun v1 s1 =>
    Q (some (.int v1)) s1))))) : ps_At (d + 1) 127 0 [(0, .ref r0), (1, .long l1)] [] s Q :=
  ps_wp_at (stops := []) (n := 9) h rfl

theorem xs_127 {m s : ps_S} {t : Int32} {d : Nat} {r0 : Nat} {l1 : Int64} {f : Int32 → ps_S → Prop} (h0 : ps_is r0 9 = true) (J : xJ m t s) (k : ∀ (v : Int32), f v s) : ps_Cl (d + 1) 127 [.ref r0, .long l1] s (ps_rI f) :=
  pg_127_0 (d := d) (ps_nk_i h0 (ps_nk_i h0 (xs_131 (xk_9_0 h0) J (fun v1 => (k v1)))))

-- ProofBench$Reader.formulaPiece()I
