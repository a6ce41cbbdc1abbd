set_option maxRecDepth 100000
-- ProofBench$Reader.begin([BILProofBench$Theory;)V
theorem pg_61_0 {d : Nat} {r0 : Nat} {r1 : Nat} {x2 : Int32} {r3 : Nat} {s : ps_S} {Q : Option Value → ps_S → Prop} (h :
  ps_nk (ps_is r0 3) (ps_nk (ps_is r0 3) (ps_nk (ps_is r0 3) (ps_nk (ps_is r0 3) (ps_nk (ps_is r0 3) (ps_nk (ps_is r0 3) (ps_nk (ps_is r0 3) (ps_nk (ps_is (ps_c0 r0 0) 10) (ps_Cl d 139 [.ref (ps_c0 r0 0), .ref r1, .int x2] (ps_ui (ps_ui (ps_ui (ps_ui (ps_ui (ps_ur s r0 5 r3) r0 2 0) r0 4 0) r0 8 0) r0 9 0) r0 10 (-1)) (ps_rV (fun s1 =>
    Q none s1))))))))))) : ps_At (d + 1) 61 0 [(0, .ref r0), (1, .ref r1), (2, .int x2), (3, .ref r3)] [] s Q :=
  ps_wp_at (stops := []) (n := 26) h rfl

theorem xs_61 {m s : ps_S} {t : Int32} {d : Nat} {r0 : Nat} {r1 : Nat} {x2 : Int32} {r3 : Nat} {f : ps_S → Prop} (h0 : ps_is r0 3 = true) (h1 : ps_ar r1 1 = true ∧ r1 < 1131) (h3 : ps_is r3 9 = true) (J : xJ m t s) (k : ∀ (s' : ps_S), xJ m t s' → f s') : ps_Cl (d + 4) 61 [.ref r0, .ref r1, .int x2, .ref r3] s (ps_rV f) :=
  pg_61_0 (d := d + 3) (ps_nk_i h0 (ps_nk_i h0 (ps_nk_i h0 (ps_nk_i h0 (ps_nk_i h0 (ps_nk_i h0 (ps_nk_i h0 (ps_nk_i (xk_3_0 h0) (xs_139 (xk_3_0 h0) h1 (xw_i (c := 3) (by decide) h0 (xw_i (c := 3) (by decide) h0 (xw_i (c := 3) (by decide) h0 (xw_i (c := 3) (by decide) h0 (xw_i (c := 3) (by decide) h0 (xw_3_5 h0 h3 J)))))) (fun s1 J1 => (k s1 J1)))))))))))

-- ProofBench$Theory.isFull(I)Z
theorem pg_132_0 {d : Nat} {r0 : Nat} {x1 : Int32} {s : ps_S} {Q : Option Value → ps_S → Prop} (h :
  (x1 = 8 →
    ps_nk (ps_is r0 9) (((ps_i s r0 6) < 6 →
      Q (some (.int 0)) s) ∧
    (6 ≤ (ps_i s r0 6) →
      Q (some (.int 1)) s))) ∧
  (x1 ≠ 8 →
    (x1 = 9 →
    ps_nk (ps_is r0 9) (((ps_i s r0 7) < 4 →
      Q (some (.int 0)) s) ∧
    (4 ≤ (ps_i s r0 7) →
      Q (some (.int 1)) s))) ∧
  (x1 ≠ 9 →
    ps_nk (ps_is r0 9) (((ps_i s r0 8) < 8 →
    Q (some (.int 0)) s) ∧
  (8 ≤ (ps_i s r0 8) →
    Q (some (.int 1)) s))))) : ps_At d 132 0 [(0, .ref r0), (1, .int x1)] [] s Q :=
  ps_wp_at (stops := []) (n := 31) h rfl

theorem xs_132 {m s : ps_S} {t : Int32} {d : Nat} {r0 : Nat} {x1 : Int32} {f : Int32 → ps_S → Prop} (h0 : ps_is r0 9 = true) (J : xJ m t s) (k : ∀ (v : Int32), v &&& 1 = v → f v s) : ps_Cl d 132 [.ref r0, .int x1] s (ps_rI f) :=
  pg_132_0 (And.intro (fun f1 => (ps_nk_i h0 (And.intro (fun f2 => (k 0 (by decide))) (fun f2 => (k 1 (by decide)))))) (fun f1 => (And.intro (fun f3 => (ps_nk_i h0 (And.intro (fun f4 => (k 0 (by decide))) (fun f4 => (k 1 (by decide)))))) (fun f3 => (ps_nk_i h0 (And.intro (fun f5 => (k 0 (by decide))) (fun f5 => (k 1 (by decide)))))))))

-- ProofBench$Reader.refuse(I)Z
theorem pg_62_0 {d : Nat} {r0 : Nat} {x1 : Int32} {s : ps_S} {Q : Option Value → ps_S → Prop} (h :
  ps_nk (ps_is r0 3) (ps_nk (ps_is (ps_c0 r0 0) 10) (((ps_i s (ps_c0 r0 0) 4) ≠ 1 →
    ps_nk (ps_is r0 3) (ps_nk (ps_is r0 3) (ps_nk (ps_is (ps_c0 r0 0) 10) (ps_nk (ps_is r0 3) (Q (some (.int 0)) (ps_ui (ps_ui s r0 9 x1) r0 10 (ps_i (ps_ui s r0 9 x1) (ps_c0 r0 0) 5))))))) ∧
  ((ps_i s (ps_c0 r0 0) 4) = 1 →
    ps_nk (ps_is r0 3) (ps_nk (ps_is r0 3) (ps_nk (ps_is (ps_c0 r0 0) 10) (ps_nk (ps_is r0 3) (Q (some (.int 0)) (ps_ui (ps_ui s r0 9 1) r0 10 (ps_i (ps_ui s r0 9 1) (ps_c0 r0 0) 5)))))))))) : ps_At d 62 0 [(0, .ref r0), (1, .int x1)] [] s Q :=
  ps_wp_at (stops := []) (n := 27) h rfl

theorem xs_62 {m s : ps_S} {t : Int32} {d : Nat} {r0 : Nat} {x1 : Int32} {f : Int32 → ps_S → Prop} (h0 : ps_is r0 3 = true) (J : xJ m t s) (k : ∀ (v : Int32) (s' : ps_S), v &&& 1 = v → xJ m t s' → f v s') : ps_Cl d 62 [.ref r0, .int x1] s (ps_rI f) :=
  pg_62_0 (ps_nk_i h0 (ps_nk_i (xk_3_0 h0) (And.intro (fun f1 => (ps_nk_i h0 (ps_nk_i h0 (ps_nk_i (xk_3_0 h0) (ps_nk_i h0 (k 0 (ps_ui (ps_ui s r0 9 x1) r0 10 (ps_i (ps_ui s r0 9 x1) (ps_c0 r0 0) 5)) (by decide) (xw_i (c := 3) (by decide) h0 (xw_i (c := 3) (by decide) h0 J)))))))) (fun f1 => (ps_nk_i h0 (ps_nk_i h0 (ps_nk_i (xk_3_0 h0) (ps_nk_i h0 (k 0 (ps_ui (ps_ui s r0 9 1) r0 10 (ps_i (ps_ui s r0 9 1) (ps_c0 r0 0) 5)) (by decide) (xw_i (c := 3) (by decide) h0 (xw_i (c := 3) (by decide) h0 J)))))))))))

-- ProofBench$Theory.find([JIJ)I
theorem pg_131_0 {d : Nat} {r0 : Nat} {x1 : Int32} {l2 : Int64} {s : ps_S} {Q : Option Value → ps_S → Prop} (h :
  ps_At d 131 3 [(0, .ref r0), (1, .int x1), (2, .long l2), (4, .int 0)] [] s Q) : ps_At d 131 0 [(0, .ref r0), (1, .int x1), (2, .long l2)] [] s Q :=
  ps_wp_at (stops := [(3, [0, 1, 2, 4])]) (n := 4) h rfl

theorem pg_131_3 {d : Nat} {r0 : Nat} {x1 : Int32} {l2 : Int64} {x4 : Int32} {s : ps_S} {Q : Option Value → ps_S → Prop} (h :
  (x1 ≤ x4 →
    Q (some (.int (-1))) s) ∧
  (x4 < x1 →
    ps_nk (Nat.beq (ps_K r0).1 0) (((nI (ps_ln r0)) ≤ x4 →
      Q (some (.int (-1))) s) ∧
    (x4 < (nI (ps_ln r0)) →
      ps_nk (ps_ar r0 3) (ps_nd (pm_in x4 (ps_ln r0)) (((lg_cmp (ps_b s r0 (Int32.toNatClampNeg x4)) l2) ≠ 0 →
        ps_At d 131 3 [(0, .ref r0), (1, .int x1), (2, .long l2), (4, .int (x4 + 1))] [] s Q) ∧
      ((lg_cmp (ps_b s r0 (Int32.toNatClampNeg x4)) l2) = 0 →
        Q (some (.int x4)) s))))))) : ps_At d 131 3 [(0, .ref r0), (1, .int x1), (2, .long l2), (4, .int x4)] [] s Q :=
  ps_wp_at (stops := [(3, [0, 1, 2, 4])]) (n := 23) h rfl

theorem xs_131_3 {m s : ps_S} {t : Int32} {d : Nat} {r0 : Nat} {x1 : Int32} {l2 : Int64} {x4 : Int32} {Q : Option Value → ps_S → Prop} (h0 : ps_ar r0 3 = true ∧ r0 < 1131) (e0 : 0 ≤ x4) (J : xJ m t s) (k : ∀ (v : Int32), Q (some (.int v)) s) : ps_At d 131 3 [(0, .ref r0), (1, .int x1), (2, .long l2), (4, .int x4)] [] s Q :=
  xs_up (P := fun x4 => ps_ar r0 3 = true ∧ r0 < 1131 → 0 ≤ x4 → ps_At d 131 3 [(0, .ref r0), (1, .int x1), (2, .long l2), (4, .int x4)] [] s Q) (fun x4 ih h0 e0 => pg_131_3 (And.intro (fun f1 => (k (-1))) (fun f1 => (ps_nk_i (xn_l (h0).1) (And.intro (fun f2 => (k (-1))) (fun f2 => (ps_nk_i (xn_3 (h0).1) (ps_nd_i (xg_in e0 f2) (And.intro (fun f3 => (ih ((x4 + 1)) (xs_lt f1) h0 (xs_nn e0 f1))) (fun f3 => (k x4))))))))))) x4 h0 e0

theorem xs_131 {m s : ps_S} {t : Int32} {d : Nat} {r0 : Nat} {x1 : Int32} {l2 : Int64} {f : Int32 → ps_S → Prop} (h0 : ps_ar r0 3 = true ∧ r0 < 1131) (J : xJ m t s) (k : ∀ (v : Int32), f v s) : ps_Cl d 131 [.ref r0, .int x1, .long l2] s (ps_rI f) :=
  pg_131_0 (xs_131_3 (d := d) (r0 := r0) (x1 := x1) (l2 := l2) (x4 := 0)  h0 (by decide) J k )

-- ProofBench$Theory.axiomOf(J)I
theorem pg_129_0 {d : Nat} {r0 : Nat} {l1 : Int64} {s : ps_S} {Q : Option Value → ps_S → Prop} (h :
  ps_nk (ps_is r0 9) (ps_nk (ps_is r0 9) (ps_Cl d 131 [.ref (ps_c0 r0 2), .int (ps_i s r0 8), .long l1] s (ps_rI (fun v1 s1 =>
    Q (some (.int v1)) s1))))) : ps_At (d + 1) 129 0 [(0, .ref r0), (1, .long l1)] [] s Q :=
  ps_wp_at (stops := []) (n := 9) h rfl

theorem xs_129 {m s : ps_S} {t : Int32} {d : Nat} {r0 : Nat} {l1 : Int64} {f : Int32 → ps_S → Prop} (h0 : ps_is r0 9 = true) (J : xJ m t s) (k : ∀ (v : Int32), f v s) : ps_Cl (d + 1) 129 [.ref r0, .long l1] s (ps_rI f) :=
  pg_129_0 (d := d) (ps_nk_i h0 (ps_nk_i h0 (xs_131 (xk_9_2 h0) J (fun v1 => (k v1)))))

-- ProofBench$Theory.isSymbol(J)Z
theorem pg_130_0 {d : Nat} {r0 : Nat} {l1 : Int64} {s : ps_S} {Q : Option Value → ps_S → Prop} (h :
  ps_nk (ps_is r0 9) (ps_nk (ps_is r0 9) (ps_Cl d 131 [.ref (ps_c0 r0 0), .int (ps_i s r0 6), .long l1] s (ps_rI (fun v1 s1 =>
    (v1 ≠ (-1) →
      Q (some (.int 1)) s1) ∧
    (v1 = (-1) →
      ps_nk (ps_is r0 9) (ps_nk (ps_is r0 9) (ps_Cl d 131 [.ref (ps_c0 r0 1), .int (ps_i s1 r0 7), .long l1] s1 (ps_rI (fun v2 s2 =>
        (v2 = (-1) →
          Q (some (.int 0)) s2) ∧
        (v2 ≠ (-1) →
          Q (some (.int 1)) s2))))))))))) : ps_At (d + 1) 130 0 [(0, .ref r0), (1, .long l1)] [] s Q :=
  ps_wp_at (stops := []) (n := 26) h rfl

theorem xs_130 {m s : ps_S} {t : Int32} {d : Nat} {r0 : Nat} {l1 : Int64} {f : Int32 → ps_S → Prop} (h0 : ps_is r0 9 = true) (J : xJ m t s) (k : ∀ (v : Int32), v &&& 1 = v → f v s) : ps_Cl (d + 1) 130 [.ref r0, .long l1] s (ps_rI f) :=
  pg_130_0 (d := d) (ps_nk_i h0 (ps_nk_i h0 (xs_131 (xk_9_0 h0) J (fun v1 => (And.intro (fun f1 => (k 1 (by decide))) (fun f1 => (ps_nk_i h0 (ps_nk_i h0 (xs_131 (xk_9_1 h0) J (fun v2 => (And.intro (fun f2 => (k 0 (by decide))) (fun f2 => (k 1 (by decide))))))))))))))

-- ProofBench$Reader.isX()Z
theorem pg_77_0 {d : Nat} {r0 : Nat} {s : ps_S} {Q : Option Value → ps_S → Prop} (h :
  ps_nk (ps_is r0 3) (ps_nk (ps_is (ps_c0 r0 0) 10) (((ps_i s (ps_c0 r0 0) 4) ≠ 2 →
    Q (some (.int 0)) s) ∧
  ((ps_i s (ps_c0 r0 0) 4) = 2 →
    ps_nk (ps_is r0 3) (ps_nk (ps_is r0 3) (ps_nk (ps_is (ps_c0 r0 0) 10) (ps_nk (ps_is (ps_r s r0 5) 9) (ps_Cl d 130 [.ref (ps_r s r0 5), .long (ps_j s (ps_c0 r0 0) 8)] s (ps_rI (fun v1 s1 =>
      (v1 ≠ 0 →
        Q (some (.int 0)) s1) ∧
      (v1 = 0 →
        Q (some (.int 1)) s1))))))))))) : ps_At (d + 1) 77 0 [(0, .ref r0)] [] s Q :=
  ps_wp_at (stops := []) (n := 21) h rfl

theorem xs_77 {m s : ps_S} {t : Int32} {d : Nat} {r0 : Nat} {f : Int32 → ps_S → Prop} (h0 : ps_is r0 3 = true) (J : xJ m t s) (k : ∀ (v : Int32), v &&& 1 = v → f v s) : ps_Cl (d + 2) 77 [.ref r0] s (ps_rI f) :=
  pg_77_0 (d := d + 1) (ps_nk_i h0 (ps_nk_i (xk_3_0 h0) (And.intro (fun f1 => (k 0 (by decide))) (fun f1 => (ps_nk_i h0 (ps_nk_i h0 (ps_nk_i (xk_3_0 h0) (ps_nk_i (xj_3_5 J h0) (xs_130 (xj_3_5 J h0) J (fun v1 b1 => (And.intro (fun f2 => (k 0 (by decide))) (fun f2 => (k 1 (by decide))))))))))))))

-- ProofBench$Reader.hasRoom(II)Z
theorem pg_73_0 {d : Nat} {r0 : Nat} {x1 : Int32} {x2 : Int32} {s : ps_S} {Q : Option Value → ps_S → Prop} (h :
  (12 < x1 →
    Q (some (.int 0)) s) ∧
  (x1 ≤ 12 →
    ps_nk (ps_is r0 3) (ps_nk (ps_is (ps_r s r0 6) 5) (ps_nk (ps_is r0 3) ((40 < (((ps_i s (ps_r s r0 6) 1) + (ps_i s r0 7)) + x2) →
      Q (some (.int 0)) s) ∧
    ((((ps_i s (ps_r s r0 6) 1) + (ps_i s r0 7)) + x2) ≤ 40 →
      Q (some (.int 1)) s)))))) : ps_At d 73 0 [(0, .ref r0), (1, .int x1), (2, .int x2)] [] s Q :=
  ps_wp_at (stops := []) (n := 22) h rfl

theorem xs_73 {m s : ps_S} {t : Int32} {d : Nat} {r0 : Nat} {x1 : Int32} {x2 : Int32} {f : Int32 → ps_S → Prop} (h0 : ps_is r0 3 = true) (J : xJ m t s) (k : ∀ (v : Int32), v &&& 1 = v → (v ≠ 0 → x1 ≤ 12) → f v s) : ps_Cl d 73 [.ref r0, .int x1, .int x2] s (ps_rI f) :=
  pg_73_0 (And.intro (fun f1 => (k 0 (by decide) (fun z => absurd rfl z))) (fun f1 => (ps_nk_i h0 (ps_nk_i (xj_3_6 J h0) (ps_nk_i h0 (And.intro (fun f2 => (k 0 (by decide) (fun z => absurd rfl z))) (fun f2 => (k 1 (by decide) (fun _ => f1)))))))))

-- ProofBench$Theory.relOf(J)I
theorem pg_127_0 {d : Nat} {r0 : Nat} {l1 : Int64} {s : ps_S} {Q : Option Value → ps_S → Prop} (h :
  ps_nk (ps_is r0 9) (ps_nk (ps_is r0 9) (ps_Cl d 131 [.ref (ps_c0 r0 0), .int (ps_i s r0 6), .long l1] s (ps_rI (fun v1 s1 =>
    Q (some (.int v1)) s1))))) : ps_At (d + 1) 127 0 [(0, .ref r0), (1, .long l1)] [] s Q :=
  ps_wp_at (stops := []) (n := 9) h rfl

theorem xs_127 {m s : ps_S} {t : Int32} {d : Nat} {r0 : Nat} {l1 : Int64} {f : Int32 → ps_S → Prop} (h0 : ps_is r0 9 = true) (J : xJ m t s) (k : ∀ (v : Int32), f v s) : ps_Cl (d + 1) 127 [.ref r0, .long l1] s (ps_rI f) :=
  pg_127_0 (d := d) (ps_nk_i h0 (ps_nk_i h0 (xs_131 (xk_9_0 h0) J (fun v1 => (k v1)))))

-- ProofBench$Reader.formulaPiece()I
theorem pg_72_0 {d : Nat} {r0 : Nat} {s : ps_S} {Q : Option Value → ps_S → Prop} (h :
  ps_nk (ps_is r0 3) (ps_nk (ps_is (ps_c0 r0 0) 10) (((ps_i s (ps_c0 r0 0) 6) < 0 →
    ps_At (d + 1) 72 30 [(0, .ref r0)] [] s Q) ∧
  (0 ≤ (ps_i s (ps_c0 r0 0) 6) →
    ps_nk (ps_is r0 3) (ps_nk (ps_is (ps_c0 r0 0) 10) ((6 < (ps_i s (ps_c0 r0 0) 6) →
      ps_At (d + 1) 72 30 [(0, .ref r0)] [] s Q) ∧
    ((ps_i s (ps_c0 r0 0) 6) ≤ 6 →
      ps_nk (ps_is r0 3) (ps_nk (ps_is (ps_c0 r0 0) 10) (Q (some (.int (ps_i s (ps_c0 r0 0) 6))) s))))))))) : ps_At (d + 1) 72 0 [(0, .ref r0)] [] s Q :=
  ps_wp_at (stops := [(30, [0])]) (n := 15) h rfl

theorem pg_72_30 {d : Nat} {r0 : Nat} {s : ps_S} {Q : Option Value → ps_S → Prop} (h :
  ps_nk (ps_is r0 3) (ps_nk (ps_is (ps_c0 r0 0) 10) (((ps_i s (ps_c0 r0 0) 4) ≠ 2 →
    ((-1 : Int32) ≠ (-1) →
      Q (some (.int ((10 : Int32) + (-1)))) s) ∧
    ((-1 : Int32) = (-1) →
      Q (some (.int (-1))) s)) ∧
  ((ps_i s (ps_c0 r0 0) 4) = 2 →
    ps_nk (ps_is r0 3) (ps_nk (ps_is r0 3) (ps_nk (ps_is (ps_c0 r0 0) 10) (ps_nk (ps_is (ps_r s r0 5) 9) (ps_Cl d 127 [.ref (ps_r s r0 5), .long (ps_j s (ps_c0 r0 0) 8)] s (ps_rI (fun v1 s1 =>
      (v1 ≠ (-1) →
        Q (some (.int ((10 : Int32) + v1))) s1) ∧
      (v1 = (-1) →
        Q (some (.int (-1))) s1))))))))))) : ps_At (d + 1) 72 30 [(0, .ref r0)] [] s Q :=
  ps_wp_at (stops := [(30, [0])]) (n := 37) h rfl

theorem xs_72_30 {m s : ps_S} {t : Int32} {d : Nat} {r0 : Nat} {Q : Option Value → ps_S → Prop} (h0 : ps_is r0 3 = true) (J : xJ m t s) (k : ∀ (v : Int32), Q (some (.int v)) s) : ps_At (d + 2) 72 30 [(0, .ref r0)] [] s Q :=
  pg_72_30 (d := d + 1) (ps_nk_i h0 (ps_nk_i (xk_3_0 h0) (And.intro (fun f1 => (And.intro (fun f2 => (k ((10 : Int32) + (-1)))) (fun f2 => (k (-1))))) (fun f1 => (ps_nk_i h0 (ps_nk_i h0 (ps_nk_i (xk_3_0 h0) (ps_nk_i (xj_3_5 J h0) (xs_127 (xj_3_5 J h0) J (fun v1 => (And.intro (fun f3 => (k ((10 : Int32) + v1))) (fun f3 => (k (-1))))))))))))))

theorem xs_72 {m s : ps_S} {t : Int32} {d : Nat} {r0 : Nat} {f : Int32 → ps_S → Prop} (h0 : ps_is r0 3 = true) (J : xJ m t s) (k : ∀ (v : Int32), f v s) : ps_Cl (d + 2) 72 [.ref r0] s (ps_rI f) :=
  pg_72_0 (d := d + 1) (ps_nk_i h0 (ps_nk_i (xk_3_0 h0) (And.intro (fun f1 => (xs_72_30 (d := d) (r0 := r0)  h0 J k )) (fun f1 => (ps_nk_i h0 (ps_nk_i (xk_3_0 h0) (And.intro (fun f2 => (xs_72_30 (d := d) (r0 := r0)  h0 J k )) (fun f2 => (ps_nk_i h0 (ps_nk_i (xk_3_0 h0) (k (ps_i s (ps_c0 r0 0) 6))))))))))))

-- ProofBench$Theory.funOf(J)I
theorem pg_128_0 {d : Nat} {r0 : Nat} {l1 : Int64} {s : ps_S} {Q : Option Value → ps_S → Prop} (h :
  ps_nk (ps_is r0 9) (ps_nk (ps_is r0 9) (ps_Cl d 131 [.ref (ps_c0 r0 1), .int (ps_i s r0 7), .long l1] s (ps_rI (fun v1 s1 =>
    Q (some (.int v1)) s1))))) : ps_At (d + 1) 128 0 [(0, .ref r0), (1, .long l1)] [] s Q :=
  ps_wp_at (stops := []) (n := 9) h rfl

theorem xs_128 {m s : ps_S} {t : Int32} {d : Nat} {r0 : Nat} {l1 : Int64} {f : Int32 → ps_S → Prop} (h0 : ps_is r0 9 = true) (J : xJ m t s) (k : ∀ (v : Int32), f v s) : ps_Cl (d + 1) 128 [.ref r0, .long l1] s (ps_rI f) :=
  pg_128_0 (d := d) (ps_nk_i h0 (ps_nk_i h0 (xs_131 (xk_9_1 h0) J (fun v1 => (k v1)))))

-- ProofBench$Reader.freePiece()I
theorem pg_79_0 {d : Nat} {r0 : Nat} {s : ps_S} {Q : Option Value → ps_S → Prop} (h :
  ps_At d 79 2 [(0, .ref r0), (1, .int 0)] [] s Q) : ps_At d 79 0 [(0, .ref r0)] [] s Q :=
  ps_wp_at (stops := [(2, [0, 1]), (47, [0])]) (n := 4) h rfl

theorem pg_79_2 {d : Nat} {r0 : Nat} {x1 : Int32} {s : ps_S} {Q : Option Value → ps_S → Prop} (h :
  ps_nk (ps_is r0 3) (((ps_i s r0 2) ≤ x1 →
    ps_At d 79 47 [(0, .ref r0)] [] s Q) ∧
  (x1 < (ps_i s r0 2) →
    ps_nk (ps_is r0 3) (ps_nk (Nat.beq (ps_K (ps_c0 r0 1)).1 0) (((nI (ps_ln (ps_c0 r0 1))) ≤ x1 →
      ps_At d 79 47 [(0, .ref r0)] [] s Q) ∧
    (x1 < (nI (ps_ln (ps_c0 r0 1))) →
      ps_nk (ps_is r0 3) (ps_nk (ps_ar (ps_c0 r0 1) 3) (ps_nd (pm_in x1 (ps_ln (ps_c0 r0 1))) (ps_nk (ps_is r0 3) (ps_nk (ps_is (ps_c0 r0 0) 10) (((lg_cmp (ps_b s (ps_c0 r0 1) (Int32.toNatClampNeg x1)) (ps_j s (ps_c0 r0 0) 8)) ≠ 0 →
        ps_At d 79 2 [(0, .ref r0), (1, .int (x1 + 1))] [] s Q) ∧
      ((lg_cmp (ps_b s (ps_c0 r0 1) (Int32.toNatClampNeg x1)) (ps_j s (ps_c0 r0 0) 8)) = 0 →
        Q (some (.int ((60 : Int32) + x1))) s)))))))))))) : ps_At d 79 2 [(0, .ref r0), (1, .int x1)] [] s Q :=
  ps_wp_at (stops := [(2, [0, 1]), (47, [0])]) (n := 26) h rfl

theorem pg_79_47 {d : Nat} {r0 : Nat} {s : ps_S} {Q : Option Value → ps_S → Prop} (h :
  ps_nk (ps_is r0 3) (((ps_i s r0 2) < 0 →
    Q (some (.int (-1))) s) ∧
  (0 ≤ (ps_i s r0 2) →
    ps_nk (ps_is r0 3) (ps_nk (ps_is r0 3) (ps_nk (Nat.beq (ps_K (ps_c0 r0 1)).1 0) (((ps_i s r0 2) < (nI (ps_ln (ps_c0 r0 1))) →
      ps_nk (ps_is r0 3) (ps_nk (ps_is r0 3) (ps_nk (ps_is r0 3) (ps_nk (ps_is (ps_c0 r0 0) 10) (ps_nk (ps_ar (ps_c0 r0 1) 3) (ps_nd (pm_in (ps_i s r0 2) (ps_ln (ps_c0 r0 1))) (ps_nk (ps_is r0 3) (ps_nk (ps_is r0 3) (ps_nk (ps_is r0 3) (Q (some (.int (((60 : Int32) + (ps_i (ps_ui (ps_ub s (ps_c0 r0 1) (Int32.toNatClampNeg (ps_i s r0 2)) (ps_j s (ps_c0 r0 0) 8)) r0 2 ((ps_i (ps_ub s (ps_c0 r0 1) (Int32.toNatClampNeg (ps_i s r0 2)) (ps_j s (ps_c0 r0 0) 8)) r0 2) + 1)) r0 2)) - 1))) (ps_ui (ps_ub s (ps_c0 r0 1) (Int32.toNatClampNeg (ps_i s r0 2)) (ps_j s (ps_c0 r0 0) 8)) r0 2 ((ps_i (ps_ub s (ps_c0 r0 1) (Int32.toNatClampNeg (ps_i s r0 2)) (ps_j s (ps_c0 r0 0) 8)) r0 2) + 1)))))))))))) ∧
    ((nI (ps_ln (ps_c0 r0 1))) ≤ (ps_i s r0 2) →
      Q (some (.int (-1))) s))))))) : ps_At d 79 47 [(0, .ref r0)] [] s Q :=
  ps_wp_at (stops := [(2, [0, 1]), (47, [0])]) (n := 36) h rfl

theorem xs_79_47 {m s : ps_S} {t : Int32} {d : Nat} {r0 : Nat} {Q : Option Value → ps_S → Prop} (h0 : ps_is r0 3 = true) (J : xJ m t s) (k : ∀ (v : Int32) (s' : ps_S), xJ m t s' → Q (some (.int v)) s') : ps_At d 79 47 [(0, .ref r0)] [] s Q :=
  pg_79_47 (ps_nk_i h0 (And.intro (fun f1 => (k (-1) s J)) (fun f1 => (ps_nk_i h0 (ps_nk_i h0 (ps_nk_i (xn_l ((xk_3_1 h0)).1) (And.intro (fun f2 => (ps_nk_i h0 (ps_nk_i h0 (ps_nk_i h0 (ps_nk_i (xk_3_0 h0) (ps_nk_i (xn_3 ((xk_3_1 h0)).1) (ps_nd_i (xg_in f1 f2) (ps_nk_i h0 (ps_nk_i h0 (ps_nk_i h0 (k (((60 : Int32) + (ps_i (ps_ui (ps_ub s (ps_c0 r0 1) (Int32.toNatClampNeg (ps_i s r0 2)) (ps_j s (ps_c0 r0 0) 8)) r0 2 ((ps_i (ps_ub s (ps_c0 r0 1) (Int32.toNatClampNeg (ps_i s r0 2)) (ps_j s (ps_c0 r0 0) 8)) r0 2) + 1)) r0 2)) - 1) (ps_ui (ps_ub s (ps_c0 r0 1) (Int32.toNatClampNeg (ps_i s r0 2)) (ps_j s (ps_c0 r0 0) 8)) r0 2 ((ps_i (ps_ub s (ps_c0 r0 1) (Int32.toNatClampNeg (ps_i s r0 2)) (ps_j s (ps_c0 r0 0) 8)) r0 2) + 1)) (xw_i (c := 3) (by decide) h0 (xw_b (((xk_3_1 h0)).2) J))))))))))))) (fun f2 => (k (-1) s J)))))))))

theorem xs_79_2 {m s : ps_S} {t : Int32} {d : Nat} {r0 : Nat} {x1 : Int32} {Q : Option Value → ps_S → Prop} (h0 : ps_is r0 3 = true) (e0 : 0 ≤ x1) (J : xJ m t s) (k : ∀ (v : Int32) (s' : ps_S), xJ m t s' → Q (some (.int v)) s') : ps_At d 79 2 [(0, .ref r0), (1, .int x1)] [] s Q :=
  xs_up (P := fun x1 => ∀ (s : ps_S), ps_is r0 3 = true → 0 ≤ x1 → xJ m t s → ps_At d 79 2 [(0, .ref r0), (1, .int x1)] [] s Q) (fun x1 ih s h0 e0 J => pg_79_2 (ps_nk_i h0 (And.intro (fun f1 => (xs_79_47 (d := d) (r0 := r0)  h0 J k )) (fun f1 => (ps_nk_i h0 (ps_nk_i (xn_l ((xk_3_1 h0)).1) (And.intro (fun f2 => (xs_79_47 (d := d) (r0 := r0)  h0 J k )) (fun f2 => (ps_nk_i h0 (ps_nk_i (xn_3 ((xk_3_1 h0)).1) (ps_nd_i (xg_in e0 f2) (ps_nk_i h0 (ps_nk_i (xk_3_0 h0) (And.intro (fun f3 => (ih ((x1 + 1)) (xs_lt f1) s h0 (xs_nn e0 f1) J)) (fun f3 => (k ((60 : Int32) + x1) s J)))))))))))))))) x1 s h0 e0 J

theorem xs_79 {m s : ps_S} {t : Int32} {d : Nat} {r0 : Nat} {f : Int32 → ps_S → Prop} (h0 : ps_is r0 3 = true) (J : xJ m t s) (k : ∀ (v : Int32) (s' : ps_S), xJ m t s' → f v s') : ps_Cl d 79 [.ref r0] s (ps_rI f) :=
  pg_79_0 (xs_79_2 (d := d) (r0 := r0) (x1 := 0)  h0 (by decide) J k )

-- ProofBench$Reader.pieceOfX()I
theorem pg_78_0 {d : Nat} {r0 : Nat} {s : ps_S} {Q : Option Value → ps_S → Prop} (h :
  ps_At (d + 1) 78 2 [(0, .ref r0), (1, .int 0)] [] s Q) : ps_At (d + 1) 78 0 [(0, .ref r0)] [] s Q :=
  ps_wp_at (stops := [(2, [0, 1])]) (n := 4) h rfl

theorem pg_78_2 {d : Nat} {r0 : Nat} {x1 : Int32} {s : ps_S} {Q : Option Value → ps_S → Prop} (h :
  ps_nk (ps_is r0 3) (((ps_i s r0 4) ≤ x1 →
    ps_nk (ps_is r0 3) (((ps_i s r0 8) = 0 →
      ps_nk (ps_is r0 3) (ps_Cl d 79 [.ref r0] s (ps_rI (fun v1 s1 =>
        Q (some (.int v1)) s1)))) ∧
    ((ps_i s r0 8) ≠ 0 →
      Q (some (.int (-1))) s))) ∧
  (x1 < (ps_i s r0 4) →
    ps_nk (ps_is r0 3) (((((ps_i s r0 4) - 1) - x1) < 0 →
      ps_At (d + 1) 78 2 [(0, .ref r0), (1, .int (x1 + 1))] [] s Q) ∧
    (0 ≤ (((ps_i s r0 4) - 1) - x1) →
      ps_nk (ps_is r0 3) (ps_nk (Nat.beq (ps_K (ps_c0 r0 3)).1 0) (((nI (ps_ln (ps_c0 r0 3))) ≤ (((ps_i s r0 4) - 1) - x1) →
        ps_At (d + 1) 78 2 [(0, .ref r0), (1, .int (x1 + 1))] [] s Q) ∧
      ((((ps_i s r0 4) - 1) - x1) < (nI (ps_ln (ps_c0 r0 3))) →
        ps_nk (ps_is r0 3) (ps_nk (ps_ar (ps_c0 r0 3) 3) (ps_nd (pm_in (((ps_i s r0 4) - 1) - x1) (ps_ln (ps_c0 r0 3))) (ps_nk (ps_is r0 3) (ps_nk (ps_is (ps_c0 r0 0) 10) (((lg_cmp (ps_b s (ps_c0 r0 3) (Int32.toNatClampNeg (((ps_i s r0 4) - 1) - x1))) (ps_j s (ps_c0 r0 0) 8)) ≠ 0 →
          ps_At (d + 1) 78 2 [(0, .ref r0), (1, .int (x1 + 1))] [] s Q) ∧
        ((lg_cmp (ps_b s (ps_c0 r0 3) (Int32.toNatClampNeg (((ps_i s r0 4) - 1) - x1))) (ps_j s (ps_c0 r0 0) 8)) = 0 →
          Q (some (.int ((40 : Int32) + x1))) s)))))))))))))) : ps_At (d + 1) 78 2 [(0, .ref r0), (1, .int x1)] [] s Q :=
  ps_wp_at (stops := [(2, [0, 1])]) (n := 48) h rfl

theorem xs_78_2 {m s : ps_S} {t : Int32} {d : Nat} {r0 : Nat} {x1 : Int32} {Q : Option Value → ps_S → Prop} (h0 : ps_is r0 3 = true) (J : xJ m t s) (k : ∀ (v : Int32) (s' : ps_S), xJ m t s' → Q (some (.int v)) s') : ps_At (d + 1) 78 2 [(0, .ref r0), (1, .int x1)] [] s Q :=
  xs_up (P := fun x1 => ∀ (s : ps_S), ps_is r0 3 = true → xJ m t s → ps_At (d + 1) 78 2 [(0, .ref r0), (1, .int x1)] [] s Q) (fun x1 ih s h0 J => pg_78_2 (d := d) (ps_nk_i h0 (And.intro (fun f1 => (ps_nk_i h0 (And.intro (fun f2 => (ps_nk_i h0 (xs_79 h0 J (fun v1 s1 J1 => (k v1 s1 J1))))) (fun f2 => (k (-1) s J))))) (fun f1 => (ps_nk_i h0 (And.intro (fun f3 => (ih ((x1 + 1)) (xs_lt f1) s h0 J)) (fun f3 => (ps_nk_i h0 (ps_nk_i (xn_l ((xk_3_3 h0)).1) (And.intro (fun f4 => (ih ((x1 + 1)) (xs_lt f1) s h0 J)) (fun f4 => (ps_nk_i h0 (ps_nk_i (xn_3 ((xk_3_3 h0)).1) (ps_nd_i (xg_in f3 f4) (ps_nk_i h0 (ps_nk_i (xk_3_0 h0) (And.intro (fun f5 => (ih ((x1 + 1)) (xs_lt f1) s h0 J)) (fun f5 => (k ((40 : Int32) + x1) s J))))))))))))))))))) x1 s h0 J

theorem xs_78 {m s : ps_S} {t : Int32} {d : Nat} {r0 : Nat} {f : Int32 → ps_S → Prop} (h0 : ps_is r0 3 = true) (J : xJ m t s) (k : ∀ (v : Int32) (s' : ps_S), xJ m t s' → f v s') : ps_Cl (d + 1) 78 [.ref r0] s (ps_rI f) :=
  pg_78_0 (d := d) (xs_78_2 (d := d) (r0 := r0) (x1 := 0)  h0 J k )

-- ProofBench$Reader.takeParts(II)Z
theorem pg_71_0 {d : Nat} {r0 : Nat} {x1 : Int32} {x2 : Int32} {s : ps_S} {Q : Option Value → ps_S → Prop} (h :
  ps_nk (ps_is r0 3) (ps_nk (ps_is (ps_r s r0 5) 9) (ps_Cl d 136 [.ref (ps_r s r0 5), .int x1] s (ps_rI (fun v1 s1 =>
    ps_At (d + 1) 71 9 [(0, .ref r0), (1, .int x1), (2, .int x2), (3, .int v1)] [] s1 Q))))) : ps_At (d + 1) 71 0 [(0, .ref r0), (1, .int x1), (2, .int x2)] [] s Q :=
  ps_wp_at (stops := [(9, [0, 1, 2, 3])]) (n := 7) h rfl

theorem pg_71_9 {d : Nat} {r0 : Nat} {x1 : Int32} {x2 : Int32} {x3 : Int32} {s : ps_S} {Q : Option Value → ps_S → Prop} (h :
  (x3 ≤ 0 →
    Q (some (.int 1)) s) ∧
  (0 < x3 →
    (x1 < 6 →
      ps_nk (ps_is r0 3) (ps_Cl d 70 [.ref r0, .int x2] s (ps_rI (fun v1 s1 =>
        (v1 ≠ 0 →
          ps_At (d + 1) 71 9 [(0, .ref r0), (1, .int x1), (2, .int x2), (3, .int (x3 + (-1)))] [] s1 Q) ∧
        (v1 = 0 →
          Q (some (.int 0)) s1))))) ∧
    (6 ≤ x1 →
      ps_nk (ps_is r0 3) (ps_Cl d 76 [.ref r0, .int x2] s (ps_rI (fun v2 s2 =>
        (v2 = 0 →
          Q (some (.int 0)) s2) ∧
        (v2 ≠ 0 →
          ps_At (d + 1) 71 9 [(0, .ref r0), (1, .int x1), (2, .int x2), (3, .int (x3 + (-1)))] [] s2 Q))))))) : ps_At (d + 1) 71 9 [(0, .ref r0), (1, .int x1), (2, .int x2), (3, .int x3)] [] s Q :=
  ps_wp_at (stops := [(9, [0, 1, 2, 3])]) (n := 26) h rfl

theorem xr_71_9 {m s : ps_S} {t : Int32} {d : Nat} {r0 : Nat} {x1 : Int32} {x2 : Int32} {x3 : Int32} {Q : Option Value → ps_S → Prop} (HF : xsF d x2) (HT : xsT d x2) (h0 : ps_is r0 3 = true) (J : xJ m t s) (k : ∀ (v : Int32) (s' : ps_S), v &&& 1 = v → xJ m t s' → Q (some (.int v)) s') : ps_At (d + 9) 71 9 [(0, .ref r0), (1, .int x1), (2, .int x2), (3, .int x3)] [] s Q :=
  xs_dn (P := fun x3 => ∀ (s : ps_S), ps_is r0 3 = true → xJ m t s → ps_At (d + 9) 71 9 [(0, .ref r0), (1, .int x1), (2, .int x2), (3, .int x3)] [] s Q) (fun x3 ih s h0 J => pg_71_9 (d := d + 8) (And.intro (fun f1 => (k 1 s (by decide) J)) (fun f1 => (And.intro (fun f2 => (ps_nk_i h0 (HF _ _ _ _ _ h0 J (fun v1 s1 b1 J1 => (And.intro (fun f3 => (ih ((x3 + (-1))) (xs_gt f1) s1 h0 J1)) (fun f3 => (k 0 s1 (by decide) J1))))))) (fun f2 => (ps_nk_i h0 (HT _ _ _ _ _ h0 J (fun v2 s2 b2 J2 => (And.intro (fun f4 => (k 0 s2 (by decide) J2)) (fun f4 => (ih ((x3 + (-1))) (xs_gt f1) s2 h0 J2))))))))))) x3 s h0 J

theorem xr_71 {m s : ps_S} {t : Int32} {d : Nat} {r0 : Nat} {x1 : Int32} {x2 : Int32} {f : Int32 → ps_S → Prop} (HF : xsF d x2) (HT : xsT d x2) (h0 : ps_is r0 3 = true) (J : xJ m t s) (k : ∀ (v : Int32) (s' : ps_S), v &&& 1 = v → xJ m t s' → f v s') : ps_Cl (d + 9) 71 [.ref r0, .int x1, .int x2] s (ps_rI f) :=
  pg_71_0 (d := d + 8) (ps_nk_i h0 (ps_nk_i (xj_3_5 J h0) (xs_136 (xj_3_5 J h0) J (fun v1 => (xr_71_9 (d := d) (r0 := r0) (x1 := x1) (x2 := x2) (x3 := v1) HF HT h0 J k )))))

-- ProofBench$Reader.takeBound(I)Z
theorem pg_75_0 {d : Nat} {r0 : Nat} {x1 : Int32} {s : ps_S} {Q : Option Value → ps_S → Prop} (h :
  ps_nk (ps_is r0 3) (ps_Cl d 77 [.ref r0] s (ps_rI (fun v1 s1 =>
    (v1 ≠ 0 →
      ps_nk (ps_is r0 3) (((ps_i s1 r0 4) < 0 →
        ps_At (d + 1) 75 58 [(0, .ref r0), (1, .int x1)] [] s1 Q) ∧
      (0 ≤ (ps_i s1 r0 4) →
        ps_nk (ps_is r0 3) (ps_nk (ps_is r0 3) (ps_nk (Nat.beq (ps_K (ps_c0 r0 3)).1 0) (((nI (ps_ln (ps_c0 r0 3))) ≤ (ps_i s1 r0 4) →
          ps_At (d + 1) 75 58 [(0, .ref r0), (1, .int x1)] [] s1 Q) ∧
        ((ps_i s1 r0 4) < (nI (ps_ln (ps_c0 r0 3))) →
          ps_nk (ps_is r0 3) (ps_nk (ps_is r0 3) (ps_nk (ps_is r0 3) (ps_nk (ps_is (ps_c0 r0 0) 10) (ps_nk (ps_ar (ps_c0 r0 3) 3) (ps_nd (pm_in (ps_i s1 r0 4) (ps_ln (ps_c0 r0 3))) (ps_nk (ps_is r0 3) (ps_nk (ps_is r0 3) (ps_At (d + 1) 75 58 [(0, .ref r0), (1, .int x1)] [] (ps_ui (ps_ub s1 (ps_c0 r0 3) (Int32.toNatClampNeg (ps_i s1 r0 4)) (ps_j s1 (ps_c0 r0 0) 8)) r0 4 ((ps_i (ps_ub s1 (ps_c0 r0 3) (Int32.toNatClampNeg (ps_i s1 r0 4)) (ps_j s1 (ps_c0 r0 0) 8)) r0 4) + 1)) Q))))))))))))))) ∧
    (v1 = 0 →
      ps_nk (ps_is r0 3) (ps_Cl d 62 [.ref r0, .int 2] s1 (ps_rI (fun v2 s2 =>
        ps_nd (decide (v2 &&& 1 = v2)) (Q (some (.int v2)) s2))))))))) : ps_At (d + 1) 75 0 [(0, .ref r0), (1, .int x1)] [] s Q :=
  ps_wp_at (stops := [(58, [0, 1])]) (n := 32) h rfl

theorem pg_75_58 {d : Nat} {r0 : Nat} {x1 : Int32} {s : ps_S} {Q : Option Value → ps_S → Prop} (h :
  ps_nk (ps_is r0 3) (ps_nk (ps_is (ps_c0 r0 0) 10) (ps_Cl d 140 [.ref (ps_c0 r0 0)] s (ps_rV (fun s1 =>
    ps_nk (ps_is r0 3) (ps_Cl d 70 [.ref r0, .int (x1 + 1)] s1 (ps_rI (fun v2 s2 =>
      ps_nk (ps_is r0 3) (ps_nk (ps_is r0 3) (ps_nd (decide (v2 &&& 1 = v2)) (Q (some (.int v2)) (ps_ui s2 r0 4 ((ps_i s2 r0 4) - 1))))))))))))) : ps_At (d + 1) 75 58 [(0, .ref r0), (1, .int x1)] [] s Q :=
  ps_wp_at (stops := [(58, [0, 1])]) (n := 19) h rfl

theorem xr_75_58 {m s : ps_S} {t : Int32} {d : Nat} {r0 : Nat} {x1 : Int32} {Q : Option Value → ps_S → Prop} (HF : xsF d (x1 + 1)) (h0 : ps_is r0 3 = true) (J : xJ m t s) (k : ∀ (v : Int32) (s' : ps_S), v &&& 1 = v → xJ m t s' → Q (some (.int v)) s') : ps_At (d + 9) 75 58 [(0, .ref r0), (1, .int x1)] [] s Q :=
  pg_75_58 (d := d + 8) (ps_nk_i h0 (ps_nk_i (xk_3_0 h0) (xs_140 (xk_3_0 h0) J (fun s1 J1 => (ps_nk_i h0 (HF _ _ _ _ _ h0 J1 (fun v2 s2 b2 J2 => (ps_nk_i h0 (ps_nk_i h0 (ps_nd_i (decide_eq_true b2) ((k v2 (ps_ui s2 r0 4 ((ps_i s2 r0 4) - 1)) (of_decide_eq_true (decide_eq_true b2)) (xw_i (c := 3) (by decide) h0 J2)))))))))))))

theorem xr_75 {m s : ps_S} {t : Int32} {d : Nat} {r0 : Nat} {x1 : Int32} {f : Int32 → ps_S → Prop} (HF : xsF d (x1 + 1)) (h0 : ps_is r0 3 = true) (J : xJ m t s) (k : ∀ (v : Int32) (s' : ps_S), v &&& 1 = v → xJ m t s' → f v s') : ps_Cl (d + 9) 75 [.ref r0, .int x1] s (ps_rI f) :=
  pg_75_0 (d := d + 8) (ps_nk_i h0 (xs_77 h0 J (fun v1 b1 => (And.intro (fun f1 => (ps_nk_i h0 (And.intro (fun f2 => (xr_75_58 (d := d) (r0 := r0) (x1 := x1) HF h0 J k )) (fun f2 => (ps_nk_i h0 (ps_nk_i h0 (ps_nk_i (xn_l ((xk_3_3 h0)).1) (And.intro (fun f3 => (xr_75_58 (d := d) (r0 := r0) (x1 := x1) HF h0 J k )) (fun f3 => (ps_nk_i h0 (ps_nk_i h0 (ps_nk_i h0 (ps_nk_i (xk_3_0 h0) (ps_nk_i (xn_3 ((xk_3_3 h0)).1) (ps_nd_i (xg_in f2 f3) (ps_nk_i h0 (ps_nk_i h0 (xr_75_58 (d := d) (r0 := r0) (x1 := x1) HF h0 (xw_i (c := 3) (by decide) h0 (xw_b (((xk_3_3 h0)).2) J)) k )))))))))))))))))) (fun f1 => (ps_nk_i h0 (xs_62 h0 J (fun v2 s2 b2 J2 => (ps_nd_i (decide_eq_true b2) ((k v2 s2 (of_decide_eq_true (decide_eq_true b2)) J2)))))))))))

-- ProofBench$Reader.takeNot(I)Z
theorem pg_74_0 {d : Nat} {r0 : Nat} {x1 : Int32} {s : ps_S} {Q : Option Value → ps_S → Prop} (h :
  ps_nk (ps_is r0 3) (ps_Cl d 73 [.ref r0, .int (x1 + 1), .int 2] s (ps_rI (fun v1 s1 =>
    (v1 ≠ 0 →
      ps_nk (ps_is r0 3) (ps_nk (ps_is (ps_r s1 r0 6) 5) (ps_Cl d 93 [.ref (ps_r s1 r0 6), .int 3] s1 (ps_rV (fun s2 =>
        ps_nk (ps_is r0 3) (ps_nk (ps_is (ps_c0 r0 0) 10) (ps_Cl d 140 [.ref (ps_c0 r0 0)] s2 (ps_rV (fun s3 =>
          ps_nk (ps_is r0 3) (ps_nk (ps_is r0 3) (ps_nk (ps_is r0 3) (ps_Cl d 70 [.ref r0, .int (x1 + 1)] (ps_ui s3 r0 7 ((ps_i s3 r0 7) + 1)) (ps_rI (fun v4 s4 =>
            (v4 ≠ 0 →
              ps_nk (ps_is r0 3) (ps_nk (ps_is r0 3) (ps_nk (ps_is r0 3) (ps_nk (ps_is (ps_r (ps_ui s4 r0 7 ((ps_i s4 r0 7) - 1)) r0 6) 5) (ps_Cl d 93 [.ref (ps_r (ps_ui s4 r0 7 ((ps_i s4 r0 7) - 1)) r0 6), .int 0] (ps_ui s4 r0 7 ((ps_i s4 r0 7) - 1)) (ps_rV (fun s5 =>
                Q (some (.int 1)) s5))))))) ∧
            (v4 = 0 →
              Q (some (.int 0)) s4))))))))))))))) ∧
    (v1 = 0 →
      ps_nk (ps_is r0 3) (ps_Cl d 62 [.ref r0, .int 2] s1 (ps_rI (fun v6 s6 =>
        ps_nd (decide (v6 &&& 1 = v6)) (Q (some (.int v6)) s6))))))))) : ps_At (d + 1) 74 0 [(0, .ref r0), (1, .int x1)] [] s Q :=
  ps_wp_at (stops := []) (n := 46) h rfl

theorem xr_74 {m s : ps_S} {t : Int32} {d : Nat} {r0 : Nat} {x1 : Int32} {f : Int32 → ps_S → Prop} (HF : x1 + 1 ≤ 12 → xsF d (x1 + 1)) (h0 : ps_is r0 3 = true) (J : xJ m t s) (k : ∀ (v : Int32) (s' : ps_S), v &&& 1 = v → xJ m t s' → f v s') : ps_Cl (d + 9) 74 [.ref r0, .int x1] s (ps_rI f) :=
  pg_74_0 (d := d + 8) (ps_nk_i h0 (xs_73 h0 J (fun v1 b1 q1 => (And.intro (fun f1 => (ps_nk_i h0 (ps_nk_i (xj_3_6 J h0) (xs_93 (xj_3_6 J h0) J (fun s2 J2 => (ps_nk_i h0 (ps_nk_i (xk_3_0 h0) (xs_140 (xk_3_0 h0) J2 (fun s3 J3 => (ps_nk_i h0 (ps_nk_i h0 (ps_nk_i h0 ((HF (q1 f1)) _ _ _ _ _ h0 (xw_i (c := 3) (by decide) h0 J3) (fun v4 s4 b4 J4 => (And.intro (fun f2 => (ps_nk_i h0 (ps_nk_i h0 (ps_nk_i h0 (ps_nk_i (xj_3_6 (xw_i (c := 3) (by decide) h0 J4) h0) (xs_93 (xj_3_6 (xw_i (c := 3) (by decide) h0 J4) h0) (xw_i (c := 3) (by decide) h0 J4) (fun s5 J5 => (k 1 s5 (by decide) J5)))))))) (fun f2 => (k 0 s4 (by decide) J4))))))))))))))))) (fun f1 => (ps_nk_i h0 (xs_62 h0 J (fun v6 s6 b6 J6 => (ps_nd_i (decide_eq_true b6) ((k v6 s6 (of_decide_eq_true (decide_eq_true b6)) J6)))))))))))

-- ProofBench$Reader.takeFormula(I)Z
theorem pg_70_0 {d : Nat} {r0 : Nat} {x1 : Int32} {s : ps_S} {Q : Option Value → ps_S → Prop} (h :
  ps_nk (ps_is r0 3) (ps_nk (ps_is (ps_c0 r0 0) 10) (((ps_i s (ps_c0 r0 0) 6) ≠ 7 →
    ps_nk (ps_is r0 3) (ps_Cl d 72 [.ref r0] s (ps_rI (fun v1 s1 =>
      ps_Cl d 184 [.int v1] s1 (ps_rI (fun v2 s2 =>
        (v2 = 0 →
          ps_At (d + 1) 70 42 [(0, .ref r0), (1, .int x1), (2, .int v1)] [] s2 Q) ∧
        (v2 ≠ 0 →
          ps_nk (ps_is r0 3) (((ps_i s2 r0 4) < 5 →
            ps_At (d + 1) 70 42 [(0, .ref r0), (1, .int x1), (2, .int v1)] [] s2 Q) ∧
          (5 ≤ (ps_i s2 r0 4) →
            (v1 = (-1) →
              ps_At (d + 1) 70 62 [(0, .ref r0)] [] s2 Q) ∧
            (v1 ≠ (-1) →
              ((1 : Int32) ≠ 0 →
                ps_At (d + 1) 70 62 [(0, .ref r0)] [] s2 Q) ∧
              ((1 : Int32) = 0 →
                ps_nk (ps_is r0 3) (ps_Cl d 73 [.ref r0, .int x1, .int 1] s2 (ps_rI (fun v3 s3 =>
                  (v3 ≠ 0 →
                    ps_nk (ps_is r0 3) (ps_nk (ps_is (ps_r s3 r0 6) 5) (ps_Cl d 93 [.ref (ps_r s3 r0 6), .int v1] s3 (ps_rV (fun s4 =>
                      ps_nk (ps_is r0 3) (ps_nk (ps_is (ps_c0 r0 0) 10) (ps_Cl d 140 [.ref (ps_c0 r0 0)] s4 (ps_rV (fun s5 =>
                        ps_Cl d 184 [.int v1] s5 (ps_rI (fun v6 s6 =>
                          (v6 = 0 →
                            ps_nk (ps_is r0 3) (ps_Cl d 71 [.ref r0, .int v1, .int (x1 + 1)] s6 (ps_rI (fun v7 s7 =>
                              ps_nd (decide (v7 &&& 1 = v7)) (Q (some (.int v7)) s7))))) ∧
                          (v6 ≠ 0 →
                            ps_nk (ps_is r0 3) (ps_Cl d 75 [.ref r0, .int x1] s6 (ps_rI (fun v8 s8 =>
                              ps_nd (decide (v8 &&& 1 = v8)) (Q (some (.int v8)) s8)))))))))))))))) ∧
                  (v3 = 0 →
                    ps_At (d + 1) 70 62 [(0, .ref r0)] [] s3 Q))))))))))))))) ∧
  ((ps_i s (ps_c0 r0 0) 6) = 7 →
    ps_nk (ps_is r0 3) (ps_Cl d 74 [.ref r0, .int x1] s (ps_rI (fun v9 s9 =>
      ps_nd (decide (v9 &&& 1 = v9)) (Q (some (.int v9)) s9)))))))) : ps_At (d + 1) 70 0 [(0, .ref r0), (1, .int x1)] [] s Q :=
  ps_wp_at (stops := [(42, [0, 1, 2]), (62, [0])]) (n := 55) h rfl

theorem pg_70_42 {d : Nat} {r0 : Nat} {x1 : Int32} {x2 : Int32} {s : ps_S} {Q : Option Value → ps_S → Prop} (h :
  (x2 = (-1) →
    ps_At (d + 1) 70 62 [(0, .ref r0)] [] s Q) ∧
  (x2 ≠ (-1) →
    ((0 : Int32) ≠ 0 →
      ps_At (d + 1) 70 62 [(0, .ref r0)] [] s Q) ∧
    ((0 : Int32) = 0 →
      ps_nk (ps_is r0 3) (ps_Cl d 73 [.ref r0, .int x1, .int 1] s (ps_rI (fun v1 s1 =>
        (v1 ≠ 0 →
          ps_nk (ps_is r0 3) (ps_nk (ps_is (ps_r s1 r0 6) 5) (ps_Cl d 93 [.ref (ps_r s1 r0 6), .int x2] s1 (ps_rV (fun s2 =>
            ps_nk (ps_is r0 3) (ps_nk (ps_is (ps_c0 r0 0) 10) (ps_Cl d 140 [.ref (ps_c0 r0 0)] s2 (ps_rV (fun s3 =>
              ps_Cl d 184 [.int x2] s3 (ps_rI (fun v4 s4 =>
                (v4 = 0 →
                  ps_nk (ps_is r0 3) (ps_Cl d 71 [.ref r0, .int x2, .int (x1 + 1)] s4 (ps_rI (fun v5 s5 =>
                    ps_nd (decide (v5 &&& 1 = v5)) (Q (some (.int v5)) s5))))) ∧
                (v4 ≠ 0 →
                  ps_nk (ps_is r0 3) (ps_Cl d 75 [.ref r0, .int x1] s4 (ps_rI (fun v6 s6 =>
                    ps_nd (decide (v6 &&& 1 = v6)) (Q (some (.int v6)) s6)))))))))))))))) ∧
        (v1 = 0 →
          ps_At (d + 1) 70 62 [(0, .ref r0)] [] s1 Q))))))) : ps_At (d + 1) 70 42 [(0, .ref r0), (1, .int x1), (2, .int x2)] [] s Q :=
  ps_wp_at (stops := [(42, [0, 1, 2]), (62, [0])]) (n := 35) h rfl

theorem pg_70_62 {d : Nat} {r0 : Nat} {s : ps_S} {Q : Option Value → ps_S → Prop} (h :
  ps_nk (ps_is r0 3) (ps_Cl d 62 [.ref r0, .int 2] s (ps_rI (fun v1 s1 =>
    ps_nd (decide (v1 &&& 1 = v1)) (Q (some (.int v1)) s1))))) : ps_At (d + 1) 70 62 [(0, .ref r0)] [] s Q :=
  ps_wp_at (stops := [(42, [0, 1, 2]), (62, [0])]) (n := 6) h rfl

theorem xr_70_62 {m s : ps_S} {t : Int32} {d : Nat} {r0 : Nat} {Q : Option Value → ps_S → Prop} (h0 : ps_is r0 3 = true) (J : xJ m t s) (k : ∀ (v : Int32) (s' : ps_S), v &&& 1 = v → xJ m t s' → Q (some (.int v)) s') : ps_At (d + 10) 70 62 [(0, .ref r0)] [] s Q :=
  pg_70_62 (d := d + 9) (ps_nk_i h0 (xs_62 h0 J (fun v1 s1 b1 J1 => (ps_nd_i (decide_eq_true b1) ((k v1 s1 (of_decide_eq_true (decide_eq_true b1)) J1))))))

theorem xr_70_42 {m s : ps_S} {t : Int32} {d : Nat} {r0 : Nat} {x1 : Int32} {x2 : Int32} {Q : Option Value → ps_S → Prop} (H : x1 ≤ 12 → xsF d (x1 + 1) ∧ xsT d (x1 + 1)) (H2 : x1 + 1 ≤ 12 → xsF d (x1 + 1)) (h0 : ps_is r0 3 = true) (J : xJ m t s) (k : ∀ (v : Int32) (s' : ps_S), v &&& 1 = v → xJ m t s' → Q (some (.int v)) s') : ps_At (d + 10) 70 42 [(0, .ref r0), (1, .int x1), (2, .int x2)] [] s Q :=
  pg_70_42 (d := d + 9) (And.intro (fun f1 => (xr_70_62 (d := d) (r0 := r0)  h0 J k )) (fun f1 => (And.intro (fun f2 => (xr_70_62 (d := d) (r0 := r0)  h0 J k )) (fun f2 => (ps_nk_i h0 (xs_73 h0 J (fun v1 b1 q1 => (And.intro (fun f3 => (ps_nk_i h0 (ps_nk_i (xj_3_6 J h0) (xs_93 (xj_3_6 J h0) J (fun s2 J2 => (ps_nk_i h0 (ps_nk_i (xk_3_0 h0) (xs_140 (xk_3_0 h0) J2 (fun s3 J3 => (xs_184  J3 (fun v4 b4 => (And.intro (fun f4 => (ps_nk_i h0 (xr_71 (H (q1 f3)).1 (H (q1 f3)).2 h0 J3 (fun v5 s5 b5 J5 => (ps_nd_i (decide_eq_true b5) ((k v5 s5 (of_decide_eq_true (decide_eq_true b5)) J5))))))) (fun f4 => (ps_nk_i h0 (xr_75 (H (q1 f3)).1 h0 J3 (fun v6 s6 b6 J6 => (ps_nd_i (decide_eq_true b6) ((k v6 s6 (of_decide_eq_true (decide_eq_true b6)) J6))))))))))))))))))) (fun f3 => (xr_70_62 (d := d) (r0 := r0)  h0 J k ))))))))))

theorem xr_70 {m s : ps_S} {t : Int32} {d : Nat} {r0 : Nat} {x1 : Int32} {f : Int32 → ps_S → Prop} (H : x1 ≤ 12 → xsF d (x1 + 1) ∧ xsT d (x1 + 1)) (H2 : x1 + 1 ≤ 12 → xsF d (x1 + 1)) (h0 : ps_is r0 3 = true) (J : xJ m t s) (k : ∀ (v : Int32) (s' : ps_S), v &&& 1 = v → xJ m t s' → f v s') : ps_Cl (d + 10) 70 [.ref r0, .int x1] s (ps_rI f) :=
  pg_70_0 (d := d + 9) (ps_nk_i h0 (ps_nk_i (xk_3_0 h0) (And.intro (fun f1 => (ps_nk_i h0 (xs_72 h0 J (fun v1 => (xs_184  J (fun v2 b2 => (And.intro (fun f2 => (xr_70_42 (d := d) (r0 := r0) (x1 := x1) (x2 := v1) H H2 h0 J k )) (fun f2 => (ps_nk_i h0 (And.intro (fun f3 => (xr_70_42 (d := d) (r0 := r0) (x1 := x1) (x2 := v1) H H2 h0 J k )) (fun f3 => (And.intro (fun f4 => (xr_70_62 (d := d) (r0 := r0)  h0 J k )) (fun f4 => (And.intro (fun f5 => (xr_70_62 (d := d) (r0 := r0)  h0 J k )) (fun f5 => (ps_nk_i h0 (xs_73 h0 J (fun v3 b3 q3 => (And.intro (fun f6 => (ps_nk_i h0 (ps_nk_i (xj_3_6 J h0) (xs_93 (xj_3_6 J h0) J (fun s4 J4 => (ps_nk_i h0 (ps_nk_i (xk_3_0 h0) (xs_140 (xk_3_0 h0) J4 (fun s5 J5 => (xs_184  J5 (fun v6 b6 => (And.intro (fun f7 => (ps_nk_i h0 (xr_71 (H (q3 f6)).1 (H (q3 f6)).2 h0 J5 (fun v7 s7 b7 J7 => (ps_nd_i (decide_eq_true b7) ((k v7 s7 (of_decide_eq_true (decide_eq_true b7)) J7))))))) (fun f7 => (ps_nk_i h0 (xr_75 (H (q3 f6)).1 h0 J5 (fun v8 s8 b8 J8 => (ps_nd_i (decide_eq_true b8) ((k v8 s8 (of_decide_eq_true (decide_eq_true b8)) J8))))))))))))))))))) (fun f6 => (xr_70_62 (d := d) (r0 := r0)  h0 J k ))))))))))))))))))))) (fun f1 => (ps_nk_i h0 (xr_74 H2 h0 J (fun v9 s9 b9 J9 => (ps_nd_i (decide_eq_true b9) ((k v9 s9 (of_decide_eq_true (decide_eq_true b9)) J9))))))))))

-- ProofBench$Reader.takeTerm(I)Z
theorem pg_76_0 {d : Nat} {r0 : Nat} {x1 : Int32} {s : ps_S} {Q : Option Value → ps_S → Prop} (h :
  ps_nk (ps_is r0 3) (ps_nk (ps_is (ps_c0 r0 0) 10) (((ps_i s (ps_c0 r0 0) 4) ≠ 2 →
    ps_At (d + 1) 76 20 [(0, .ref r0)] [] s Q) ∧
  ((ps_i s (ps_c0 r0 0) 4) = 2 →
    ps_nk (ps_is r0 3) (ps_Cl d 73 [.ref r0, .int x1, .int 1] s (ps_rI (fun v1 s1 =>
      (v1 ≠ 0 →
        ps_nk (ps_is r0 3) (ps_nk (ps_is r0 3) (ps_nk (ps_is (ps_c0 r0 0) 10) (ps_nk (ps_is (ps_r s1 r0 5) 9) (ps_Cl d 128 [.ref (ps_r s1 r0 5), .long (ps_j s1 (ps_c0 r0 0) 8)] s1 (ps_rI (fun v2 s2 =>
          (v2 ≠ (-1) →
            ps_At (d + 1) 76 59 [(0, .ref r0), (1, .int x1), (2, .int v2)] [] s2 Q) ∧
          (v2 = (-1) →
            ps_nk (ps_is r0 3) (ps_Cl d 77 [.ref r0] s2 (ps_rI (fun v3 s3 =>
              (v3 ≠ 0 →
                ps_At (d + 1) 76 59 [(0, .ref r0), (1, .int x1), (2, .int v2)] [] s3 Q) ∧
              (v3 = 0 →
                ps_nk (ps_is r0 3) (ps_Cl d 62 [.ref r0, .int 2] s3 (ps_rI (fun v4 s4 =>
                  ps_nd (decide (v4 &&& 1 = v4)) (Q (some (.int v4)) s4)))))))))))))))) ∧
      (v1 = 0 →
        ps_At (d + 1) 76 20 [(0, .ref r0)] [] s1 Q)))))))) : ps_At (d + 1) 76 0 [(0, .ref r0), (1, .int x1)] [] s Q :=
  ps_wp_at (stops := [(20, [0]), (59, [0, 1, 2])]) (n := 29) h rfl

theorem pg_76_20 {d : Nat} {r0 : Nat} {s : ps_S} {Q : Option Value → ps_S → Prop} (h :
  ps_nk (ps_is r0 3) (ps_Cl d 62 [.ref r0, .int 2] s (ps_rI (fun v1 s1 =>
    ps_nd (decide (v1 &&& 1 = v1)) (Q (some (.int v1)) s1))))) : ps_At (d + 1) 76 20 [(0, .ref r0)] [] s Q :=
  ps_wp_at (stops := [(20, [0]), (59, [0, 1, 2])]) (n := 6) h rfl

theorem pg_76_59 {d : Nat} {r0 : Nat} {x1 : Int32} {x2 : Int32} {s : ps_S} {Q : Option Value → ps_S → Prop} (h :
  (x2 ≠ (-1) →
    (((20 : Int32) + x2) ≠ (-1) →
      ps_nk (ps_is r0 3) (ps_nk (ps_is (ps_r s r0 6) 5) (ps_Cl d 93 [.ref (ps_r s r0 6), .int ((20 : Int32) + x2)] s (ps_rV (fun s1 =>
        ps_nk (ps_is r0 3) (ps_nk (ps_is (ps_c0 r0 0) 10) (ps_Cl d 140 [.ref (ps_c0 r0 0)] s1 (ps_rV (fun s2 =>
          ps_nk (ps_is r0 3) (ps_Cl d 71 [.ref r0, .int ((20 : Int32) + x2), .int (x1 + 1)] s2 (ps_rI (fun v3 s3 =>
            ps_nd (decide (v3 &&& 1 = v3)) (Q (some (.int v3)) s3))))))))))))) ∧
    (((20 : Int32) + x2) = (-1) →
      ps_nk (ps_is r0 3) (((ps_i s r0 8) = 0 →
        ps_nk (ps_is r0 3) (ps_Cl d 62 [.ref r0, .int 2] s (ps_rI (fun v4 s4 =>
          ps_nd (decide (v4 &&& 1 = v4)) (Q (some (.int v4)) s4))))) ∧
      ((ps_i s r0 8) ≠ 0 →
        ps_nk (ps_is r0 3) (ps_Cl d 62 [.ref r0, .int 5] s (ps_rI (fun v5 s5 =>
          ps_nd (decide (v5 &&& 1 = v5)) (Q (some (.int v5)) s5)))))))) ∧
  (x2 = (-1) →
    ps_nk (ps_is r0 3) (ps_Cl d 78 [.ref r0] s (ps_rI (fun v6 s6 =>
      (v6 ≠ (-1) →
        ps_nk (ps_is r0 3) (ps_nk (ps_is (ps_r s6 r0 6) 5) (ps_Cl d 93 [.ref (ps_r s6 r0 6), .int v6] s6 (ps_rV (fun s7 =>
          ps_nk (ps_is r0 3) (ps_nk (ps_is (ps_c0 r0 0) 10) (ps_Cl d 140 [.ref (ps_c0 r0 0)] s7 (ps_rV (fun s8 =>
            ps_nk (ps_is r0 3) (ps_Cl d 71 [.ref r0, .int v6, .int (x1 + 1)] s8 (ps_rI (fun v9 s9 =>
              ps_nd (decide (v9 &&& 1 = v9)) (Q (some (.int v9)) s9))))))))))))) ∧
      (v6 = (-1) →
        ps_nk (ps_is r0 3) (((ps_i s6 r0 8) = 0 →
          ps_nk (ps_is r0 3) (ps_Cl d 62 [.ref r0, .int 2] s6 (ps_rI (fun v10 s10 =>
            ps_nd (decide (v10 &&& 1 = v10)) (Q (some (.int v10)) s10))))) ∧
        ((ps_i s6 r0 8) ≠ 0 →
          ps_nk (ps_is r0 3) (ps_Cl d 62 [.ref r0, .int 5] s6 (ps_rI (fun v11 s11 =>
            ps_nd (decide (v11 &&& 1 = v11)) (Q (some (.int v11)) s11)))))))))))) : ps_At (d + 1) 76 59 [(0, .ref r0), (1, .int x1), (2, .int x2)] [] s Q :=
  ps_wp_at (stops := [(20, [0]), (59, [0, 1, 2])]) (n := 69) h rfl

theorem xr_76_20 {m s : ps_S} {t : Int32} {d : Nat} {r0 : Nat} {Q : Option Value → ps_S → Prop} (h0 : ps_is r0 3 = true) (J : xJ m t s) (k : ∀ (v : Int32) (s' : ps_S), v &&& 1 = v → xJ m t s' → Q (some (.int v)) s') : ps_At (d + 10) 76 20 [(0, .ref r0)] [] s Q :=
  pg_76_20 (d := d + 9) (ps_nk_i h0 (xs_62 h0 J (fun v1 s1 b1 J1 => (ps_nd_i (decide_eq_true b1) ((k v1 s1 (of_decide_eq_true (decide_eq_true b1)) J1))))))

theorem xr_76_59 {m s : ps_S} {t : Int32} {d : Nat} {r0 : Nat} {x1 : Int32} {x2 : Int32} {Q : Option Value → ps_S → Prop} (H : x1 ≤ 12 → xsF d (x1 + 1) ∧ xsT d (x1 + 1)) (h0 : ps_is r0 3 = true) (e0 : x1 ≤ 12) (J : xJ m t s) (k : ∀ (v : Int32) (s' : ps_S), v &&& 1 = v → xJ m t s' → Q (some (.int v)) s') : ps_At (d + 10) 76 59 [(0, .ref r0), (1, .int x1), (2, .int x2)] [] s Q :=
  pg_76_59 (d := d + 9) (And.intro (fun f1 => (And.intro (fun f2 => (ps_nk_i h0 (ps_nk_i (xj_3_6 J h0) (xs_93 (xj_3_6 J h0) J (fun s1 J1 => (ps_nk_i h0 (ps_nk_i (xk_3_0 h0) (xs_140 (xk_3_0 h0) J1 (fun s2 J2 => (ps_nk_i h0 (xr_71 (H e0).1 (H e0).2 h0 J2 (fun v3 s3 b3 J3 => (ps_nd_i (decide_eq_true b3) ((k v3 s3 (of_decide_eq_true (decide_eq_true b3)) J3))))))))))))))) (fun f2 => (ps_nk_i h0 (And.intro (fun f3 => (ps_nk_i h0 (xs_62 h0 J (fun v4 s4 b4 J4 => (ps_nd_i (decide_eq_true b4) ((k v4 s4 (of_decide_eq_true (decide_eq_true b4)) J4))))))) (fun f3 => (ps_nk_i h0 (xs_62 h0 J (fun v5 s5 b5 J5 => (ps_nd_i (decide_eq_true b5) ((k v5 s5 (of_decide_eq_true (decide_eq_true b5)) J5)))))))))))) (fun f1 => (ps_nk_i h0 (xs_78 h0 J (fun v6 s6 J6 => (And.intro (fun f4 => (ps_nk_i h0 (ps_nk_i (xj_3_6 J6 h0) (xs_93 (xj_3_6 J6 h0) J6 (fun s7 J7 => (ps_nk_i h0 (ps_nk_i (xk_3_0 h0) (xs_140 (xk_3_0 h0) J7 (fun s8 J8 => (ps_nk_i h0 (xr_71 (H e0).1 (H e0).2 h0 J8 (fun v9 s9 b9 J9 => (ps_nd_i (decide_eq_true b9) ((k v9 s9 (of_decide_eq_true (decide_eq_true b9)) J9))))))))))))))) (fun f4 => (ps_nk_i h0 (And.intro (fun f5 => (ps_nk_i h0 (xs_62 h0 J6 (fun v10 s10 b10 J10 => (ps_nd_i (decide_eq_true b10) ((k v10 s10 (of_decide_eq_true (decide_eq_true b10)) J10))))))) (fun f5 => (ps_nk_i h0 (xs_62 h0 J6 (fun v11 s11 b11 J11 => (ps_nd_i (decide_eq_true b11) ((k v11 s11 (of_decide_eq_true (decide_eq_true b11)) J11))))))))))))))))

theorem xr_76 {m s : ps_S} {t : Int32} {d : Nat} {r0 : Nat} {x1 : Int32} {f : Int32 → ps_S → Prop} (H : x1 ≤ 12 → xsF d (x1 + 1) ∧ xsT d (x1 + 1)) (h0 : ps_is r0 3 = true) (J : xJ m t s) (k : ∀ (v : Int32) (s' : ps_S), v &&& 1 = v → xJ m t s' → f v s') : ps_Cl (d + 10) 76 [.ref r0, .int x1] s (ps_rI f) :=
  pg_76_0 (d := d + 9) (ps_nk_i h0 (ps_nk_i (xk_3_0 h0) (And.intro (fun f1 => (xr_76_20 (d := d) (r0 := r0)  h0 J k )) (fun f1 => (ps_nk_i h0 (xs_73 h0 J (fun v1 b1 q1 => (And.intro (fun f2 => (ps_nk_i h0 (ps_nk_i h0 (ps_nk_i (xk_3_0 h0) (ps_nk_i (xj_3_5 J h0) (xs_128 (xj_3_5 J h0) J (fun v2 => (And.intro (fun f3 => (xr_76_59 (d := d) (r0 := r0) (x1 := x1) (x2 := v2) H h0 (q1 f2) J k )) (fun f3 => (ps_nk_i h0 (xs_77 h0 J (fun v3 b3 => (And.intro (fun f4 => (xr_76_59 (d := d) (r0 := r0) (x1 := x1) (x2 := v2) H h0 (q1 f2) J k )) (fun f4 => (ps_nk_i h0 (xs_62 h0 J (fun v4 s4 b4 J4 => (ps_nd_i (decide_eq_true b4) ((k v4 s4 (of_decide_eq_true (decide_eq_true b4)) J4)))))))))))))))))))) (fun f2 => (xr_76_20 (d := d) (r0 := r0)  h0 J k ))))))))))

theorem xr_A : ∀ (k : Nat) (x : Int32) (d : Nat), 0 ≤ x.toInt → x.toInt ≤ 13 → 13 - x.toInt ≤ k → 2 * k + 2 ≤ d → xsF d x ∧ xsT d x := by
  intro k
  induction k with
  | zero =>
    intro x d h0 h1 h2 h3
    obtain ⟨e, rfl⟩ : ∃ e, d = e + 2 := ⟨d - 2, by omega⟩
    have e1 : (12 : Int32).toInt = 12 := by decide
    have hx : ¬ x ≤ 12 := by rw [Int32.le_iff_toInt_le, e1]; omega
    have hx2 : ¬ x + 1 ≤ 12 := by
      rw [Int32.le_iff_toInt_le, e1, xI_add (by rw [xone]; omega) (by rw [xone]; omega), xone]; omega
    exact ⟨fun m s t r0 f h J k => xr_70 (d := e) (fun q => absurd q hx) (fun q => absurd q hx2) h J k, fun m s t r0 f h J k => xr_76 (d := e) (fun q => absurd q hx) h J k⟩
  | succ k ih =>
    intro x d h0 h1 h2 h3
    obtain ⟨e, rfl⟩ : ∃ e, d = e + 2 := ⟨d - 2, by omega⟩
    have e1 : (12 : Int32).toInt = 12 := by decide
    have ex : (x + 1).toInt = x.toInt + 1 := by rw [xI_add (by rw [xone]; omega) (by rw [xone]; omega), xone]
    have st : x.toInt ≤ 12 → xsF e (x + 1) ∧ xsT e (x + 1) := fun q => ih (x + 1) e (by omega) (by omega) (by omega) (by omega)
    have s1 : x ≤ 12 → xsF e (x + 1) ∧ xsT e (x + 1) := fun q => st (by rw [Int32.le_iff_toInt_le, e1] at q; exact q)
    have s2 : x + 1 ≤ 12 → xsF e (x + 1) := fun q => (st (by rw [Int32.le_iff_toInt_le, e1, ex] at q; omega)).1
    exact ⟨fun m s t r0 f h J k => xr_70 (d := e) s1 s2 h J k, fun m s t r0 f h J k => xr_76 (d := e) s1 h J k⟩
theorem xs_70 {m s : ps_S} {t : Int32} {d r0 : Nat} {f : Int32 → ps_S → Prop} (h0 : ps_is r0 3 = true) (J : xJ m t s) (k : ∀ (v : Int32) (s' : ps_S), v &&& 1 = v → xJ m t s' → f v s') : ps_Cl (d + 36) 70 [.ref r0, .int 0] s (ps_rI f) :=
  (xr_A 13 0 (d + 28) (by decide) (by decide) (by decide) (by omega)).1 m s t r0 f h0 J k
theorem xs_76 {m s : ps_S} {t : Int32} {d r0 : Nat} {f : Int32 → ps_S → Prop} (h0 : ps_is r0 3 = true) (J : xJ m t s) (k : ∀ (v : Int32) (s' : ps_S), v &&& 1 = v → xJ m t s' → f v s') : ps_Cl (d + 36) 76 [.ref r0, .int 0] s (ps_rI f) :=
  (xr_A 13 0 (d + 28) (by decide) (by decide) (by decide) (by omega)).2 m s t r0 f h0 J k

-- ProofBench$Reader.takeWhole(LProofBench$Row;Z)Z
theorem pg_69_0 {d : Nat} {r0 : Nat} {r1 : Nat} {x2 : Int32} {s : ps_S} {Q : Option Value → ps_S → Prop} (h :
  ps_nk (ps_is r0 3) (ps_nk (ps_is r0 3) (ps_nk (ps_is (ps_r (ps_ur s r0 6 r1) r0 6) 5) (ps_Cl d 91 [.ref (ps_r (ps_ur s r0 6 r1) r0 6)] (ps_ur s r0 6 r1) (ps_rV (fun s1 =>
    ps_nk (ps_is r0 3) ((x2 = 0 →
      ps_nk (ps_is r0 3) (ps_Cl d 70 [.ref r0, .int 0] (ps_ui s1 r0 7 0) (ps_rI (fun v2 s2 =>
        ps_nd (decide (v2 &&& 1 = v2)) (Q (some (.int v2)) s2))))) ∧
    (x2 ≠ 0 →
      ps_nk (ps_is r0 3) (ps_Cl d 76 [.ref r0, .int 0] (ps_ui s1 r0 7 0) (ps_rI (fun v3 s3 =>
        ps_nd (decide (v3 &&& 1 = v3)) (Q (some (.int v3)) s3)))))))))))) : ps_At (d + 1) 69 0 [(0, .ref r0), (1, .ref r1), (2, .int x2)] [] s Q :=
  ps_wp_at (stops := []) (n := 22) h rfl

theorem xs_69 {m s : ps_S} {t : Int32} {d : Nat} {r0 : Nat} {r1 : Nat} {x2 : Int32} {f : Int32 → ps_S → Prop} (h0 : ps_is r0 3 = true) (h1 : ps_is r1 5 = true) (J : xJ m t s) (k : ∀ (v : Int32) (s' : ps_S), v &&& 1 = v → xJ m t s' → f v s') : ps_Cl (d + 37) 69 [.ref r0, .ref r1, .int x2] s (ps_rI f) :=
  pg_69_0 (d := d + 36) (ps_nk_i h0 (ps_nk_i h0 (ps_nk_i (xj_3_6 (xw_3_6 h0 h1 J) h0) (xs_91 (xj_3_6 (xw_3_6 h0 h1 J) h0) (xw_3_6 h0 h1 J) (fun s1 J1 => (ps_nk_i h0 (And.intro (fun f1 => (ps_nk_i h0 (xs_70 h0 (xw_i (c := 3) (by decide) h0 J1) (fun v2 s2 b2 J2 => (ps_nd_i (decide_eq_true b2) ((k v2 s2 (of_decide_eq_true (decide_eq_true b2)) J2))))))) (fun f1 => (ps_nk_i h0 (xs_76 h0 (xw_i (c := 3) (by decide) h0 J1) (fun v3 s3 b3 J3 => (ps_nd_i (decide_eq_true b3) ((k v3 s3 (of_decide_eq_true (decide_eq_true b3)) J3))))))))))))))

-- ProofBench$Reader.takeSemicolon()Z
theorem pg_65_0 {d : Nat} {r0 : Nat} {s : ps_S} {Q : Option Value → ps_S → Prop} (h :
  ps_nk (ps_is r0 3) (ps_nk (ps_is (ps_c0 r0 0) 10) (((ps_i s (ps_c0 r0 0) 4) = 5 →
    ps_nk (ps_is r0 3) (ps_nk (ps_is (ps_c0 r0 0) 10) (ps_Cl d 140 [.ref (ps_c0 r0 0)] s (ps_rV (fun s1 =>
      Q (some (.int 1)) s1))))) ∧
  ((ps_i s (ps_c0 r0 0) 4) ≠ 5 →
    ps_nk (ps_is r0 3) (ps_Cl d 62 [.ref r0, .int 2] s (ps_rI (fun v2 s2 =>
      ps_nd (decide (v2 &&& 1 = v2)) (Q (some (.int v2)) s2)))))))) : ps_At (d + 1) 65 0 [(0, .ref r0)] [] s Q :=
  ps_wp_at (stops := []) (n := 16) h rfl

theorem xs_65 {m s : ps_S} {t : Int32} {d : Nat} {r0 : Nat} {f : Int32 → ps_S → Prop} (h0 : ps_is r0 3 = true) (J : xJ m t s) (k : ∀ (v : Int32) (s' : ps_S), v &&& 1 = v → xJ m t s' → f v s') : ps_Cl (d + 3) 65 [.ref r0] s (ps_rI f) :=
  pg_65_0 (d := d + 2) (ps_nk_i h0 (ps_nk_i (xk_3_0 h0) (And.intro (fun f1 => (ps_nk_i h0 (ps_nk_i (xk_3_0 h0) (xs_140 (xk_3_0 h0) J (fun s1 J1 => (k 1 s1 (by decide) J1)))))) (fun f1 => (ps_nk_i h0 (xs_62 h0 J (fun v2 s2 b2 J2 => (ps_nd_i (decide_eq_true b2) ((k v2 s2 (of_decide_eq_true (decide_eq_true b2)) J2))))))))))

-- ProofBench$Theory.addAxiom(J)V
theorem pg_134_0 {d : Nat} {r0 : Nat} {l1 : Int64} {s : ps_S} {Q : Option Value → ps_S → Prop} (h :
  ps_nk (ps_is r0 9) (((ps_i s r0 8) < 0 →
    Q none s) ∧
  (0 ≤ (ps_i s r0 8) →
    ps_nk (ps_is r0 9) (ps_nk (ps_is r0 9) (ps_nk (Nat.beq (ps_K (ps_c0 r0 2)).1 0) (((nI (ps_ln (ps_c0 r0 2))) ≤ (ps_i s r0 8) →
      Q none s) ∧
    ((ps_i s r0 8) < (nI (ps_ln (ps_c0 r0 2))) →
      ps_nk (ps_is r0 9) (ps_nk (ps_is r0 9) (ps_nk (ps_ar (ps_c0 r0 2) 3) (ps_nd (pm_in (ps_i s r0 8) (ps_ln (ps_c0 r0 2))) (ps_nk (ps_is r0 9) (ps_nk (ps_is r0 9) (Q none (ps_ui (ps_ub s (ps_c0 r0 2) (Int32.toNatClampNeg (ps_i s r0 8)) l1) r0 8 ((ps_i (ps_ub s (ps_c0 r0 2) (Int32.toNatClampNeg (ps_i s r0 8)) l1) r0 8) + 1))))))))))))))) : ps_At d 134 0 [(0, .ref r0), (1, .long l1)] [] s Q :=
  ps_wp_at (stops := []) (n := 26) h rfl

theorem xs_134 {m s : ps_S} {t : Int32} {d : Nat} {r0 : Nat} {l1 : Int64} {f : ps_S → Prop} (h0 : ps_is r0 9 = true) (J : xJ m t s) (k : ∀ (s' : ps_S), xJ m t s' → f s') : ps_Cl d 134 [.ref r0, .long l1] s (ps_rV f) :=
  pg_134_0 (ps_nk_i h0 (And.intro (fun f1 => (k s J)) (fun f1 => (ps_nk_i h0 (ps_nk_i h0 (ps_nk_i (xn_l ((xk_9_2 h0)).1) (And.intro (fun f2 => (k s J)) (fun f2 => (ps_nk_i h0 (ps_nk_i h0 (ps_nk_i (xn_3 ((xk_9_2 h0)).1) (ps_nd_i (xg_in f1 f2) (ps_nk_i h0 (ps_nk_i h0 (k (ps_ui (ps_ub s (ps_c0 r0 2) (Int32.toNatClampNeg (ps_i s r0 8)) l1) r0 8 ((ps_i (ps_ub s (ps_c0 r0 2) (Int32.toNatClampNeg (ps_i s r0 8)) l1) r0 8) + 1)) (xw_i (c := 9) (by decide) h0 (xw_b (((xk_9_2 h0)).2) J)))))))))))))))))

-- ProofBench$Reader.takeAxiom()Z
theorem pg_64_0 {d : Nat} {r0 : Nat} {s : ps_S} {Q : Option Value → ps_S → Prop} (h :
  ps_nk (ps_is r0 3) (ps_nk (ps_is (ps_c0 r0 0) 10) (((ps_i s (ps_c0 r0 0) 4) = 2 →
    ps_nk (ps_is r0 3) (ps_nk (ps_is (ps_c0 r0 0) 10) (ps_nk (ps_is r0 3) (ps_nk (ps_is (ps_r s r0 5) 9) (ps_Cl d 129 [.ref (ps_r s r0 5), .long (ps_j s (ps_c0 r0 0) 8)] s (ps_rI (fun v1 s1 =>
      (v1 = (-1) →
        ps_nk (ps_is r0 3) (ps_nk (ps_is (ps_c0 r0 0) 10) (ps_Cl d 140 [.ref (ps_c0 r0 0)] s1 (ps_rV (fun s2 =>
          ps_nk (ps_is r0 3) (ps_nk (ps_is r0 3) (ps_nk (ps_is r0 3) (ps_nk (ps_is (ps_r (ps_ui s2 r0 8 1) r0 5) 9) (ps_nk (ps_is (ps_r (ps_ui s2 r0 8 1) r0 5) 9) (ps_Cl d 135 [.ref (ps_r (ps_ui s2 r0 8 1) r0 5), .int (ps_i (ps_ui s2 r0 8 1) (ps_r (ps_ui s2 r0 8 1) r0 5) 8)] (ps_ui s2 r0 8 1) (ps_rA (fun v3 s3 =>
            ps_nk (ps_is r0 3) (ps_Cl d 69 [.ref r0, .ref v3, .int 0] s3 (ps_rI (fun v4 s4 =>
              (v4 = 0 →
                Q (some (.int 0)) s4) ∧
              (v4 ≠ 0 →
                ps_nk (ps_is r0 3) (ps_Cl d 65 [.ref r0] s4 (ps_rI (fun v5 s5 =>
                  (v5 ≠ 0 →
                    ps_nk (ps_is r0 3) (ps_nk (ps_is (ps_r s5 r0 5) 9) (ps_Cl d 134 [.ref (ps_r s5 r0 5), .long (ps_j s (ps_c0 r0 0) 8)] s5 (ps_rV (fun s6 =>
                      Q (some (.int 1)) s6))))) ∧
                  (v5 = 0 →
                    Q (some (.int 0)) s5)))))))))))))))))))) ∧
      (v1 ≠ (-1) →
        ps_nk (ps_is r0 3) (ps_Cl d 62 [.ref r0, .int 3] s1 (ps_rI (fun v7 s7 =>
          ps_nd (decide (v7 &&& 1 = v7)) (Q (some (.int v7)) s7)))))))))))) ∧
  ((ps_i s (ps_c0 r0 0) 4) ≠ 2 →
    ps_nk (ps_is r0 3) (ps_Cl d 62 [.ref r0, .int 2] s (ps_rI (fun v8 s8 =>
      ps_nd (decide (v8 &&& 1 = v8)) (Q (some (.int v8)) s8)))))))) : ps_At (d + 1) 64 0 [(0, .ref r0)] [] s Q :=
  ps_wp_at (stops := []) (n := 54) h rfl

theorem xs_64 {m s : ps_S} {t : Int32} {d : Nat} {r0 : Nat} {f : Int32 → ps_S → Prop} (h0 : ps_is r0 3 = true) (J : xJ m t s) (k : ∀ (v : Int32) (s' : ps_S), v &&& 1 = v → xJ m t s' → f v s') : ps_Cl (d + 38) 64 [.ref r0] s (ps_rI f) :=
  pg_64_0 (d := d + 37) (ps_nk_i h0 (ps_nk_i (xk_3_0 h0) (And.intro (fun f1 => (ps_nk_i h0 (ps_nk_i (xk_3_0 h0) (ps_nk_i h0 (ps_nk_i (xj_3_5 J h0) (xs_129 (xj_3_5 J h0) J (fun v1 => (And.intro (fun f2 => (ps_nk_i h0 (ps_nk_i (xk_3_0 h0) (xs_140 (xk_3_0 h0) J (fun s2 J2 => (ps_nk_i h0 (ps_nk_i h0 (ps_nk_i h0 (ps_nk_i (xj_3_5 (xw_i (c := 3) (by decide) h0 J2) h0) (ps_nk_i (xj_3_5 (xw_i (c := 3) (by decide) h0 J2) h0) (xs_135 (xj_3_5 (xw_i (c := 3) (by decide) h0 J2) h0) (xw_i (c := 3) (by decide) h0 J2) (fun v3 g3 => (ps_nk_i h0 (xs_69 h0 g3 (xw_i (c := 3) (by decide) h0 J2) (fun v4 s4 b4 J4 => (And.intro (fun f3 => (k 0 s4 (by decide) J4)) (fun f3 => (ps_nk_i h0 (xs_65 h0 J4 (fun v5 s5 b5 J5 => (And.intro (fun f4 => (ps_nk_i h0 (ps_nk_i (xj_3_5 J5 h0) (xs_134 (xj_3_5 J5 h0) J5 (fun s6 J6 => (k 1 s6 (by decide) J6)))))) (fun f4 => (k 0 s5 (by decide) J5))))))))))))))))))))))) (fun f2 => (ps_nk_i h0 (xs_62 h0 J (fun v7 s7 b7 J7 => (ps_nd_i (decide_eq_true b7) ((k v7 s7 (of_decide_eq_true (decide_eq_true b7)) J7))))))))))))))) (fun f1 => (ps_nk_i h0 (xs_62 h0 J (fun v8 s8 b8 J8 => (ps_nd_i (decide_eq_true b8) ((k v8 s8 (of_decide_eq_true (decide_eq_true b8)) J8))))))))))

-- ProofBench$Theory.addSymbol(IJI)V
theorem pg_133_0 {d : Nat} {r0 : Nat} {x1 : Int32} {l2 : Int64} {x4 : Int32} {s : ps_S} {Q : Option Value → ps_S → Prop} (h :
  (x1 ≠ 8 →
    ps_At (d + 1) 133 61 [(0, .ref r0), (1, .int x1), (2, .long l2), (4, .int x4)] [] s Q) ∧
  (x1 = 8 →
    ps_nk (ps_is r0 9) (((ps_i s r0 6) < 0 →
      ps_At (d + 1) 133 61 [(0, .ref r0), (1, .int x1), (2, .long l2), (4, .int x4)] [] s Q) ∧
    (0 ≤ (ps_i s r0 6) →
      ps_nk (ps_is r0 9) (ps_nk (ps_is r0 9) (ps_nk (Nat.beq (ps_K (ps_c0 r0 0)).1 0) (((nI (ps_ln (ps_c0 r0 0))) ≤ (ps_i s r0 6) →
        ps_At (d + 1) 133 61 [(0, .ref r0), (1, .int x1), (2, .long l2), (4, .int x4)] [] s Q) ∧
      ((ps_i s r0 6) < (nI (ps_ln (ps_c0 r0 0))) →
        ps_nk (ps_is r0 9) (ps_nk (ps_is r0 9) (ps_Cl d 183 [.ref (ps_c0 r0 3), .int ((10 : Int32) + (ps_i s r0 6)), .int x4] s (ps_rV (fun s1 =>
          ps_nk (ps_is r0 9) (ps_nk (ps_is r0 9) (ps_nk (ps_ar (ps_c0 r0 0) 3) (ps_nd (pm_in (ps_i s1 r0 6) (ps_ln (ps_c0 r0 0))) (ps_nk (ps_is r0 9) (ps_nk (ps_is r0 9) (ps_At (d + 1) 133 61 [(0, .ref r0), (1, .int x1), (2, .long l2), (4, .int x4)] [] (ps_ui (ps_ub s1 (ps_c0 r0 0) (Int32.toNatClampNeg (ps_i s1 r0 6)) l2) r0 6 ((ps_i (ps_ub s1 (ps_c0 r0 0) (Int32.toNatClampNeg (ps_i s1 r0 6)) l2) r0 6) + 1)) Q)))))))))))))))))) : ps_At (d + 1) 133 0 [(0, .ref r0), (1, .int x1), (2, .long l2), (4, .int x4)] [] s Q :=
  ps_wp_at (stops := [(61, [0, 1, 2, 4])]) (n := 34) h rfl

theorem pg_133_61 {d : Nat} {r0 : Nat} {x1 : Int32} {l2 : Int64} {x4 : Int32} {s : ps_S} {Q : Option Value → ps_S → Prop} (h :
  (x1 ≠ 9 →
    Q none s) ∧
  (x1 = 9 →
    ps_nk (ps_is r0 9) (((ps_i s r0 7) < 0 →
      Q none s) ∧
    (0 ≤ (ps_i s r0 7) →
      ps_nk (ps_is r0 9) (ps_nk (ps_is r0 9) (ps_nk (Nat.beq (ps_K (ps_c0 r0 1)).1 0) (((nI (ps_ln (ps_c0 r0 1))) ≤ (ps_i s r0 7) →
        Q none s) ∧
      ((ps_i s r0 7) < (nI (ps_ln (ps_c0 r0 1))) →
        ps_nk (ps_is r0 9) (ps_nk (ps_is r0 9) (ps_Cl d 183 [.ref (ps_c0 r0 3), .int ((20 : Int32) + (ps_i s r0 7)), .int x4] s (ps_rV (fun s1 =>
          ps_nk (ps_is r0 9) (ps_nk (ps_is r0 9) (ps_nk (ps_ar (ps_c0 r0 1) 3) (ps_nd (pm_in (ps_i s1 r0 7) (ps_ln (ps_c0 r0 1))) (ps_nk (ps_is r0 9) (ps_nk (ps_is r0 9) (Q none (ps_ui (ps_ub s1 (ps_c0 r0 1) (Int32.toNatClampNeg (ps_i s1 r0 7)) l2) r0 7 ((ps_i (ps_ub s1 (ps_c0 r0 1) (Int32.toNatClampNeg (ps_i s1 r0 7)) l2) r0 7) + 1)))))))))))))))))))) : ps_At (d + 1) 133 61 [(0, .ref r0), (1, .int x1), (2, .long l2), (4, .int x4)] [] s Q :=
  ps_wp_at (stops := [(61, [0, 1, 2, 4])]) (n := 38) h rfl

theorem xs_133_61 {m s : ps_S} {t : Int32} {d : Nat} {r0 : Nat} {x1 : Int32} {l2 : Int64} {x4 : Int32} {Q : Option Value → ps_S → Prop} (h0 : ps_is r0 9 = true) (J : xJ m t s) (k : ∀ (s' : ps_S), xJ m t s' → Q none s') : ps_At (d + 1) 133 61 [(0, .ref r0), (1, .int x1), (2, .long l2), (4, .int x4)] [] s Q :=
  pg_133_61 (d := d) (And.intro (fun f1 => (k s J)) (fun f1 => (ps_nk_i h0 (And.intro (fun f2 => (k s J)) (fun f2 => (ps_nk_i h0 (ps_nk_i h0 (ps_nk_i (xn_l ((xk_9_1 h0)).1) (And.intro (fun f3 => (k s J)) (fun f3 => (ps_nk_i h0 (ps_nk_i h0 (xs_183 (xk_9_3 h0) J (fun s1 J1 e1 => (ps_nk_i h0 (ps_nk_i h0 (ps_nk_i (xn_3 ((xk_9_1 h0)).1) (ps_nd_i (xg_in (by rw [e1]; exact f2) (by rw [e1]; exact f3)) (ps_nk_i h0 (ps_nk_i h0 (k (ps_ui (ps_ub s1 (ps_c0 r0 1) (Int32.toNatClampNeg (ps_i s1 r0 7)) l2) r0 7 ((ps_i (ps_ub s1 (ps_c0 r0 1) (Int32.toNatClampNeg (ps_i s1 r0 7)) l2) r0 7) + 1)) (xw_i (c := 9) (by decide) h0 (xw_b (((xk_9_1 h0)).2) J1)))))))))))))))))))))))

theorem xs_133 {m s : ps_S} {t : Int32} {d : Nat} {r0 : Nat} {x1 : Int32} {l2 : Int64} {x4 : Int32} {f : ps_S → Prop} (h0 : ps_is r0 9 = true) (J : xJ m t s) (k : ∀ (s' : ps_S), xJ m t s' → f s') : ps_Cl (d + 1) 133 [.ref r0, .int x1, .long l2, .int x4] s (ps_rV f) :=
  pg_133_0 (d := d) (And.intro (fun f1 => (xs_133_61 (d := d) (r0 := r0) (x1 := x1) (l2 := l2) (x4 := x4)  h0 J k )) (fun f1 => (ps_nk_i h0 (And.intro (fun f2 => (xs_133_61 (d := d) (r0 := r0) (x1 := x1) (l2 := l2) (x4 := x4)  h0 J k )) (fun f2 => (ps_nk_i h0 (ps_nk_i h0 (ps_nk_i (xn_l ((xk_9_0 h0)).1) (And.intro (fun f3 => (xs_133_61 (d := d) (r0 := r0) (x1 := x1) (l2 := l2) (x4 := x4)  h0 J k )) (fun f3 => (ps_nk_i h0 (ps_nk_i h0 (xs_183 (xk_9_3 h0) J (fun s1 J1 e1 => (ps_nk_i h0 (ps_nk_i h0 (ps_nk_i (xn_3 ((xk_9_0 h0)).1) (ps_nd_i (xg_in (by rw [e1]; exact f2) (by rw [e1]; exact f3)) (ps_nk_i h0 (ps_nk_i h0 (xs_133_61 (d := d) (r0 := r0) (x1 := x1) (l2 := l2) (x4 := x4)  h0 (xw_i (c := 9) (by decide) h0 (xw_b (((xk_9_0 h0)).2) J1)) k )))))))))))))))))))))

-- ProofBench$Reader.takeSymbol(I)Z
theorem pg_63_0 {d : Nat} {r0 : Nat} {x1 : Int32} {s : ps_S} {Q : Option Value → ps_S → Prop} (h :
  ps_nk (ps_is r0 3) (ps_nk (ps_is (ps_c0 r0 0) 10) (((ps_i s (ps_c0 r0 0) 4) = 2 →
    ps_nk (ps_is r0 3) (ps_nk (ps_is (ps_c0 r0 0) 10) (ps_nk (ps_is r0 3) (ps_nk (ps_is (ps_r s r0 5) 9) (ps_Cl d 130 [.ref (ps_r s r0 5), .long (ps_j s (ps_c0 r0 0) 8)] s (ps_rI (fun v1 s1 =>
      (v1 = 0 →
        ps_nk (ps_is r0 3) (ps_nk (ps_is (ps_c0 r0 0) 10) (ps_Cl d 140 [.ref (ps_c0 r0 0)] s1 (ps_rV (fun s2 =>
          ps_nk (ps_is r0 3) (ps_nk (ps_is (ps_c0 r0 0) 10) (((ps_i s2 (ps_c0 r0 0) 4) = 4 →
            ps_nk (ps_is r0 3) (ps_nk (ps_is (ps_c0 r0 0) 10) (((ps_i s2 (ps_c0 r0 0) 7) ≤ 2 →
              ps_nk (ps_is r0 3) (ps_nk (ps_is (ps_c0 r0 0) 10) (ps_Cl d 140 [.ref (ps_c0 r0 0)] s2 (ps_rV (fun s3 =>
                ps_nk (ps_is r0 3) (ps_Cl d 65 [.ref r0] s3 (ps_rI (fun v4 s4 =>
                  (v4 ≠ 0 →
                    ps_nk (ps_is r0 3) (ps_nk (ps_is (ps_r s4 r0 5) 9) (ps_Cl d 133 [.ref (ps_r s4 r0 5), .int x1, .long (ps_j s (ps_c0 r0 0) 8), .int (ps_i s2 (ps_c0 r0 0) 7)] s4 (ps_rV (fun s5 =>
                      Q (some (.int 1)) s5))))) ∧
                  (v4 = 0 →
                    Q (some (.int 0)) s4))))))))) ∧
            (2 < (ps_i s2 (ps_c0 r0 0) 7) →
              ps_nk (ps_is r0 3) (ps_Cl d 62 [.ref r0, .int 4] s2 (ps_rI (fun v6 s6 =>
                ps_nd (decide (v6 &&& 1 = v6)) (Q (some (.int v6)) s6)))))))) ∧
          ((ps_i s2 (ps_c0 r0 0) 4) ≠ 4 →
            ps_nk (ps_is r0 3) (ps_Cl d 62 [.ref r0, .int 2] s2 (ps_rI (fun v7 s7 =>
              ps_nd (decide (v7 &&& 1 = v7)) (Q (some (.int v7)) s7)))))))))))) ∧
      (v1 ≠ 0 →
        ps_nk (ps_is r0 3) (ps_Cl d 62 [.ref r0, .int 3] s1 (ps_rI (fun v8 s8 =>
          ps_nd (decide (v8 &&& 1 = v8)) (Q (some (.int v8)) s8)))))))))))) ∧
  ((ps_i s (ps_c0 r0 0) 4) ≠ 2 →
    ps_nk (ps_is r0 3) (ps_Cl d 62 [.ref r0, .int 2] s (ps_rI (fun v9 s9 =>
      ps_nd (decide (v9 &&& 1 = v9)) (Q (some (.int v9)) s9)))))))) : ps_At (d + 1) 63 0 [(0, .ref r0), (1, .int x1)] [] s Q :=
  ps_wp_at (stops := []) (n := 63) h rfl

theorem xs_63 {m s : ps_S} {t : Int32} {d : Nat} {r0 : Nat} {x1 : Int32} {f : Int32 → ps_S → Prop} (h0 : ps_is r0 3 = true) (J : xJ m t s) (k : ∀ (v : Int32) (s' : ps_S), v &&& 1 = v → xJ m t s' → f v s') : ps_Cl (d + 4) 63 [.ref r0, .int x1] s (ps_rI f) :=
  pg_63_0 (d := d + 3) (ps_nk_i h0 (ps_nk_i (xk_3_0 h0) (And.intro (fun f1 => (ps_nk_i h0 (ps_nk_i (xk_3_0 h0) (ps_nk_i h0 (ps_nk_i (xj_3_5 J h0) (xs_130 (xj_3_5 J h0) J (fun v1 b1 => (And.intro (fun f2 => (ps_nk_i h0 (ps_nk_i (xk_3_0 h0) (xs_140 (xk_3_0 h0) J (fun s2 J2 => (ps_nk_i h0 (ps_nk_i (xk_3_0 h0) (And.intro (fun f3 => (ps_nk_i h0 (ps_nk_i (xk_3_0 h0) (And.intro (fun f4 => (ps_nk_i h0 (ps_nk_i (xk_3_0 h0) (xs_140 (xk_3_0 h0) J2 (fun s3 J3 => (ps_nk_i h0 (xs_65 h0 J3 (fun v4 s4 b4 J4 => (And.intro (fun f5 => (ps_nk_i h0 (ps_nk_i (xj_3_5 J4 h0) (xs_133 (xj_3_5 J4 h0) J4 (fun s5 J5 => (k 1 s5 (by decide) J5)))))) (fun f5 => (k 0 s4 (by decide) J4))))))))))) (fun f4 => (ps_nk_i h0 (xs_62 h0 J2 (fun v6 s6 b6 J6 => (ps_nd_i (decide_eq_true b6) ((k v6 s6 (of_decide_eq_true (decide_eq_true b6)) J6))))))))))) (fun f3 => (ps_nk_i h0 (xs_62 h0 J2 (fun v7 s7 b7 J7 => (ps_nd_i (decide_eq_true b7) ((k v7 s7 (of_decide_eq_true (decide_eq_true b7)) J7))))))))))))))) (fun f2 => (ps_nk_i h0 (xs_62 h0 J (fun v8 s8 b8 J8 => (ps_nd_i (decide_eq_true b8) ((k v8 s8 (of_decide_eq_true (decide_eq_true b8)) J8))))))))))))))) (fun f1 => (ps_nk_i h0 (xs_62 h0 J (fun v9 s9 b9 J9 => (ps_nd_i (decide_eq_true b9) ((k v9 s9 (of_decide_eq_true (decide_eq_true b9)) J9))))))))))

-- ProofBench$Reader.takeTheory([BILProofBench$Theory;)Z
theorem pg_58_0 {d : Nat} {r0 : Nat} {r1 : Nat} {x2 : Int32} {r3 : Nat} {s : ps_S} {Q : Option Value → ps_S → Prop} (h :
  ps_nk (ps_is r3 9) (ps_Cl d 126 [.ref r3] s (ps_rV (fun s1 =>
    ps_nk (ps_is r0 3) (ps_Cl d 61 [.ref r0, .ref r1, .int x2, .ref r3] s1 (ps_rV (fun s2 =>
      ps_At (d + 1) 58 18 [(0, .ref r0), (4, .int 19), (5, .int 0)] [] s2 Q))))))) : ps_At (d + 1) 58 0 [(0, .ref r0), (1, .ref r1), (2, .int x2), (3, .ref r3)] [] s Q :=
  ps_wp_at (stops := [(18, [0, 4, 5]), (65, [0, 4, 5, 6]), (77, [0])]) (n := 13) h rfl

theorem pg_58_18 {d : Nat} {r0 : Nat} {x4 : Int32} {x5 : Int32} {s : ps_S} {Q : Option Value → ps_S → Prop} (h :
  (x4 ≤ x5 →
    Q (some (.int 1)) s) ∧
  (x5 < x4 →
    ps_nk (ps_is r0 3) (ps_nk (ps_is (ps_c0 r0 0) 10) (((ps_i s (ps_c0 r0 0) 4) = 0 →
      Q (some (.int 1)) s) ∧
    ((ps_i s (ps_c0 r0 0) 4) ≠ 0 →
      ps_nk (ps_is r0 3) (ps_nk (ps_is (ps_c0 r0 0) 10) (((ps_i s (ps_c0 r0 0) 6) = 8 →
        ps_At (d + 1) 58 65 [(0, .ref r0), (4, .int x4), (5, .int x5), (6, .int (ps_i s (ps_c0 r0 0) 6))] [] s Q) ∧
      ((ps_i s (ps_c0 r0 0) 6) ≠ 8 →
        ((ps_i s (ps_c0 r0 0) 6) = 9 →
          ps_At (d + 1) 58 65 [(0, .ref r0), (4, .int x4), (5, .int x5), (6, .int (ps_i s (ps_c0 r0 0) 6))] [] s Q) ∧
        ((ps_i s (ps_c0 r0 0) 6) ≠ 9 →
          ((ps_i s (ps_c0 r0 0) 6) ≠ 10 →
            ps_At (d + 1) 58 77 [(0, .ref r0)] [] s Q) ∧
          ((ps_i s (ps_c0 r0 0) 6) = 10 →
            ps_At (d + 1) 58 65 [(0, .ref r0), (4, .int x4), (5, .int x5), (6, .int (ps_i s (ps_c0 r0 0) 6))] [] s Q)))))))))) : ps_At (d + 1) 58 18 [(0, .ref r0), (4, .int x4), (5, .int x5)] [] s Q :=
  ps_wp_at (stops := [(18, [0, 4, 5]), (65, [0, 4, 5, 6]), (77, [0])]) (n := 26) h rfl

theorem pg_58_65 {d : Nat} {r0 : Nat} {x4 : Int32} {x5 : Int32} {x6 : Int32} {s : ps_S} {Q : Option Value → ps_S → Prop} (h :
  ps_nk (ps_is r0 3) (ps_nk (ps_is (ps_r s r0 5) 9) (ps_Cl d 132 [.ref (ps_r s r0 5), .int x6] s (ps_rI (fun v1 s1 =>
    (v1 = 0 →
      ps_nk (ps_is r0 3) (ps_nk (ps_is (ps_c0 r0 0) 10) (ps_Cl d 140 [.ref (ps_c0 r0 0)] s1 (ps_rV (fun s2 =>
        (x6 ≠ 10 →
          ps_nk (ps_is r0 3) (ps_Cl d 63 [.ref r0, .int x6] s2 (ps_rI (fun v3 s3 =>
            (v3 ≠ 0 →
              ps_At (d + 1) 58 18 [(0, .ref r0), (4, .int x4), (5, .int (x5 + 1))] [] s3 Q) ∧
            (v3 = 0 →
              Q (some (.int 0)) s3))))) ∧
        (x6 = 10 →
          ps_nk (ps_is r0 3) (ps_Cl d 64 [.ref r0] s2 (ps_rI (fun v4 s4 =>
            (v4 = 0 →
              Q (some (.int 0)) s4) ∧
            (v4 ≠ 0 →
              ps_At (d + 1) 58 18 [(0, .ref r0), (4, .int x4), (5, .int (x5 + 1))] [] s4 Q)))))))))) ∧
    (v1 ≠ 0 →
      ps_At (d + 1) 58 77 [(0, .ref r0)] [] s1 Q)))))) : ps_At (d + 1) 58 65 [(0, .ref r0), (4, .int x4), (5, .int x5), (6, .int x6)] [] s Q :=
  ps_wp_at (stops := [(18, [0, 4, 5]), (65, [0, 4, 5, 6]), (77, [0])]) (n := 29) h rfl

theorem pg_58_77 {d : Nat} {r0 : Nat} {s : ps_S} {Q : Option Value → ps_S → Prop} (h :
  ps_nk (ps_is r0 3) (ps_Cl d 62 [.ref r0, .int 2] s (ps_rI (fun v1 s1 =>
    ps_nd (decide (v1 &&& 1 = v1)) (Q (some (.int v1)) s1))))) : ps_At (d + 1) 58 77 [(0, .ref r0)] [] s Q :=
  ps_wp_at (stops := [(18, [0, 4, 5]), (65, [0, 4, 5, 6]), (77, [0])]) (n := 6) h rfl

theorem xs_58_77 {m s : ps_S} {t : Int32} {d : Nat} {r0 : Nat} {Q : Option Value → ps_S → Prop} (h0 : ps_is r0 3 = true) (J : xJ m t s) (k : ∀ (v : Int32) (s' : ps_S), v &&& 1 = v → xJ m t s' → Q (some (.int v)) s') : ps_At (d + 39) 58 77 [(0, .ref r0)] [] s Q :=
  pg_58_77 (d := d + 38) (ps_nk_i h0 (xs_62 h0 J (fun v1 s1 b1 J1 => (ps_nd_i (decide_eq_true b1) ((k v1 s1 (of_decide_eq_true (decide_eq_true b1)) J1))))))

theorem xs_58_65 {m s : ps_S} {t : Int32} {d : Nat} {r0 : Nat} {x4 : Int32} {x5 : Int32} {x6 : Int32} {Q : Option Value → ps_S → Prop} (h0 : ps_is r0 3 = true) (J : xJ m t s) (k : ∀ (v : Int32) (s' : ps_S), v &&& 1 = v → xJ m t s' → Q (some (.int v)) s') (K18 : ∀ (s : ps_S), ps_is r0 3 = true → xJ m t s → ps_At (d + 39) 58 18 [(0, .ref r0), (4, .int x4), (5, .int (x5 + 1))] [] s Q) : ps_At (d + 39) 58 65 [(0, .ref r0), (4, .int x4), (5, .int x5), (6, .int x6)] [] s Q :=
  pg_58_65 (d := d + 38) (ps_nk_i h0 (ps_nk_i (xj_3_5 J h0) (xs_132 (xj_3_5 J h0) J (fun v1 b1 => (And.intro (fun f1 => (ps_nk_i h0 (ps_nk_i (xk_3_0 h0) (xs_140 (xk_3_0 h0) J (fun s2 J2 => (And.intro (fun f2 => (ps_nk_i h0 (xs_63 h0 J2 (fun v3 s3 b3 J3 => (And.intro (fun f3 => (K18 s3 h0 J3)) (fun f3 => (k 0 s3 (by decide) J3))))))) (fun f2 => (ps_nk_i h0 (xs_64 h0 J2 (fun v4 s4 b4 J4 => (And.intro (fun f4 => (k 0 s4 (by decide) J4)) (fun f4 => (K18 s4 h0 J4))))))))))))) (fun f1 => (xs_58_77 (d := d) (r0 := r0)  h0 J k )))))))

theorem xs_58_18 {m s : ps_S} {t : Int32} {d : Nat} {r0 : Nat} {x4 : Int32} {x5 : Int32} {Q : Option Value → ps_S → Prop} (h0 : ps_is r0 3 = true) (J : xJ m t s) (k : ∀ (v : Int32) (s' : ps_S), v &&& 1 = v → xJ m t s' → Q (some (.int v)) s') : ps_At (d + 39) 58 18 [(0, .ref r0), (4, .int x4), (5, .int x5)] [] s Q :=
  xs_up (P := fun x5 => ∀ (s : ps_S), ps_is r0 3 = true → xJ m t s → ps_At (d + 39) 58 18 [(0, .ref r0), (4, .int x4), (5, .int x5)] [] s Q) (fun x5 ih s h0 J => pg_58_18 (d := d + 38) (And.intro (fun f1 => (k 1 s (by decide) J)) (fun f1 => (ps_nk_i h0 (ps_nk_i (xk_3_0 h0) (And.intro (fun f2 => (k 1 s (by decide) J)) (fun f2 => (ps_nk_i h0 (ps_nk_i (xk_3_0 h0) (And.intro (fun f3 => (xs_58_65 (d := d) (r0 := r0) (x4 := x4) (x5 := x5) (x6 := (ps_i s (ps_c0 r0 0) 6))  h0 J k (fun s9 h0z J9 => ih (x5 + 1) (xs_lt f1) s9 h0z J9))) (fun f3 => (And.intro (fun f4 => (xs_58_65 (d := d) (r0 := r0) (x4 := x4) (x5 := x5) (x6 := (ps_i s (ps_c0 r0 0) 6))  h0 J k (fun s9 h0z J9 => ih (x5 + 1) (xs_lt f1) s9 h0z J9))) (fun f4 => (And.intro (fun f5 => (xs_58_77 (d := d) (r0 := r0)  h0 J k )) (fun f5 => (xs_58_65 (d := d) (r0 := r0) (x4 := x4) (x5 := x5) (x6 := (ps_i s (ps_c0 r0 0) 6))  h0 J k (fun s9 h0z J9 => ih (x5 + 1) (xs_lt f1) s9 h0z J9))))))))))))))))) x5 s h0 J

theorem xs_58 {m s : ps_S} {t : Int32} {d : Nat} {r0 : Nat} {r1 : Nat} {x2 : Int32} {r3 : Nat} {f : Int32 → ps_S → Prop} (h0 : ps_is r0 3 = true) (h1 : ps_ar r1 1 = true ∧ r1 < 1131) (h3 : ps_is r3 9 = true) (J : xJ m t s) (k : ∀ (v : Int32) (s' : ps_S), v &&& 1 = v → xJ m t s' → f v s') : ps_Cl (d + 39) 58 [.ref r0, .ref r1, .int x2, .ref r3] s (ps_rI f) :=
  pg_58_0 (d := d + 38) (ps_nk_i h3 (xs_126 h3 J (fun s1 J1 => (ps_nk_i h0 (xs_61 h0 h1 h3 J1 (fun s2 J2 => (xs_58_18 (d := d) (r0 := r0) (x4 := 19) (x5 := 0)  h0 J2 k )))))))
