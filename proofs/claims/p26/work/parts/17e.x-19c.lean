section
set_option maxRecDepth 100000
-- ProofBench$Reader.begin([BILProofBench$Theory;)V
theorem pg_61_0 {d : Nat} {r0 : Nat} {r1 : Nat} {x2 : Int32} {r3 : Nat} {s : ps_S} {Q : Option Value → ps_S → Prop} (h :
  ps_nk (ps_is r0 3) (ps_nk (ps_is r0 3) (ps_nk (ps_is r0 3) (ps_nk (ps_is r0 3) (ps_nk (ps_is r0 3) (ps_nk (ps_is r0 3) (ps_nk (ps_is r0 3) (ps_nk (ps_is (ps_c0 r0 0) 10) (ps_Cl d 139 [.ref (ps_c0 r0 0), .ref r1, .int x2] (ps_ui (ps_ui (ps_ui (ps_ui (ps_ui (ps_ur s r0 5 r3) r0 2 0) r0 4 0) r0 8 0) r0 9 0) r0 10 (-1)) (ps_rV (fun s1 =>
    Q none s1))))))))))) : ps_At (d + 1) 61 0 [(0, .ref r0), (1, .ref r1), (2, .int x2), (3, .ref r3)] [] s Q :=
  ps_wp_at (stops := []) (n := 26) h rfl

theorem xs_61 {m s : ps_S} {t : Int32} {d : Nat} {r0 : Nat} {r1 : Nat} {x2 : Int32} {r3 : Nat} {f : ps_S → Prop} (h0 : ps_is r0 3 = true) (h1 : ps_ar r1 1 = true ∧ r1 < 1131) (h3 : ps_is r3 9 = true) (J : xJ m t s) (k : ∀ (s' : ps_S), xJ m t s' → f s') : ps_Cl (d + 4) 61 [.ref r0, .ref r1, .int x2, .ref r3] s (ps_rV f) :=
  pg_61_0 (d := d + 3) (ps_nk_i h0 (ps_nk_i h0 (ps_nk_i h0 (ps_nk_i h0 (ps_nk_i h0 (ps_nk_i h0 (ps_nk_i h0 (ps_nk_i (xk_3_0 h0) (xs_139 (xk_3_0 h0) h1 (xw_i (c := 3) (by decide) h0 (xw_i (c := 3) (by decide) h0 (xw_i (c := 3) (by decide) h0 (xw_i (c := 3) (by decide) h0 (xw_i (c := 3) (by decide) h0 (xw_3_5 h0 h3 J)))))) (fun s1 J1 => (k s1 J1)))))))))))

-- ProofBench$Theory.isFull(I)Z
theorem pg_132_0 {d : Nat} {r0 : Nat} {x1 : Int32} {s : ps_S} {Q : Option Value → ps_S → Prop} (h :
  (x1 = 8 →
    ps_nk (ps_is r0 9) (((ps_i s r0 6) < 6 →
      Q (some (.int 0)) s) ∧
    (6 ≤ (ps_i s r0 6) →
      Q (some (.int 1)) s))) ∧
  (x1 ≠ 8 →
    (x1 = 9 →
    ps_nk (ps_is r0 9) (((ps_i s r0 7) < 4 →
      Q (some (.int 0)) s) ∧
    (4 ≤ (ps_i s r0 7) →
      Q (some (.int 1)) s))) ∧
  (x1 ≠ 9 →
    ps_nk (ps_is r0 9) (((ps_i s r0 8) < 8 →
    Q (some (.int 0)) s) ∧
  (8 ≤ (ps_i s r0 8) →
    Q (some (.int 1)) s))))) : ps_At d 132 0 [(0, .ref r0), (1, .int x1)] [] s Q :=
  ps_wp_at (stops := []) (n := 31) h rfl

theorem xs_132 {m s : ps_S} {t : Int32} {d : Nat} {r0 : Nat} {x1 : Int32} {f : Int32 → ps_S → Prop} (h0 : ps_is r0 9 = true) (J : xJ m t s) (k : ∀ (v : Int32), v &&& 1 = v → f v s) : ps_Cl d 132 [.ref r0, .int x1] s (ps_rI f) :=
  pg_132_0 (And.intro (fun f1 => (ps_nk_i h0 (And.intro (fun f2 => (k 0 (by decide))) (fun f2 => (k 1 (by decide)))))) (fun f1 => (And.intro (fun f3 => (ps_nk_i h0 (And.intro (fun f4 => (k 0 (by decide))) (fun f4 => (k 1 (by decide)))))) (fun f3 => (ps_nk_i h0 (And.intro (fun f5 => (k 0 (by decide))) (fun f5 => (k 1 (by decide)))))))))

-- ProofBench$Reader.refuse(I)Z
theorem pg_62_0 {d : Nat} {r0 : Nat} {x1 : Int32} {s : ps_S} {Q : Option Value → ps_S → Prop} (h :
  ps_nk (ps_is r0 3) (ps_nk (ps_is (ps_c0 r0 0) 10) (((ps_i s (ps_c0 r0 0) 4) ≠ 1 →
    ps_nk (ps_is r0 3) (ps_nk (ps_is r0 3) (ps_nk (ps_is (ps_c0 r0 0) 10) (ps_nk (ps_is r0 3) (Q (some (.int 0)) (ps_ui (ps_ui s r0 9 x1) r0 10 (ps_i (ps_ui s r0 9 x1) (ps_c0 r0 0) 5))))))) ∧
  ((ps_i s (ps_c0 r0 0) 4) = 1 →
    ps_nk (ps_is r0 3) (ps_nk (ps_is r0 3) (ps_nk (ps_is (ps_c0 r0 0) 10) (ps_nk (ps_is r0 3) (Q (some (.int 0)) (ps_ui (ps_ui s r0 9 1) r0 10 (ps_i (ps_ui s r0 9 1) (ps_c0 r0 0) 5)))))))))) : ps_At d 62 0 [(0, .ref r0), (1, .int x1)] [] s Q :=
  ps_wp_at (stops := []) (n := 27) h rfl

theorem xs_62 {m s : ps_S} {t : Int32} {d : Nat} {r0 : Nat} {x1 : Int32} {f : Int32 → ps_S → Prop} (h0 : ps_is r0 3 = true) (J : xJ m t s) (k : ∀ (v : Int32) (s' : ps_S), v &&& 1 = v → xJ m t s' → f v s') : ps_Cl d 62 [.ref r0, .int x1] s (ps_rI f) :=
  pg_62_0 (ps_nk_i h0 (ps_nk_i (xk_3_0 h0) (And.intro (fun f1 => (ps_nk_i h0 (ps_nk_i h0 (ps_nk_i (xk_3_0 h0) (ps_nk_i h0 (k 0 (ps_ui (ps_ui s r0 9 x1) r0 10 (ps_i (ps_ui s r0 9 x1) (ps_c0 r0 0) 5)) (by decide) (xw_i (c := 3) (by decide) h0 (xw_i (c := 3) (by decide) h0 J)))))))) (fun f1 => (ps_nk_i h0 (ps_nk_i h0 (ps_nk_i (xk_3_0 h0) (ps_nk_i h0 (k 0 (ps_ui (ps_ui s r0 9 1) r0 10 (ps_i (ps_ui s r0 9 1) (ps_c0 r0 0) 5)) (by decide) (xw_i (c := 3) (by decide) h0 (xw_i (c := 3) (by decide) h0 J)))))))))))

-- ProofBench$Theory.find([JIJ)I
theorem pg_131_0 {d : Nat} {r0 : Nat} {x1 : Int32} {l2 : Int64} {s : ps_S} {Q : Option Value → ps_S → Prop} (h :
  ps_At d 131 3 [(0, .ref r0), (1, .int x1), (2, .long l2), (4, .int 0)] [] s Q) : ps_At d 131 0 [(0, .ref r0), (1, .int x1), (2, .long l2)] [] s Q :=
  ps_wp_at (stops := [(3, [0, 1, 2, 4])]) (n := 4) h rfl

theorem pg_131_3 {d : Nat} {r0 : Nat} {x1 : Int32} {l2 : Int64} {x4 : Int32} {s : ps_S} {Q : Option Value → ps_S → Prop} (h :
  (x1 ≤ x4 →
    Q (some (.int (-1))) s) ∧
  (x4 < x1 →
    ps_nk (Nat.beq (ps_K r0).1 0) (((nI (ps_ln r0)) ≤ x4 →
      Q (some (.int (-1))) s) ∧
    (x4 < (nI (ps_ln r0)) →
      ps_nk (ps_ar r0 3) (ps_nd (pm_in x4 (ps_ln r0)) (((lg_cmp (ps_b s r0 (Int32.toNatClampNeg x4)) l2) ≠ 0 →
        ps_At d 131 3 [(0, .ref r0), (1, .int x1), (2, .long l2), (4, .int (x4 + 1))] [] s Q) ∧
      ((lg_cmp (ps_b s r0 (Int32.toNatClampNeg x4)) l2) = 0 →
        Q (some (.int x4)) s))))))) : ps_At d 131 3 [(0, .ref r0), (1, .int x1), (2, .long l2), (4, .int x4)] [] s Q :=
  ps_wp_at (stops := [(3, [0, 1, 2, 4])]) (n := 23) h rfl

theorem xs_131_3 {m s : ps_S} {t : Int32} {d : Nat} {r0 : Nat} {x1 : Int32} {l2 : Int64} {x4 : Int32} {Q : Option Value → ps_S → Prop} (h0 : ps_ar r0 3 = true ∧ r0 < 1131) (e0 : 0 ≤ x4) (J : xJ m t s) (k : ∀ (v : Int32), Q (some (.int v)) s) : ps_At d 131 3 [(0, .ref r0), (1, .int x1), (2, .long l2), (4, .int x4)] [] s Q :=
  xs_up (P := fun x4 => ps_ar r0 3 = true ∧ r0 < 1131 → 0 ≤ x4 → ps_At d 131 3 [(0, .ref r0), (1, .int x1), (2, .long l2), (4, .int x4)] [] s Q) (fun x4 ih h0 e0 => pg_131_3 (And.intro (fun f1 => (k (-1))) (fun f1 => (ps_nk_i (xn_l (h0).1) (And.intro (fun f2 => (k (-1))) (fun f2 => (ps_nk_i (xn_3 (h0).1) (ps_nd_i (xg_in e0 f2) (And.intro (fun f3 => (ih ((x4 + 1)) (xs_lt f1) h0 (xs_nn e0 f1))) (fun f3 => (k x4))))))))))) x4 h0 e0

theorem xs_131 {m s : ps_S} {t : Int32} {d : Nat} {r0 : Nat} {x1 : Int32} {l2 : Int64} {f : Int32 → ps_S → Prop} (h0 : ps_ar r0 3 = true ∧ r0 < 1131) (J : xJ m t s) (k : ∀ (v : Int32), f v s) : ps_Cl d 131 [.ref r0, .int x1, .long l2] s (ps_rI f) :=
  pg_131_0 (xs_131_3 (d := d) (r0 := r0) (x1 := x1) (l2 := l2) (x4 := 0)  h0 (by decide) J k )

-- ProofBench$Theory.axiomOf(J)I
theorem pg_129_0 {d : Nat} {r0 : Nat} {l1 : Int64} {s : ps_S} {Q : Option Value → ps_S → Prop} (h :
  ps_nk (ps_is r0 9) (ps_nk (ps_is r0 9) (ps_Cl d 131 [.ref (ps_c0 r0 2), .int (ps_i s r0 8), .long l1] s (ps_rI (fun v1 s1 =>
    Q (some (.int v1)) s1))))) : ps_At (d + 1) 129 0 [(0, .ref r0), (1, .long l1)] [] s Q :=
  ps_wp_at (stops := []) (n := 9) h rfl

theorem xs_129 {m s : ps_S} {t : Int32} {d : Nat} {r0 : Nat} {l1 : Int64} {f : Int32 → ps_S → Prop} (h0 : ps_is r0 9 = true) (J : xJ m t s) (k : ∀ (v : Int32), f v s) : ps_Cl (d + 1) 129 [.ref r0, .long l1] s (ps_rI f) :=
  pg_129_0 (d := d) (ps_nk_i h0 (ps_nk_i h0 (xs_131 (xk_9_2 h0) J (fun v1 => (k v1)))))

-- ProofBench$Theory.isSymbol(J)Z
theorem pg_130_0 {d : Nat} {r0 : Nat} {l1 : Int64} {s : ps_S} {Q : Option Value → ps_S → Prop} (h :
  ps_nk (ps_is r0 9) (ps_nk (ps_is r0 9) (ps_Cl d 131 [.ref (ps_c0 r0 0), .int (ps_i s r0 6), .long l1] s (ps_rI (fun v1 s1 =>
    (v1 ≠ (-1) →
      Q (some (.int 1)) s1) ∧
    (v1 = (-1) →
      ps_nk (ps_is r0 9) (ps_nk (ps_is r0 9) (ps_Cl d 131 [.ref (ps_c0 r0 1), .int (ps_i s1 r0 7), .long l1] s1 (ps_rI (fun v2 s2 =>
        (v2 = (-1) →
          Q (some (.int 0)) s2) ∧
        (v2 ≠ (-1) →
          Q (some (.int 1)) s2))))))))))) : ps_At (d + 1) 130 0 [(0, .ref r0), (1, .long l1)] [] s Q :=
  ps_wp_at (stops := []) (n := 26) h rfl

theorem xs_130 {m s : ps_S} {t : Int32} {d : Nat} {r0 : Nat} {l1 : Int64} {f : Int32 → ps_S → Prop} (h0 : ps_is r0 9 = true) (J : xJ m t s) (k : ∀ (v : Int32), v &&& 1 = v → f v s) : ps_Cl (d + 1) 130 [.ref r0, .long l1] s (ps_rI f) :=
  pg_130_0 (d := d) (ps_nk_i h0 (ps_nk_i h0 (xs_131 (xk_9_0 h0) J (fun v1 => (And.intro (fun f1 => (k 1 (by decide))) (fun f1 => (ps_nk_i h0 (ps_nk_i h0 (xs_131 (xk_9_1 h0) J (fun v2 => (And.intro (fun f2 => (k 0 (by decide))) (fun f2 => (k 1 (by decide))))))))))))))

-- ProofBench$Reader.isX()Z
theorem pg_77_0 {d : Nat} {r0 : Nat} {s : ps_S} {Q : Option Value → ps_S → Prop} (h :
  ps_nk (ps_is r0 3) (ps_nk (ps_is (ps_c0 r0 0) 10) (((ps_i s (ps_c0 r0 0) 4) ≠ 2 →
    Q (some (.int 0)) s) ∧
  ((ps_i s (ps_c0 r0 0) 4) = 2 →
    ps_nk (ps_is r0 3) (ps_nk (ps_is r0 3) (ps_nk (ps_is (ps_c0 r0 0) 10) (ps_nk (ps_is (ps_r s r0 5) 9) (ps_Cl d 130 [.ref (ps_r s r0 5), .long (ps_j s (ps_c0 r0 0) 8)] s (ps_rI (fun v1 s1 =>
      (v1 ≠ 0 →
        Q (some (.int 0)) s1) ∧
      (v1 = 0 →
        Q (some (.int 1)) s1))))))))))) : ps_At (d + 1) 77 0 [(0, .ref r0)] [] s Q :=
  ps_wp_at (stops := []) (n := 21) h rfl

theorem xs_77 {m s : ps_S} {t : Int32} {d : Nat} {r0 : Nat} {f : Int32 → ps_S → Prop} (h0 : ps_is r0 3 = true) (J : xJ m t s) (k : ∀ (v : Int32), v &&& 1 = v → f v s) : ps_Cl (d + 2) 77 [.ref r0] s (ps_rI f) :=
  pg_77_0 (d := d + 1) (ps_nk_i h0 (ps_nk_i (xk_3_0 h0) (And.intro (fun f1 => (k 0 (by decide))) (fun f1 => (ps_nk_i h0 (ps_nk_i h0 (ps_nk_i (xk_3_0 h0) (ps_nk_i (xj_3_5 J h0) (xs_130 (xj_3_5 J h0) J (fun v1 b1 => (And.intro (fun f2 => (k 0 (by decide))) (fun f2 => (k 1 (by decide))))))))))))))

-- ProofBench$Reader.hasRoom(II)Z
theorem pg_73_0 {d : Nat} {r0 : Nat} {x1 : Int32} {x2 : Int32} {s : ps_S} {Q : Option Value → ps_S → Prop} (h :
  (12 < x1 →
    Q (some (.int 0)) s) ∧
  (x1 ≤ 12 →
    ps_nk (ps_is r0 3) (ps_nk (ps_is (ps_r s r0 6) 5) (ps_nk (ps_is r0 3) ((40 < (((ps_i s (ps_r s r0 6) 1) + (ps_i s r0 7)) + x2) →
      Q (some (.int 0)) s) ∧
    ((((ps_i s (ps_r s r0 6) 1) + (ps_i s r0 7)) + x2) ≤ 40 →
      Q (some (.int 1)) s)))))) : ps_At d 73 0 [(0, .ref r0), (1, .int x1), (2, .int x2)] [] s Q :=
  ps_wp_at (stops := []) (n := 22) h rfl

theorem xs_73 {m s : ps_S} {t : Int32} {d : Nat} {r0 : Nat} {x1 : Int32} {x2 : Int32} {f : Int32 → ps_S → Prop} (h0 : ps_is r0 3 = true) (J : xJ m t s) (k : ∀ (v : Int32), v &&& 1 = v → (v ≠ 0 → x1 ≤ 12) → f v s) : ps_Cl d 73 [.ref r0, .int x1, .int x2] s (ps_rI f) :=
  pg_73_0 (And.intro (fun f1 => (k 0 (by decide) (fun z => absurd rfl z))) (fun f1 => (ps_nk_i h0 (ps_nk_i (xj_3_6 J h0) (ps_nk_i h0 (And.intro (fun f2 => (k 0 (by decide) (fun z => absurd rfl z))) (fun f2 => (k 1 (by decide) (fun _ => f1)))))))))

-- ProofBench$Theory.relOf(J)I
theorem pg_127_0 {d : Nat} {r0 : Nat} {l1 : Int64} {s : ps_S} {Q : Option Value → ps_S → Prop} (h :
  ps_nk (ps_is r0 9) (ps_nk (ps_is r0 9) (ps_Cl d 131 [.ref (ps_c0 r0 0), .int (ps_i s r0 6), .long l1] s (ps_rI (fun v1 s1 =>
    Q (some (.int v1)) s1))))) : ps_At (d + 1) 127 0 [(0, .ref r0), (1, .long l1)] [] s Q :=
  ps_wp_at (stops := []) (n := 9) h rfl

theorem xs_127 {m s : ps_S} {t : Int32} {d : Nat} {r0 : Nat} {l1 : Int64} {f : Int32 → ps_S → Prop} (h0 : ps_is r0 9 = true) (J : xJ m t s) (k : ∀ (v : Int32), f v s) : ps_Cl (d + 1) 127 [.ref r0, .long l1] s (ps_rI f) :=
  pg_127_0 (d := d) (ps_nk_i h0 (ps_nk_i h0 (xs_131 (xk_9_0 h0) J (fun v1 => (k v1)))))

-- ProofBench$Reader.formulaPiece()I
theorem pg_72_0 {d : Nat} {r0 : Nat} {s : ps_S} {Q : Option Value → ps_S → Prop} (h :
  ps_nk (ps_is r0 3) (ps_nk (ps_is (ps_c0 r0 0) 10) (((ps_i s (ps_c0 r0 0) 6) < 0 →
    ps_At (d + 1) 72 30 [(0, .ref r0)] [] s Q) ∧
  (0 ≤ (ps_i s (ps_c0 r0 0) 6) →
    ps_nk (ps_is r0 3) (ps_nk (ps_is (ps_c0 r0 0) 10) ((6 < (ps_i s (ps_c0 r0 0) 6) →
      ps_At (d + 1) 72 30 [(0, .ref r0)] [] s Q) ∧
    ((ps_i s (ps_c0 r0 0) 6) ≤ 6 →
      ps_nk (ps_is r0 3) (ps_nk (ps_is (ps_c0 r0 0) 10) (Q (some (.int (ps_i s (ps_c0 r0 0) 6))) s))))))))) : ps_At (d + 1) 72 0 [(0, .ref r0)] [] s Q :=
  ps_wp_at (stops := [(30, [0])]) (n := 15) h rfl

theorem pg_72_30 {d : Nat} {r0 : Nat} {s : ps_S} {Q : Option Value → ps_S → Prop} (h :
  ps_nk (ps_is r0 3) (ps_nk (ps_is (ps_c0 r0 0) 10) (((ps_i s (ps_c0 r0 0) 4) ≠ 2 →
    ((-1 : Int32) ≠ (-1) →
      Q (some (.int ((10 : Int32) + (-1)))) s) ∧
    ((-1 : Int32) = (-1) →
      Q (some (.int (-1))) s)) ∧
  ((ps_i s (ps_c0 r0 0) 4) = 2 →
    ps_nk (ps_is r0 3) (ps_nk (ps_is r0 3) (ps_nk (ps_is (ps_c0 r0 0) 10) (ps_nk (ps_is (ps_r s r0 5) 9) (ps_Cl d 127 [.ref (ps_r s r0 5), .long (ps_j s (ps_c0 r0 0) 8)] s (ps_rI (fun v1 s1 =>
      (v1 ≠ (-1) →
        Q (some (.int ((10 : Int32) + v1))) s1) ∧
      (v1 = (-1) →
        Q (some (.int (-1))) s1))))))))))) : ps_At (d + 1) 72 30 [(0, .ref r0)] [] s Q :=
  ps_wp_at (stops := [(30, [0])]) (n := 37) h rfl

theorem xs_72_30 {m s : ps_S} {t : Int32} {d : Nat} {r0 : Nat} {Q : Option Value → ps_S → Prop} (h0 : ps_is r0 3 = true) (J : xJ m t s) (k : ∀ (v : Int32), Q (some (.int v)) s) : ps_At (d + 2) 72 30 [(0, .ref r0)] [] s Q :=
  pg_72_30 (d := d + 1) (ps_nk_i h0 (ps_nk_i (xk_3_0 h0) (And.intro (fun f1 => (And.intro (fun f2 => (k ((10 : Int32) + (-1)))) (fun f2 => (k (-1))))) (fun f1 => (ps_nk_i h0 (ps_nk_i h0 (ps_nk_i (xk_3_0 h0) (ps_nk_i (xj_3_5 J h0) (xs_127 (xj_3_5 J h0) J (fun v1 => (And.intro (fun f3 => (k ((10 : Int32) + v1))) (fun f3 => (k (-1))))))))))))))

theorem xs_72 {m s : ps_S} {t : Int32} {d : Nat} {r0 : Nat} {f : Int32 → ps_S → Prop} (h0 : ps_is r0 3 = true) (J : xJ m t s) (k : ∀ (v : Int32), f v s) : ps_Cl (d + 2) 72 [.ref r0] s (ps_rI f) :=
  pg_72_0 (d := d + 1) (ps_nk_i h0 (ps_nk_i (xk_3_0 h0) (And.intro (fun f1 => (xs_72_30 (d := d) (r0 := r0)  h0 J k )) (fun f1 => (ps_nk_i h0 (ps_nk_i (xk_3_0 h0) (And.intro (fun f2 => (xs_72_30 (d := d) (r0 := r0)  h0 J k )) (fun f2 => (ps_nk_i h0 (ps_nk_i (xk_3_0 h0) (k (ps_i s (ps_c0 r0 0) 6))))))))))))

-- ProofBench$Theory.funOf(J)I
theorem pg_128_0 {d : Nat} {r0 : Nat} {l1 : Int64} {s : ps_S} {Q : Option Value → ps_S → Prop} (h :
  ps_nk (ps_is r0 9) (ps_nk (ps_is r0 9) (ps_Cl d 131 [.ref (ps_c0 r0 1), .int (ps_i s r0 7), .long l1] s (ps_rI (fun v1 s1 =>
    Q (some (.int v1)) s1))))) : ps_At (d + 1) 128 0 [(0, .ref r0), (1, .long l1)] [] s Q :=
  ps_wp_at (stops := []) (n := 9) h rfl

theorem xs_128 {m s : ps_S} {t : Int32} {d : Nat} {r0 : Nat} {l1 : Int64} {f : Int32 → ps_S → Prop} (h0 : ps_is r0 9 = true) (J : xJ m t s) (k : ∀ (v : Int32), f v s) : ps_Cl (d + 1) 128 [.ref r0, .long l1] s (ps_rI f) :=
  pg_128_0 (d := d) (ps_nk_i h0 (ps_nk_i h0 (xs_131 (xk_9_1 h0) J (fun v1 => (k v1)))))

-- ProofBench$Reader.freePiece()I
theorem pg_79_0 {d : Nat} {r0 : Nat} {s : ps_S} {Q : Option Value → ps_S → Prop} (h :
  ps_At d 79 2 [(0, .ref r0), (1, .int 0)] [] s Q) : ps_At d 79 0 [(0, .ref r0)] [] s Q :=
  ps_wp_at (stops := [(2, [0, 1]), (47, [0])]) (n := 4) h rfl

theorem pg_79_2 {d : Nat} {r0 : Nat} {x1 : Int32} {s : ps_S} {Q : Option Value → ps_S → Prop} (h :
  ps_nk (ps_is r0 3) (((ps_i s r0 2) ≤ x1 →
    ps_At d 79 47 [(0, .ref r0)] [] s Q) ∧
  (x1 < (ps_i s r0 2) →
    ps_nk (ps_is r0 3) (ps_nk (Nat.beq (ps_K (ps_c0 r0 1)).1 0) (((nI (ps_ln (ps_c0 r0 1))) ≤ x1 →
      ps_At d 79 47 [(0, .ref r0)] [] s Q) ∧
    (x1 < (nI (ps_ln (ps_c0 r0 1))) →
      ps_nk (ps_is r0 3) (ps_nk (ps_ar (ps_c0 r0 1) 3) (ps_nd (pm_in x1 (ps_ln (ps_c0 r0 1))) (ps_nk (ps_is r0 3) (ps_nk (ps_is (ps_c0 r0 0) 10) (((lg_cmp (ps_b s (ps_c0 r0 1) (Int32.toNatClampNeg x1)) (ps_j s (ps_c0 r0 0) 8)) ≠ 0 →
        ps_At d 79 2 [(0, .ref r0), (1, .int (x1 + 1))] [] s Q) ∧
      ((lg_cmp (ps_b s (ps_c0 r0 1) (Int32.toNatClampNeg x1)) (ps_j s (ps_c0 r0 0) 8)) = 0 →
        Q (some (.int ((60 : Int32) + x1))) s)))))))))))) : ps_At d 79 2 [(0, .ref r0), (1, .int x1)] [] s Q :=
  ps_wp_at (stops := [(2, [0, 1]), (47, [0])]) (n := 26) h rfl

theorem pg_79_47 {d : Nat} {r0 : Nat} {s : ps_S} {Q : Option Value → ps_S → Prop} (h :
  ps_nk (ps_is r0 3) (((ps_i s r0 2) < 0 →
    Q (some (.int (-1))) s) ∧
  (0 ≤ (ps_i s r0 2) →
    ps_nk (ps_is r0 3) (ps_nk (ps_is r0 3) (ps_nk (Nat.beq (ps_K (ps_c0 r0 1)).1 0) (((ps_i s r0 2) < (nI (ps_ln (ps_c0 r0 1))) →
      ps_nk (ps_is r0 3) (ps_nk (ps_is r0 3) (ps_nk (ps_is r0 3) (ps_nk (ps_is (ps_c0 r0 0) 10) (ps_nk (ps_ar (ps_c0 r0 1) 3) (ps_nd (pm_in (ps_i s r0 2) (ps_ln (ps_c0 r0 1))) (ps_nk (ps_is r0 3) (ps_nk (ps_is r0 3) (ps_nk (ps_is r0 3) (Q (some (.int (((60 : Int32) + (ps_i (ps_ui (ps_ub s (ps_c0 r0 1) (Int32.toNatClampNeg (ps_i s r0 2)) (ps_j s (ps_c0 r0 0) 8)) r0 2 ((ps_i (ps_ub s (ps_c0 r0 1) (Int32.toNatClampNeg (ps_i s r0 2)) (ps_j s (ps_c0 r0 0) 8)) r0 2) + 1)) r0 2)) - 1))) (ps_ui (ps_ub s (ps_c0 r0 1) (Int32.toNatClampNeg (ps_i s r0 2)) (ps_j s (ps_c0 r0 0) 8)) r0 2 ((ps_i (ps_ub s (ps_c0 r0 1) (Int32.toNatClampNeg (ps_i s r0 2)) (ps_j s (ps_c0 r0 0) 8)) r0 2) + 1)))))))))))) ∧
    ((nI (ps_ln (ps_c0 r0 1))) ≤ (ps_i s r0 2) →
      Q (some (.int (-1))) s))))))) : ps_At d 79 47 [(0, .ref r0)] [] s Q :=
  ps_wp_at (stops := [(2, [0, 1]), (47, [0])]) (n := 36) h rfl

theorem xs_79_47 {m s : ps_S} {t : Int32} {d : Nat} {r0 : Nat} {Q : Option Value → ps_S → Prop} (h0 : ps_is r0 3 = true) (J : xJ m t s) (k : ∀ (v : Int32) (s' : ps_S), xJ m t s' → Q (some (.int v)) s') : ps_At d 79 47 [(0, .ref r0)] [] s Q :=
  pg_79_47 (ps_nk_i h0 (And.intro (fun f1 => (k (-1) s J)) (fun f1 => (ps_nk_i h0 (ps_nk_i h0 (ps_nk_i (xn_l ((xk_3_1 h0)).1) (And.intro (fun f2 => (ps_nk_i h0 (ps_nk_i h0 (ps_nk_i h0 (ps_nk_i (xk_3_0 h0) (ps_nk_i (xn_3 ((xk_3_1 h0)).1) (ps_nd_i (xg_in f1 f2) (ps_nk_i h0 (ps_nk_i h0 (ps_nk_i h0 (k (((60 : Int32) + (ps_i (ps_ui (ps_ub s (ps_c0 r0 1) (Int32.toNatClampNeg (ps_i s r0 2)) (ps_j s (ps_c0 r0 0) 8)) r0 2 ((ps_i (ps_ub s (ps_c0 r0 1) (Int32.toNatClampNeg (ps_i s r0 2)) (ps_j s (ps_c0 r0 0) 8)) r0 2) + 1)) r0 2)) - 1) (ps_ui (ps_ub s (ps_c0 r0 1) (Int32.toNatClampNeg (ps_i s r0 2)) (ps_j s (ps_c0 r0 0) 8)) r0 2 ((ps_i (ps_ub s (ps_c0 r0 1) (Int32.toNatClampNeg (ps_i s r0 2)) (ps_j s (ps_c0 r0 0) 8)) r0 2) + 1)) (xw_i (c := 3) (by decide) h0 (xw_b (((xk_3_1 h0)).2) J))))))))))))) (fun f2 => (k (-1) s J)))))))))

theorem xs_79_2 {m s : ps_S} {t : Int32} {d : Nat} {r0 : Nat} {x1 : Int32} {Q : Option Value → ps_S → Prop} (h0 : ps_is r0 3 = true) (e0 : 0 ≤ x1) (J : xJ m t s) (k : ∀ (v : Int32) (s' : ps_S), xJ m t s' → Q (some (.int v)) s') : ps_At d 79 2 [(0, .ref r0), (1, .int x1)] [] s Q :=
  xs_up (P := fun x1 => ∀ (s : ps_S), ps_is r0 3 = true → 0 ≤ x1 → xJ m t s → ps_At d 79 2 [(0, .ref r0), (1, .int x1)] [] s Q) (fun x1 ih s h0 e0 J => pg_79_2 (ps_nk_i h0 (And.intro (fun f1 => (xs_79_47 (d := d) (r0 := r0)  h0 J k )) (fun f1 => (ps_nk_i h0 (ps_nk_i (xn_l ((xk_3_1 h0)).1) (And.intro (fun f2 => (xs_79_47 (d := d) (r0 := r0)  h0 J k )) (fun f2 => (ps_nk_i h0 (ps_nk_i (xn_3 ((xk_3_1 h0)).1) (ps_nd_i (xg_in e0 f2) (ps_nk_i h0 (ps_nk_i (xk_3_0 h0) (And.intro (fun f3 => (ih ((x1 + 1)) (xs_lt f1) s h0 (xs_nn e0 f1) J)) (fun f3 => (k ((60 : Int32) + x1) s J)))))))))))))))) x1 s h0 e0 J

theorem xs_79 {m s : ps_S} {t : Int32} {d : Nat} {r0 : Nat} {f : Int32 → ps_S → Prop} (h0 : ps_is r0 3 = true) (J : xJ m t s) (k : ∀ (v : Int32) (s' : ps_S), xJ m t s' → f v s') : ps_Cl d 79 [.ref r0] s (ps_rI f) :=
  pg_79_0 (xs_79_2 (d := d) (r0 := r0) (x1 := 0)  h0 (by decide) J k )

-- ProofBench$Reader.pieceOfX()I
theorem pg_78_0 {d : Nat} {r0 : Nat} {s : ps_S} {Q : Option Value → ps_S → Prop} (h :
  ps_At (d + 1) 78 2 [(0, .ref r0), (1, .int 0)] [] s Q) : ps_At (d + 1) 78 0 [(0, .ref r0)] [] s Q :=
  ps_wp_at (stops := [(2, [0, 1])]) (n := 4) h rfl

theorem pg_78_2 {d : Nat} {r0 : Nat} {x1 : Int32} {s : ps_S} {Q : Option Value → ps_S → Prop} (h :
  ps_nk (ps_is r0 3) (((ps_i s r0 4) ≤ x1 →
    ps_nk (ps_is r0 3) (((ps_i s r0 8) = 0 →
      ps_nk (ps_is r0 3) (ps_Cl d 79 [.ref r0] s (ps_rI (fun v1 s1 =>
        Q (some (.int v1)) s1)))) ∧
    ((ps_i s r0 8) ≠ 0 →
      Q (some (.int (-1))) s))) ∧
  (x1 < (ps_i s r0 4) →
    ps_nk (ps_is r0 3) (((((ps_i s r0 4) - 1) - x1) < 0 →
      ps_At (d + 1) 78 2 [(0, .ref r0), (1, .int (x1 + 1))] [] s Q) ∧
    (0 ≤ (((ps_i s r0 4) - 1) - x1) →
      ps_nk (ps_is r0 3) (ps_nk (Nat.beq (ps_K (ps_c0 r0 3)).1 0) (((nI (ps_ln (ps_c0 r0 3))) ≤ (((ps_i s r0 4) - 1) - x1) →
        ps_At (d + 1) 78 2 [(0, .ref r0), (1, .int (x1 + 1))] [] s Q) ∧
      ((((ps_i s r0 4) - 1) - x1) < (nI (ps_ln (ps_c0 r0 3))) →
        ps_nk (ps_is r0 3) (ps_nk (ps_ar (ps_c0 r0 3) 3) (ps_nd (pm_in (((ps_i s r0 4) - 1) - x1) (ps_ln (ps_c0 r0 3))) (ps_nk (ps_is r0 3) (ps_nk (ps_is (ps_c0 r0 0) 10) (((lg_cmp (ps_b s (ps_c0 r0 3) (Int32.toNatClampNeg (((ps_i s r0 4) - 1) - x1))) (ps_j s (ps_c0 r0 0) 8)) ≠ 0 →
          ps_At (d + 1) 78 2 [(0, .ref r0), (1, .int (x1 + 1))] [] s Q) ∧
        ((lg_cmp (ps_b s (ps_c0 r0 3) (Int32.toNatClampNeg (((ps_i s r0 4) - 1) - x1))) (ps_j s (ps_c0 r0 0) 8)) = 0 →
          Q (some (.int ((40 : Int32) + x1))) s)))))))))))))) : ps_At (d + 1) 78 2 [(0, .ref r0), (1, .int x1)] [] s Q :=
  ps_wp_at (stops := [(2, [0, 1])]) (n := 48) h rfl

theorem xs_78_2 {m s : ps_S} {t : Int32} {d : Nat} {r0 : Nat} {x1 : Int32} {Q : Option Value → ps_S → Prop} (h0 : ps_is r0 3 = true) (J : xJ m t s) (k : ∀ (v : Int32) (s' : ps_S), xJ m t s' → Q (some (.int v)) s') : ps_At (d + 1) 78 2 [(0, .ref r0), (1, .int x1)] [] s Q :=
  xs_up (P := fun x1 => ∀ (s : ps_S), ps_is r0 3 = true → xJ m t s → ps_At (d + 1) 78 2 [(0, .ref r0), (1, .int x1)] [] s Q) (fun x1 ih s h0 J => pg_78_2 (d := d) (ps_nk_i h0 (And.intro (fun f1 => (ps_nk_i h0 (And.intro (fun f2 => (ps_nk_i h0 (xs_79 h0 J (fun v1 s1 J1 => (k v1 s1 J1))))) (fun f2 => (k (-1) s J))))) (fun f1 => (ps_nk_i h0 (And.intro (fun f3 => (ih ((x1 + 1)) (xs_lt f1) s h0 J)) (fun f3 => (ps_nk_i h0 (ps_nk_i (xn_l ((xk_3_3 h0)).1) (And.intro (fun f4 => (ih ((x1 + 1)) (xs_lt f1) s h0 J)) (fun f4 => (ps_nk_i h0 (ps_nk_i (xn_3 ((xk_3_3 h0)).1) (ps_nd_i (xg_in f3 f4) (ps_nk_i h0 (ps_nk_i (xk_3_0 h0) (And.intro (fun f5 => (ih ((x1 + 1)) (xs_lt f1) s h0 J)) (fun f5 => (k ((40 : Int32) + x1) s J))))))))))))))))))) x1 s h0 J

theorem xs_78 {m s : ps_S} {t : Int32} {d : Nat} {r0 : Nat} {f : Int32 → ps_S → Prop} (h0 : ps_is r0 3 = true) (J : xJ m t s) (k : ∀ (v : Int32) (s' : ps_S), xJ m t s' → f v s') : ps_Cl (d + 1) 78 [.ref r0] s (ps_rI f) :=
  pg_78_0 (d := d) (xs_78_2 (d := d) (r0 := r0) (x1 := 0)  h0 J k )

-- ProofBench$Reader.takeParts(II)Z
theorem pg_71_0 {d : Nat} {r0 : Nat} {x1 : Int32} {x2 : Int32} {s : ps_S} {Q : Option Value → ps_S → Prop} (h :
  ps_nk (ps_is r0 3) (ps_nk (ps_is (ps_r s r0 5) 9) (ps_Cl d 136 [.ref (ps_r s r0 5), .int x1] s (ps_rI (fun v1 s1 =>
    ps_At (d + 1) 71 9 [(0, .ref r0), (1, .int x1), (2, .int x2), (3, .int v1)] [] s1 Q))))) : ps_At (d + 1) 71 0 [(0, .ref r0), (1, .int x1), (2, .int x2)] [] s Q :=
  ps_wp_at (stops := [(9, [0, 1, 2, 3])]) (n := 7) h rfl

theorem pg_71_9 {d : Nat} {r0 : Nat} {x1 : Int32} {x2 : Int32} {x3 : Int32} {s : ps_S} {Q : Option Value → ps_S → Prop} (h :
  (x3 ≤ 0 →
    Q (some (.int 1)) s) ∧
  (0 < x3 →
    (x1 < 6 →
      ps_nk (ps_is r0 3) (ps_Cl d 70 [.ref r0, .int x2] s (ps_rI (fun v1 s1 =>
        (v1 ≠ 0 →
          ps_At (d + 1) 71 9 [(0, .ref r0), (1, .int x1), (2, .int x2), (3, .int (x3 + (-1)))] [] s1 Q) ∧
        (v1 = 0 →
          Q (some (.int 0)) s1))))) ∧
    (6 ≤ x1 →
      ps_nk (ps_is r0 3) (ps_Cl d 76 [.ref r0, .int x2] s (ps_rI (fun v2 s2 =>
        (v2 = 0 →
          Q (some (.int 0)) s2) ∧
        (v2 ≠ 0 →
          ps_At (d + 1) 71 9 [(0, .ref r0), (1, .int x1), (2, .int x2), (3, .int (x3 + (-1)))] [] s2 Q))))))) : ps_At (d + 1) 71 9 [(0, .ref r0), (1, .int x1), (2, .int x2), (3, .int x3)] [] s Q :=
  ps_wp_at (stops := [(9, [0, 1, 2, 3])]) (n := 26) h rfl

theorem xr_71_9 {m s : ps_S} {t : Int32} {d : Nat} {r0 : Nat} {x1 : Int32} {x2 : Int32} {x3 : Int32} {Q : Option Value → ps_S → Prop} (HF : xsF d x2) (HT : xsT d x2) (h0 : ps_is r0 3 = true) (J : xJ m t s) (k : ∀ (v : Int32) (s' : ps_S), v &&& 1 = v → xJ m t s' → Q (some (.int v)) s') : ps_At (d + 9) 71 9 [(0, .ref r0), (1, .int x1), (2, .int x2), (3, .int x3)] [] s Q :=
  xs_dn (P := fun x3 => ∀ (s : ps_S), ps_is r0 3 = true → xJ m t s → ps_At (d + 9) 71 9 [(0, .ref r0), (1, .int x1), (2, .int x2), (3, .int x3)] [] s Q) (fun x3 ih s h0 J => pg_71_9 (d := d + 8) (And.intro (fun f1 => (k 1 s (by decide) J)) (fun f1 => (And.intro (fun f2 => (ps_nk_i h0 (HF _ _ _ _ _ h0 J (fun v1 s1 b1 J1 => (And.intro (fun f3 => (ih ((x3 + (-1))) (xs_gt f1) s1 h0 J1)) (fun f3 => (k 0 s1 (by decide) J1))))))) (fun f2 => (ps_nk_i h0 (HT _ _ _ _ _ h0 J (fun v2 s2 b2 J2 => (And.intro (fun f4 => (k 0 s2 (by decide) J2)) (fun f4 => (ih ((x3 + (-1))) (xs_gt f1) s2 h0 J2))))))))))) x3 s h0 J

theorem xr_71 {m s : ps_S} {t : Int32} {d : Nat} {r0 : Nat} {x1 : Int32} {x2 : Int32} {f : Int32 → ps_S → Prop} (HF : xsF d x2) (HT : xsT d x2) (h0 : ps_is r0 3 = true) (J : xJ m t s) (k : ∀ (v : Int32) (s' : ps_S), v &&& 1 = v → xJ m t s' → f v s') : ps_Cl (d + 9) 71 [.ref r0, .int x1, .int x2] s (ps_rI f) :=
  pg_71_0 (d := d + 8) (ps_nk_i h0 (ps_nk_i (xj_3_5 J h0) (xs_136 (xj_3_5 J h0) J (fun v1 => (xr_71_9 (d := d) (r0 := r0) (x1 := x1) (x2 := x2) (x3 := v1) HF HT h0 J k )))))

-- ProofBench$Reader.takeBound(I)Z
theorem pg_75_0 {d : Nat} {r0 : Nat} {x1 : Int32} {s : ps_S} {Q : Option Value → ps_S → Prop} (h :
  ps_nk (ps_is r0 3) (ps_Cl d 77 [.ref r0] s (ps_rI (fun v1 s1 =>
    (v1 ≠ 0 →
      ps_nk (ps_is r0 3) (((ps_i s1 r0 4) < 0 →
        ps_At (d + 1) 75 58 [(0, .ref r0), (1, .int x1)] [] s1 Q) ∧
      (0 ≤ (ps_i s1 r0 4) →
        ps_nk (ps_is r0 3) (ps_nk (ps_is r0 3) (ps_nk (Nat.beq (ps_K (ps_c0 r0 3)).1 0) (((nI (ps_ln (ps_c0 r0 3))) ≤ (ps_i s1 r0 4) →
          ps_At (d + 1) 75 58 [(0, .ref r0), (1, .int x1)] [] s1 Q) ∧
        ((ps_i s1 r0 4) < (nI (ps_ln (ps_c0 r0 3))) →
          ps_nk (ps_is r0 3) (ps_nk (ps_is r0 3) (ps_nk (ps_is r0 3) (ps_nk (ps_is (ps_c0 r0 0) 10) (ps_nk (ps_ar (ps_c0 r0 3) 3) (ps_nd (pm_in (ps_i s1 r0 4) (ps_ln (ps_c0 r0 3))) (ps_nk (ps_is r0 3) (ps_nk (ps_is r0 3) (ps_At (d + 1) 75 58 [(0, .ref r0), (1, .int x1)] [] (ps_ui (ps_ub s1 (ps_c0 r0 3) (Int32.toNatClampNeg (ps_i s1 r0 4)) (ps_j s1 (ps_c0 r0 0) 8)) r0 4 ((ps_i (ps_ub s1 (ps_c0 r0 3) (Int32.toNatClampNeg (ps_i s1 r0 4)) (ps_j s1 (ps_c0 r0 0) 8)) r0 4) + 1)) Q))))))))))))))) ∧
    (v1 = 0 →
      ps_nk (ps_is r0 3) (ps_Cl d 62 [.ref r0, .int 2] s1 (ps_rI (fun v2 s2 =>
        ps_nd (decide (v2 &&& 1 = v2)) (Q (some (.int v2)) s2))))))))) : ps_At (d + 1) 75 0 [(0, .ref r0), (1, .int x1)] [] s Q :=
  ps_wp_at (stops := [(58, [0, 1])]) (n := 32) h rfl

theorem pg_75_58 {d : Nat} {r0 : Nat} {x1 : Int32} {s : ps_S} {Q : Option Value → ps_S → Prop} (h :
  ps_nk (ps_is r0 3) (ps_nk (ps_is (ps_c0 r0 0) 10) (ps_Cl d 140 [.ref (ps_c0 r0 0)] s (ps_rV (fun s1 =>
    ps_nk (ps_is r0 3) (ps_Cl d 70 [.ref r0, .int (x1 + 1)] s1 (ps_rI (fun v2 s2 =>
      ps_nk (ps_is r0 3) (ps_nk (ps_is r0 3) (ps_nd (decide (v2 &&& 1 = v2)) (Q (some (.int v2)) (ps_ui s2 r0 4 ((ps_i s2 r0 4) - 1))))))))))))) : ps_At (d + 1) 75 58 [(0, .ref r0), (1, .int x1)] [] s Q :=
  ps_wp_at (stops := [(58, [0, 1])]) (n := 19) h rfl

theorem xr_75_58 {m s : ps_S} {t : Int32} {d : Nat} {r0 : Nat} {x1 : Int32} {Q : Option Value → ps_S → Prop} (HF : xsF d (x1 + 1)) (h0 : ps_is r0 3 = true) (J : xJ m t s) (k : ∀ (v : Int32) (s' : ps_S), v &&& 1 = v → xJ m t s' → Q (some (.int v)) s') : ps_At (d + 9) 75 58 [(0, .ref r0), (1, .int x1)] [] s Q :=
  pg_75_58 (d := d + 8) (ps_nk_i h0 (ps_nk_i (xk_3_0 h0) (xs_140 (xk_3_0 h0) J (fun s1 J1 => (ps_nk_i h0 (HF _ _ _ _ _ h0 J1 (fun v2 s2 b2 J2 => (ps_nk_i h0 (ps_nk_i h0 (ps_nd_i (decide_eq_true b2) ((k v2 (ps_ui s2 r0 4 ((ps_i s2 r0 4) - 1)) (of_decide_eq_true (decide_eq_true b2)) (xw_i (c := 3) (by decide) h0 J2)))))))))))))

theorem xr_75 {m s : ps_S} {t : Int32} {d : Nat} {r0 : Nat} {x1 : Int32} {f : Int32 → ps_S → Prop} (HF : xsF d (x1 + 1)) (h0 : ps_is r0 3 = true) (J : xJ m t s) (k : ∀ (v : Int32) (s' : ps_S), v &&& 1 = v → xJ m t s' → f v s') : ps_Cl (d + 9) 75 [.ref r0, .int x1] s (ps_rI f) :=
  pg_75_0 (d := d + 8) (ps_nk_i h0 (xs_77 h0 J (fun v1 b1 => (And.intro (fun f1 => (ps_nk_i h0 (And.intro (fun f2 => (xr_75_58 (d := d) (r0 := r0) (x1 := x1) HF h0 J k )) (fun f2 => (ps_nk_i h0 (ps_nk_i h0 (ps_nk_i (xn_l ((xk_3_3 h0)).1) (And.intro (fun f3 => (xr_75_58 (d := d) (r0 := r0) (x1 := x1) HF h0 J k )) (fun f3 => (ps_nk_i h0 (ps_nk_i h0 (ps_nk_i h0 (ps_nk_i (xk_3_0 h0) (ps_nk_i (xn_3 ((xk_3_3 h0)).1) (ps_nd_i (xg_in f2 f3) (ps_nk_i h0 (ps_nk_i h0 (xr_75_58 (d := d) (r0 := r0) (x1 := x1) HF h0 (xw_i (c := 3) (by decide) h0 (xw_b (((xk_3_3 h0)).2) J)) k )))))))))))))))))) (fun f1 => (ps_nk_i h0 (xs_62 h0 J (fun v2 s2 b2 J2 => (ps_nd_i (decide_eq_true b2) ((k v2 s2 (of_decide_eq_true (decide_eq_true b2)) J2)))))))))))

-- ProofBench$Reader.takeNot(I)Z
theorem pg_74_0 {d : Nat} {r0 : Nat} {x1 : Int32} {s : ps_S} {Q : Option Value → ps_S → Prop} (h :
  ps_nk (ps_is r0 3) (ps_Cl d 73 [.ref r0, .int (x1 + 1), .int 2] s (ps_rI (fun v1 s1 =>
    (v1 ≠ 0 →
      ps_nk (ps_is r0 3) (ps_nk (ps_is (ps_r s1 r0 6) 5) (ps_Cl d 93 [.ref (ps_r s1 r0 6), .int 3] s1 (ps_rV (fun s2 =>
        ps_nk (ps_is r0 3) (ps_nk (ps_is (ps_c0 r0 0) 10) (ps_Cl d 140 [.ref (ps_c0 r0 0)] s2 (ps_rV (fun s3 =>
          ps_nk (ps_is r0 3) (ps_nk (ps_is r0 3) (ps_nk (ps_is r0 3) (ps_Cl d 70 [.ref r0, .int (x1 + 1)] (ps_ui s3 r0 7 ((ps_i s3 r0 7) + 1)) (ps_rI (fun v4 s4 =>
            (v4 ≠ 0 →
              ps_nk (ps_is r0 3) (ps_nk (ps_is r0 3) (ps_nk (ps_is r0 3) (ps_nk (ps_is (ps_r (ps_ui s4 r0 7 ((ps_i s4 r0 7) - 1)) r0 6) 5) (ps_Cl d 93 [.ref (ps_r (ps_ui s4 r0 7 ((ps_i s4 r0 7) - 1)) r0 6), .int 0] (ps_ui s4 r0 7 ((ps_i s4 r0 7) - 1)) (ps_rV (fun s5 =>
                Q (some (.int 1)) s5))))))) ∧
            (v4 = 0 →
              Q (some (.int 0)) s4))))))))))))))) ∧
    (v1 = 0 →
      ps_nk (ps_is r0 3) (ps_Cl d 62 [.ref r0, .int 2] s1 (ps_rI (fun v6 s6 =>
        ps_nd (decide (v6 &&& 1 = v6)) (Q (some (.int v6)) s6))))))))) : ps_At (d + 1) 74 0 [(0, .ref r0), (1, .int x1)] [] s Q :=
  ps_wp_at (stops := []) (n := 46) h rfl

theorem xr_74 {m s : ps_S} {t : Int32} {d : Nat} {r0 : Nat} {x1 : Int32} {f : Int32 → ps_S → Prop} (HF : x1 + 1 ≤ 12 → xsF d (x1 + 1)) (h0 : ps_is r0 3 = true) (J : xJ m t s) (k : ∀ (v : Int32) (s' : ps_S), v &&& 1 = v → xJ m t s' → f v s') : ps_Cl (d + 9) 74 [.ref r0, .int x1] s (ps_rI f) :=
  pg_74_0 (d := d + 8) (ps_nk_i h0 (xs_73 h0 J (fun v1 b1 q1 => (And.intro (fun f1 => (ps_nk_i h0 (ps_nk_i (xj_3_6 J h0) (xs_93 (xj_3_6 J h0) J (fun s2 J2 => (ps_nk_i h0 (ps_nk_i (xk_3_0 h0) (xs_140 (xk_3_0 h0) J2 (fun s3 J3 => (ps_nk_i h0 (ps_nk_i h0 (ps_nk_i h0 ((HF (q1 f1)) _ _ _ _ _ h0 (xw_i (c := 3) (by decide) h0 J3) (fun v4 s4 b4 J4 => (And.intro (fun f2 => (ps_nk_i h0 (ps_nk_i h0 (ps_nk_i h0 (ps_nk_i (xj_3_6 (xw_i (c := 3) (by decide) h0 J4) h0) (xs_93 (xj_3_6 (xw_i (c := 3) (by decide) h0 J4) h0) (xw_i (c := 3) (by decide) h0 J4) (fun s5 J5 => (k 1 s5 (by decide) J5)))))))) (fun f2 => (k 0 s4 (by decide) J4))))))))))))))))) (fun f1 => (ps_nk_i h0 (xs_62 h0 J (fun v6 s6 b6 J6 => (ps_nd_i (decide_eq_true b6) ((k v6 s6 (of_decide_eq_true (decide_eq_true b6)) J6)))))))))))

-- ProofBench$Reader.takeFormula(I)Z
theorem pg_70_0 {d : Nat} {r0 : Nat} {x1 : Int32} {s : ps_S} {Q : Option Value → ps_S → Prop} (h :
  ps_nk (ps_is r0 3) (ps_nk (ps_is (ps_c0 r0 0) 10) (((ps_i s (ps_c0 r0 0) 6) ≠ 7 →
    ps_nk (ps_is r0 3) (ps_Cl d 72 [.ref r0] s (ps_rI (fun v1 s1 =>
      ps_Cl d 184 [.int v1] s1 (ps_rI (fun v2 s2 =>
        (v2 = 0 →
          ps_At (d + 1) 70 42 [(0, .ref r0), (1, .int x1), (2, .int v1)] [] s2 Q) ∧
        (v2 ≠ 0 →
          ps_nk (ps_is r0 3) (((ps_i s2 r0 4) < 5 →
            ps_At (d + 1) 70 42 [(0, .ref r0), (1, .int x1), (2, .int v1)] [] s2 Q) ∧
          (5 ≤ (ps_i s2 r0 4) →
            (v1 = (-1) →
              ps_At (d + 1) 70 62 [(0, .ref r0)] [] s2 Q) ∧
            (v1 ≠ (-1) →
              ((1 : Int32) ≠ 0 →
                ps_At (d + 1) 70 62 [(0, .ref r0)] [] s2 Q) ∧
              ((1 : Int32) = 0 →
                ps_nk (ps_is r0 3) (ps_Cl d 73 [.ref r0, .int x1, .int 1] s2 (ps_rI (fun v3 s3 =>
                  (v3 ≠ 0 →
                    ps_nk (ps_is r0 3) (ps_nk (ps_is (ps_r s3 r0 6) 5) (ps_Cl d 93 [.ref (ps_r s3 r0 6), .int v1] s3 (ps_rV (fun s4 =>
                      ps_nk (ps_is r0 3) (ps_nk (ps_is (ps_c0 r0 0) 10) (ps_Cl d 140 [.ref (ps_c0 r0 0)] s4 (ps_rV (fun s5 =>
                        ps_Cl d 184 [.int v1] s5 (ps_rI (fun v6 s6 =>
                          (v6 = 0 →
                            ps_nk (ps_is r0 3) (ps_Cl d 71 [.ref r0, .int v1, .int (x1 + 1)] s6 (ps_rI (fun v7 s7 =>
                              ps_nd (decide (v7 &&& 1 = v7)) (Q (some (.int v7)) s7))))) ∧
                          (v6 ≠ 0 →
                            ps_nk (ps_is r0 3) (ps_Cl d 75 [.ref r0, .int x1] s6 (ps_rI (fun v8 s8 =>
                              ps_nd (decide (v8 &&& 1 = v8)) (Q (some (.int v8)) s8)))))))))))))))) ∧
                  (v3 = 0 →
                    ps_At (d + 1) 70 62 [(0, .ref r0)] [] s3 Q))))))))))))))) ∧
  ((ps_i s (ps_c0 r0 0) 6) = 7 →
    ps_nk (ps_is r0 3) (ps_Cl d 74 [.ref r0, .int x1] s (ps_rI (fun v9 s9 =>
      ps_nd (decide (v9 &&& 1 = v9)) (Q (some (.int v9)) s9)))))))) : ps_At (d + 1) 70 0 [(0, .ref r0), (1, .int x1)] [] s Q :=
  ps_wp_at (stops := [(42, [0, 1, 2]), (62, [0])]) (n := 55) h rfl

theorem pg_70_42 {d : Nat} {r0 : Nat} {x1 : Int32} {x2 : Int32} {s : ps_S} {Q : Option Value → ps_S → Prop} (h :
  (x2 = (-1) →
    ps_At (d + 1) 70 62 [(0, .ref r0)] [] s Q) ∧
  (x2 ≠ (-1) →
    ((0 : Int32) ≠ 0 →
      ps_At (d + 1) 70 62 [(0, .ref r0)] [] s Q) ∧
    ((0 : Int32) = 0 →
      ps_nk (ps_is r0 3) (ps_Cl d 73 [.ref r0, .int x1, .int 1] s (ps_rI (fun v1 s1 =>
        (v1 ≠ 0 →
          ps_nk (ps_is r0 3) (ps_nk (ps_is (ps_r s1 r0 6) 5) (ps_Cl d 93 [.ref (ps_r s1 r0 6), .int x2] s1 (ps_rV (fun s2 =>
            ps_nk (ps_is r0 3) (ps_nk (ps_is (ps_c0 r0 0) 10) (ps_Cl d 140 [.ref (ps_c0 r0 0)] s2 (ps_rV (fun s3 =>
              ps_Cl d 184 [.int x2] s3 (ps_rI (fun v4 s4 =>
                (v4 = 0 →
                  ps_nk (ps_is r0 3) (ps_Cl d 71 [.ref r0, .int x2, .int (x1 + 1)] s4 (ps_rI (fun v5 s5 =>
                    ps_nd (decide (v5 &&& 1 = v5)) (Q (some (.int v5)) s5))))) ∧
                (v4 ≠ 0 →
                  ps_nk (ps_is r0 3) (ps_Cl d 75 [.ref r0, .int x1] s4 (ps_rI (fun v6 s6 =>
                    ps_nd (decide (v6 &&& 1 = v6)) (Q (some (.int v6)) s6)))))))))))))))) ∧
        (v1 = 0 →
          ps_At (d + 1) 70 62 [(0, .ref r0)] [] s1 Q))))))) : ps_At (d + 1) 70 42 [(0, .ref r0), (1, .int x1), (2, .int x2)] [] s Q :=
  ps_wp_at (stops := [(42, [0, 1, 2]), (62, [0])]) (n := 35) h rfl

theorem pg_70_62 {d : Nat} {r0 : Nat} {s : ps_S} {Q : Option Value → ps_S → Prop} (h :
  ps_nk (ps_is r0 3) (ps_Cl d 62 [.ref r0, .int 2] s (ps_rI (fun v1 s1 =>
    ps_nd (decide (v1 &&& 1 = v1)) (Q (some (.int v1)) s1))))) : ps_At (d + 1) 70 62 [(0, .ref r0)] [] s Q :=
  ps_wp_at (stops := [(42, [0, 1, 2]), (62, [0])]) (n := 6) h rfl

theorem xr_70_62 {m s : ps_S} {t : Int32} {d : Nat} {r0 : Nat} {Q : Option Value → ps_S → Prop} (h0 : ps_is r0 3 = true) (J : xJ m t s) (k : ∀ (v : Int32) (s' : ps_S), v &&& 1 = v → xJ m t s' → Q (some (.int v)) s') : ps_At (d + 10) 70 62 [(0, .ref r0)] [] s Q :=
  pg_70_62 (d := d + 9) (ps_nk_i h0 (xs_62 h0 J (fun v1 s1 b1 J1 => (ps_nd_i (decide_eq_true b1) ((k v1 s1 (of_decide_eq_true (decide_eq_true b1)) J1))))))

theorem xr_70_42 {m s : ps_S} {t : Int32} {d : Nat} {r0 : Nat} {x1 : Int32} {x2 : Int32} {Q : Option Value → ps_S → Prop} (H : x1 ≤ 12 → xsF d (x1 + 1) ∧ xsT d (x1 + 1)) (H2 : x1 + 1 ≤ 12 → xsF d (x1 + 1)) (h0 : ps_is r0 3 = true) (J : xJ m t s) (k : ∀ (v : Int32) (s' : ps_S), v &&& 1 = v → xJ m t s' → Q (some (.int v)) s') : ps_At (d + 10) 70 42 [(0, .ref r0), (1, .int x1), (2, .int x2)] [] s Q :=
  pg_70_42 (d := d + 9) (And.intro (fun f1 => (xr_70_62 (d := d) (r0 := r0)  h0 J k )) (fun f1 => (And.intro (fun f2 => (xr_70_62 (d := d) (r0 := r0)  h0 J k )) (fun f2 => (ps_nk_i h0 (xs_73 h0 J (fun v1 b1 q1 => (And.intro (fun f3 => (ps_nk_i h0 (ps_nk_i (xj_3_6 J h0) (xs_93 (xj_3_6 J h0) J (fun s2 J2 => (ps_nk_i h0 (ps_nk_i (xk_3_0 h0) (xs_140 (xk_3_0 h0) J2 (fun s3 J3 => (xs_184  J3 (fun v4 b4 => (And.intro (fun f4 => (ps_nk_i h0 (xr_71 (H (q1 f3)).1 (H (q1 f3)).2 h0 J3 (fun v5 s5 b5 J5 => (ps_nd_i (decide_eq_true b5) ((k v5 s5 (of_decide_eq_true (decide_eq_true b5)) J5))))))) (fun f4 => (ps_nk_i h0 (xr_75 (H (q1 f3)).1 h0 J3 (fun v6 s6 b6 J6 => (ps_nd_i (decide_eq_true b6) ((k v6 s6 (of_decide_eq_true (decide_eq_true b6)) J6))))))))))))))))))) (fun f3 => (xr_70_62 (d := d) (r0 := r0)  h0 J k ))))))))))

theorem xr_70 {m s : ps_S} {t : Int32} {d : Nat} {r0 : Nat} {x1 : Int32} {f : Int32 → ps_S → Prop} (H : x1 ≤ 12 → xsF d (x1 + 1) ∧ xsT d (x1 + 1)) (H2 : x1 + 1 ≤ 12 → xsF d (x1 + 1)) (h0 : ps_is r0 3 = true) (J : xJ m t s) (k : ∀ (v : Int32) (s' : ps_S), v &&& 1 = v → xJ m t s' → f v s') : ps_Cl (d + 10) 70 [.ref r0, .int x1] s (ps_rI f) :=
  pg_70_0 (d := d + 9) (ps_nk_i h0 (ps_nk_i (xk_3_0 h0) (And.intro (fun f1 => (ps_nk_i h0 (xs_72 h0 J (fun v1 => (xs_184  J (fun v2 b2 => (And.intro (fun f2 => (xr_70_42 (d := d) (r0 := r0) (x1 := x1) (x2 := v1) H H2 h0 J k )) (fun f2 => (ps_nk_i h0 (And.intro (fun f3 => (xr_70_42 (d := d) (r0 := r0) (x1 := x1) (x2 := v1) H H2 h0 J k )) (fun f3 => (And.intro (fun f4 => (xr_70_62 (d := d) (r0 := r0)  h0 J k )) (fun f4 => (And.intro (fun f5 => (xr_70_62 (d := d) (r0 := r0)  h0 J k )) (fun f5 => (ps_nk_i h0 (xs_73 h0 J (fun v3 b3 q3 => (And.intro (fun f6 => (ps_nk_i h0 (ps_nk_i (xj_3_6 J h0) (xs_93 (xj_3_6 J h0) J (fun s4 J4 => (ps_nk_i h0 (ps_nk_i (xk_3_0 h0) (xs_140 (xk_3_0 h0) J4 (fun s5 J5 => (xs_184  J5 (fun v6 b6 => (And.intro (fun f7 => (ps_nk_i h0 (xr_71 (H (q3 f6)).1 (H (q3 f6)).2 h0 J5 (fun v7 s7 b7 J7 => (ps_nd_i (decide_eq_true b7) ((k v7 s7 (of_decide_eq_true (decide_eq_true b7)) J7))))))) (fun f7 => (ps_nk_i h0 (xr_75 (H (q3 f6)).1 h0 J5 (fun v8 s8 b8 J8 => (ps_nd_i (decide_eq_true b8) ((k v8 s8 (of_decide_eq_true (decide_eq_true b8)) J8))))))))))))))))))) (fun f6 => (xr_70_62 (d := d) (r0 := r0)  h0 J k ))))))))))))))))))))) (fun f1 => (ps_nk_i h0 (xr_74 H2 h0 J (fun v9 s9 b9 J9 => (ps_nd_i (decide_eq_true b9) ((k v9 s9 (of_decide_eq_true (decide_eq_true b9)) J9))))))))))

-- ProofBench$Reader.takeTerm(I)Z
theorem pg_76_0 {d : Nat} {r0 : Nat} {x1 : Int32} {s : ps_S} {Q : Option Value → ps_S → Prop} (h :
  ps_nk (ps_is r0 3) (ps_nk (ps_is (ps_c0 r0 0) 10) (((ps_i s (ps_c0 r0 0) 4) ≠ 2 →
    ps_At (d + 1) 76 20 [(0, .ref r0)] [] s Q) ∧
  ((ps_i s (ps_c0 r0 0) 4) = 2 →
    ps_nk (ps_is r0 3) (ps_Cl d 73 [.ref r0, .int x1, .int 1] s (ps_rI (fun v1 s1 =>
      (v1 ≠ 0 →
        ps_nk (ps_is r0 3) (ps_nk (ps_is r0 3) (ps_nk (ps_is (ps_c0 r0 0) 10) (ps_nk (ps_is (ps_r s1 r0 5) 9) (ps_Cl d 128 [.ref (ps_r s1 r0 5), .long (ps_j s1 (ps_c0 r0 0) 8)] s1 (ps_rI (fun v2 s2 =>
          (v2 ≠ (-1) →
            ps_At (d + 1) 76 59 [(0, .ref r0), (1, .int x1), (2, .int v2)] [] s2 Q) ∧
          (v2 = (-1) →
            ps_nk (ps_is r0 3) (ps_Cl d 77 [.ref r0] s2 (ps_rI (fun v3 s3 =>
              (v3 ≠ 0 →
                ps_At (d + 1) 76 59 [(0, .ref r0), (1, .int x1), (2, .int v2)] [] s3 Q) ∧
              (v3 = 0 →
                ps_nk (ps_is r0 3) (ps_Cl d 62 [.ref r0, .int 2] s3 (ps_rI (fun v4 s4 =>
                  ps_nd (decide (v4 &&& 1 = v4)) (Q (some (.int v4)) s4)))))))))))))))) ∧
      (v1 = 0 →
        ps_At (d + 1) 76 20 [(0, .ref r0)] [] s1 Q)))))))) : ps_At (d + 1) 76 0 [(0, .ref r0), (1, .int x1)] [] s Q :=
  ps_wp_at (stops := [(20, [0]), (59, [0, 1, 2])]) (n := 29) h rfl

theorem pg_76_20 {d : Nat} {r0 : Nat} {s : ps_S} {Q : Option Value → ps_S → Prop} (h :
  ps_nk (ps_is r0 3) (ps_Cl d 62 [.ref r0, .int 2] s (ps_rI (fun v1 s1 =>
    ps_nd (decide (v1 &&& 1 = v1)) (Q (some (.int v1)) s1))))) : ps_At (d + 1) 76 20 [(0, .ref r0)] [] s Q :=
  ps_wp_at (stops := [(20, [0]), (59, [0, 1, 2])]) (n := 6) h rfl

theorem pg_76_59 {d : Nat} {r0 : Nat} {x1 : Int32} {x2 : Int32} {s : ps_S} {Q : Option Value → ps_S → Prop} (h :
  (x2 ≠ (-1) →
    (((20 : Int32) + x2) ≠ (-1) →
      ps_nk (ps_is r0 3) (ps_nk (ps_is (ps_r s r0 6) 5) (ps_Cl d 93 [.ref (ps_r s r0 6), .int ((20 : Int32) + x2)] s (ps_rV (fun s1 =>
        ps_nk (ps_is r0 3) (ps_nk (ps_is (ps_c0 r0 0) 10) (ps_Cl d 140 [.ref (ps_c0 r0 0)] s1 (ps_rV (fun s2 =>
          ps_nk (ps_is r0 3) (ps_Cl d 71 [.ref r0, .int ((20 : Int32) + x2), .int (x1 + 1)] s2 (ps_rI (fun v3 s3 =>
            ps_nd (decide (v3 &&& 1 = v3)) (Q (some (.int v3)) s3))))))))))))) ∧
    (((20 : Int32) + x2) = (-1) →
      ps_nk (ps_is r0 3) (((ps_i s r0 8) = 0 →
        ps_nk (ps_is r0 3) (ps_Cl d 62 [.ref r0, .int 2] s (ps_rI (fun v4 s4 =>
          ps_nd (decide (v4 &&& 1 = v4)) (Q (some (.int v4)) s4))))) ∧
      ((ps_i s r0 8) ≠ 0 →
        ps_nk (ps_is r0 3) (ps_Cl d 62 [.ref r0, .int 5] s (ps_rI (fun v5 s5 =>
          ps_nd (decide (v5 &&& 1 = v5)) (Q (some (.int v5)) s5)))))))) ∧
  (x2 = (-1) →
    ps_nk (ps_is r0 3) (ps_Cl d 78 [.ref r0] s (ps_rI (fun v6 s6 =>
      (v6 ≠ (-1) →
        ps_nk (ps_is r0 3) (ps_nk (ps_is (ps_r s6 r0 6) 5) (ps_Cl d 93 [.ref (ps_r s6 r0 6), .int v6] s6 (ps_rV (fun s7 =>
          ps_nk (ps_is r0 3) (ps_nk (ps_is (ps_c0 r0 0) 10) (ps_Cl d 140 [.ref (ps_c0 r0 0)] s7 (ps_rV (fun s8 =>
            ps_nk (ps_is r0 3) (ps_Cl d 71 [.ref r0, .int v6, .int (x1 + 1)] s8 (ps_rI (fun v9 s9 =>
              ps_nd (decide (v9 &&& 1 = v9)) (Q (some (.int v9)) s9))))))))))))) ∧
      (v6 = (-1) →
        ps_nk (ps_is r0 3) (((ps_i s6 r0 8) = 0 →
          ps_nk (ps_is r0 3) (ps_Cl d 62 [.ref r0, .int 2] s6 (ps_rI (fun v10 s10 =>
            ps_nd (decide (v10 &&& 1 = v10)) (Q (some (.int v10)) s10))))) ∧
        ((ps_i s6 r0 8) ≠ 0 →
          ps_nk (ps_is r0 3) (ps_Cl d 62 [.ref r0, .int 5] s6 (ps_rI (fun v11 s11 =>
            ps_nd (decide (v11 &&& 1 = v11)) (Q (some (.int v11)) s11)))))))))))) : ps_At (d + 1) 76 59 [(0, .ref r0), (1, .int x1), (2, .int x2)] [] s Q :=
  ps_wp_at (stops := [(20, [0]), (59, [0, 1, 2])]) (n := 69) h rfl

theorem xr_76_20 {m s : ps_S} {t : Int32} {d : Nat} {r0 : Nat} {Q : Option Value → ps_S → Prop} (h0 : ps_is r0 3 = true) (J : xJ m t s) (k : ∀ (v : Int32) (s' : ps_S), v &&& 1 = v → xJ m t s' → Q (some (.int v)) s') : ps_At (d + 10) 76 20 [(0, .ref r0)] [] s Q :=
  pg_76_20 (d := d + 9) (ps_nk_i h0 (xs_62 h0 J (fun v1 s1 b1 J1 => (ps_nd_i (decide_eq_true b1) ((k v1 s1 (of_decide_eq_true (decide_eq_true b1)) J1))))))

theorem xr_76_59 {m s : ps_S} {t : Int32} {d : Nat} {r0 : Nat} {x1 : Int32} {x2 : Int32} {Q : Option Value → ps_S → Prop} (H : x1 ≤ 12 → xsF d (x1 + 1) ∧ xsT d (x1 + 1)) (h0 : ps_is r0 3 = true) (e0 : x1 ≤ 12) (J : xJ m t s) (k : ∀ (v : Int32) (s' : ps_S), v &&& 1 = v → xJ m t s' → Q (some (.int v)) s') : ps_At (d + 10) 76 59 [(0, .ref r0), (1, .int x1), (2, .int x2)] [] s Q :=
  pg_76_59 (d := d + 9) (And.intro (fun f1 => (And.intro (fun f2 => (ps_nk_i h0 (ps_nk_i (xj_3_6 J h0) (xs_93 (xj_3_6 J h0) J (fun s1 J1 => (ps_nk_i h0 (ps_nk_i (xk_3_0 h0) (xs_140 (xk_3_0 h0) J1 (fun s2 J2 => (ps_nk_i h0 (xr_71 (H e0).1 (H e0).2 h0 J2 (fun v3 s3 b3 J3 => (ps_nd_i (decide_eq_true b3) ((k v3 s3 (of_decide_eq_true (decide_eq_true b3)) J3))))))))))))))) (fun f2 => (ps_nk_i h0 (And.intro (fun f3 => (ps_nk_i h0 (xs_62 h0 J (fun v4 s4 b4 J4 => (ps_nd_i (decide_eq_true b4) ((k v4 s4 (of_decide_eq_true (decide_eq_true b4)) J4))))))) (fun f3 => (ps_nk_i h0 (xs_62 h0 J (fun v5 s5 b5 J5 => (ps_nd_i (decide_eq_true b5) ((k v5 s5 (of_decide_eq_true (decide_eq_true b5)) J5)))))))))))) (fun f1 => (ps_nk_i h0 (xs_78 h0 J (fun v6 s6 J6 => (And.intro (fun f4 => (ps_nk_i h0 (ps_nk_i (xj_3_6 J6 h0) (xs_93 (xj_3_6 J6 h0) J6 (fun s7 J7 => (ps_nk_i h0 (ps_nk_i (xk_3_0 h0) (xs_140 (xk_3_0 h0) J7 (fun s8 J8 => (ps_nk_i h0 (xr_71 (H e0).1 (H e0).2 h0 J8 (fun v9 s9 b9 J9 => (ps_nd_i (decide_eq_true b9) ((k v9 s9 (of_decide_eq_true (decide_eq_true b9)) J9))))))))))))))) (fun f4 => (ps_nk_i h0 (And.intro (fun f5 => (ps_nk_i h0 (xs_62 h0 J6 (fun v10 s10 b10 J10 => (ps_nd_i (decide_eq_true b10) ((k v10 s10 (of_decide_eq_true (decide_eq_true b10)) J10))))))) (fun f5 => (ps_nk_i h0 (xs_62 h0 J6 (fun v11 s11 b11 J11 => (ps_nd_i (decide_eq_true b11) ((k v11 s11 (of_decide_eq_true (decide_eq_true b11)) J11))))))))))))))))

theorem xr_76 {m s : ps_S} {t : Int32} {d : Nat} {r0 : Nat} {x1 : Int32} {f : Int32 → ps_S → Prop} (H : x1 ≤ 12 → xsF d (x1 + 1) ∧ xsT d (x1 + 1)) (h0 : ps_is r0 3 = true) (J : xJ m t s) (k : ∀ (v : Int32) (s' : ps_S), v &&& 1 = v → xJ m t s' → f v s') : ps_Cl (d + 10) 76 [.ref r0, .int x1] s (ps_rI f) :=
  pg_76_0 (d := d + 9) (ps_nk_i h0 (ps_nk_i (xk_3_0 h0) (And.intro (fun f1 => (xr_76_20 (d := d) (r0 := r0)  h0 J k )) (fun f1 => (ps_nk_i h0 (xs_73 h0 J (fun v1 b1 q1 => (And.intro (fun f2 => (ps_nk_i h0 (ps_nk_i h0 (ps_nk_i (xk_3_0 h0) (ps_nk_i (xj_3_5 J h0) (xs_128 (xj_3_5 J h0) J (fun v2 => (And.intro (fun f3 => (xr_76_59 (d := d) (r0 := r0) (x1 := x1) (x2 := v2) H h0 (q1 f2) J k )) (fun f3 => (ps_nk_i h0 (xs_77 h0 J (fun v3 b3 => (And.intro (fun f4 => (xr_76_59 (d := d) (r0 := r0) (x1 := x1) (x2 := v2) H h0 (q1 f2) J k )) (fun f4 => (ps_nk_i h0 (xs_62 h0 J (fun v4 s4 b4 J4 => (ps_nd_i (decide_eq_true b4) ((k v4 s4 (of_decide_eq_true (decide_eq_true b4)) J4)))))))))))))))))))) (fun f2 => (xr_76_20 (d := d) (r0 := r0)  h0 J k ))))))))))

theorem xr_A : ∀ (k : Nat) (x : Int32) (d : Nat), 0 ≤ x.toInt → x.toInt ≤ 13 → 13 - x.toInt ≤ k → 2 * k + 2 ≤ d → xsF d x ∧ xsT d x := by
  intro k
  induction k with
  | zero =>
    intro x d h0 h1 h2 h3
    obtain ⟨e, rfl⟩ : ∃ e, d = e + 2 := ⟨d - 2, by omega⟩
    have e1 : (12 : Int32).toInt = 12 := by decide
    have hx : ¬ x ≤ 12 := by rw [Int32.le_iff_toInt_le, e1]; omega
    have hx2 : ¬ x + 1 ≤ 12 := by
      rw [Int32.le_iff_toInt_le, e1, xI_add (by rw [xone]; omega) (by rw [xone]; omega), xone]; omega
    exact ⟨fun m s t r0 f h J k => xr_70 (d := e) (fun q => absurd q hx) (fun q => absurd q hx2) h J k, fun m s t r0 f h J k => xr_76 (d := e) (fun q => absurd q hx) h J k⟩
  | succ k ih =>
    intro x d h0 h1 h2 h3
    obtain ⟨e, rfl⟩ : ∃ e, d = e + 2 := ⟨d - 2, by omega⟩
    have e1 : (12 : Int32).toInt = 12 := by decide
    have ex : (x + 1).toInt = x.toInt + 1 := by rw [xI_add (by rw [xone]; omega) (by rw [xone]; omega), xone]
    have st : x.toInt ≤ 12 → xsF e (x + 1) ∧ xsT e (x + 1) := fun q => ih (x + 1) e (by omega) (by omega) (by omega) (by omega)
    have s1 : x ≤ 12 → xsF e (x + 1) ∧ xsT e (x + 1) := fun q => st (by rw [Int32.le_iff_toInt_le, e1] at q; exact q)
    have s2 : x + 1 ≤ 12 → xsF e (x + 1) := fun q => (st (by rw [Int32.le_iff_toInt_le, e1, ex] at q; omega)).1
    exact ⟨fun m s t r0 f h J k => xr_70 (d := e) s1 s2 h J k, fun m s t r0 f h J k => xr_76 (d := e) s1 h J k⟩
theorem xs_70 {m s : ps_S} {t : Int32} {d r0 : Nat} {f : Int32 → ps_S → Prop} (h0 : ps_is r0 3 = true) (J : xJ m t s) (k : ∀ (v : Int32) (s' : ps_S), v &&& 1 = v → xJ m t s' → f v s') : ps_Cl (d + 36) 70 [.ref r0, .int 0] s (ps_rI f) :=
  (xr_A 13 0 (d + 28) (by decide) (by decide) (by decide) (by omega)).1 m s t r0 f h0 J k
theorem xs_76 {m s : ps_S} {t : Int32} {d r0 : Nat} {f : Int32 → ps_S → Prop} (h0 : ps_is r0 3 = true) (J : xJ m t s) (k : ∀ (v : Int32) (s' : ps_S), v &&& 1 = v → xJ m t s' → f v s') : ps_Cl (d + 36) 76 [.ref r0, .int 0] s (ps_rI f) :=
  (xr_A 13 0 (d + 28) (by decide) (by decide) (by decide) (by omega)).2 m s t r0 f h0 J k

-- ProofBench$Reader.takeWhole(LProofBench$Row;Z)Z
theorem pg_69_0 {d : Nat} {r0 : Nat} {r1 : Nat} {x2 : Int32} {s : ps_S} {Q : Option Value → ps_S → Prop} (h :
  ps_nk (ps_is r0 3) (ps_nk (ps_is r0 3) (ps_nk (ps_is (ps_r (ps_ur s r0 6 r1) r0 6) 5) (ps_Cl d 91 [.ref (ps_r (ps_ur s r0 6 r1) r0 6)] (ps_ur s r0 6 r1) (ps_rV (fun s1 =>
    ps_nk (ps_is r0 3) ((x2 = 0 →
      ps_nk (ps_is r0 3) (ps_Cl d 70 [.ref r0, .int 0] (ps_ui s1 r0 7 0) (ps_rI (fun v2 s2 =>
        ps_nd (decide (v2 &&& 1 = v2)) (Q (some (.int v2)) s2))))) ∧
    (x2 ≠ 0 →
      ps_nk (ps_is r0 3) (ps_Cl d 76 [.ref r0, .int 0] (ps_ui s1 r0 7 0) (ps_rI (fun v3 s3 =>
        ps_nd (decide (v3 &&& 1 = v3)) (Q (some (.int v3)) s3)))))))))))) : ps_At (d + 1) 69 0 [(0, .ref r0), (1, .ref r1), (2, .int x2)] [] s Q :=
  ps_wp_at (stops := []) (n := 22) h rfl

theorem xs_69 {m s : ps_S} {t : Int32} {d : Nat} {r0 : Nat} {r1 : Nat} {x2 : Int32} {f : Int32 → ps_S → Prop} (h0 : ps_is r0 3 = true) (h1 : ps_is r1 5 = true) (J : xJ m t s) (k : ∀ (v : Int32) (s' : ps_S), v &&& 1 = v → xJ m t s' → f v s') : ps_Cl (d + 37) 69 [.ref r0, .ref r1, .int x2] s (ps_rI f) :=
  pg_69_0 (d := d + 36) (ps_nk_i h0 (ps_nk_i h0 (ps_nk_i (xj_3_6 (xw_3_6 h0 h1 J) h0) (xs_91 (xj_3_6 (xw_3_6 h0 h1 J) h0) (xw_3_6 h0 h1 J) (fun s1 J1 => (ps_nk_i h0 (And.intro (fun f1 => (ps_nk_i h0 (xs_70 h0 (xw_i (c := 3) (by decide) h0 J1) (fun v2 s2 b2 J2 => (ps_nd_i (decide_eq_true b2) ((k v2 s2 (of_decide_eq_true (decide_eq_true b2)) J2))))))) (fun f1 => (ps_nk_i h0 (xs_76 h0 (xw_i (c := 3) (by decide) h0 J1) (fun v3 s3 b3 J3 => (ps_nd_i (decide_eq_true b3) ((k v3 s3 (of_decide_eq_true (decide_eq_true b3)) J3))))))))))))))

-- ProofBench$Reader.takeSemicolon()Z
theorem pg_65_0 {d : Nat} {r0 : Nat} {s : ps_S} {Q : Option Value → ps_S → Prop} (h :
  ps_nk (ps_is r0 3) (ps_nk (ps_is (ps_c0 r0 0) 10) (((ps_i s (ps_c0 r0 0) 4) = 5 →
    ps_nk (ps_is r0 3) (ps_nk (ps_is (ps_c0 r0 0) 10) (ps_Cl d 140 [.ref (ps_c0 r0 0)] s (ps_rV (fun s1 =>
      Q (some (.int 1)) s1))))) ∧
  ((ps_i s (ps_c0 r0 0) 4) ≠ 5 →
    ps_nk (ps_is r0 3) (ps_Cl d 62 [.ref r0, .int 2] s (ps_rI (fun v2 s2 =>
      ps_nd (decide (v2 &&& 1 = v2)) (Q (some (.int v2)) s2)))))))) : ps_At (d + 1) 65 0 [(0, .ref r0)] [] s Q :=
  ps_wp_at (stops := []) (n := 16) h rfl

theorem xs_65 {m s : ps_S} {t : Int32} {d : Nat} {r0 : Nat} {f : Int32 → ps_S → Prop} (h0 : ps_is r0 3 = true) (J : xJ m t s) (k : ∀ (v : Int32) (s' : ps_S), v &&& 1 = v → xJ m t s' → f v s') : ps_Cl (d + 3) 65 [.ref r0] s (ps_rI f) :=
  pg_65_0 (d := d + 2) (ps_nk_i h0 (ps_nk_i (xk_3_0 h0) (And.intro (fun f1 => (ps_nk_i h0 (ps_nk_i (xk_3_0 h0) (xs_140 (xk_3_0 h0) J (fun s1 J1 => (k 1 s1 (by decide) J1)))))) (fun f1 => (ps_nk_i h0 (xs_62 h0 J (fun v2 s2 b2 J2 => (ps_nd_i (decide_eq_true b2) ((k v2 s2 (of_decide_eq_true (decide_eq_true b2)) J2))))))))))

-- ProofBench$Theory.addAxiom(J)V
theorem pg_134_0 {d : Nat} {r0 : Nat} {l1 : Int64} {s : ps_S} {Q : Option Value → ps_S → Prop} (h :
  ps_nk (ps_is r0 9) (((ps_i s r0 8) < 0 →
    Q none s) ∧
  (0 ≤ (ps_i s r0 8) →
    ps_nk (ps_is r0 9) (ps_nk (ps_is r0 9) (ps_nk (Nat.beq (ps_K (ps_c0 r0 2)).1 0) (((nI (ps_ln (ps_c0 r0 2))) ≤ (ps_i s r0 8) →
      Q none s) ∧
    ((ps_i s r0 8) < (nI (ps_ln (ps_c0 r0 2))) →
      ps_nk (ps_is r0 9) (ps_nk (ps_is r0 9) (ps_nk (ps_ar (ps_c0 r0 2) 3) (ps_nd (pm_in (ps_i s r0 8) (ps_ln (ps_c0 r0 2))) (ps_nk (ps_is r0 9) (ps_nk (ps_is r0 9) (Q none (ps_ui (ps_ub s (ps_c0 r0 2) (Int32.toNatClampNeg (ps_i s r0 8)) l1) r0 8 ((ps_i (ps_ub s (ps_c0 r0 2) (Int32.toNatClampNeg (ps_i s r0 8)) l1) r0 8) + 1))))))))))))))) : ps_At d 134 0 [(0, .ref r0), (1, .long l1)] [] s Q :=
  ps_wp_at (stops := []) (n := 26) h rfl

theorem xs_134 {m s : ps_S} {t : Int32} {d : Nat} {r0 : Nat} {l1 : Int64} {f : ps_S → Prop} (h0 : ps_is r0 9 = true) (J : xJ m t s) (k : ∀ (s' : ps_S), xJ m t s' → f s') : ps_Cl d 134 [.ref r0, .long l1] s (ps_rV f) :=
  pg_134_0 (ps_nk_i h0 (And.intro (fun f1 => (k s J)) (fun f1 => (ps_nk_i h0 (ps_nk_i h0 (ps_nk_i (xn_l ((xk_9_2 h0)).1) (And.intro (fun f2 => (k s J)) (fun f2 => (ps_nk_i h0 (ps_nk_i h0 (ps_nk_i (xn_3 ((xk_9_2 h0)).1) (ps_nd_i (xg_in f1 f2) (ps_nk_i h0 (ps_nk_i h0 (k (ps_ui (ps_ub s (ps_c0 r0 2) (Int32.toNatClampNeg (ps_i s r0 8)) l1) r0 8 ((ps_i (ps_ub s (ps_c0 r0 2) (Int32.toNatClampNeg (ps_i s r0 8)) l1) r0 8) + 1)) (xw_i (c := 9) (by decide) h0 (xw_b (((xk_9_2 h0)).2) J)))))))))))))))))

-- ProofBench$Reader.takeAxiom()Z
theorem pg_64_0 {d : Nat} {r0 : Nat} {s : ps_S} {Q : Option Value → ps_S → Prop} (h :
  ps_nk (ps_is r0 3) (ps_nk (ps_is (ps_c0 r0 0) 10) (((ps_i s (ps_c0 r0 0) 4) = 2 →
    ps_nk (ps_is r0 3) (ps_nk (ps_is (ps_c0 r0 0) 10) (ps_nk (ps_is r0 3) (ps_nk (ps_is (ps_r s r0 5) 9) (ps_Cl d 129 [.ref (ps_r s r0 5), .long (ps_j s (ps_c0 r0 0) 8)] s (ps_rI (fun v1 s1 =>
      (v1 = (-1) →
        ps_nk (ps_is r0 3) (ps_nk (ps_is (ps_c0 r0 0) 10) (ps_Cl d 140 [.ref (ps_c0 r0 0)] s1 (ps_rV (fun s2 =>
          ps_nk (ps_is r0 3) (ps_nk (ps_is r0 3) (ps_nk (ps_is r0 3) (ps_nk (ps_is (ps_r (ps_ui s2 r0 8 1) r0 5) 9) (ps_nk (ps_is (ps_r (ps_ui s2 r0 8 1) r0 5) 9) (ps_Cl d 135 [.ref (ps_r (ps_ui s2 r0 8 1) r0 5), .int (ps_i (ps_ui s2 r0 8 1) (ps_r (ps_ui s2 r0 8 1) r0 5) 8)] (ps_ui s2 r0 8 1) (ps_rA (fun v3 s3 =>
            ps_nk (ps_is r0 3) (ps_Cl d 69 [.ref r0, .ref v3, .int 0] s3 (ps_rI (fun v4 s4 =>
              (v4 = 0 →
                Q (some (.int 0)) s4) ∧
              (v4 ≠ 0 →
                ps_nk (ps_is r0 3) (ps_Cl d 65 [.ref r0] s4 (ps_rI (fun v5 s5 =>
                  (v5 ≠ 0 →
                    ps_nk (ps_is r0 3) (ps_nk (ps_is (ps_r s5 r0 5) 9) (ps_Cl d 134 [.ref (ps_r s5 r0 5), .long (ps_j s (ps_c0 r0 0) 8)] s5 (ps_rV (fun s6 =>
                      Q (some (.int 1)) s6))))) ∧
                  (v5 = 0 →
                    Q (some (.int 0)) s5)))))))))))))))))))) ∧
      (v1 ≠ (-1) →
        ps_nk (ps_is r0 3) (ps_Cl d 62 [.ref r0, .int 3] s1 (ps_rI (fun v7 s7 =>
          ps_nd (decide (v7 &&& 1 = v7)) (Q (some (.int v7)) s7)))))))))))) ∧
  ((ps_i s (ps_c0 r0 0) 4) ≠ 2 →
    ps_nk (ps_is r0 3) (ps_Cl d 62 [.ref r0, .int 2] s (ps_rI (fun v8 s8 =>
      ps_nd (decide (v8 &&& 1 = v8)) (Q (some (.int v8)) s8)))))))) : ps_At (d + 1) 64 0 [(0, .ref r0)] [] s Q :=
  ps_wp_at (stops := []) (n := 54) h rfl

theorem xs_64 {m s : ps_S} {t : Int32} {d : Nat} {r0 : Nat} {f : Int32 → ps_S → Prop} (h0 : ps_is r0 3 = true) (J : xJ m t s) (k : ∀ (v : Int32) (s' : ps_S), v &&& 1 = v → xJ m t s' → f v s') : ps_Cl (d + 38) 64 [.ref r0] s (ps_rI f) :=
  pg_64_0 (d := d + 37) (ps_nk_i h0 (ps_nk_i (xk_3_0 h0) (And.intro (fun f1 => (ps_nk_i h0 (ps_nk_i (xk_3_0 h0) (ps_nk_i h0 (ps_nk_i (xj_3_5 J h0) (xs_129 (xj_3_5 J h0) J (fun v1 => (And.intro (fun f2 => (ps_nk_i h0 (ps_nk_i (xk_3_0 h0) (xs_140 (xk_3_0 h0) J (fun s2 J2 => (ps_nk_i h0 (ps_nk_i h0 (ps_nk_i h0 (ps_nk_i (xj_3_5 (xw_i (c := 3) (by decide) h0 J2) h0) (ps_nk_i (xj_3_5 (xw_i (c := 3) (by decide) h0 J2) h0) (xs_135 (xj_3_5 (xw_i (c := 3) (by decide) h0 J2) h0) (xw_i (c := 3) (by decide) h0 J2) (fun v3 g3 => (ps_nk_i h0 (xs_69 h0 g3 (xw_i (c := 3) (by decide) h0 J2) (fun v4 s4 b4 J4 => (And.intro (fun f3 => (k 0 s4 (by decide) J4)) (fun f3 => (ps_nk_i h0 (xs_65 h0 J4 (fun v5 s5 b5 J5 => (And.intro (fun f4 => (ps_nk_i h0 (ps_nk_i (xj_3_5 J5 h0) (xs_134 (xj_3_5 J5 h0) J5 (fun s6 J6 => (k 1 s6 (by decide) J6)))))) (fun f4 => (k 0 s5 (by decide) J5))))))))))))))))))))))) (fun f2 => (ps_nk_i h0 (xs_62 h0 J (fun v7 s7 b7 J7 => (ps_nd_i (decide_eq_true b7) ((k v7 s7 (of_decide_eq_true (decide_eq_true b7)) J7))))))))))))))) (fun f1 => (ps_nk_i h0 (xs_62 h0 J (fun v8 s8 b8 J8 => (ps_nd_i (decide_eq_true b8) ((k v8 s8 (of_decide_eq_true (decide_eq_true b8)) J8))))))))))

-- ProofBench$Theory.addSymbol(IJI)V
theorem pg_133_0 {d : Nat} {r0 : Nat} {x1 : Int32} {l2 : Int64} {x4 : Int32} {s : ps_S} {Q : Option Value → ps_S → Prop} (h :
  (x1 ≠ 8 →
    ps_At (d + 1) 133 61 [(0, .ref r0), (1, .int x1), (2, .long l2), (4, .int x4)] [] s Q) ∧
  (x1 = 8 →
    ps_nk (ps_is r0 9) (((ps_i s r0 6) < 0 →
      ps_At (d + 1) 133 61 [(0, .ref r0), (1, .int x1), (2, .long l2), (4, .int x4)] [] s Q) ∧
    (0 ≤ (ps_i s r0 6) →
      ps_nk (ps_is r0 9) (ps_nk (ps_is r0 9) (ps_nk (Nat.beq (ps_K (ps_c0 r0 0)).1 0) (((nI (ps_ln (ps_c0 r0 0))) ≤ (ps_i s r0 6) →
        ps_At (d + 1) 133 61 [(0, .ref r0), (1, .int x1), (2, .long l2), (4, .int x4)] [] s Q) ∧
      ((ps_i s r0 6) < (nI (ps_ln (ps_c0 r0 0))) →
        ps_nk (ps_is r0 9) (ps_nk (ps_is r0 9) (ps_Cl d 183 [.ref (ps_c0 r0 3), .int ((10 : Int32) + (ps_i s r0 6)), .int x4] s (ps_rV (fun s1 =>
          ps_nk (ps_is r0 9) (ps_nk (ps_is r0 9) (ps_nk (ps_ar (ps_c0 r0 0) 3) (ps_nd (pm_in (ps_i s1 r0 6) (ps_ln (ps_c0 r0 0))) (ps_nk (ps_is r0 9) (ps_nk (ps_is r0 9) (ps_At (d + 1) 133 61 [(0, .ref r0), (1, .int x1), (2, .long l2), (4, .int x4)] [] (ps_ui (ps_ub s1 (ps_c0 r0 0) (Int32.toNatClampNeg (ps_i s1 r0 6)) l2) r0 6 ((ps_i (ps_ub s1 (ps_c0 r0 0) (Int32.toNatClampNeg (ps_i s1 r0 6)) l2) r0 6) + 1)) Q)))))))))))))))))) : ps_At (d + 1) 133 0 [(0, .ref r0), (1, .int x1), (2, .long l2), (4, .int x4)] [] s Q :=
  ps_wp_at (stops := [(61, [0, 1, 2, 4])]) (n := 34) h rfl

theorem pg_133_61 {d : Nat} {r0 : Nat} {x1 : Int32} {l2 : Int64} {x4 : Int32} {s : ps_S} {Q : Option Value → ps_S → Prop} (h :
  (x1 ≠ 9 →
    Q none s) ∧
  (x1 = 9 →
    ps_nk (ps_is r0 9) (((ps_i s r0 7) < 0 →
      Q none s) ∧
    (0 ≤ (ps_i s r0 7) →
      ps_nk (ps_is r0 9) (ps_nk (ps_is r0 9) (ps_nk (Nat.beq (ps_K (ps_c0 r0 1)).1 0) (((nI (ps_ln (ps_c0 r0 1))) ≤ (ps_i s r0 7) →
        Q none s) ∧
      ((ps_i s r0 7) < (nI (ps_ln (ps_c0 r0 1))) →
        ps_nk (ps_is r0 9) (ps_nk (ps_is r0 9) (ps_Cl d 183 [.ref (ps_c0 r0 3), .int ((20 : Int32) + (ps_i s r0 7)), .int x4] s (ps_rV (fun s1 =>
          ps_nk (ps_is r0 9) (ps_nk (ps_is r0 9) (ps_nk (ps_ar (ps_c0 r0 1) 3) (ps_nd (pm_in (ps_i s1 r0 7) (ps_ln (ps_c0 r0 1))) (ps_nk (ps_is r0 9) (ps_nk (ps_is r0 9) (Q none (ps_ui (ps_ub s1 (ps_c0 r0 1) (Int32.toNatClampNeg (ps_i s1 r0 7)) l2) r0 7 ((ps_i (ps_ub s1 (ps_c0 r0 1) (Int32.toNatClampNeg (ps_i s1 r0 7)) l2) r0 7) + 1)))))))))))))))))))) : ps_At (d + 1) 133 61 [(0, .ref r0), (1, .int x1), (2, .long l2), (4, .int x4)] [] s Q :=
  ps_wp_at (stops := [(61, [0, 1, 2, 4])]) (n := 38) h rfl

theorem xs_133_61 {m s : ps_S} {t : Int32} {d : Nat} {r0 : Nat} {x1 : Int32} {l2 : Int64} {x4 : Int32} {Q : Option Value → ps_S → Prop} (h0 : ps_is r0 9 = true) (J : xJ m t s) (k : ∀ (s' : ps_S), xJ m t s' → Q none s') : ps_At (d + 1) 133 61 [(0, .ref r0), (1, .int x1), (2, .long l2), (4, .int x4)] [] s Q :=
  pg_133_61 (d := d) (And.intro (fun f1 => (k s J)) (fun f1 => (ps_nk_i h0 (And.intro (fun f2 => (k s J)) (fun f2 => (ps_nk_i h0 (ps_nk_i h0 (ps_nk_i (xn_l ((xk_9_1 h0)).1) (And.intro (fun f3 => (k s J)) (fun f3 => (ps_nk_i h0 (ps_nk_i h0 (xs_183 (xk_9_3 h0) J (fun s1 J1 e1 => (ps_nk_i h0 (ps_nk_i h0 (ps_nk_i (xn_3 ((xk_9_1 h0)).1) (ps_nd_i (xg_in (by rw [e1]; exact f2) (by rw [e1]; exact f3)) (ps_nk_i h0 (ps_nk_i h0 (k (ps_ui (ps_ub s1 (ps_c0 r0 1) (Int32.toNatClampNeg (ps_i s1 r0 7)) l2) r0 7 ((ps_i (ps_ub s1 (ps_c0 r0 1) (Int32.toNatClampNeg (ps_i s1 r0 7)) l2) r0 7) + 1)) (xw_i (c := 9) (by decide) h0 (xw_b (((xk_9_1 h0)).2) J1)))))))))))))))))))))))

theorem xs_133 {m s : ps_S} {t : Int32} {d : Nat} {r0 : Nat} {x1 : Int32} {l2 : Int64} {x4 : Int32} {f : ps_S → Prop} (h0 : ps_is r0 9 = true) (J : xJ m t s) (k : ∀ (s' : ps_S), xJ m t s' → f s') : ps_Cl (d + 1) 133 [.ref r0, .int x1, .long l2, .int x4] s (ps_rV f) :=
  pg_133_0 (d := d) (And.intro (fun f1 => (xs_133_61 (d := d) (r0 := r0) (x1 := x1) (l2 := l2) (x4 := x4)  h0 J k )) (fun f1 => (ps_nk_i h0 (And.intro (fun f2 => (xs_133_61 (d := d) (r0 := r0) (x1 := x1) (l2 := l2) (x4 := x4)  h0 J k )) (fun f2 => (ps_nk_i h0 (ps_nk_i h0 (ps_nk_i (xn_l ((xk_9_0 h0)).1) (And.intro (fun f3 => (xs_133_61 (d := d) (r0 := r0) (x1 := x1) (l2 := l2) (x4 := x4)  h0 J k )) (fun f3 => (ps_nk_i h0 (ps_nk_i h0 (xs_183 (xk_9_3 h0) J (fun s1 J1 e1 => (ps_nk_i h0 (ps_nk_i h0 (ps_nk_i (xn_3 ((xk_9_0 h0)).1) (ps_nd_i (xg_in (by rw [e1]; exact f2) (by rw [e1]; exact f3)) (ps_nk_i h0 (ps_nk_i h0 (xs_133_61 (d := d) (r0 := r0) (x1 := x1) (l2 := l2) (x4 := x4)  h0 (xw_i (c := 9) (by decide) h0 (xw_b (((xk_9_0 h0)).2) J1)) k )))))))))))))))))))))

-- ProofBench$Reader.takeSymbol(I)Z
theorem pg_63_0 {d : Nat} {r0 : Nat} {x1 : Int32} {s : ps_S} {Q : Option Value → ps_S → Prop} (h :
  ps_nk (ps_is r0 3) (ps_nk (ps_is (ps_c0 r0 0) 10) (((ps_i s (ps_c0 r0 0) 4) = 2 →
    ps_nk (ps_is r0 3) (ps_nk (ps_is (ps_c0 r0 0) 10) (ps_nk (ps_is r0 3) (ps_nk (ps_is (ps_r s r0 5) 9) (ps_Cl d 130 [.ref (ps_r s r0 5), .long (ps_j s (ps_c0 r0 0) 8)] s (ps_rI (fun v1 s1 =>
      (v1 = 0 →
        ps_nk (ps_is r0 3) (ps_nk (ps_is (ps_c0 r0 0) 10) (ps_Cl d 140 [.ref (ps_c0 r0 0)] s1 (ps_rV (fun s2 =>
          ps_nk (ps_is r0 3) (ps_nk (ps_is (ps_c0 r0 0) 10) (((ps_i s2 (ps_c0 r0 0) 4) = 4 →
            ps_nk (ps_is r0 3) (ps_nk (ps_is (ps_c0 r0 0) 10) (((ps_i s2 (ps_c0 r0 0) 7) ≤ 2 →
              ps_nk (ps_is r0 3) (ps_nk (ps_is (ps_c0 r0 0) 10) (ps_Cl d 140 [.ref (ps_c0 r0 0)] s2 (ps_rV (fun s3 =>
                ps_nk (ps_is r0 3) (ps_Cl d 65 [.ref r0] s3 (ps_rI (fun v4 s4 =>
                  (v4 ≠ 0 →
                    ps_nk (ps_is r0 3) (ps_nk (ps_is (ps_r s4 r0 5) 9) (ps_Cl d 133 [.ref (ps_r s4 r0 5), .int x1, .long (ps_j s (ps_c0 r0 0) 8), .int (ps_i s2 (ps_c0 r0 0) 7)] s4 (ps_rV (fun s5 =>
                      Q (some (.int 1)) s5))))) ∧
                  (v4 = 0 →
                    Q (some (.int 0)) s4))))))))) ∧
            (2 < (ps_i s2 (ps_c0 r0 0) 7) →
              ps_nk (ps_is r0 3) (ps_Cl d 62 [.ref r0, .int 4] s2 (ps_rI (fun v6 s6 =>
                ps_nd (decide (v6 &&& 1 = v6)) (Q (some (.int v6)) s6)))))))) ∧
          ((ps_i s2 (ps_c0 r0 0) 4) ≠ 4 →
            ps_nk (ps_is r0 3) (ps_Cl d 62 [.ref r0, .int 2] s2 (ps_rI (fun v7 s7 =>
              ps_nd (decide (v7 &&& 1 = v7)) (Q (some (.int v7)) s7)))))))))))) ∧
      (v1 ≠ 0 →
        ps_nk (ps_is r0 3) (ps_Cl d 62 [.ref r0, .int 3] s1 (ps_rI (fun v8 s8 =>
          ps_nd (decide (v8 &&& 1 = v8)) (Q (some (.int v8)) s8)))))))))))) ∧
  ((ps_i s (ps_c0 r0 0) 4) ≠ 2 →
    ps_nk (ps_is r0 3) (ps_Cl d 62 [.ref r0, .int 2] s (ps_rI (fun v9 s9 =>
      ps_nd (decide (v9 &&& 1 = v9)) (Q (some (.int v9)) s9)))))))) : ps_At (d + 1) 63 0 [(0, .ref r0), (1, .int x1)] [] s Q :=
  ps_wp_at (stops := []) (n := 63) h rfl

theorem xs_63 {m s : ps_S} {t : Int32} {d : Nat} {r0 : Nat} {x1 : Int32} {f : Int32 → ps_S → Prop} (h0 : ps_is r0 3 = true) (J : xJ m t s) (k : ∀ (v : Int32) (s' : ps_S), v &&& 1 = v → xJ m t s' → f v s') : ps_Cl (d + 4) 63 [.ref r0, .int x1] s (ps_rI f) :=
  pg_63_0 (d := d + 3) (ps_nk_i h0 (ps_nk_i (xk_3_0 h0) (And.intro (fun f1 => (ps_nk_i h0 (ps_nk_i (xk_3_0 h0) (ps_nk_i h0 (ps_nk_i (xj_3_5 J h0) (xs_130 (xj_3_5 J h0) J (fun v1 b1 => (And.intro (fun f2 => (ps_nk_i h0 (ps_nk_i (xk_3_0 h0) (xs_140 (xk_3_0 h0) J (fun s2 J2 => (ps_nk_i h0 (ps_nk_i (xk_3_0 h0) (And.intro (fun f3 => (ps_nk_i h0 (ps_nk_i (xk_3_0 h0) (And.intro (fun f4 => (ps_nk_i h0 (ps_nk_i (xk_3_0 h0) (xs_140 (xk_3_0 h0) J2 (fun s3 J3 => (ps_nk_i h0 (xs_65 h0 J3 (fun v4 s4 b4 J4 => (And.intro (fun f5 => (ps_nk_i h0 (ps_nk_i (xj_3_5 J4 h0) (xs_133 (xj_3_5 J4 h0) J4 (fun s5 J5 => (k 1 s5 (by decide) J5)))))) (fun f5 => (k 0 s4 (by decide) J4))))))))))) (fun f4 => (ps_nk_i h0 (xs_62 h0 J2 (fun v6 s6 b6 J6 => (ps_nd_i (decide_eq_true b6) ((k v6 s6 (of_decide_eq_true (decide_eq_true b6)) J6))))))))))) (fun f3 => (ps_nk_i h0 (xs_62 h0 J2 (fun v7 s7 b7 J7 => (ps_nd_i (decide_eq_true b7) ((k v7 s7 (of_decide_eq_true (decide_eq_true b7)) J7))))))))))))))) (fun f2 => (ps_nk_i h0 (xs_62 h0 J (fun v8 s8 b8 J8 => (ps_nd_i (decide_eq_true b8) ((k v8 s8 (of_decide_eq_true (decide_eq_true b8)) J8))))))))))))))) (fun f1 => (ps_nk_i h0 (xs_62 h0 J (fun v9 s9 b9 J9 => (ps_nd_i (decide_eq_true b9) ((k v9 s9 (of_decide_eq_true (decide_eq_true b9)) J9))))))))))

-- ProofBench$Reader.takeTheory([BILProofBench$Theory;)Z
theorem pg_58_0 {d : Nat} {r0 : Nat} {r1 : Nat} {x2 : Int32} {r3 : Nat} {s : ps_S} {Q : Option Value → ps_S → Prop} (h :
  ps_nk (ps_is r3 9) (ps_Cl d 126 [.ref r3] s (ps_rV (fun s1 =>
    ps_nk (ps_is r0 3) (ps_Cl d 61 [.ref r0, .ref r1, .int x2, .ref r3] s1 (ps_rV (fun s2 =>
      ps_At (d + 1) 58 18 [(0, .ref r0), (4, .int 19), (5, .int 0)] [] s2 Q))))))) : ps_At (d + 1) 58 0 [(0, .ref r0), (1, .ref r1), (2, .int x2), (3, .ref r3)] [] s Q :=
  ps_wp_at (stops := [(18, [0, 4, 5]), (65, [0, 4, 5, 6]), (77, [0])]) (n := 13) h rfl

theorem pg_58_18 {d : Nat} {r0 : Nat} {x4 : Int32} {x5 : Int32} {s : ps_S} {Q : Option Value → ps_S → Prop} (h :
  (x4 ≤ x5 →
    Q (some (.int 1)) s) ∧
  (x5 < x4 →
    ps_nk (ps_is r0 3) (ps_nk (ps_is (ps_c0 r0 0) 10) (((ps_i s (ps_c0 r0 0) 4) = 0 →
      Q (some (.int 1)) s) ∧
    ((ps_i s (ps_c0 r0 0) 4) ≠ 0 →
      ps_nk (ps_is r0 3) (ps_nk (ps_is (ps_c0 r0 0) 10) (((ps_i s (ps_c0 r0 0) 6) = 8 →
        ps_At (d + 1) 58 65 [(0, .ref r0), (4, .int x4), (5, .int x5), (6, .int (ps_i s (ps_c0 r0 0) 6))] [] s Q) ∧
      ((ps_i s (ps_c0 r0 0) 6) ≠ 8 →
        ((ps_i s (ps_c0 r0 0) 6) = 9 →
          ps_At (d + 1) 58 65 [(0, .ref r0), (4, .int x4), (5, .int x5), (6, .int (ps_i s (ps_c0 r0 0) 6))] [] s Q) ∧
        ((ps_i s (ps_c0 r0 0) 6) ≠ 9 →
          ((ps_i s (ps_c0 r0 0) 6) ≠ 10 →
            ps_At (d + 1) 58 77 [(0, .ref r0)] [] s Q) ∧
          ((ps_i s (ps_c0 r0 0) 6) = 10 →
            ps_At (d + 1) 58 65 [(0, .ref r0), (4, .int x4), (5, .int x5), (6, .int (ps_i s (ps_c0 r0 0) 6))] [] s Q)))))))))) : ps_At (d + 1) 58 18 [(0, .ref r0), (4, .int x4), (5, .int x5)] [] s Q :=
  ps_wp_at (stops := [(18, [0, 4, 5]), (65, [0, 4, 5, 6]), (77, [0])]) (n := 26) h rfl

theorem pg_58_65 {d : Nat} {r0 : Nat} {x4 : Int32} {x5 : Int32} {x6 : Int32} {s : ps_S} {Q : Option Value → ps_S → Prop} (h :
  ps_nk (ps_is r0 3) (ps_nk (ps_is (ps_r s r0 5) 9) (ps_Cl d 132 [.ref (ps_r s r0 5), .int x6] s (ps_rI (fun v1 s1 =>
    (v1 = 0 →
      ps_nk (ps_is r0 3) (ps_nk (ps_is (ps_c0 r0 0) 10) (ps_Cl d 140 [.ref (ps_c0 r0 0)] s1 (ps_rV (fun s2 =>
        (x6 ≠ 10 →
          ps_nk (ps_is r0 3) (ps_Cl d 63 [.ref r0, .int x6] s2 (ps_rI (fun v3 s3 =>
            (v3 ≠ 0 →
              ps_At (d + 1) 58 18 [(0, .ref r0), (4, .int x4), (5, .int (x5 + 1))] [] s3 Q) ∧
            (v3 = 0 →
              Q (some (.int 0)) s3))))) ∧
        (x6 = 10 →
          ps_nk (ps_is r0 3) (ps_Cl d 64 [.ref r0] s2 (ps_rI (fun v4 s4 =>
            (v4 = 0 →
              Q (some (.int 0)) s4) ∧
            (v4 ≠ 0 →
              ps_At (d + 1) 58 18 [(0, .ref r0), (4, .int x4), (5, .int (x5 + 1))] [] s4 Q)))))))))) ∧
    (v1 ≠ 0 →
      ps_At (d + 1) 58 77 [(0, .ref r0)] [] s1 Q)))))) : ps_At (d + 1) 58 65 [(0, .ref r0), (4, .int x4), (5, .int x5), (6, .int x6)] [] s Q :=
  ps_wp_at (stops := [(18, [0, 4, 5]), (65, [0, 4, 5, 6]), (77, [0])]) (n := 29) h rfl

theorem pg_58_77 {d : Nat} {r0 : Nat} {s : ps_S} {Q : Option Value → ps_S → Prop} (h :
  ps_nk (ps_is r0 3) (ps_Cl d 62 [.ref r0, .int 2] s (ps_rI (fun v1 s1 =>
    ps_nd (decide (v1 &&& 1 = v1)) (Q (some (.int v1)) s1))))) : ps_At (d + 1) 58 77 [(0, .ref r0)] [] s Q :=
  ps_wp_at (stops := [(18, [0, 4, 5]), (65, [0, 4, 5, 6]), (77, [0])]) (n := 6) h rfl

theorem xs_58_77 {m s : ps_S} {t : Int32} {d : Nat} {r0 : Nat} {Q : Option Value → ps_S → Prop} (h0 : ps_is r0 3 = true) (J : xJ m t s) (k : ∀ (v : Int32) (s' : ps_S), v &&& 1 = v → xJ m t s' → Q (some (.int v)) s') : ps_At (d + 39) 58 77 [(0, .ref r0)] [] s Q :=
  pg_58_77 (d := d + 38) (ps_nk_i h0 (xs_62 h0 J (fun v1 s1 b1 J1 => (ps_nd_i (decide_eq_true b1) ((k v1 s1 (of_decide_eq_true (decide_eq_true b1)) J1))))))

theorem xs_58_65 {m s : ps_S} {t : Int32} {d : Nat} {r0 : Nat} {x4 : Int32} {x5 : Int32} {x6 : Int32} {Q : Option Value → ps_S → Prop} (h0 : ps_is r0 3 = true) (J : xJ m t s) (k : ∀ (v : Int32) (s' : ps_S), v &&& 1 = v → xJ m t s' → Q (some (.int v)) s') (K18 : ∀ (s : ps_S), ps_is r0 3 = true → xJ m t s → ps_At (d + 39) 58 18 [(0, .ref r0), (4, .int x4), (5, .int (x5 + 1))] [] s Q) : ps_At (d + 39) 58 65 [(0, .ref r0), (4, .int x4), (5, .int x5), (6, .int x6)] [] s Q :=
  pg_58_65 (d := d + 38) (ps_nk_i h0 (ps_nk_i (xj_3_5 J h0) (xs_132 (xj_3_5 J h0) J (fun v1 b1 => (And.intro (fun f1 => (ps_nk_i h0 (ps_nk_i (xk_3_0 h0) (xs_140 (xk_3_0 h0) J (fun s2 J2 => (And.intro (fun f2 => (ps_nk_i h0 (xs_63 h0 J2 (fun v3 s3 b3 J3 => (And.intro (fun f3 => (K18 s3 h0 J3)) (fun f3 => (k 0 s3 (by decide) J3))))))) (fun f2 => (ps_nk_i h0 (xs_64 h0 J2 (fun v4 s4 b4 J4 => (And.intro (fun f4 => (k 0 s4 (by decide) J4)) (fun f4 => (K18 s4 h0 J4))))))))))))) (fun f1 => (xs_58_77 (d := d) (r0 := r0)  h0 J k )))))))

theorem xs_58_18 {m s : ps_S} {t : Int32} {d : Nat} {r0 : Nat} {x4 : Int32} {x5 : Int32} {Q : Option Value → ps_S → Prop} (h0 : ps_is r0 3 = true) (J : xJ m t s) (k : ∀ (v : Int32) (s' : ps_S), v &&& 1 = v → xJ m t s' → Q (some (.int v)) s') : ps_At (d + 39) 58 18 [(0, .ref r0), (4, .int x4), (5, .int x5)] [] s Q :=
  xs_up (P := fun x5 => ∀ (s : ps_S), ps_is r0 3 = true → xJ m t s → ps_At (d + 39) 58 18 [(0, .ref r0), (4, .int x4), (5, .int x5)] [] s Q) (fun x5 ih s h0 J => pg_58_18 (d := d + 38) (And.intro (fun f1 => (k 1 s (by decide) J)) (fun f1 => (ps_nk_i h0 (ps_nk_i (xk_3_0 h0) (And.intro (fun f2 => (k 1 s (by decide) J)) (fun f2 => (ps_nk_i h0 (ps_nk_i (xk_3_0 h0) (And.intro (fun f3 => (xs_58_65 (d := d) (r0 := r0) (x4 := x4) (x5 := x5) (x6 := (ps_i s (ps_c0 r0 0) 6))  h0 J k (fun s9 h0z J9 => ih (x5 + 1) (xs_lt f1) s9 h0z J9))) (fun f3 => (And.intro (fun f4 => (xs_58_65 (d := d) (r0 := r0) (x4 := x4) (x5 := x5) (x6 := (ps_i s (ps_c0 r0 0) 6))  h0 J k (fun s9 h0z J9 => ih (x5 + 1) (xs_lt f1) s9 h0z J9))) (fun f4 => (And.intro (fun f5 => (xs_58_77 (d := d) (r0 := r0)  h0 J k )) (fun f5 => (xs_58_65 (d := d) (r0 := r0) (x4 := x4) (x5 := x5) (x6 := (ps_i s (ps_c0 r0 0) 6))  h0 J k (fun s9 h0z J9 => ih (x5 + 1) (xs_lt f1) s9 h0z J9))))))))))))))))) x5 s h0 J

theorem xs_58 {m s : ps_S} {t : Int32} {d : Nat} {r0 : Nat} {r1 : Nat} {x2 : Int32} {r3 : Nat} {f : Int32 → ps_S → Prop} (h0 : ps_is r0 3 = true) (h1 : ps_ar r1 1 = true ∧ r1 < 1131) (h3 : ps_is r3 9 = true) (J : xJ m t s) (k : ∀ (v : Int32) (s' : ps_S), v &&& 1 = v → xJ m t s' → f v s') : ps_Cl (d + 39) 58 [.ref r0, .ref r1, .int x2, .ref r3] s (ps_rI f) :=
  pg_58_0 (d := d + 38) (ps_nk_i h3 (xs_126 h3 J (fun s1 J1 => (ps_nk_i h0 (xs_61 h0 h1 h3 J1 (fun s2 J2 => (xs_58_18 (d := d) (r0 := r0) (x4 := 19) (x5 := 0)  h0 J2 k )))))))
end
section
set_option maxRecDepth 100000
-- ProofBench$Step.isRule(I)Z
theorem pg_114_0 {d : Nat} {x0 : Int32} {s : ps_S} {Q : Option Value → ps_S → Prop} (h :
  (x0 = 6 →
    Q (some (.int 1)) s) ∧
  (x0 ≠ 6 →
    (x0 < 10 →
      Q (some (.int 0)) s) ∧
    (10 ≤ x0 →
      (27 < x0 →
        Q (some (.int 0)) s) ∧
      (x0 ≤ 27 →
        Q (some (.int 1)) s)))) : ps_At d 114 0 [(0, .int x0)] [] s Q :=
  ps_wp_at (stops := []) (n := 21) h rfl

theorem xs_114 {m s : ps_S} {t : Int32} {d : Nat} {x0 : Int32} {f : Int32 → ps_S → Prop} (J : xJ m t s) (k : ∀ (v : Int32), v &&& 1 = v → f v s) : ps_Cl d 114 [.int x0] s (ps_rI f) :=
  pg_114_0 (And.intro (fun f1 => (k 1 (by decide))) (fun f1 => (And.intro (fun f2 => (k 0 (by decide))) (fun f2 => (And.intro (fun f3 => (k 0 (by decide))) (fun f3 => (k 1 (by decide))))))))

-- ProofBench$Step.begin(I)V
theorem pg_120_0 {d : Nat} {r0 : Nat} {x1 : Int32} {s : ps_S} {Q : Option Value → ps_S → Prop} (h :
  ps_nk (ps_is r0 8) (ps_nk (ps_is r0 8) (ps_nk (ps_is r0 8) (ps_nk (ps_is r0 8) (ps_nk (ps_is (ps_c0 r0 4) 5) (ps_Cl d 91 [.ref (ps_c0 r0 4)] (ps_ui (ps_ui (ps_ui s r0 0 x1) r0 2 (-1)) r0 3 (-1)) (ps_rV (fun s1 =>
    ps_nk (ps_is r0 8) (ps_nk (ps_is (ps_c0 r0 5) 5) (ps_Cl d 91 [.ref (ps_c0 r0 5)] s1 (ps_rV (fun s2 =>
      ps_nk (ps_is r0 8) (ps_nk (ps_is (ps_c0 r0 6) 5) (ps_Cl d 91 [.ref (ps_c0 r0 6)] s2 (ps_rV (fun s3 =>
        ps_nk (ps_is r0 8) (ps_nk (ps_is r0 8) (ps_nk (ps_is r0 8) (ps_nk (ps_is r0 8) (ps_nk (ps_is r0 8) (Q none (ps_uj (ps_ui (ps_ui (ps_ui (ps_ui s3 r0 8 0) r0 9 0) r0 10 0) r0 11 0) r0 12 0)))))))))))))))))))))) : ps_At (d + 1) 120 0 [(0, .ref r0), (1, .int x1)] [] s Q :=
  ps_wp_at (stops := []) (n := 36) h rfl

theorem xs_120 {m s : ps_S} {t : Int32} {d : Nat} {r0 : Nat} {x1 : Int32} {f : ps_S → Prop} (h0 : ps_is r0 8 = true) (J : xJ m t s) (k : ∀ (s' : ps_S), xJ m t s' → f s') : ps_Cl (d + 1) 120 [.ref r0, .int x1] s (ps_rV f) :=
  pg_120_0 (d := d) (ps_nk_i h0 (ps_nk_i h0 (ps_nk_i h0 (ps_nk_i h0 (ps_nk_i (xk_8_4 h0) (xs_91 (xk_8_4 h0) (xw_i (c := 8) (by decide) h0 (xw_i (c := 8) (by decide) h0 (xw_i (c := 8) (by decide) h0 J))) (fun s1 J1 => (ps_nk_i h0 (ps_nk_i (xk_8_5 h0) (xs_91 (xk_8_5 h0) J1 (fun s2 J2 => (ps_nk_i h0 (ps_nk_i (xk_8_6 h0) (xs_91 (xk_8_6 h0) J2 (fun s3 J3 => (ps_nk_i h0 (ps_nk_i h0 (ps_nk_i h0 (ps_nk_i h0 (ps_nk_i h0 (k (ps_uj (ps_ui (ps_ui (ps_ui (ps_ui s3 r0 8 0) r0 9 0) r0 10 0) r0 11 0) r0 12 0) (xw_j (c := 8) (by decide) h0 (xw_i (c := 8) (by decide) h0 (xw_i (c := 8) (by decide) h0 (xw_i (c := 8) (by decide) h0 (xw_i (c := 8) (by decide) h0 J3))))))))))))))))))))))))))

-- ProofBench$Reader.takeAxiomName(LProofBench$Step;)Z
theorem pg_67_0 {d : Nat} {r0 : Nat} {r1 : Nat} {s : ps_S} {Q : Option Value → ps_S → Prop} (h :
  ps_nk (ps_is r0 3) (ps_nk (ps_is (ps_c0 r0 0) 10) (((ps_i s (ps_c0 r0 0) 4) = 2 →
    ps_nk (ps_is r0 3) (ps_nk (ps_is r0 3) (ps_nk (ps_is (ps_c0 r0 0) 10) (ps_nk (ps_is (ps_r s r0 5) 9) (ps_Cl d 129 [.ref (ps_r s r0 5), .long (ps_j s (ps_c0 r0 0) 8)] s (ps_rI (fun v1 s1 =>
      ps_nk (ps_is r1 8) (ps_nk (ps_is r1 8) (((ps_i (ps_ui s1 r1 2 v1) r1 2) ≠ (-1) →
        ps_nk (ps_is r0 3) (ps_nk (ps_is (ps_c0 r0 0) 10) (ps_Cl d 140 [.ref (ps_c0 r0 0)] (ps_ui s1 r1 2 v1) (ps_rV (fun s2 =>
          Q (some (.int 1)) s2))))) ∧
      ((ps_i (ps_ui s1 r1 2 v1) r1 2) = (-1) →
        ps_nk (ps_is r0 3) (ps_Cl d 62 [.ref r0, .int 6] (ps_ui s1 r1 2 v1) (ps_rI (fun v3 s3 =>
          ps_nd (decide (v3 &&& 1 = v3)) (Q (some (.int v3)) s3)))))))))))))) ∧
  ((ps_i s (ps_c0 r0 0) 4) ≠ 2 →
    ps_nk (ps_is r0 3) (ps_Cl d 62 [.ref r0, .int 2] s (ps_rI (fun v4 s4 =>
      ps_nd (decide (v4 &&& 1 = v4)) (Q (some (.int v4)) s4)))))))) : ps_At (d + 1) 67 0 [(0, .ref r0), (1, .ref r1)] [] s Q :=
  ps_wp_at (stops := []) (n := 32) h rfl

theorem xs_67 {m s : ps_S} {t : Int32} {d : Nat} {r0 : Nat} {r1 : Nat} {f : Int32 → ps_S → Prop} (h0 : ps_is r0 3 = true) (h1 : ps_is r1 8 = true) (J : xJ m t s) (k : ∀ (v : Int32) (s' : ps_S), v &&& 1 = v → xJ m t s' → f v s') : ps_Cl (d + 3) 67 [.ref r0, .ref r1] s (ps_rI f) :=
  pg_67_0 (d := d + 2) (ps_nk_i h0 (ps_nk_i (xk_3_0 h0) (And.intro (fun f1 => (ps_nk_i h0 (ps_nk_i h0 (ps_nk_i (xk_3_0 h0) (ps_nk_i (xj_3_5 J h0) (xs_129 (xj_3_5 J h0) J (fun v1 => (ps_nk_i h1 (ps_nk_i h1 (And.intro (fun f2 => (ps_nk_i h0 (ps_nk_i (xk_3_0 h0) (xs_140 (xk_3_0 h0) (xw_i (c := 8) (by decide) h1 J) (fun s2 J2 => (k 1 s2 (by decide) J2)))))) (fun f2 => (ps_nk_i h0 (xs_62 h0 (xw_i (c := 8) (by decide) h1 J) (fun v3 s3 b3 J3 => (ps_nd_i (decide_eq_true b3) ((k v3 s3 (of_decide_eq_true (decide_eq_true b3)) J3))))))))))))))))) (fun f1 => (ps_nk_i h0 (xs_62 h0 J (fun v4 s4 b4 J4 => (ps_nd_i (decide_eq_true b4) ((k v4 s4 (of_decide_eq_true (decide_eq_true b4)) J4))))))))))

-- ProofBench$Step.hasX(I)Z
theorem pg_117_0 {d : Nat} {x0 : Int32} {s : ps_S} {Q : Option Value → ps_S → Prop} (h :
  (x0 = 21 →
    Q (some (.int 1)) s) ∧
  (x0 ≠ 21 →
    (x0 ≠ 24 →
      Q (some (.int 0)) s) ∧
    (x0 = 24 →
      Q (some (.int 1)) s))) : ps_At d 117 0 [(0, .int x0)] [] s Q :=
  ps_wp_at (stops := []) (n := 16) h rfl

theorem xs_117 {m s : ps_S} {t : Int32} {d : Nat} {x0 : Int32} {f : Int32 → ps_S → Prop} (J : xJ m t s) (k : ∀ (v : Int32), v &&& 1 = v → f v s) : ps_Cl d 117 [.int x0] s (ps_rI f) :=
  pg_117_0 (And.intro (fun f1 => (k 1 (by decide))) (fun f1 => (And.intro (fun f2 => (k 0 (by decide))) (fun f2 => (k 1 (by decide))))))

-- ProofBench$Reader.takeX(LProofBench$Step;)Z
theorem pg_68_0 {d : Nat} {r0 : Nat} {r1 : Nat} {s : ps_S} {Q : Option Value → ps_S → Prop} (h :
  ps_nk (ps_is r0 3) (ps_Cl d 77 [.ref r0] s (ps_rI (fun v1 s1 =>
    (v1 ≠ 0 →
      ps_nk (ps_is r0 3) (ps_Cl d 79 [.ref r0] s1 (ps_rI (fun v2 s2 =>
        ps_nk (ps_is r1 8) (ps_nk (ps_is r1 8) (((ps_i (ps_ui s2 r1 3 v2) r1 3) ≠ (-1) →
          ps_nk (ps_is r0 3) (ps_nk (ps_is (ps_c0 r0 0) 10) (ps_Cl d 140 [.ref (ps_c0 r0 0)] (ps_ui s2 r1 3 v2) (ps_rV (fun s3 =>
            Q (some (.int 1)) s3))))) ∧
        ((ps_i (ps_ui s2 r1 3 v2) r1 3) = (-1) →
          ps_nk (ps_is r0 3) (ps_Cl d 62 [.ref r0, .int 2] (ps_ui s2 r1 3 v2) (ps_rI (fun v4 s4 =>
            ps_nd (decide (v4 &&& 1 = v4)) (Q (some (.int v4)) s4))))))))))) ∧
    (v1 = 0 →
      ps_nk (ps_is r0 3) (ps_Cl d 62 [.ref r0, .int 2] s1 (ps_rI (fun v5 s5 =>
        ps_nd (decide (v5 &&& 1 = v5)) (Q (some (.int v5)) s5))))))))) : ps_At (d + 1) 68 0 [(0, .ref r0), (1, .ref r1)] [] s Q :=
  ps_wp_at (stops := []) (n := 26) h rfl

theorem xs_68 {m s : ps_S} {t : Int32} {d : Nat} {r0 : Nat} {r1 : Nat} {f : Int32 → ps_S → Prop} (h0 : ps_is r0 3 = true) (h1 : ps_is r1 8 = true) (J : xJ m t s) (k : ∀ (v : Int32) (s' : ps_S), v &&& 1 = v → xJ m t s' → f v s') : ps_Cl (d + 3) 68 [.ref r0, .ref r1] s (ps_rI f) :=
  pg_68_0 (d := d + 2) (ps_nk_i h0 (xs_77 h0 J (fun v1 b1 => (And.intro (fun f1 => (ps_nk_i h0 (xs_79 h0 J (fun v2 s2 J2 => (ps_nk_i h1 (ps_nk_i h1 (And.intro (fun f2 => (ps_nk_i h0 (ps_nk_i (xk_3_0 h0) (xs_140 (xk_3_0 h0) (xw_i (c := 8) (by decide) h1 J2) (fun s3 J3 => (k 1 s3 (by decide) J3)))))) (fun f2 => (ps_nk_i h0 (xs_62 h0 (xw_i (c := 8) (by decide) h1 J2) (fun v4 s4 b4 J4 => (ps_nd_i (decide_eq_true b4) ((k v4 s4 (of_decide_eq_true (decide_eq_true b4)) J4)))))))))))))) (fun f1 => (ps_nk_i h0 (xs_62 h0 J (fun v5 s5 b5 J5 => (ps_nd_i (decide_eq_true b5) ((k v5 s5 (of_decide_eq_true (decide_eq_true b5)) J5)))))))))))

-- ProofBench$Step.hasTerm(I)Z
theorem pg_118_0 {d : Nat} {x0 : Int32} {s : ps_S} {Q : Option Value → ps_S → Prop} (h :
  (x0 = 22 →
    Q (some (.int 1)) s) ∧
  (x0 ≠ 22 →
    (x0 = 23 →
      Q (some (.int 1)) s) ∧
    (x0 ≠ 23 →
      (x0 ≠ 6 →
        Q (some (.int 0)) s) ∧
      (x0 = 6 →
        Q (some (.int 1)) s)))) : ps_At d 118 0 [(0, .int x0)] [] s Q :=
  ps_wp_at (stops := []) (n := 22) h rfl

theorem xs_118 {m s : ps_S} {t : Int32} {d : Nat} {x0 : Int32} {f : Int32 → ps_S → Prop} (J : xJ m t s) (k : ∀ (v : Int32), v &&& 1 = v → f v s) : ps_Cl d 118 [.int x0] s (ps_rI f) :=
  pg_118_0 (And.intro (fun f1 => (k 1 (by decide))) (fun f1 => (And.intro (fun f2 => (k 1 (by decide))) (fun f2 => (And.intro (fun f3 => (k 0 (by decide))) (fun f3 => (k 1 (by decide))))))))

-- ProofBench$Step.hasFormula(I)Z
theorem pg_119_0 {d : Nat} {x0 : Int32} {s : ps_S} {Q : Option Value → ps_S → Prop} (h :
  (x0 = 11 →
    Q (some (.int 1)) s) ∧
  (x0 ≠ 11 →
    (x0 = 12 →
    Q (some (.int 0)) s) ∧
  (x0 ≠ 12 →
    (x0 = 13 →
    Q (some (.int 0)) s) ∧
  (x0 ≠ 13 →
    (x0 = 14 →
    Q (some (.int 0)) s) ∧
  (x0 ≠ 14 →
    (x0 = 15 →
    Q (some (.int 0)) s) ∧
  (x0 ≠ 15 →
    (x0 = 16 →
    Q (some (.int 1)) s) ∧
  (x0 ≠ 16 →
    (x0 = 17 →
    Q (some (.int 1)) s) ∧
  (x0 ≠ 17 →
    (x0 = 18 →
    Q (some (.int 0)) s) ∧
  (x0 ≠ 18 →
    (x0 = 19 →
    Q (some (.int 0)) s) ∧
  (x0 ≠ 19 →
    (x0 = 20 →
    Q (some (.int 1)) s) ∧
  (x0 ≠ 20 →
    (x0 = 21 →
    Q (some (.int 0)) s) ∧
  (x0 ≠ 21 →
    (x0 = 22 →
    Q (some (.int 0)) s) ∧
  (x0 ≠ 22 →
    (x0 = 23 →
    Q (some (.int 1)) s) ∧
  (x0 ≠ 23 →
    (x0 = 24 →
    Q (some (.int 0)) s) ∧
  (x0 ≠ 24 →
    (x0 = 25 →
    Q (some (.int 1)) s) ∧
  (x0 ≠ 25 →
    (x0 = 26 →
    Q (some (.int 1)) s) ∧
  (x0 ≠ 26 →
    (x0 = 27 →
    Q (some (.int 1)) s) ∧
  (x0 ≠ 27 →
    Q (some (.int 0)) s)))))))))))))))))) : ps_At d 119 0 [(0, .int x0)] [] s Q :=
  ps_wp_at (stops := []) (n := 40) h rfl

theorem xs_119 {m s : ps_S} {t : Int32} {d : Nat} {x0 : Int32} {f : Int32 → ps_S → Prop} (J : xJ m t s) (k : ∀ (v : Int32), v &&& 1 = v → f v s) : ps_Cl d 119 [.int x0] s (ps_rI f) :=
  pg_119_0 (And.intro (fun f1 => (k 1 (by decide))) (fun f1 => (And.intro (fun f2 => (k 0 (by decide))) (fun f2 => (And.intro (fun f3 => (k 0 (by decide))) (fun f3 => (And.intro (fun f4 => (k 0 (by decide))) (fun f4 => (And.intro (fun f5 => (k 0 (by decide))) (fun f5 => (And.intro (fun f6 => (k 1 (by decide))) (fun f6 => (And.intro (fun f7 => (k 1 (by decide))) (fun f7 => (And.intro (fun f8 => (k 0 (by decide))) (fun f8 => (And.intro (fun f9 => (k 0 (by decide))) (fun f9 => (And.intro (fun f10 => (k 1 (by decide))) (fun f10 => (And.intro (fun f11 => (k 0 (by decide))) (fun f11 => (And.intro (fun f12 => (k 0 (by decide))) (fun f12 => (And.intro (fun f13 => (k 1 (by decide))) (fun f13 => (And.intro (fun f14 => (k 0 (by decide))) (fun f14 => (And.intro (fun f15 => (k 1 (by decide))) (fun f15 => (And.intro (fun f16 => (k 1 (by decide))) (fun f16 => (And.intro (fun f17 => (k 1 (by decide))) (fun f17 => (k 0 (by decide))))))))))))))))))))))))))))))))))))

-- ProofBench$Reader.takeStep(LProofBench$Step;)Z
theorem pg_66_0 {d : Nat} {r0 : Nat} {r1 : Nat} {s : ps_S} {Q : Option Value → ps_S → Prop} (h :
  ps_nk (ps_is r0 3) (ps_nk (ps_is (ps_c0 r0 0) 10) (ps_Cl d 114 [.int (ps_i s (ps_c0 r0 0) 6)] s (ps_rI (fun v1 s1 =>
    (v1 ≠ 0 →
      ps_nk (ps_is r1 8) (ps_Cl d 120 [.ref r1, .int (ps_i s (ps_c0 r0 0) 6)] s1 (ps_rV (fun s2 =>
        ps_nk (ps_is r0 3) (ps_nk (ps_is (ps_c0 r0 0) 10) (ps_Cl d 140 [.ref (ps_c0 r0 0)] s2 (ps_rV (fun s3 =>
          ps_At (d + 1) 66 35 [(0, .ref r0), (1, .ref r1), (2, .int (ps_i s (ps_c0 r0 0) 6)), (3, .int 0)] [] s3 Q)))))))) ∧
    (v1 = 0 →
      ps_nk (ps_is r0 3) (ps_Cl d 62 [.ref r0, .int 2] s1 (ps_rI (fun v4 s4 =>
        ps_nd (decide (v4 &&& 1 = v4)) (Q (some (.int v4)) s4)))))))))) : ps_At (d + 1) 66 0 [(0, .ref r0), (1, .ref r1)] [] s Q :=
  ps_wp_at (stops := [(35, [0, 1, 2, 3]), (102, [0, 1, 2]), (119, [0, 1, 2]), (140, [0, 1, 2]), (161, [0])]) (n := 21) h rfl

theorem pg_66_35 {d : Nat} {r0 : Nat} {r1 : Nat} {x2 : Int32} {x3 : Int32} {s : ps_S} {Q : Option Value → ps_S → Prop} (h :
  ps_Cl d 115 [.int x2] s (ps_rI (fun v1 s1 =>
    (v1 ≤ x3 →
      (x2 ≠ 10 →
        ps_At (d + 1) 66 102 [(0, .ref r0), (1, .ref r1), (2, .int x2)] [] s1 Q) ∧
      (x2 = 10 →
        ps_nk (ps_is r0 3) (ps_Cl d 67 [.ref r0, .ref r1] s1 (ps_rI (fun v2 s2 =>
          (v2 = 0 →
            Q (some (.int 0)) s2) ∧
          (v2 ≠ 0 →
            ps_At (d + 1) 66 102 [(0, .ref r0), (1, .ref r1), (2, .int x2)] [] s2 Q)))))) ∧
    (x3 < v1 →
      ps_nk (ps_is r0 3) (ps_nk (ps_is (ps_c0 r0 0) 10) (((ps_i s1 (ps_c0 r0 0) 4) = 4 →
        ps_nk (ps_is r1 8) (ps_nk (ps_is r0 3) (ps_nk (ps_is (ps_c0 r0 0) 10) (ps_Cl d 183 [.ref (ps_c0 r1 1), .int x3, .int (ps_i s1 (ps_c0 r0 0) 7)] s1 (ps_rV (fun s3 =>
          ps_nk (ps_is r0 3) (ps_nk (ps_is (ps_c0 r0 0) 10) (ps_Cl d 140 [.ref (ps_c0 r0 0)] s3 (ps_rV (fun s4 =>
            ps_At (d + 1) 66 35 [(0, .ref r0), (1, .ref r1), (2, .int x2), (3, .int (x3 + 1))] [] s4 Q)))))))))) ∧
      ((ps_i s1 (ps_c0 r0 0) 4) ≠ 4 →
        ps_nk (ps_is r0 3) (ps_Cl d 62 [.ref r0, .int 2] s1 (ps_rI (fun v5 s5 =>
          ps_nd (decide (v5 &&& 1 = v5)) (Q (some (.int v5)) s5))))))))))) : ps_At (d + 1) 66 35 [(0, .ref r0), (1, .ref r1), (2, .int x2), (3, .int x3)] [] s Q :=
  ps_wp_at (stops := [(35, [0, 1, 2, 3]), (102, [0, 1, 2]), (119, [0, 1, 2]), (140, [0, 1, 2]), (161, [0])]) (n := 36) h rfl

theorem pg_66_102 {d : Nat} {r0 : Nat} {r1 : Nat} {x2 : Int32} {s : ps_S} {Q : Option Value → ps_S → Prop} (h :
  ps_Cl d 117 [.int x2] s (ps_rI (fun v1 s1 =>
    (v1 = 0 →
      ps_At (d + 1) 66 119 [(0, .ref r0), (1, .ref r1), (2, .int x2)] [] s1 Q) ∧
    (v1 ≠ 0 →
      ps_nk (ps_is r0 3) (ps_Cl d 68 [.ref r0, .ref r1] s1 (ps_rI (fun v2 s2 =>
        (v2 ≠ 0 →
          ps_At (d + 1) 66 119 [(0, .ref r0), (1, .ref r1), (2, .int x2)] [] s2 Q) ∧
        (v2 = 0 →
          Q (some (.int 0)) s2)))))))) : ps_At (d + 1) 66 102 [(0, .ref r0), (1, .ref r1), (2, .int x2)] [] s Q :=
  ps_wp_at (stops := [(35, [0, 1, 2, 3]), (102, [0, 1, 2]), (119, [0, 1, 2]), (140, [0, 1, 2]), (161, [0])]) (n := 11) h rfl

theorem pg_66_119 {d : Nat} {r0 : Nat} {r1 : Nat} {x2 : Int32} {s : ps_S} {Q : Option Value → ps_S → Prop} (h :
  ps_Cl d 118 [.int x2] s (ps_rI (fun v1 s1 =>
    (v1 = 0 →
      ps_At (d + 1) 66 140 [(0, .ref r0), (1, .ref r1), (2, .int x2)] [] s1 Q) ∧
    (v1 ≠ 0 →
      ps_nk (ps_is r1 8) (ps_nk (ps_is r0 3) (ps_Cl d 69 [.ref r0, .ref (ps_c0 r1 4), .int 1] s1 (ps_rI (fun v2 s2 =>
        (v2 ≠ 0 →
          ps_At (d + 1) 66 140 [(0, .ref r0), (1, .ref r1), (2, .int x2)] [] s2 Q) ∧
        (v2 = 0 →
          Q (some (.int 0)) s2))))))))) : ps_At (d + 1) 66 119 [(0, .ref r0), (1, .ref r1), (2, .int x2)] [] s Q :=
  ps_wp_at (stops := [(35, [0, 1, 2, 3]), (102, [0, 1, 2]), (119, [0, 1, 2]), (140, [0, 1, 2]), (161, [0])]) (n := 13) h rfl

theorem pg_66_140 {d : Nat} {r0 : Nat} {r1 : Nat} {x2 : Int32} {s : ps_S} {Q : Option Value → ps_S → Prop} (h :
  ps_Cl d 119 [.int x2] s (ps_rI (fun v1 s1 =>
    (v1 = 0 →
      ps_At (d + 1) 66 161 [(0, .ref r0)] [] s1 Q) ∧
    (v1 ≠ 0 →
      ps_nk (ps_is r1 8) (ps_nk (ps_is r0 3) (ps_Cl d 69 [.ref r0, .ref (ps_c0 r1 5), .int 0] s1 (ps_rI (fun v2 s2 =>
        (v2 ≠ 0 →
          ps_At (d + 1) 66 161 [(0, .ref r0)] [] s2 Q) ∧
        (v2 = 0 →
          Q (some (.int 0)) s2))))))))) : ps_At (d + 1) 66 140 [(0, .ref r0), (1, .ref r1), (2, .int x2)] [] s Q :=
  ps_wp_at (stops := [(35, [0, 1, 2, 3]), (102, [0, 1, 2]), (119, [0, 1, 2]), (140, [0, 1, 2]), (161, [0])]) (n := 13) h rfl

theorem pg_66_161 {d : Nat} {r0 : Nat} {s : ps_S} {Q : Option Value → ps_S → Prop} (h :
  ps_nk (ps_is r0 3) (ps_Cl d 65 [.ref r0] s (ps_rI (fun v1 s1 =>
    ps_nd (decide (v1 &&& 1 = v1)) (Q (some (.int v1)) s1))))) : ps_At (d + 1) 66 161 [(0, .ref r0)] [] s Q :=
  ps_wp_at (stops := [(35, [0, 1, 2, 3]), (102, [0, 1, 2]), (119, [0, 1, 2]), (140, [0, 1, 2]), (161, [0])]) (n := 5) h rfl

theorem xs_66_161 {m s : ps_S} {t : Int32} {d : Nat} {r0 : Nat} {Q : Option Value → ps_S → Prop} (h0 : ps_is r0 3 = true) (J : xJ m t s) (k : ∀ (v : Int32) (s' : ps_S), v &&& 1 = v → xJ m t s' → Q (some (.int v)) s') : ps_At (d + 38) 66 161 [(0, .ref r0)] [] s Q :=
  pg_66_161 (d := d + 37) (ps_nk_i h0 (xs_65 h0 J (fun v1 s1 b1 J1 => (ps_nd_i (decide_eq_true b1) ((k v1 s1 (of_decide_eq_true (decide_eq_true b1)) J1))))))

theorem xs_66_140 {m s : ps_S} {t : Int32} {d : Nat} {r0 : Nat} {r1 : Nat} {x2 : Int32} {Q : Option Value → ps_S → Prop} (h0 : ps_is r0 3 = true) (h1 : ps_is r1 8 = true) (J : xJ m t s) (k : ∀ (v : Int32) (s' : ps_S), v &&& 1 = v → xJ m t s' → Q (some (.int v)) s') : ps_At (d + 38) 66 140 [(0, .ref r0), (1, .ref r1), (2, .int x2)] [] s Q :=
  pg_66_140 (d := d + 37) (xs_119  J (fun v1 b1 => (And.intro (fun f1 => (xs_66_161 (d := d) (r0 := r0)  h0 J k )) (fun f1 => (ps_nk_i h1 (ps_nk_i h0 (xs_69 h0 (xk_8_5 h1) J (fun v2 s2 b2 J2 => (And.intro (fun f2 => (xs_66_161 (d := d) (r0 := r0)  h0 J2 k )) (fun f2 => (k 0 s2 (by decide) J2)))))))))))

theorem xs_66_119 {m s : ps_S} {t : Int32} {d : Nat} {r0 : Nat} {r1 : Nat} {x2 : Int32} {Q : Option Value → ps_S → Prop} (h0 : ps_is r0 3 = true) (h1 : ps_is r1 8 = true) (J : xJ m t s) (k : ∀ (v : Int32) (s' : ps_S), v &&& 1 = v → xJ m t s' → Q (some (.int v)) s') : ps_At (d + 38) 66 119 [(0, .ref r0), (1, .ref r1), (2, .int x2)] [] s Q :=
  pg_66_119 (d := d + 37) (xs_118  J (fun v1 b1 => (And.intro (fun f1 => (xs_66_140 (d := d) (r0 := r0) (r1 := r1) (x2 := x2)  h0 h1 J k )) (fun f1 => (ps_nk_i h1 (ps_nk_i h0 (xs_69 h0 (xk_8_4 h1) J (fun v2 s2 b2 J2 => (And.intro (fun f2 => (xs_66_140 (d := d) (r0 := r0) (r1 := r1) (x2 := x2)  h0 h1 J2 k )) (fun f2 => (k 0 s2 (by decide) J2)))))))))))

theorem xs_66_102 {m s : ps_S} {t : Int32} {d : Nat} {r0 : Nat} {r1 : Nat} {x2 : Int32} {Q : Option Value → ps_S → Prop} (h0 : ps_is r0 3 = true) (h1 : ps_is r1 8 = true) (J : xJ m t s) (k : ∀ (v : Int32) (s' : ps_S), v &&& 1 = v → xJ m t s' → Q (some (.int v)) s') : ps_At (d + 38) 66 102 [(0, .ref r0), (1, .ref r1), (2, .int x2)] [] s Q :=
  pg_66_102 (d := d + 37) (xs_117  J (fun v1 b1 => (And.intro (fun f1 => (xs_66_119 (d := d) (r0 := r0) (r1 := r1) (x2 := x2)  h0 h1 J k )) (fun f1 => (ps_nk_i h0 (xs_68 h0 h1 J (fun v2 s2 b2 J2 => (And.intro (fun f2 => (xs_66_119 (d := d) (r0 := r0) (r1 := r1) (x2 := x2)  h0 h1 J2 k )) (fun f2 => (k 0 s2 (by decide) J2))))))))))

theorem xs_66_35 {m s : ps_S} {t : Int32} {d : Nat} {r0 : Nat} {r1 : Nat} {x2 : Int32} {x3 : Int32} {Q : Option Value → ps_S → Prop} (h0 : ps_is r0 3 = true) (h1 : ps_is r1 8 = true) (J : xJ m t s) (k : ∀ (v : Int32) (s' : ps_S), v &&& 1 = v → xJ m t s' → Q (some (.int v)) s') : ps_At (d + 38) 66 35 [(0, .ref r0), (1, .ref r1), (2, .int x2), (3, .int x3)] [] s Q :=
  xs_up (P := fun x3 => ∀ (s : ps_S), ps_is r0 3 = true → ps_is r1 8 = true → xJ m t s → ps_At (d + 38) 66 35 [(0, .ref r0), (1, .ref r1), (2, .int x2), (3, .int x3)] [] s Q) (fun x3 ih s h0 h1 J => pg_66_35 (d := d + 37) (xs_115  J (fun v1 => (And.intro (fun f1 => (And.intro (fun f2 => (xs_66_102 (d := d) (r0 := r0) (r1 := r1) (x2 := x2)  h0 h1 J k )) (fun f2 => (ps_nk_i h0 (xs_67 h0 h1 J (fun v2 s2 b2 J2 => (And.intro (fun f3 => (k 0 s2 (by decide) J2)) (fun f3 => (xs_66_102 (d := d) (r0 := r0) (r1 := r1) (x2 := x2)  h0 h1 J2 k ))))))))) (fun f1 => (ps_nk_i h0 (ps_nk_i (xk_3_0 h0) (And.intro (fun f4 => (ps_nk_i h1 (ps_nk_i h0 (ps_nk_i (xk_3_0 h0) (xs_183 (xk_8_1 h1) J (fun s3 J3 e3 => (ps_nk_i h0 (ps_nk_i (xk_3_0 h0) (xs_140 (xk_3_0 h0) J3 (fun s4 J4 => (ih ((x3 + 1)) (xs_lt f1) s4 h0 h1 J4))))))))))) (fun f4 => (ps_nk_i h0 (xs_62 h0 J (fun v5 s5 b5 J5 => (ps_nd_i (decide_eq_true b5) ((k v5 s5 (of_decide_eq_true (decide_eq_true b5)) J5))))))))))))))) x3 s h0 h1 J

theorem xs_66 {m s : ps_S} {t : Int32} {d : Nat} {r0 : Nat} {r1 : Nat} {f : Int32 → ps_S → Prop} (h0 : ps_is r0 3 = true) (h1 : ps_is r1 8 = true) (J : xJ m t s) (k : ∀ (v : Int32) (s' : ps_S), v &&& 1 = v → xJ m t s' → f v s') : ps_Cl (d + 38) 66 [.ref r0, .ref r1] s (ps_rI f) :=
  pg_66_0 (d := d + 37) (ps_nk_i h0 (ps_nk_i (xk_3_0 h0) (xs_114  J (fun v1 b1 => (And.intro (fun f1 => (ps_nk_i h1 (xs_120 h1 J (fun s2 J2 => (ps_nk_i h0 (ps_nk_i (xk_3_0 h0) (xs_140 (xk_3_0 h0) J2 (fun s3 J3 => (xs_66_35 (d := d) (r0 := r0) (r1 := r1) (x2 := (ps_i s (ps_c0 r0 0) 6)) (x3 := 0)  h0 h1 J3 k ))))))))) (fun f1 => (ps_nk_i h0 (xs_62 h0 J (fun v4 s4 b4 J4 => (ps_nd_i (decide_eq_true b4) ((k v4 s4 (of_decide_eq_true (decide_eq_true b4)) J4))))))))))))

-- ProofBench$Reader.takeProof([BILProofBench$Theory;LProofBench$Proof;)Z
theorem pg_59_0 {d : Nat} {r0 : Nat} {r1 : Nat} {x2 : Int32} {r3 : Nat} {r4 : Nat} {s : ps_S} {Q : Option Value → ps_S → Prop} (h :
  ps_nk (ps_is r4 2) (ps_Cl d 31 [.ref r4] s (ps_rV (fun s1 =>
    ps_nk (ps_is r0 3) (ps_Cl d 61 [.ref r0, .ref r1, .int x2, .ref r3] s1 (ps_rV (fun s2 =>
      ps_At (d + 1) 59 15 [(0, .ref r0), (4, .ref r4), (5, .int 0)] [] s2 Q))))))) : ps_At (d + 1) 59 0 [(0, .ref r0), (1, .ref r1), (2, .int x2), (3, .ref r3), (4, .ref r4)] [] s Q :=
  ps_wp_at (stops := [(15, [0, 4, 5])]) (n := 11) h rfl

theorem pg_59_15 {d : Nat} {r0 : Nat} {r4 : Nat} {x5 : Int32} {s : ps_S} {Q : Option Value → ps_S → Prop} (h :
  (40 < x5 →
    Q (some (.int 1)) s) ∧
  (x5 ≤ 40 →
    ps_nk (ps_is r0 3) (ps_nk (ps_is (ps_c0 r0 0) 10) (((ps_i s (ps_c0 r0 0) 4) = 0 →
      Q (some (.int 1)) s) ∧
    ((ps_i s (ps_c0 r0 0) 4) ≠ 0 →
      (x5 ≠ 40 →
        ps_nk (ps_is r4 2) (ps_Cl d 33 [.ref r4, .int x5] s (ps_rA (fun v1 s1 =>
          ps_nk (ps_is r0 3) (ps_Cl d 66 [.ref r0, .ref v1] s1 (ps_rI (fun v2 s2 =>
            (v2 ≠ 0 →
              ps_nk (ps_is r4 2) (ps_At (d + 1) 59 15 [(0, .ref r0), (4, .ref r4), (5, .int (x5 + 1))] [] (ps_ui s2 r4 7 (x5 + 1)) Q)) ∧
            (v2 = 0 →
              Q (some (.int 0)) s2)))))))) ∧
      (x5 = 40 →
        ps_nk (ps_is r0 3) (ps_Cl d 62 [.ref r0, .int 2] s (ps_rI (fun v3 s3 =>
          ps_nd (decide (v3 &&& 1 = v3)) (Q (some (.int v3)) s3)))))))))) : ps_At (d + 1) 59 15 [(0, .ref r0), (4, .ref r4), (5, .int x5)] [] s Q :=
  ps_wp_at (stops := [(15, [0, 4, 5])]) (n := 35) h rfl

theorem xs_59_15 {m s : ps_S} {t : Int32} {d : Nat} {r0 : Nat} {r4 : Nat} {x5 : Int32} {Q : Option Value → ps_S → Prop} (h0 : ps_is r0 3 = true) (h4 : ps_is r4 2 = true) (J : xJ m t s) (k : ∀ (v : Int32) (s' : ps_S), v &&& 1 = v → xJ m t s' → Q (some (.int v)) s') : ps_At (d + 39) 59 15 [(0, .ref r0), (4, .ref r4), (5, .int x5)] [] s Q :=
  xs_up (P := fun x5 => ∀ (s : ps_S), ps_is r0 3 = true → ps_is r4 2 = true → xJ m t s → ps_At (d + 39) 59 15 [(0, .ref r0), (4, .ref r4), (5, .int x5)] [] s Q) (fun x5 ih s h0 h4 J => pg_59_15 (d := d + 38) (And.intro (fun f1 => (k 1 s (by decide) J)) (fun f1 => (ps_nk_i h0 (ps_nk_i (xk_3_0 h0) (And.intro (fun f2 => (k 1 s (by decide) J)) (fun f2 => (And.intro (fun f3 => (ps_nk_i h4 (xs_33 h4 J (fun v1 g1 => (ps_nk_i h0 (xs_66 h0 g1 J (fun v2 s2 b2 J2 => (And.intro (fun f4 => (ps_nk_i h4 (ih ((x5 + 1)) (xs_le f1 (by decide)) (ps_ui s2 r4 7 (x5 + 1)) h0 h4 (xw_i (c := 2) (by decide) h4 J2)))) (fun f4 => (k 0 s2 (by decide) J2)))))))))) (fun f3 => (ps_nk_i h0 (xs_62 h0 J (fun v3 s3 b3 J3 => (ps_nd_i (decide_eq_true b3) ((k v3 s3 (of_decide_eq_true (decide_eq_true b3)) J3))))))))))))))) x5 s h0 h4 J

theorem xs_59 {m s : ps_S} {t : Int32} {d : Nat} {r0 : Nat} {r1 : Nat} {x2 : Int32} {r3 : Nat} {r4 : Nat} {f : Int32 → ps_S → Prop} (h0 : ps_is r0 3 = true) (h1 : ps_ar r1 1 = true ∧ r1 < 1131) (h3 : ps_is r3 9 = true) (h4 : ps_is r4 2 = true) (J : xJ m t s) (k : ∀ (v : Int32) (s' : ps_S), v &&& 1 = v → xJ m t s' → f v s') : ps_Cl (d + 39) 59 [.ref r0, .ref r1, .int x2, .ref r3, .ref r4] s (ps_rI f) :=
  pg_59_0 (d := d + 38) (ps_nk_i h4 (xs_31 h4 J (fun s1 J1 => (ps_nk_i h0 (xs_61 h0 h1 h3 J1 (fun s2 J2 => (xs_59_15 (d := d) (r0 := r0) (r4 := r4) (x5 := 0)  h0 h4 J2 k )))))))

-- ProofBench$Reader.takeText([BILProofBench$Theory;LProofBench$Row;Z)Z
theorem pg_60_0 {d : Nat} {r0 : Nat} {r1 : Nat} {x2 : Int32} {r3 : Nat} {r4 : Nat} {x5 : Int32} {s : ps_S} {Q : Option Value → ps_S → Prop} (h :
  ps_nk (ps_is r0 3) (ps_Cl d 61 [.ref r0, .ref r1, .int x2, .ref r3] s (ps_rV (fun s1 =>
    ps_nk (ps_is r0 3) (ps_Cl d 69 [.ref r0, .ref r4, .int x5] s1 (ps_rI (fun v2 s2 =>
      (v2 ≠ 0 →
        ps_nk (ps_is r0 3) (ps_nk (ps_is (ps_c0 r0 0) 10) (((ps_i s2 (ps_c0 r0 0) 4) = 0 →
          Q (some (.int 1)) s2) ∧
        ((ps_i s2 (ps_c0 r0 0) 4) ≠ 0 →
          ps_nk (ps_is r0 3) (ps_Cl d 62 [.ref r0, .int 2] s2 (ps_rI (fun v3 s3 =>
            ps_nd (decide (v3 &&& 1 = v3)) (Q (some (.int v3)) s3)))))))) ∧
      (v2 = 0 →
        Q (some (.int 0)) s2)))))))) : ps_At (d + 1) 60 0 [(0, .ref r0), (1, .ref r1), (2, .int x2), (3, .ref r3), (4, .ref r4), (5, .int x5)] [] s Q :=
  ps_wp_at (stops := []) (n := 24) h rfl

theorem xs_60 {m s : ps_S} {t : Int32} {d : Nat} {r0 : Nat} {r1 : Nat} {x2 : Int32} {r3 : Nat} {r4 : Nat} {x5 : Int32} {f : Int32 → ps_S → Prop} (h0 : ps_is r0 3 = true) (h1 : ps_ar r1 1 = true ∧ r1 < 1131) (h3 : ps_is r3 9 = true) (h4 : ps_is r4 5 = true) (J : xJ m t s) (k : ∀ (v : Int32) (s' : ps_S), v &&& 1 = v → xJ m t s' → f v s') : ps_Cl (d + 38) 60 [.ref r0, .ref r1, .int x2, .ref r3, .ref r4, .int x5] s (ps_rI f) :=
  pg_60_0 (d := d + 37) (ps_nk_i h0 (xs_61 h0 h1 h3 J (fun s1 J1 => (ps_nk_i h0 (xs_69 h0 h4 J1 (fun v2 s2 b2 J2 => (And.intro (fun f1 => (ps_nk_i h0 (ps_nk_i (xk_3_0 h0) (And.intro (fun f2 => (k 1 s2 (by decide) J2)) (fun f2 => (ps_nk_i h0 (xs_62 h0 J2 (fun v3 s3 b3 J3 => (ps_nd_i (decide_eq_true b3) ((k v3 s3 (of_decide_eq_true (decide_eq_true b3)) J3))))))))))) (fun f1 => (k 0 s2 (by decide) J2)))))))))

-- ProofBench$Rewriter.clear()V
theorem pg_81_0 {d : Nat} {r0 : Nat} {s : ps_S} {Q : Option Value → ps_S → Prop} (h :
  ps_nk (ps_is r0 4) (ps_nk (ps_is (ps_c0 r0 0) 5) (ps_Cl d 91 [.ref (ps_c0 r0 0)] s (ps_rV (fun s1 =>
    Q none s1))))) : ps_At (d + 1) 81 0 [(0, .ref r0)] [] s Q :=
  ps_wp_at (stops := []) (n := 6) h rfl

theorem xs_81 {m s : ps_S} {t : Int32} {d : Nat} {r0 : Nat} {f : ps_S → Prop} (h0 : ps_is r0 4 = true) (J : xJ m t s) (k : ∀ (s' : ps_S), xJ m t s' → f s') : ps_Cl (d + 1) 81 [.ref r0] s (ps_rV f) :=
  pg_81_0 (d := d) (ps_nk_i h0 (ps_nk_i (xk_4_0 h0) (xs_91 (xk_4_0 h0) J (fun s1 J1 => (k s1 J1)))))

-- ProofBench.isFun(I)Z
theorem pg_186_0 {d : Nat} {x0 : Int32} {s : ps_S} {Q : Option Value → ps_S → Prop} (h :
  (x0 < 20 →
    Q (some (.int 0)) s) ∧
  (20 ≤ x0 →
    (24 ≤ x0 →
      Q (some (.int 0)) s) ∧
    (x0 < 24 →
      Q (some (.int 1)) s))) : ps_At d 186 0 [(0, .int x0)] [] s Q :=
  ps_wp_at (stops := []) (n := 15) h rfl

theorem xs_186 {m s : ps_S} {t : Int32} {d : Nat} {x0 : Int32} {f : Int32 → ps_S → Prop} (J : xJ m t s) (k : ∀ (v : Int32), v &&& 1 = v → f v s) : ps_Cl d 186 [.int x0] s (ps_rI f) :=
  pg_186_0 (And.intro (fun f1 => (k 0 (by decide))) (fun f1 => (And.intro (fun f2 => (k 0 (by decide))) (fun f2 => (k 1 (by decide))))))

-- ProofBench$Rewriter.leftHasAll(LProofBench$Row;II)Z
theorem pg_84_0 {d : Nat} {r0 : Nat} {r1 : Nat} {x2 : Int32} {x3 : Int32} {s : ps_S} {Q : Option Value → ps_S → Prop} (h :
  ps_At (d + 1) 84 3 [(1, .ref r1), (2, .int x2), (3, .int x3), (4, .int x3)] [] s Q) : ps_At (d + 1) 84 0 [(0, .ref r0), (1, .ref r1), (2, .int x2), (3, .int x3)] [] s Q :=
  ps_wp_at (stops := [(3, [1, 2, 3, 4]), (34, [1, 2, 3, 4, 5, 6]), (73, [1, 2, 3, 4, 5])]) (n := 4) h rfl

theorem pg_84_3 {d : Nat} {r1 : Nat} {x2 : Int32} {x3 : Int32} {x4 : Int32} {s : ps_S} {Q : Option Value → ps_S → Prop} (h :
  ps_nk (ps_is r1 5) (((ps_i s r1 1) ≤ x4 →
    Q (some (.int 1)) s) ∧
  (x4 < (ps_i s r1 1) →
    ps_nk (ps_is r1 5) (ps_Cl d 92 [.ref r1, .int x4] s (ps_rI (fun v1 s1 =>
      ps_Cl d 185 [.int v1] s1 (ps_rI (fun v2 s2 =>
        (v2 ≠ 0 →
          ps_At (d + 1) 84 34 [(1, .ref r1), (2, .int x2), (3, .int x3), (4, .int x4), (5, .int 0), (6, .int x2)] [] s2 Q) ∧
        (v2 = 0 →
          ps_At (d + 1) 84 34 [(1, .ref r1), (2, .int x2), (3, .int x3), (4, .int x4), (5, .int 1), (6, .int x2)] [] s2 Q))))))))) : ps_At (d + 1) 84 3 [(1, .ref r1), (2, .int x2), (3, .int x3), (4, .int x4)] [] s Q :=
  ps_wp_at (stops := [(3, [1, 2, 3, 4]), (34, [1, 2, 3, 4, 5, 6]), (73, [1, 2, 3, 4, 5])]) (n := 22) h rfl

theorem pg_84_34 {d : Nat} {r1 : Nat} {x2 : Int32} {x3 : Int32} {x4 : Int32} {x5 : Int32} {x6 : Int32} {s : ps_S} {Q : Option Value → ps_S → Prop} (h :
  (x3 ≤ x6 →
    ps_At (d + 1) 84 73 [(1, .ref r1), (2, .int x2), (3, .int x3), (4, .int x4), (5, .int x5)] [] s Q) ∧
  (x6 < x3 →
    (x5 ≠ 0 →
      ps_At (d + 1) 84 73 [(1, .ref r1), (2, .int x2), (3, .int x3), (4, .int x4), (5, .int x5)] [] s Q) ∧
    (x5 = 0 →
      ps_nk (ps_is r1 5) (ps_Cl d 92 [.ref r1, .int x6] s (ps_rI (fun v1 s1 =>
        ps_nk (ps_is r1 5) (ps_Cl d 92 [.ref r1, .int x4] s1 (ps_rI (fun v2 s2 =>
          (v1 ≠ v2 →
            ps_At (d + 1) 84 34 [(1, .ref r1), (2, .int x2), (3, .int x3), (4, .int x4), (5, .int 0), (6, .int (x6 + 1))] [] s2 Q) ∧
          (v1 = v2 →
            ps_At (d + 1) 84 34 [(1, .ref r1), (2, .int x2), (3, .int x3), (4, .int x4), (5, .int 1), (6, .int (x6 + 1))] [] s2 Q)))))))))) : ps_At (d + 1) 84 34 [(1, .ref r1), (2, .int x2), (3, .int x3), (4, .int x4), (5, .int x5), (6, .int x6)] [] s Q :=
  ps_wp_at (stops := [(3, [1, 2, 3, 4]), (34, [1, 2, 3, 4, 5, 6]), (73, [1, 2, 3, 4, 5])]) (n := 23) h rfl

theorem pg_84_73 {d : Nat} {r1 : Nat} {x2 : Int32} {x3 : Int32} {x4 : Int32} {x5 : Int32} {s : ps_S} {Q : Option Value → ps_S → Prop} (h :
  (x5 ≠ 0 →
    ps_At (d + 1) 84 3 [(1, .ref r1), (2, .int x2), (3, .int x3), (4, .int (x4 + 1))] [] s Q) ∧
  (x5 = 0 →
    Q (some (.int 0)) s)) : ps_At (d + 1) 84 73 [(1, .ref r1), (2, .int x2), (3, .int x3), (4, .int x4), (5, .int x5)] [] s Q :=
  ps_wp_at (stops := [(3, [1, 2, 3, 4]), (34, [1, 2, 3, 4, 5, 6]), (73, [1, 2, 3, 4, 5])]) (n := 8) h rfl

theorem xs_84_73 {m s : ps_S} {t : Int32} {d : Nat} {r1 : Nat} {x2 : Int32} {x3 : Int32} {x4 : Int32} {x5 : Int32} {Q : Option Value → ps_S → Prop} (h1 : ps_is r1 5 = true) (J : xJ m t s) (k : ∀ (v : Int32), v &&& 1 = v → Q (some (.int v)) s) (K3 : ps_is r1 5 = true → ps_At (d + 1) 84 3 [(1, .ref r1), (2, .int x2), (3, .int x3), (4, .int (x4 + 1))] [] s Q) : ps_At (d + 1) 84 73 [(1, .ref r1), (2, .int x2), (3, .int x3), (4, .int x4), (5, .int x5)] [] s Q :=
  pg_84_73 (d := d) (And.intro (fun f1 => (K3 h1)) (fun f1 => (k 0 (by decide))))

theorem xs_84_34 {m s : ps_S} {t : Int32} {d : Nat} {r1 : Nat} {x2 : Int32} {x3 : Int32} {x4 : Int32} {x5 : Int32} {x6 : Int32} {Q : Option Value → ps_S → Prop} (h1 : ps_is r1 5 = true) (J : xJ m t s) (k : ∀ (v : Int32), v &&& 1 = v → Q (some (.int v)) s) (K3 : ps_is r1 5 = true → ps_At (d + 1) 84 3 [(1, .ref r1), (2, .int x2), (3, .int x3), (4, .int (x4 + 1))] [] s Q) : ps_At (d + 1) 84 34 [(1, .ref r1), (2, .int x2), (3, .int x3), (4, .int x4), (5, .int x5), (6, .int x6)] [] s Q :=
  xs_up (P := fun x6 => ∀ (x5 : Int32), ps_is r1 5 = true → ps_At (d + 1) 84 34 [(1, .ref r1), (2, .int x2), (3, .int x3), (4, .int x4), (5, .int x5), (6, .int x6)] [] s Q) (fun x6 ih x5 h1 => pg_84_34 (d := d) (And.intro (fun f1 => (xs_84_73 (d := d) (r1 := r1) (x2 := x2) (x3 := x3) (x4 := x4) (x5 := x5)  h1 J k K3)) (fun f1 => (And.intro (fun f2 => (xs_84_73 (d := d) (r1 := r1) (x2 := x2) (x3 := x3) (x4 := x4) (x5 := x5)  h1 J k K3)) (fun f2 => (ps_nk_i h1 (xs_92 h1 J (fun v1 => (ps_nk_i h1 (xs_92 h1 J (fun v2 => (And.intro (fun f3 => (ih ((x6 + 1)) (xs_lt f1) (0) h1)) (fun f3 => (ih ((x6 + 1)) (xs_lt f1) (1) h1)))))))))))))) x6 x5 h1

theorem xs_84_3 {m s : ps_S} {t : Int32} {d : Nat} {r1 : Nat} {x2 : Int32} {x3 : Int32} {x4 : Int32} {Q : Option Value → ps_S → Prop} (h1 : ps_is r1 5 = true) (J : xJ m t s) (k : ∀ (v : Int32), v &&& 1 = v → Q (some (.int v)) s) : ps_At (d + 1) 84 3 [(1, .ref r1), (2, .int x2), (3, .int x3), (4, .int x4)] [] s Q :=
  xs_up (P := fun x4 => ps_is r1 5 = true → ps_At (d + 1) 84 3 [(1, .ref r1), (2, .int x2), (3, .int x3), (4, .int x4)] [] s Q) (fun x4 ih h1 => pg_84_3 (d := d) (ps_nk_i h1 (And.intro (fun f1 => (k 1 (by decide))) (fun f1 => (ps_nk_i h1 (xs_92 h1 J (fun v1 => (xs_185  J (fun v2 b2 => (And.intro (fun f2 => (xs_84_34 (d := d) (r1 := r1) (x2 := x2) (x3 := x3) (x4 := x4) (x5 := 0) (x6 := x2)  h1 J k (fun h1z => ih (x4 + 1) (xs_lt f1) h1z))) (fun f2 => (xs_84_34 (d := d) (r1 := r1) (x2 := x2) (x3 := x3) (x4 := x4) (x5 := 1) (x6 := x2)  h1 J k (fun h1z => ih (x4 + 1) (xs_lt f1) h1z))))))))))))) x4 h1

theorem xs_84 {m s : ps_S} {t : Int32} {d : Nat} {r0 : Nat} {r1 : Nat} {x2 : Int32} {x3 : Int32} {f : Int32 → ps_S → Prop} (h0 : ps_is r0 4 = true) (h1 : ps_is r1 5 = true) (J : xJ m t s) (k : ∀ (v : Int32), v &&& 1 = v → f v s) : ps_Cl (d + 1) 84 [.ref r0, .ref r1, .int x2, .int x3] s (ps_rI f) :=
  pg_84_0 (d := d) (xs_84_3 (d := d) (r1 := r1) (x2 := x2) (x3 := x3) (x4 := x3)  h1 J k )

-- ProofBench$Rewriter.findRules(LProofBench$Theory;)V
theorem pg_83_0 {d : Nat} {r0 : Nat} {r1 : Nat} {s : ps_S} {Q : Option Value → ps_S → Prop} (h :
  ps_At (d + 1) 83 2 [(0, .ref r0), (1, .ref r1), (2, .int 0)] [] s Q) : ps_At (d + 1) 83 0 [(0, .ref r0), (1, .ref r1)] [] s Q :=
  ps_wp_at (stops := [(2, [0, 1, 2]), (19, [0, 1, 2, 3, 4]), (44, [0, 1, 2, 3, 4]), (109, [0, 1, 2, 5, 6])]) (n := 4) h rfl

theorem pg_83_2 {d : Nat} {r0 : Nat} {r1 : Nat} {x2 : Int32} {s : ps_S} {Q : Option Value → ps_S → Prop} (h :
  ps_nk (ps_is r1 9) (((ps_i s r1 8) ≤ x2 →
    Q none s) ∧
  (x2 < (ps_i s r1 8) →
    ps_nk (ps_is r1 9) (ps_Cl d 135 [.ref r1, .int x2] s (ps_rA (fun v1 s1 =>
      ps_At (d + 1) 83 19 [(0, .ref r0), (1, .ref r1), (2, .int x2), (3, .ref v1), (4, .int 0)] [] s1 Q)))))) : ps_At (d + 1) 83 2 [(0, .ref r0), (1, .ref r1), (2, .int x2)] [] s Q :=
  ps_wp_at (stops := [(2, [0, 1, 2]), (19, [0, 1, 2, 3, 4]), (44, [0, 1, 2, 3, 4]), (109, [0, 1, 2, 5, 6])]) (n := 13) h rfl

theorem pg_83_19 {d : Nat} {r0 : Nat} {r1 : Nat} {x2 : Int32} {r3 : Nat} {x4 : Int32} {s : ps_S} {Q : Option Value → ps_S → Prop} (h :
  ps_nk (ps_is r3 5) (((ps_i s r3 1) ≤ x4 →
    ps_At (d + 1) 83 44 [(0, .ref r0), (1, .ref r1), (2, .int x2), (3, .ref r3), (4, .int x4)] [] s Q) ∧
  (x4 < (ps_i s r3 1) →
    ps_nk (ps_is r3 5) (ps_Cl d 92 [.ref r3, .int x4] s (ps_rI (fun v1 s1 =>
      (v1 ≠ 4 →
        ps_At (d + 1) 83 44 [(0, .ref r0), (1, .ref r1), (2, .int x2), (3, .ref r3), (4, .int x4)] [] s1 Q) ∧
      (v1 = 4 →
        ps_At (d + 1) 83 19 [(0, .ref r0), (1, .ref r1), (2, .int x2), (3, .ref r3), (4, .int (x4 + 1))] [] s1 Q))))))) : ps_At (d + 1) 83 19 [(0, .ref r0), (1, .ref r1), (2, .int x2), (3, .ref r3), (4, .int x4)] [] s Q :=
  ps_wp_at (stops := [(2, [0, 1, 2]), (19, [0, 1, 2, 3, 4]), (44, [0, 1, 2, 3, 4]), (109, [0, 1, 2, 5, 6])]) (n := 13) h rfl

theorem pg_83_44 {d : Nat} {r0 : Nat} {r1 : Nat} {x2 : Int32} {r3 : Nat} {x4 : Int32} {s : ps_S} {Q : Option Value → ps_S → Prop} (h :
  ps_nk (ps_is r0 4) (ps_nk (ps_is (ps_c0 r0 3) 6) (ps_Cl d 103 [.ref (ps_c0 r0 3), .ref r3, .ref r1] s (ps_rV (fun s1 =>
    ps_nk (ps_is r0 4) (ps_nk (ps_is (ps_c0 r0 3) 6) (ps_Cl d 104 [.ref (ps_c0 r0 3), .int (x4 + 1)] s1 (ps_rI (fun v2 s2 =>
      ps_nk (ps_is r3 5) (ps_Cl d 92 [.ref r3, .int x4] s2 (ps_rI (fun v3 s3 =>
        (v3 ≠ 6 →
          ps_At (d + 1) 83 109 [(0, .ref r0), (1, .ref r1), (2, .int x2), (5, .int (x4 + 1)), (6, .int v2)] [] s3 Q) ∧
        (v3 = 6 →
          ps_nk (ps_is r3 5) (ps_Cl d 92 [.ref r3, .int (x4 + 1)] s3 (ps_rI (fun v4 s4 =>
            ps_Cl d 186 [.int v4] s4 (ps_rI (fun v5 s5 =>
              (v5 = 0 →
                ps_At (d + 1) 83 109 [(0, .ref r0), (1, .ref r1), (2, .int x2), (5, .int (x4 + 1)), (6, .int v2)] [] s5 Q) ∧
              (v5 ≠ 0 →
                ps_nk (ps_is r0 4) (ps_Cl d 84 [.ref r0, .ref r3, .int (x4 + 1), .int v2] s5 (ps_rI (fun v6 s6 =>
                  (v6 = 0 →
                    ps_At (d + 1) 83 109 [(0, .ref r0), (1, .ref r1), (2, .int x2), (5, .int (x4 + 1)), (6, .int v2)] [] s6 Q) ∧
                  (v6 ≠ 0 →
                    ps_nk (ps_is r0 4) (ps_Cl d 183 [.ref (ps_c0 r0 6), .int x2, .int (x4 + 1)] s6 (ps_rV (fun s7 =>
                      ps_nk (ps_is r0 4) (((1 : Int32) = 0 →
                        ps_Cl d 183 [.ref (ps_c0 r0 7), .int x2, .int (-1)] s7 (ps_rV (fun s8 =>
                          ps_At (d + 1) 83 2 [(0, .ref r0), (1, .ref r1), (2, .int (x2 + 1))] [] s8 Q))) ∧
                      ((1 : Int32) ≠ 0 →
                        ps_Cl d 183 [.ref (ps_c0 r0 7), .int x2, .int v2] s7 (ps_rV (fun s9 =>
                          ps_At (d + 1) 83 2 [(0, .ref r0), (1, .ref r1), (2, .int (x2 + 1))] [] s9 Q)))))))))))))))))))))))))))))) : ps_At (d + 1) 83 44 [(0, .ref r0), (1, .ref r1), (2, .int x2), (3, .ref r3), (4, .int x4)] [] s Q :=
  ps_wp_at (stops := [(2, [0, 1, 2]), (19, [0, 1, 2, 3, 4]), (44, [0, 1, 2, 3, 4]), (109, [0, 1, 2, 5, 6])]) (n := 54) h rfl

theorem pg_83_109 {d : Nat} {r0 : Nat} {r1 : Nat} {x2 : Int32} {x5 : Int32} {x6 : Int32} {s : ps_S} {Q : Option Value → ps_S → Prop} (h :
  ps_nk (ps_is r0 4) (ps_Cl d 183 [.ref (ps_c0 r0 6), .int x2, .int x5] s (ps_rV (fun s1 =>
    ps_nk (ps_is r0 4) (((0 : Int32) = 0 →
      ps_Cl d 183 [.ref (ps_c0 r0 7), .int x2, .int (-1)] s1 (ps_rV (fun s2 =>
        ps_At (d + 1) 83 2 [(0, .ref r0), (1, .ref r1), (2, .int (x2 + 1))] [] s2 Q))) ∧
    ((0 : Int32) ≠ 0 →
      ps_Cl d 183 [.ref (ps_c0 r0 7), .int x2, .int x6] s1 (ps_rV (fun s3 =>
        ps_At (d + 1) 83 2 [(0, .ref r0), (1, .ref r1), (2, .int (x2 + 1))] [] s3 Q)))))))) : ps_At (d + 1) 83 109 [(0, .ref r0), (1, .ref r1), (2, .int x2), (5, .int x5), (6, .int x6)] [] s Q :=
  ps_wp_at (stops := [(2, [0, 1, 2]), (19, [0, 1, 2, 3, 4]), (44, [0, 1, 2, 3, 4]), (109, [0, 1, 2, 5, 6])]) (n := 23) h rfl

theorem xs_83_109 {m s : ps_S} {t : Int32} {d : Nat} {r0 : Nat} {r1 : Nat} {x2 : Int32} {x5 : Int32} {x6 : Int32} {Q : Option Value → ps_S → Prop} (h0 : ps_is r0 4 = true) (h1 : ps_is r1 9 = true) (J : xJ m t s) (k : ∀ (s' : ps_S), xJ m t s' → Q none s') (K2 : ∀ (s : ps_S), ps_is r0 4 = true → ps_is r1 9 = true → xJ m t s → ps_At (d + 2) 83 2 [(0, .ref r0), (1, .ref r1), (2, .int (x2 + 1))] [] s Q) : ps_At (d + 2) 83 109 [(0, .ref r0), (1, .ref r1), (2, .int x2), (5, .int x5), (6, .int x6)] [] s Q :=
  pg_83_109 (d := d + 1) (ps_nk_i h0 (xs_183 (xk_4_6 h0) J (fun s1 J1 e1 => (ps_nk_i h0 (And.intro (fun f1 => (xs_183 (xk_4_7 h0) J1 (fun s2 J2 e2 => (K2 s2 h0 h1 J2)))) (fun f1 => (xs_183 (xk_4_7 h0) J1 (fun s3 J3 e3 => (K2 s3 h0 h1 J3)))))))))

theorem xs_83_44 {m s : ps_S} {t : Int32} {d : Nat} {r0 : Nat} {r1 : Nat} {x2 : Int32} {r3 : Nat} {x4 : Int32} {Q : Option Value → ps_S → Prop} (h0 : ps_is r0 4 = true) (h1 : ps_is r1 9 = true) (h3 : ps_is r3 5 = true) (J : xJ m t s) (k : ∀ (s' : ps_S), xJ m t s' → Q none s') (K2 : ∀ (s : ps_S), ps_is r0 4 = true → ps_is r1 9 = true → xJ m t s → ps_At (d + 2) 83 2 [(0, .ref r0), (1, .ref r1), (2, .int (x2 + 1))] [] s Q) : ps_At (d + 2) 83 44 [(0, .ref r0), (1, .ref r1), (2, .int x2), (3, .ref r3), (4, .int x4)] [] s Q :=
  pg_83_44 (d := d + 1) (ps_nk_i h0 (ps_nk_i (xk_4_3 h0) (xs_103 (xk_4_3 h0) h3 h1 J (fun s1 J1 => (ps_nk_i h0 (ps_nk_i (xk_4_3 h0) (xs_104 (xk_4_3 h0) J1 (fun v2 => (ps_nk_i h3 (xs_92 h3 J1 (fun v3 => (And.intro (fun f1 => (xs_83_109 (d := d) (r0 := r0) (r1 := r1) (x2 := x2) (x5 := (x4 + 1)) (x6 := v2)  h0 h1 J1 k K2)) (fun f1 => (ps_nk_i h3 (xs_92 h3 J1 (fun v4 => (xs_186  J1 (fun v5 b5 => (And.intro (fun f2 => (xs_83_109 (d := d) (r0 := r0) (r1 := r1) (x2 := x2) (x5 := (x4 + 1)) (x6 := v2)  h0 h1 J1 k K2)) (fun f2 => (ps_nk_i h0 (xs_84 h0 h3 J1 (fun v6 b6 => (And.intro (fun f3 => (xs_83_109 (d := d) (r0 := r0) (r1 := r1) (x2 := x2) (x5 := (x4 + 1)) (x6 := v2)  h0 h1 J1 k K2)) (fun f3 => (ps_nk_i h0 (xs_183 (xk_4_6 h0) J1 (fun s7 J7 e7 => (ps_nk_i h0 (And.intro (fun f4 => (xs_183 (xk_4_7 h0) J7 (fun s8 J8 e8 => (K2 s8 h0 h1 J8)))) (fun f4 => (xs_183 (xk_4_7 h0) J7 (fun s9 J9 e9 => (K2 s9 h0 h1 J9))))))))))))))))))))))))))))))))))

theorem xs_83_19 {m s : ps_S} {t : Int32} {d : Nat} {r0 : Nat} {r1 : Nat} {x2 : Int32} {r3 : Nat} {x4 : Int32} {Q : Option Value → ps_S → Prop} (h0 : ps_is r0 4 = true) (h1 : ps_is r1 9 = true) (h3 : ps_is r3 5 = true) (J : xJ m t s) (k : ∀ (s' : ps_S), xJ m t s' → Q none s') (K2 : ∀ (s : ps_S), ps_is r0 4 = true → ps_is r1 9 = true → xJ m t s → ps_At (d + 2) 83 2 [(0, .ref r0), (1, .ref r1), (2, .int (x2 + 1))] [] s Q) : ps_At (d + 2) 83 19 [(0, .ref r0), (1, .ref r1), (2, .int x2), (3, .ref r3), (4, .int x4)] [] s Q :=
  xs_up (P := fun x4 => ∀ (s : ps_S), ps_is r0 4 = true → ps_is r1 9 = true → ps_is r3 5 = true → xJ m t s → ps_At (d + 2) 83 19 [(0, .ref r0), (1, .ref r1), (2, .int x2), (3, .ref r3), (4, .int x4)] [] s Q) (fun x4 ih s h0 h1 h3 J => pg_83_19 (d := d + 1) (ps_nk_i h3 (And.intro (fun f1 => (xs_83_44 (d := d) (r0 := r0) (r1 := r1) (x2 := x2) (r3 := r3) (x4 := x4)  h0 h1 h3 J k K2)) (fun f1 => (ps_nk_i h3 (xs_92 h3 J (fun v1 => (And.intro (fun f2 => (xs_83_44 (d := d) (r0 := r0) (r1 := r1) (x2 := x2) (r3 := r3) (x4 := x4)  h0 h1 h3 J k K2)) (fun f2 => (ih ((x4 + 1)) (xs_lt f1) s h0 h1 h3 J)))))))))) x4 s h0 h1 h3 J

theorem xs_83_2 {m s : ps_S} {t : Int32} {d : Nat} {r0 : Nat} {r1 : Nat} {x2 : Int32} {Q : Option Value → ps_S → Prop} (h0 : ps_is r0 4 = true) (h1 : ps_is r1 9 = true) (J : xJ m t s) (k : ∀ (s' : ps_S), xJ m t s' → Q none s') : ps_At (d + 2) 83 2 [(0, .ref r0), (1, .ref r1), (2, .int x2)] [] s Q :=
  xs_up (P := fun x2 => ∀ (s : ps_S), ps_is r0 4 = true → ps_is r1 9 = true → xJ m t s → ps_At (d + 2) 83 2 [(0, .ref r0), (1, .ref r1), (2, .int x2)] [] s Q) (fun x2 ih s h0 h1 J => pg_83_2 (d := d + 1) (ps_nk_i h1 (And.intro (fun f1 => (k s J)) (fun f1 => (ps_nk_i h1 (xs_135 h1 J (fun v1 g1 => (xs_83_19 (d := d) (r0 := r0) (r1 := r1) (x2 := x2) (r3 := v1) (x4 := 0)  h0 h1 g1 J k (fun s9 h0z h1z J9 => ih (x2 + 1) (xs_lt f1) s9 h0z h1z J9))))))))) x2 s h0 h1 J

theorem xs_83 {m s : ps_S} {t : Int32} {d : Nat} {r0 : Nat} {r1 : Nat} {f : ps_S → Prop} (h0 : ps_is r0 4 = true) (h1 : ps_is r1 9 = true) (J : xJ m t s) (k : ∀ (s' : ps_S), xJ m t s' → f s') : ps_Cl (d + 2) 83 [.ref r0, .ref r1] s (ps_rV f) :=
  pg_83_0 (d := d + 1) (xs_83_2 (d := d) (r0 := r0) (r1 := r1) (x2 := 0)  h0 h1 J k )

-- ProofBench$Rewriter.ruleBits(LProofBench$Theory;)I
theorem pg_82_0 {d : Nat} {r0 : Nat} {r1 : Nat} {s : ps_S} {Q : Option Value → ps_S → Prop} (h :
  ps_nk (ps_is r0 4) (ps_Cl d 83 [.ref r0, .ref r1] s (ps_rV (fun s1 =>
    ps_At (d + 1) 82 9 [(0, .ref r0), (1, .ref r1), (2, .int 0), (3, .int 0)] [] s1 Q)))) : ps_At (d + 1) 82 0 [(0, .ref r0), (1, .ref r1)] [] s Q :=
  ps_wp_at (stops := [(9, [0, 1, 2, 3])]) (n := 9) h rfl

theorem pg_82_9 {d : Nat} {r0 : Nat} {r1 : Nat} {x2 : Int32} {x3 : Int32} {s : ps_S} {Q : Option Value → ps_S → Prop} (h :
  ps_nk (ps_is r1 9) (((ps_i s r1 8) ≤ x3 →
    Q (some (.int x2)) s) ∧
  (x3 < (ps_i s r1 8) →
    ps_nk (ps_is r0 4) (ps_Cl d 182 [.ref (ps_c0 r0 7), .int x3] s (ps_rI (fun v1 s1 =>
      (v1 = (-1) →
        ps_At (d + 1) 82 9 [(0, .ref r0), (1, .ref r1), (2, .int x2), (3, .int (x3 + 1))] [] s1 Q) ∧
      (v1 ≠ (-1) →
        ps_At (d + 1) 82 9 [(0, .ref r0), (1, .ref r1), (2, .int (x2 ||| ((1 : Int32) <<< (x3 &&& 31)))), (3, .int (x3 + 1))] [] s1 Q))))))) : ps_At (d + 1) 82 9 [(0, .ref r0), (1, .ref r1), (2, .int x2), (3, .int x3)] [] s Q :=
  ps_wp_at (stops := [(9, [0, 1, 2, 3])]) (n := 24) h rfl

theorem xs_82_9 {m s : ps_S} {t : Int32} {d : Nat} {r0 : Nat} {r1 : Nat} {x2 : Int32} {x3 : Int32} {Q : Option Value → ps_S → Prop} (h0 : ps_is r0 4 = true) (h1 : ps_is r1 9 = true) (J : xJ m t s) (k : ∀ (v : Int32) (s' : ps_S), xJ m t s' → Q (some (.int v)) s') : ps_At (d + 3) 82 9 [(0, .ref r0), (1, .ref r1), (2, .int x2), (3, .int x3)] [] s Q :=
  xs_up (P := fun x3 => ∀ (x2 : Int32) (s : ps_S), ps_is r0 4 = true → ps_is r1 9 = true → xJ m t s → ps_At (d + 3) 82 9 [(0, .ref r0), (1, .ref r1), (2, .int x2), (3, .int x3)] [] s Q) (fun x3 ih x2 s h0 h1 J => pg_82_9 (d := d + 2) (ps_nk_i h1 (And.intro (fun f1 => (k x2 s J)) (fun f1 => (ps_nk_i h0 (xs_182 (xk_4_7 h0) J (fun v1 => (And.intro (fun f2 => (ih ((x3 + 1)) (xs_lt f1) (x2) s h0 h1 J)) (fun f2 => (ih ((x3 + 1)) (xs_lt f1) ((x2 ||| ((1 : Int32) <<< (x3 &&& 31)))) s h0 h1 J)))))))))) x3 x2 s h0 h1 J

theorem xs_82 {m s : ps_S} {t : Int32} {d : Nat} {r0 : Nat} {r1 : Nat} {f : Int32 → ps_S → Prop} (h0 : ps_is r0 4 = true) (h1 : ps_is r1 9 = true) (J : xJ m t s) (k : ∀ (v : Int32) (s' : ps_S), xJ m t s' → f v s') : ps_Cl (d + 3) 82 [.ref r0, .ref r1] s (ps_rI f) :=
  pg_82_0 (d := d + 2) (ps_nk_i h0 (xs_83 h0 h1 J (fun s1 J1 => (xs_82_9 (d := d) (r0 := r0) (r1 := r1) (x2 := 0) (x3 := 0)  h0 h1 J1 k ))))

-- ProofBench$Rewriter.binds(II)Z
theorem pg_88_0 {d : Nat} {r0 : Nat} {x1 : Int32} {x2 : Int32} {s : ps_S} {Q : Option Value → ps_S → Prop} (h :
  ps_nk (ps_is r0 4) (ps_nk (ps_is (ps_c0 r0 2) 6) (ps_Cl d 104 [.ref (ps_c0 r0 2), .int x2] s (ps_rI (fun v1 s1 =>
    ps_nk (ps_is r0 4) (ps_Cl d 182 [.ref (ps_c0 r0 4), .int x1] s1 (ps_rI (fun v2 s2 =>
      (v2 ≠ (-1) →
        ps_nk (ps_is r0 4) (ps_Cl d 182 [.ref (ps_c0 r0 5), .int x1] s2 (ps_rI (fun v3 s3 =>
          ((v1 - x2) ≠ (v3 - v2) →
            Q (some (.int 0)) s3) ∧
          ((v1 - x2) = (v3 - v2) →
            ps_nk (ps_is r0 4) (ps_nk (ps_is r0 4) (ps_nk (ps_is (ps_c0 r0 0) 5) (ps_Cl d 99 [.ref (ps_c0 r0 0), .int x2, .int v1, .ref (ps_c0 r0 0), .int v2] s3 (ps_rI (fun v4 s4 =>
              (v4 = 0 →
                Q (some (.int 0)) s4) ∧
              (v4 ≠ 0 →
                Q (some (.int 1)) s4))))))))))) ∧
      (v2 = (-1) →
        ps_nk (ps_is r0 4) (ps_Cl d 183 [.ref (ps_c0 r0 4), .int x1, .int x2] s2 (ps_rV (fun s5 =>
          ps_nk (ps_is r0 4) (ps_Cl d 183 [.ref (ps_c0 r0 5), .int x1, .int v1] s5 (ps_rV (fun s6 =>
            Q (some (.int 1)) s6))))))))))))))) : ps_At (d + 1) 88 0 [(0, .ref r0), (1, .int x1), (2, .int x2)] [] s Q :=
  ps_wp_at (stops := []) (n := 53) h rfl

theorem xs_88 {m s : ps_S} {t : Int32} {d : Nat} {r0 : Nat} {x1 : Int32} {x2 : Int32} {f : Int32 → ps_S → Prop} (h0 : ps_is r0 4 = true) (J : xJ m t s) (k : ∀ (v : Int32) (s' : ps_S), v &&& 1 = v → xJ m t s' → f v s') : ps_Cl (d + 2) 88 [.ref r0, .int x1, .int x2] s (ps_rI f) :=
  pg_88_0 (d := d + 1) (ps_nk_i h0 (ps_nk_i (xk_4_2 h0) (xs_104 (xk_4_2 h0) J (fun v1 => (ps_nk_i h0 (xs_182 (xk_4_4 h0) J (fun v2 => (And.intro (fun f1 => (ps_nk_i h0 (xs_182 (xk_4_5 h0) J (fun v3 => (And.intro (fun f2 => (k 0 s (by decide) J)) (fun f2 => (ps_nk_i h0 (ps_nk_i h0 (ps_nk_i (xk_4_0 h0) (xs_99 (xk_4_0 h0) (xk_4_0 h0) J (fun v4 b4 => (And.intro (fun f3 => (k 0 s (by decide) J)) (fun f3 => (k 1 s (by decide) J)))))))))))))) (fun f1 => (ps_nk_i h0 (xs_183 (xk_4_4 h0) J (fun s5 J5 e5 => (ps_nk_i h0 (xs_183 (xk_4_5 h0) J5 (fun s6 J6 e6 => (k 1 s6 (by decide) J6))))))))))))))))

-- ProofBench$Rewriter.stands(LProofBench$Row;III)Z
theorem pg_87_0 {d : Nat} {r0 : Nat} {r1 : Nat} {x2 : Int32} {x3 : Int32} {x4 : Int32} {s : ps_S} {Q : Option Value → ps_S → Prop} (h :
  ps_At (d + 1) 87 3 [(0, .ref r0), (1, .ref r1), (2, .int x2), (3, .int x3), (4, .int x4), (5, .int 0)] [] s Q) : ps_At (d + 1) 87 0 [(0, .ref r0), (1, .ref r1), (2, .int x2), (3, .int x3), (4, .int x4)] [] s Q :=
  ps_wp_at (stops := [(3, [0, 1, 2, 3, 4, 5]), (32, [0, 1, 3, 5, 6])]) (n := 4) h rfl

theorem pg_87_3 {d : Nat} {r0 : Nat} {r1 : Nat} {x2 : Int32} {x3 : Int32} {x4 : Int32} {x5 : Int32} {s : ps_S} {Q : Option Value → ps_S → Prop} (h :
  (5 ≤ x5 →
    ps_At (d + 1) 87 32 [(0, .ref r0), (1, .ref r1), (3, .int x3), (5, .int x4), (6, .int x2)] [] s Q) ∧
  (x5 < 5 →
    ps_nk (ps_is r0 4) (ps_Cl d 183 [.ref (ps_c0 r0 4), .int x5, .int (-1)] s (ps_rV (fun s1 =>
      ps_At (d + 1) 87 3 [(0, .ref r0), (1, .ref r1), (2, .int x2), (3, .int x3), (4, .int x4), (5, .int (x5 + 1))] [] s1 Q))))) : ps_At (d + 1) 87 3 [(0, .ref r0), (1, .ref r1), (2, .int x2), (3, .int x3), (4, .int x4), (5, .int x5)] [] s Q :=
  ps_wp_at (stops := [(3, [0, 1, 2, 3, 4, 5]), (32, [0, 1, 3, 5, 6])]) (n := 16) h rfl

theorem pg_87_32 {d : Nat} {r0 : Nat} {r1 : Nat} {x3 : Int32} {x5 : Int32} {x6 : Int32} {s : ps_S} {Q : Option Value → ps_S → Prop} (h :
  (x3 ≤ x6 →
    Q (some (.int 1)) s) ∧
  (x6 < x3 →
    ps_nk (ps_is r1 5) (ps_Cl d 92 [.ref r1, .int x6] s (ps_rI (fun v1 s1 =>
      ps_Cl d 185 [.int v1] s1 (ps_rI (fun v2 s2 =>
        (v2 = 0 →
          ps_nk (ps_is r0 4) (ps_nk (ps_is (ps_c0 r0 0) 5) (ps_Cl d 92 [.ref (ps_c0 r0 0), .int x5] s2 (ps_rI (fun v3 s3 =>
            (v1 ≠ v3 →
              Q (some (.int 0)) s3) ∧
            (v1 = v3 →
              ps_At (d + 1) 87 32 [(0, .ref r0), (1, .ref r1), (3, .int x3), (5, .int (x5 + 1)), (6, .int (x6 + 1))] [] s3 Q)))))) ∧
        (v2 ≠ 0 →
          ps_nk (ps_is r0 4) (ps_Cl d 88 [.ref r0, .int (v1 - 40), .int x5] s2 (ps_rI (fun v4 s4 =>
            (v4 ≠ 0 →
              ps_nk (ps_is r0 4) (ps_nk (ps_is (ps_c0 r0 2) 6) (ps_Cl d 104 [.ref (ps_c0 r0 2), .int x5] s4 (ps_rI (fun v5 s5 =>
                ps_At (d + 1) 87 32 [(0, .ref r0), (1, .ref r1), (3, .int x3), (5, .int v5), (6, .int (x6 + 1))] [] s5 Q))))) ∧
            (v4 = 0 →
              Q (some (.int 0)) s4)))))))))))) : ps_At (d + 1) 87 32 [(0, .ref r0), (1, .ref r1), (3, .int x3), (5, .int x5), (6, .int x6)] [] s Q :=
  ps_wp_at (stops := [(3, [0, 1, 2, 3, 4, 5]), (32, [0, 1, 3, 5, 6])]) (n := 43) h rfl

theorem xs_87_32 {m s : ps_S} {t : Int32} {d : Nat} {r0 : Nat} {r1 : Nat} {x3 : Int32} {x5 : Int32} {x6 : Int32} {Q : Option Value → ps_S → Prop} (h0 : ps_is r0 4 = true) (h1 : ps_is r1 5 = true) (J : xJ m t s) (k : ∀ (v : Int32) (s' : ps_S), v &&& 1 = v → xJ m t s' → Q (some (.int v)) s') : ps_At (d + 3) 87 32 [(0, .ref r0), (1, .ref r1), (3, .int x3), (5, .int x5), (6, .int x6)] [] s Q :=
  xs_up (P := fun x6 => ∀ (x5 : Int32) (s : ps_S), ps_is r0 4 = true → ps_is r1 5 = true → xJ m t s → ps_At (d + 3) 87 32 [(0, .ref r0), (1, .ref r1), (3, .int x3), (5, .int x5), (6, .int x6)] [] s Q) (fun x6 ih x5 s h0 h1 J => pg_87_32 (d := d + 2) (And.intro (fun f1 => (k 1 s (by decide) J)) (fun f1 => (ps_nk_i h1 (xs_92 h1 J (fun v1 => (xs_185  J (fun v2 b2 => (And.intro (fun f2 => (ps_nk_i h0 (ps_nk_i (xk_4_0 h0) (xs_92 (xk_4_0 h0) J (fun v3 => (And.intro (fun f3 => (k 0 s (by decide) J)) (fun f3 => (ih ((x6 + 1)) (xs_lt f1) ((x5 + 1)) s h0 h1 J)))))))) (fun f2 => (ps_nk_i h0 (xs_88 h0 J (fun v4 s4 b4 J4 => (And.intro (fun f4 => (ps_nk_i h0 (ps_nk_i (xk_4_2 h0) (xs_104 (xk_4_2 h0) J4 (fun v5 => (ih ((x6 + 1)) (xs_lt f1) (v5) s4 h0 h1 J4)))))) (fun f4 => (k 0 s4 (by decide) J4)))))))))))))))) x6 x5 s h0 h1 J

theorem xs_87_3 {m s : ps_S} {t : Int32} {d : Nat} {r0 : Nat} {r1 : Nat} {x2 : Int32} {x3 : Int32} {x4 : Int32} {x5 : Int32} {Q : Option Value → ps_S → Prop} (h0 : ps_is r0 4 = true) (h1 : ps_is r1 5 = true) (J : xJ m t s) (k : ∀ (v : Int32) (s' : ps_S), v &&& 1 = v → xJ m t s' → Q (some (.int v)) s') : ps_At (d + 3) 87 3 [(0, .ref r0), (1, .ref r1), (2, .int x2), (3, .int x3), (4, .int x4), (5, .int x5)] [] s Q :=
  xs_up (P := fun x5 => ∀ (s : ps_S), ps_is r0 4 = true → ps_is r1 5 = true → xJ m t s → ps_At (d + 3) 87 3 [(0, .ref r0), (1, .ref r1), (2, .int x2), (3, .int x3), (4, .int x4), (5, .int x5)] [] s Q) (fun x5 ih s h0 h1 J => pg_87_3 (d := d + 2) (And.intro (fun f1 => (xs_87_32 (d := d) (r0 := r0) (r1 := r1) (x3 := x3) (x5 := x4) (x6 := x2)  h0 h1 J k )) (fun f1 => (ps_nk_i h0 (xs_183 (xk_4_4 h0) J (fun s1 J1 e1 => (ih ((x5 + 1)) (xs_lt f1) s1 h0 h1 J1))))))) x5 s h0 h1 J

theorem xs_87 {m s : ps_S} {t : Int32} {d : Nat} {r0 : Nat} {r1 : Nat} {x2 : Int32} {x3 : Int32} {x4 : Int32} {f : Int32 → ps_S → Prop} (h0 : ps_is r0 4 = true) (h1 : ps_is r1 5 = true) (J : xJ m t s) (k : ∀ (v : Int32) (s' : ps_S), v &&& 1 = v → xJ m t s' → f v s') : ps_Cl (d + 3) 87 [.ref r0, .ref r1, .int x2, .int x3, .int x4] s (ps_rI f) :=
  pg_87_0 (d := d + 2) (xs_87_3 (d := d) (r0 := r0) (r1 := r1) (x2 := x2) (x3 := x3) (x4 := x4) (x5 := 0)  h0 h1 J k )

-- ProofBench$Rewriter.putRight(LProofBench$Row;II)V
theorem pg_89_0 {d : Nat} {r0 : Nat} {r1 : Nat} {x2 : Int32} {x3 : Int32} {s : ps_S} {Q : Option Value → ps_S → Prop} (h :
  ps_nk (ps_is r0 4) (ps_nk (ps_is (ps_c0 r0 1) 5) (ps_Cl d 91 [.ref (ps_c0 r0 1)] s (ps_rV (fun s1 =>
    ps_nk (ps_is r0 4) (ps_nk (ps_is r0 4) (ps_nk (ps_is (ps_c0 r0 1) 5) (ps_Cl d 94 [.ref (ps_c0 r0 1), .ref (ps_c0 r0 0), .int 0, .int x3] s1 (ps_rV (fun s2 =>
      ps_At (d + 1) 89 23 [(0, .ref r0), (1, .ref r1), (3, .int x3), (4, .int x2)] [] s2 Q)))))))))) : ps_At (d + 1) 89 0 [(0, .ref r0), (1, .ref r1), (2, .int x2), (3, .int x3)] [] s Q :=
  ps_wp_at (stops := [(23, [0, 1, 3, 4])]) (n := 14) h rfl

theorem pg_89_23 {d : Nat} {r0 : Nat} {r1 : Nat} {x3 : Int32} {x4 : Int32} {s : ps_S} {Q : Option Value → ps_S → Prop} (h :
  ps_nk (ps_is r1 5) (((ps_i s r1 1) ≤ x4 →
    ps_nk (ps_is r0 4) (ps_nk (ps_is r0 4) (ps_nk (ps_is r0 4) (ps_nk (ps_is (ps_c0 r0 2) 6) (ps_Cl d 104 [.ref (ps_c0 r0 2), .int x3] s (ps_rI (fun v1 s1 =>
      ps_nk (ps_is r0 4) (ps_nk (ps_is (ps_c0 r0 0) 5) (ps_nk (ps_is (ps_c0 r0 1) 5) (ps_Cl d 94 [.ref (ps_c0 r0 1), .ref (ps_c0 r0 0), .int v1, .int (ps_i s1 (ps_c0 r0 0) 1)] s1 (ps_rV (fun s2 =>
        Q none s2)))))))))))) ∧
  (x4 < (ps_i s r1 1) →
    ps_nk (ps_is r1 5) (ps_Cl d 92 [.ref r1, .int x4] s (ps_rI (fun v3 s3 =>
      ps_Cl d 185 [.int v3] s3 (ps_rI (fun v4 s4 =>
        (v4 = 0 →
          ps_nk (ps_is r0 4) (ps_nk (ps_is (ps_c0 r0 1) 5) (ps_Cl d 93 [.ref (ps_c0 r0 1), .int v3] s4 (ps_rV (fun s5 =>
            ps_At (d + 1) 89 23 [(0, .ref r0), (1, .ref r1), (3, .int x3), (4, .int (x4 + 1))] [] s5 Q))))) ∧
        (v4 ≠ 0 →
          ps_nk (ps_is r0 4) (ps_nk (ps_is r0 4) (ps_nk (ps_is r0 4) (ps_Cl d 182 [.ref (ps_c0 r0 4), .int (v3 - 40)] s4 (ps_rI (fun v6 s6 =>
            ps_nk (ps_is r0 4) (ps_Cl d 182 [.ref (ps_c0 r0 5), .int (v3 - 40)] s6 (ps_rI (fun v7 s7 =>
              ps_nk (ps_is (ps_c0 r0 1) 5) (ps_Cl d 94 [.ref (ps_c0 r0 1), .ref (ps_c0 r0 0), .int v6, .int v7] s7 (ps_rV (fun s8 =>
                ps_At (d + 1) 89 23 [(0, .ref r0), (1, .ref r1), (3, .int x3), (4, .int (x4 + 1))] [] s8 Q)))))))))))))))))))) : ps_At (d + 1) 89 23 [(0, .ref r0), (1, .ref r1), (3, .int x3), (4, .int x4)] [] s Q :=
  ps_wp_at (stops := [(23, [0, 1, 3, 4])]) (n := 52) h rfl

theorem xs_89_23 {m s : ps_S} {t : Int32} {d : Nat} {r0 : Nat} {r1 : Nat} {x3 : Int32} {x4 : Int32} {Q : Option Value → ps_S → Prop} (h0 : ps_is r0 4 = true) (h1 : ps_is r1 5 = true) (J : xJ m t s) (k : ∀ (s' : ps_S), xJ m t s' → Q none s') : ps_At (d + 2) 89 23 [(0, .ref r0), (1, .ref r1), (3, .int x3), (4, .int x4)] [] s Q :=
  xs_up (P := fun x4 => ∀ (s : ps_S), ps_is r0 4 = true → ps_is r1 5 = true → xJ m t s → ps_At (d + 2) 89 23 [(0, .ref r0), (1, .ref r1), (3, .int x3), (4, .int x4)] [] s Q) (fun x4 ih s h0 h1 J => pg_89_23 (d := d + 1) (ps_nk_i h1 (And.intro (fun f1 => (ps_nk_i h0 (ps_nk_i h0 (ps_nk_i h0 (ps_nk_i (xk_4_2 h0) (xs_104 (xk_4_2 h0) J (fun v1 => (ps_nk_i h0 (ps_nk_i (xk_4_0 h0) (ps_nk_i (xk_4_1 h0) (xs_94 (xk_4_1 h0) (xk_4_0 h0) J (fun s2 J2 => (k s2 J2))))))))))))) (fun f1 => (ps_nk_i h1 (xs_92 h1 J (fun v3 => (xs_185  J (fun v4 b4 => (And.intro (fun f2 => (ps_nk_i h0 (ps_nk_i (xk_4_1 h0) (xs_93 (xk_4_1 h0) J (fun s5 J5 => (ih ((x4 + 1)) (xs_lt f1) s5 h0 h1 J5)))))) (fun f2 => (ps_nk_i h0 (ps_nk_i h0 (ps_nk_i h0 (xs_182 (xk_4_4 h0) J (fun v6 => (ps_nk_i h0 (xs_182 (xk_4_5 h0) J (fun v7 => (ps_nk_i (xk_4_1 h0) (xs_94 (xk_4_1 h0) (xk_4_0 h0) J (fun s8 J8 => (ih ((x4 + 1)) (xs_lt f1) s8 h0 h1 J8))))))))))))))))))))))) x4 s h0 h1 J

theorem xs_89 {m s : ps_S} {t : Int32} {d : Nat} {r0 : Nat} {r1 : Nat} {x2 : Int32} {x3 : Int32} {f : ps_S → Prop} (h0 : ps_is r0 4 = true) (h1 : ps_is r1 5 = true) (J : xJ m t s) (k : ∀ (s' : ps_S), xJ m t s' → f s') : ps_Cl (d + 2) 89 [.ref r0, .ref r1, .int x2, .int x3] s (ps_rV f) :=
  pg_89_0 (d := d + 1) (ps_nk_i h0 (ps_nk_i (xk_4_1 h0) (xs_91 (xk_4_1 h0) J (fun s1 J1 => (ps_nk_i h0 (ps_nk_i h0 (ps_nk_i (xk_4_1 h0) (xs_94 (xk_4_1 h0) (xk_4_0 h0) J1 (fun s2 J2 => (xs_89_23 (d := d) (r0 := r0) (r1 := r1) (x3 := x3) (x4 := x2)  h0 h1 J2 k ))))))))))

-- ProofBench$Rewriter.goOn(LProofBench$Theory;)Z
theorem pg_86_0 {d : Nat} {r0 : Nat} {r1 : Nat} {s : ps_S} {Q : Option Value → ps_S → Prop} (h :
  ps_At (d + 1) 86 2 [(0, .ref r0), (1, .ref r1), (2, .int 0)] [] s Q) : ps_At (d + 1) 86 0 [(0, .ref r0), (1, .ref r1)] [] s Q :=
  ps_wp_at (stops := [(2, [0, 1, 2]), (15, [0, 1, 2, 3])]) (n := 4) h rfl

theorem pg_86_2 {d : Nat} {r0 : Nat} {r1 : Nat} {x2 : Int32} {s : ps_S} {Q : Option Value → ps_S → Prop} (h :
  ps_nk (ps_is r0 4) (ps_nk (ps_is (ps_c0 r0 0) 5) (((ps_i s (ps_c0 r0 0) 1) ≤ x2 →
    Q (some (.int 0)) s) ∧
  (x2 < (ps_i s (ps_c0 r0 0) 1) →
    ps_At (d + 1) 86 15 [(0, .ref r0), (1, .ref r1), (2, .int x2), (3, .int 0)] [] s Q)))) : ps_At (d + 1) 86 2 [(0, .ref r0), (1, .ref r1), (2, .int x2)] [] s Q :=
  ps_wp_at (stops := [(2, [0, 1, 2]), (15, [0, 1, 2, 3])]) (n := 11) h rfl

theorem pg_86_15 {d : Nat} {r0 : Nat} {r1 : Nat} {x2 : Int32} {x3 : Int32} {s : ps_S} {Q : Option Value → ps_S → Prop} (h :
  ps_nk (ps_is r1 9) (((ps_i s r1 8) ≤ x3 →
    ps_At (d + 1) 86 2 [(0, .ref r0), (1, .ref r1), (2, .int (x2 + 1))] [] s Q) ∧
  (x3 < (ps_i s r1 8) →
    ps_nk (ps_is r0 4) (ps_nk (ps_is (ps_c0 r0 0) 5) (ps_Cl d 92 [.ref (ps_c0 r0 0), .int x2] s (ps_rI (fun v1 s1 =>
      ps_Cl d 186 [.int v1] s1 (ps_rI (fun v2 s2 =>
        (v2 = 0 →
          ps_At (d + 1) 86 2 [(0, .ref r0), (1, .ref r1), (2, .int (x2 + 1))] [] s2 Q) ∧
        (v2 ≠ 0 →
          ps_nk (ps_is r0 4) (ps_Cl d 182 [.ref (ps_c0 r0 7), .int x3] s2 (ps_rI (fun v3 s3 =>
            (v3 = (-1) →
              ps_At (d + 1) 86 15 [(0, .ref r0), (1, .ref r1), (2, .int x2), (3, .int (x3 + 1))] [] s3 Q) ∧
            (v3 ≠ (-1) →
              ps_nk (ps_is r1 9) (ps_Cl d 135 [.ref r1, .int x3] s3 (ps_rA (fun v4 s4 =>
                ps_nk (ps_is r0 4) (ps_Cl d 182 [.ref (ps_c0 r0 6), .int x3] s4 (ps_rI (fun v5 s5 =>
                  ps_nk (ps_is r0 4) (ps_Cl d 87 [.ref r0, .ref v4, .int v5, .int v3, .int x2] s5 (ps_rI (fun v6 s6 =>
                    (v6 = 0 →
                      ps_At (d + 1) 86 15 [(0, .ref r0), (1, .ref r1), (2, .int x2), (3, .int (x3 + 1))] [] s6 Q) ∧
                    (v6 ≠ 0 →
                      ps_nk (ps_is r1 9) (ps_Cl d 135 [.ref r1, .int x3] s6 (ps_rA (fun v7 s7 =>
                        ps_nk (ps_is r0 4) (ps_Cl d 89 [.ref r0, .ref v7, .int v3, .int x2] s7 (ps_rV (fun s8 =>
                          Q (some (.int 1)) s8)))))))))))))))))))))))))))))) : ps_At (d + 1) 86 15 [(0, .ref r0), (1, .ref r1), (2, .int x2), (3, .int x3)] [] s Q :=
  ps_wp_at (stops := [(2, [0, 1, 2]), (15, [0, 1, 2, 3])]) (n := 49) h rfl

theorem xs_86_15 {m s : ps_S} {t : Int32} {d : Nat} {r0 : Nat} {r1 : Nat} {x2 : Int32} {x3 : Int32} {Q : Option Value → ps_S → Prop} (h0 : ps_is r0 4 = true) (h1 : ps_is r1 9 = true) (J : xJ m t s) (k : ∀ (v : Int32) (s' : ps_S), v &&& 1 = v → xJ m t s' → Q (some (.int v)) s') (K2 : ∀ (s : ps_S), ps_is r0 4 = true → ps_is r1 9 = true → xJ m t s → ps_At (d + 4) 86 2 [(0, .ref r0), (1, .ref r1), (2, .int (x2 + 1))] [] s Q) : ps_At (d + 4) 86 15 [(0, .ref r0), (1, .ref r1), (2, .int x2), (3, .int x3)] [] s Q :=
  xs_up (P := fun x3 => ∀ (s : ps_S), ps_is r0 4 = true → ps_is r1 9 = true → xJ m t s → ps_At (d + 4) 86 15 [(0, .ref r0), (1, .ref r1), (2, .int x2), (3, .int x3)] [] s Q) (fun x3 ih s h0 h1 J => pg_86_15 (d := d + 3) (ps_nk_i h1 (And.intro (fun f1 => (K2 s h0 h1 J)) (fun f1 => (ps_nk_i h0 (ps_nk_i (xk_4_0 h0) (xs_92 (xk_4_0 h0) J (fun v1 => (xs_186  J (fun v2 b2 => (And.intro (fun f2 => (K2 s h0 h1 J)) (fun f2 => (ps_nk_i h0 (xs_182 (xk_4_7 h0) J (fun v3 => (And.intro (fun f3 => (ih ((x3 + 1)) (xs_lt f1) s h0 h1 J)) (fun f3 => (ps_nk_i h1 (xs_135 h1 J (fun v4 g4 => (ps_nk_i h0 (xs_182 (xk_4_6 h0) J (fun v5 => (ps_nk_i h0 (xs_87 h0 g4 J (fun v6 s6 b6 J6 => (And.intro (fun f4 => (ih ((x3 + 1)) (xs_lt f1) s6 h0 h1 J6)) (fun f4 => (ps_nk_i h1 (xs_135 h1 J6 (fun v7 g7 => (ps_nk_i h0 (xs_89 h0 g7 J6 (fun s8 J8 => (k 1 s8 (by decide) J8))))))))))))))))))))))))))))))))))) x3 s h0 h1 J

theorem xs_86_2 {m s : ps_S} {t : Int32} {d : Nat} {r0 : Nat} {r1 : Nat} {x2 : Int32} {Q : Option Value → ps_S → Prop} (h0 : ps_is r0 4 = true) (h1 : ps_is r1 9 = true) (J : xJ m t s) (k : ∀ (v : Int32) (s' : ps_S), v &&& 1 = v → xJ m t s' → Q (some (.int v)) s') : ps_At (d + 4) 86 2 [(0, .ref r0), (1, .ref r1), (2, .int x2)] [] s Q :=
  xs_up (P := fun x2 => ∀ (s : ps_S), ps_is r0 4 = true → ps_is r1 9 = true → xJ m t s → ps_At (d + 4) 86 2 [(0, .ref r0), (1, .ref r1), (2, .int x2)] [] s Q) (fun x2 ih s h0 h1 J => pg_86_2 (d := d + 3) (ps_nk_i h0 (ps_nk_i (xk_4_0 h0) (And.intro (fun f1 => (k 0 s (by decide) J)) (fun f1 => (xs_86_15 (d := d) (r0 := r0) (r1 := r1) (x2 := x2) (x3 := 0)  h0 h1 J k (fun s9 h0z h1z J9 => ih (x2 + 1) (xs_lt f1) s9 h0z h1z J9))))))) x2 s h0 h1 J

theorem xs_86 {m s : ps_S} {t : Int32} {d : Nat} {r0 : Nat} {r1 : Nat} {f : Int32 → ps_S → Prop} (h0 : ps_is r0 4 = true) (h1 : ps_is r1 9 = true) (J : xJ m t s) (k : ∀ (v : Int32) (s' : ps_S), v &&& 1 = v → xJ m t s' → f v s') : ps_Cl (d + 4) 86 [.ref r0, .ref r1] s (ps_rI f) :=
  pg_86_0 (d := d + 3) (xs_86_2 (d := d) (r0 := r0) (r1 := r1) (x2 := 0)  h0 h1 J k )

-- ProofBench$Rewriter.makeNormal(LProofBench$Theory;)I
theorem pg_85_0 {d : Nat} {r0 : Nat} {r1 : Nat} {s : ps_S} {Q : Option Value → ps_S → Prop} (h :
  ps_nk (ps_is r0 4) (ps_Cl d 83 [.ref r0, .ref r1] s (ps_rV (fun s1 =>
    ps_nk (ps_is r0 4) (ps_nk (ps_is r0 4) (ps_nk (ps_is (ps_c0 r0 2) 6) (ps_Cl d 103 [.ref (ps_c0 r0 2), .ref (ps_c0 r0 0), .ref r1] s1 (ps_rV (fun s2 =>
      ps_At (d + 1) 85 19 [(0, .ref r0), (1, .ref r1), (2, .int 0)] [] s2 Q))))))))) : ps_At (d + 1) 85 0 [(0, .ref r0), (1, .ref r1)] [] s Q :=
  ps_wp_at (stops := [(19, [0, 1, 2]), (87, [0])]) (n := 13) h rfl

theorem pg_85_19 {d : Nat} {r0 : Nat} {r1 : Nat} {x2 : Int32} {s : ps_S} {Q : Option Value → ps_S → Prop} (h :
  (60 < x2 →
    ps_At (d + 1) 85 87 [(0, .ref r0)] [] s Q) ∧
  (x2 ≤ 60 →
    ps_nk (ps_is r0 4) (ps_Cl d 86 [.ref r0, .ref r1] s (ps_rI (fun v1 s1 =>
      (v1 ≠ 0 →
        ps_nk (ps_is r0 4) (ps_nk (ps_is r0 4) (ps_nk (ps_is (ps_c0 r0 0) 5) (ps_Cl d 95 [.ref (ps_c0 r0 0), .ref (ps_c0 r0 1)] s1 (ps_rV (fun s2 =>
          ps_nk (ps_is r0 4) (ps_nk (ps_is r0 4) (ps_nk (ps_is (ps_c0 r0 2) 6) (ps_Cl d 103 [.ref (ps_c0 r0 2), .ref (ps_c0 r0 0), .ref r1] s2 (ps_rV (fun s3 =>
            ps_nk (ps_is r0 4) (ps_nk (ps_is (ps_c0 r0 1) 5) (((ps_i s3 (ps_c0 r0 1) 2) ≠ 0 →
              ps_At (d + 1) 85 87 [(0, .ref r0)] [] s3 Q) ∧
            ((ps_i s3 (ps_c0 r0 1) 2) = 0 →
              ps_nk (ps_is r0 4) (ps_nk (ps_is (ps_c0 r0 2) 6) (ps_Cl d 106 [.ref (ps_c0 r0 2)] s3 (ps_rI (fun v4 s4 =>
                (v4 = 0 →
                  ps_At (d + 1) 85 19 [(0, .ref r0), (1, .ref r1), (2, .int (x2 + 1))] [] s4 Q) ∧
                (v4 ≠ 0 →
                  ps_At (d + 1) 85 87 [(0, .ref r0)] [] s4 Q))))))))))))))))))) ∧
      (v1 = 0 →
        Q (some (.int x2)) s1)))))) : ps_At (d + 1) 85 19 [(0, .ref r0), (1, .ref r1), (2, .int x2)] [] s Q :=
  ps_wp_at (stops := [(19, [0, 1, 2]), (87, [0])]) (n := 33) h rfl

theorem pg_85_87 {d : Nat} {r0 : Nat} {s : ps_S} {Q : Option Value → ps_S → Prop} (h :
  ps_nk (ps_is r0 4) (ps_nk (ps_is (ps_c0 r0 0) 5) (ps_Cl d 91 [.ref (ps_c0 r0 0)] s (ps_rV (fun s1 =>
    Q (some (.int (-2))) s1))))) : ps_At (d + 1) 85 87 [(0, .ref r0)] [] s Q :=
  ps_wp_at (stops := [(19, [0, 1, 2]), (87, [0])]) (n := 7) h rfl

theorem xs_85_87 {m s : ps_S} {t : Int32} {d : Nat} {r0 : Nat} {Q : Option Value → ps_S → Prop} (h0 : ps_is r0 4 = true) (J : xJ m t s) (k : ∀ (v : Int32) (s' : ps_S), xJ m t s' → Q (some (.int v)) s') : ps_At (d + 5) 85 87 [(0, .ref r0)] [] s Q :=
  pg_85_87 (d := d + 4) (ps_nk_i h0 (ps_nk_i (xk_4_0 h0) (xs_91 (xk_4_0 h0) J (fun s1 J1 => (k (-2) s1 J1)))))

theorem xs_85_19 {m s : ps_S} {t : Int32} {d : Nat} {r0 : Nat} {r1 : Nat} {x2 : Int32} {Q : Option Value → ps_S → Prop} (h0 : ps_is r0 4 = true) (h1 : ps_is r1 9 = true) (J : xJ m t s) (k : ∀ (v : Int32) (s' : ps_S), xJ m t s' → Q (some (.int v)) s') : ps_At (d + 5) 85 19 [(0, .ref r0), (1, .ref r1), (2, .int x2)] [] s Q :=
  xs_up (P := fun x2 => ∀ (s : ps_S), ps_is r0 4 = true → ps_is r1 9 = true → xJ m t s → ps_At (d + 5) 85 19 [(0, .ref r0), (1, .ref r1), (2, .int x2)] [] s Q) (fun x2 ih s h0 h1 J => pg_85_19 (d := d + 4) (And.intro (fun f1 => (xs_85_87 (d := d) (r0 := r0)  h0 J k )) (fun f1 => (ps_nk_i h0 (xs_86 h0 h1 J (fun v1 s1 b1 J1 => (And.intro (fun f2 => (ps_nk_i h0 (ps_nk_i h0 (ps_nk_i (xk_4_0 h0) (xs_95 (xk_4_0 h0) (xk_4_1 h0) J1 (fun s2 J2 => (ps_nk_i h0 (ps_nk_i h0 (ps_nk_i (xk_4_2 h0) (xs_103 (xk_4_2 h0) (xk_4_0 h0) h1 J2 (fun s3 J3 => (ps_nk_i h0 (ps_nk_i (xk_4_1 h0) (And.intro (fun f3 => (xs_85_87 (d := d) (r0 := r0)  h0 J3 k )) (fun f3 => (ps_nk_i h0 (ps_nk_i (xk_4_2 h0) (xs_106 (xk_4_2 h0) J3 (fun v4 b4 => (And.intro (fun f4 => (ih ((x2 + 1)) (xs_le f1 (by decide)) s3 h0 h1 J3)) (fun f4 => (xs_85_87 (d := d) (r0 := r0)  h0 J3 k )))))))))))))))))))))) (fun f2 => (k x2 s1 J1))))))))) x2 s h0 h1 J

theorem xs_85 {m s : ps_S} {t : Int32} {d : Nat} {r0 : Nat} {r1 : Nat} {f : Int32 → ps_S → Prop} (h0 : ps_is r0 4 = true) (h1 : ps_is r1 9 = true) (J : xJ m t s) (k : ∀ (v : Int32) (s' : ps_S), xJ m t s' → f v s') : ps_Cl (d + 5) 85 [.ref r0, .ref r1] s (ps_rI f) :=
  pg_85_0 (d := d + 4) (ps_nk_i h0 (xs_83 h0 h1 J (fun s1 J1 => (ps_nk_i h0 (ps_nk_i h0 (ps_nk_i (xk_4_2 h0) (xs_103 (xk_4_2 h0) (xk_4_0 h0) h1 J1 (fun s2 J2 => (xs_85_19 (d := d) (r0 := r0) (r1 := r1) (x2 := 0)  h0 h1 J2 k )))))))))

-- ProofBench$Row.hasFree()Z
theorem pg_101_0 {d : Nat} {r0 : Nat} {s : ps_S} {Q : Option Value → ps_S → Prop} (h :
  ps_At (d + 1) 101 2 [(0, .ref r0), (1, .int 0)] [] s Q) : ps_At (d + 1) 101 0 [(0, .ref r0)] [] s Q :=
  ps_wp_at (stops := [(2, [0, 1])]) (n := 4) h rfl

theorem pg_101_2 {d : Nat} {r0 : Nat} {x1 : Int32} {s : ps_S} {Q : Option Value → ps_S → Prop} (h :
  ps_nk (ps_is r0 5) (((ps_i s r0 1) ≤ x1 →
    Q (some (.int 0)) s) ∧
  (x1 < (ps_i s r0 1) →
    ps_nk (ps_is r0 5) (ps_Cl d 92 [.ref r0, .int x1] s (ps_rI (fun v1 s1 =>
      (v1 < 60 →
        ps_At (d + 1) 101 2 [(0, .ref r0), (1, .int (x1 + 1))] [] s1 Q) ∧
      (60 ≤ v1 →
        Q (some (.int 1)) s1))))))) : ps_At (d + 1) 101 2 [(0, .ref r0), (1, .int x1)] [] s Q :=
  ps_wp_at (stops := [(2, [0, 1])]) (n := 17) h rfl

theorem xs_101_2 {m s : ps_S} {t : Int32} {d : Nat} {r0 : Nat} {x1 : Int32} {Q : Option Value → ps_S → Prop} (h0 : ps_is r0 5 = true) (J : xJ m t s) (k : ∀ (v : Int32), v &&& 1 = v → Q (some (.int v)) s) : ps_At (d + 1) 101 2 [(0, .ref r0), (1, .int x1)] [] s Q :=
  xs_up (P := fun x1 => ps_is r0 5 = true → ps_At (d + 1) 101 2 [(0, .ref r0), (1, .int x1)] [] s Q) (fun x1 ih h0 => pg_101_2 (d := d) (ps_nk_i h0 (And.intro (fun f1 => (k 0 (by decide))) (fun f1 => (ps_nk_i h0 (xs_92 h0 J (fun v1 => (And.intro (fun f2 => (ih ((x1 + 1)) (xs_lt f1) h0)) (fun f2 => (k 1 (by decide))))))))))) x1 h0

theorem xs_101 {m s : ps_S} {t : Int32} {d : Nat} {r0 : Nat} {f : Int32 → ps_S → Prop} (h0 : ps_is r0 5 = true) (J : xJ m t s) (k : ∀ (v : Int32), v &&& 1 = v → f v s) : ps_Cl (d + 1) 101 [.ref r0] s (ps_rI f) :=
  pg_101_0 (d := d) (xs_101_2 (d := d) (r0 := r0) (x1 := 0)  h0 J k )

-- ProofBench$Shelf.clear()V
theorem pg_108_0 {d : Nat} {r0 : Nat} {s : ps_S} {Q : Option Value → ps_S → Prop} (h :
  ps_nk (ps_is r0 7) (ps_nk (ps_is r0 7) (Q none (ps_ui (ps_ui s r0 5 0) r0 6 0)))) : ps_At d 108 0 [(0, .ref r0)] [] s Q :=
  ps_wp_at (stops := []) (n := 9) h rfl

theorem xs_108 {m s : ps_S} {t : Int32} {d : Nat} {r0 : Nat} {f : ps_S → Prop} (h0 : ps_is r0 7 = true) (J : xJ m t s) (k : ∀ (s' : ps_S), xJ m t s' → f s') : ps_Cl d 108 [.ref r0] s (ps_rV f) :=
  pg_108_0 (ps_nk_i h0 (ps_nk_i h0 (k (ps_ui (ps_ui s r0 5 0) r0 6 0) (xw_i (c := 7) (by decide) h0 (xw_i (c := 7) (by decide) h0 J)))))

-- ProofBench$Shelf.put(LProofBench$Step;)I
theorem pg_111_0 {d : Nat} {r0 : Nat} {r1 : Nat} {s : ps_S} {Q : Option Value → ps_S → Prop} (h :
  ps_nk (ps_is r0 7) (((ps_i s r0 5) < 12 →
    ps_nk (ps_is r1 8) (ps_At (d + 1) 111 18 [(0, .ref r0), (1, .ref r1), (2, .int (ps_i s r1 10)), (3, .int 0)] [] s Q)) ∧
  (12 ≤ (ps_i s r0 5) →
    Q (some (.int (-1))) s))) : ps_At (d + 1) 111 0 [(0, .ref r0), (1, .ref r1)] [] s Q :=
  ps_wp_at (stops := [(18, [0, 1, 2, 3])]) (n := 13) h rfl

theorem pg_111_18 {d : Nat} {r0 : Nat} {r1 : Nat} {x2 : Int32} {x3 : Int32} {s : ps_S} {Q : Option Value → ps_S → Prop} (h :
  ps_nk (ps_is r0 7) (((ps_i s r0 5) ≤ x3 →
    ps_nk (ps_is r0 7) (ps_nk (ps_is r0 7) (ps_Cl d 110 [.ref r0, .int (ps_i s r0 5)] s (ps_rA (fun v1 s1 =>
      ps_nk (ps_is r1 8) (ps_nk (ps_is v1 5) (ps_Cl d 95 [.ref v1, .ref (ps_c0 r1 6)] s1 (ps_rV (fun s2 =>
        ps_nk (ps_is r0 7) (ps_nk (ps_is r0 7) (ps_nk (ps_is r1 8) (ps_Cl d 183 [.ref (ps_c0 r0 2), .int (ps_i s2 r0 5), .int (ps_i s2 r1 10)] s2 (ps_rV (fun s3 =>
          ps_nk (ps_is r0 7) (ps_nk (ps_is r0 7) (ps_nk (ps_is r1 8) (ps_Cl d 183 [.ref (ps_c0 r0 3), .int (ps_i s3 r0 5), .int (ps_i s3 r1 11)] s3 (ps_rV (fun s4 =>
            ps_nk (ps_is r0 7) (ps_nk (ps_is r0 7) (ps_Cl d 183 [.ref (ps_c0 r0 4), .int (ps_i s4 r0 5), .int x2] s4 (ps_rV (fun s5 =>
              ps_nk (ps_is r0 7) (ps_nk (ps_is r0 7) (ps_nk (ps_is r0 7) (Q (some (.int ((ps_i (ps_ui s5 r0 5 ((ps_i s5 r0 5) + 1)) r0 5) - 1))) (ps_ui s5 r0 5 ((ps_i s5 r0 5) + 1)))))))))))))))))))))))))))) ∧
  (x3 < (ps_i s r0 5) →
    ps_nk (ps_is r1 8) (((((ps_i s r1 11) >>> (x3 &&& 31)) &&& 1) = 0 →
      ps_At (d + 1) 111 18 [(0, .ref r0), (1, .ref r1), (2, .int x2), (3, .int (x3 + 1))] [] s Q) ∧
    ((((ps_i s r1 11) >>> (x3 &&& 31)) &&& 1) ≠ 0 →
      ps_nk (ps_is r0 7) (ps_Cl d 182 [.ref (ps_c0 r0 4), .int x3] s (ps_rI (fun v6 s6 =>
        ps_At (d + 1) 111 18 [(0, .ref r0), (1, .ref r1), (2, .int (x2 ||| v6)), (3, .int (x3 + 1))] [] s6 Q)))))))) : ps_At (d + 1) 111 18 [(0, .ref r0), (1, .ref r1), (2, .int x2), (3, .int x3)] [] s Q :=
  ps_wp_at (stops := [(18, [0, 1, 2, 3])]) (n := 62) h rfl

theorem xs_111_18 {m s : ps_S} {t : Int32} {d : Nat} {r0 : Nat} {r1 : Nat} {x2 : Int32} {x3 : Int32} {Q : Option Value → ps_S → Prop} (h0 : ps_is r0 7 = true) (h1 : ps_is r1 8 = true) (J : xJ m t s) (k : ∀ (v : Int32) (s' : ps_S), xJ m t s' → Q (some (.int v)) s') : ps_At (d + 3) 111 18 [(0, .ref r0), (1, .ref r1), (2, .int x2), (3, .int x3)] [] s Q :=
  xs_up (P := fun x3 => ∀ (x2 : Int32) (s : ps_S), ps_is r0 7 = true → ps_is r1 8 = true → xJ m t s → ps_At (d + 3) 111 18 [(0, .ref r0), (1, .ref r1), (2, .int x2), (3, .int x3)] [] s Q) (fun x3 ih x2 s h0 h1 J => pg_111_18 (d := d + 2) (ps_nk_i h0 (And.intro (fun f1 => (ps_nk_i h0 (ps_nk_i h0 (xs_110 h0 J (fun v1 g1 => (ps_nk_i h1 (ps_nk_i g1 (xs_95 g1 (xk_8_6 h1) J (fun s2 J2 => (ps_nk_i h0 (ps_nk_i h0 (ps_nk_i h1 (xs_183 (xk_7_2 h0) J2 (fun s3 J3 e3 => (ps_nk_i h0 (ps_nk_i h0 (ps_nk_i h1 (xs_183 (xk_7_3 h0) J3 (fun s4 J4 e4 => (ps_nk_i h0 (ps_nk_i h0 (xs_183 (xk_7_4 h0) J4 (fun s5 J5 e5 => (ps_nk_i h0 (ps_nk_i h0 (ps_nk_i h0 (k ((ps_i (ps_ui s5 r0 5 ((ps_i s5 r0 5) + 1)) r0 5) - 1) (ps_ui s5 r0 5 ((ps_i s5 r0 5) + 1)) (xw_i (c := 7) (by decide) h0 J5)))))))))))))))))))))))))))) (fun f1 => (ps_nk_i h1 (And.intro (fun f2 => (ih ((x3 + 1)) (xs_lt f1) (x2) s h0 h1 J)) (fun f2 => (ps_nk_i h0 (xs_182 (xk_7_4 h0) J (fun v6 => (ih ((x3 + 1)) (xs_lt f1) ((x2 ||| v6)) s h0 h1 J))))))))))) x3 x2 s h0 h1 J

theorem xs_111 {m s : ps_S} {t : Int32} {d : Nat} {r0 : Nat} {r1 : Nat} {f : Int32 → ps_S → Prop} (h0 : ps_is r0 7 = true) (h1 : ps_is r1 8 = true) (J : xJ m t s) (k : ∀ (v : Int32) (s' : ps_S), xJ m t s' → f v s') : ps_Cl (d + 3) 111 [.ref r0, .ref r1] s (ps_rI f) :=
  pg_111_0 (d := d + 2) (ps_nk_i h0 (And.intro (fun f1 => (ps_nk_i h1 (xs_111_18 (d := d) (r0 := r0) (r1 := r1) (x2 := (ps_i s r1 10)) (x3 := 0)  h0 h1 J k ))) (fun f1 => (k (-1) s J))))

-- ProofBench$Shelf.copy(LProofBench$Shelf;)V
theorem pg_112_0 {d : Nat} {r0 : Nat} {r1 : Nat} {s : ps_S} {Q : Option Value → ps_S → Prop} (h :
  ps_nk (ps_is r1 7) (ps_nk (ps_is r0 7) (ps_At (d + 1) 112 10 [(0, .ref r0), (1, .ref r1), (2, .int 0)] [] (ps_ui s r0 5 (ps_i s r1 5)) Q))) : ps_At (d + 1) 112 0 [(0, .ref r0), (1, .ref r1)] [] s Q :=
  ps_wp_at (stops := [(10, [0, 1, 2])]) (n := 8) h rfl

theorem pg_112_10 {d : Nat} {r0 : Nat} {r1 : Nat} {x2 : Int32} {s : ps_S} {Q : Option Value → ps_S → Prop} (h :
  ps_nk (ps_is r0 7) (((ps_i s r0 5) ≤ x2 →
    Q none s) ∧
  (x2 < (ps_i s r0 5) →
    ps_nk (ps_is r0 7) (ps_Cl d 110 [.ref r0, .int x2] s (ps_rA (fun v1 s1 =>
      ps_nk (ps_is r1 7) (ps_Cl d 110 [.ref r1, .int x2] s1 (ps_rA (fun v2 s2 =>
        ps_nk (ps_is v1 5) (ps_Cl d 95 [.ref v1, .ref v2] s2 (ps_rV (fun s3 =>
          ps_nk (ps_is r0 7) (ps_nk (ps_is r1 7) (ps_Cl d 182 [.ref (ps_c0 r1 2), .int x2] s3 (ps_rI (fun v4 s4 =>
            ps_Cl d 183 [.ref (ps_c0 r0 2), .int x2, .int v4] s4 (ps_rV (fun s5 =>
              ps_nk (ps_is r0 7) (ps_nk (ps_is r1 7) (ps_Cl d 182 [.ref (ps_c0 r1 3), .int x2] s5 (ps_rI (fun v6 s6 =>
                ps_Cl d 183 [.ref (ps_c0 r0 3), .int x2, .int v6] s6 (ps_rV (fun s7 =>
                  ps_nk (ps_is r0 7) (ps_nk (ps_is r1 7) (ps_Cl d 182 [.ref (ps_c0 r1 4), .int x2] s7 (ps_rI (fun v8 s8 =>
                    ps_Cl d 183 [.ref (ps_c0 r0 4), .int x2, .int v8] s8 (ps_rV (fun s9 =>
                      ps_At (d + 1) 112 10 [(0, .ref r0), (1, .ref r1), (2, .int (x2 + 1))] [] s9 Q)))))))))))))))))))))))))))))) : ps_At (d + 1) 112 10 [(0, .ref r0), (1, .ref r1), (2, .int x2)] [] s Q :=
  ps_wp_at (stops := [(10, [0, 1, 2])]) (n := 40) h rfl

theorem xs_112_10 {m s : ps_S} {t : Int32} {d : Nat} {r0 : Nat} {r1 : Nat} {x2 : Int32} {Q : Option Value → ps_S → Prop} (h0 : ps_is r0 7 = true) (h1 : ps_is r1 7 = true) (J : xJ m t s) (k : ∀ (s' : ps_S), xJ m t s' → Q none s') : ps_At (d + 3) 112 10 [(0, .ref r0), (1, .ref r1), (2, .int x2)] [] s Q :=
  xs_up (P := fun x2 => ∀ (s : ps_S), ps_is r0 7 = true → ps_is r1 7 = true → xJ m t s → ps_At (d + 3) 112 10 [(0, .ref r0), (1, .ref r1), (2, .int x2)] [] s Q) (fun x2 ih s h0 h1 J => pg_112_10 (d := d + 2) (ps_nk_i h0 (And.intro (fun f1 => (k s J)) (fun f1 => (ps_nk_i h0 (xs_110 h0 J (fun v1 g1 => (ps_nk_i h1 (xs_110 h1 J (fun v2 g2 => (ps_nk_i g1 (xs_95 g1 g2 J (fun s3 J3 => (ps_nk_i h0 (ps_nk_i h1 (xs_182 (xk_7_2 h1) J3 (fun v4 => (xs_183 (xk_7_2 h0) J3 (fun s5 J5 e5 => (ps_nk_i h0 (ps_nk_i h1 (xs_182 (xk_7_3 h1) J5 (fun v6 => (xs_183 (xk_7_3 h0) J5 (fun s7 J7 e7 => (ps_nk_i h0 (ps_nk_i h1 (xs_182 (xk_7_4 h1) J7 (fun v8 => (xs_183 (xk_7_4 h0) J7 (fun s9 J9 e9 => (ih ((x2 + 1)) (xs_lt f1) s9 h0 h1 J9)))))))))))))))))))))))))))))))) x2 s h0 h1 J

theorem xs_112 {m s : ps_S} {t : Int32} {d : Nat} {r0 : Nat} {r1 : Nat} {f : ps_S → Prop} (h0 : ps_is r0 7 = true) (h1 : ps_is r1 7 = true) (J : xJ m t s) (k : ∀ (s' : ps_S), xJ m t s' → f s') : ps_Cl (d + 3) 112 [.ref r0, .ref r1] s (ps_rV f) :=
  pg_112_0 (d := d + 2) (ps_nk_i h1 (ps_nk_i h0 (xs_112_10 (d := d) (r0 := r0) (r1 := r1) (x2 := 0)  h0 h1 (xw_i (c := 7) (by decide) h0 J) k )))
end
section
set_option maxRecDepth 100000
-- ProofBench.boxAt(I)LProofBench$Shelf;
theorem pg_180_0 {d : Nat} {x1 : Int32} {s : ps_S} {Q : Option Value → ps_S → Prop} (h :
  (x1 < 0 →
    Q (some (.ref 870)) s) ∧
  (0 ≤ x1 →
    ((nI 3) ≤ x1 →
      Q (some (.ref 870)) s) ∧
    (x1 < (nI 3) →
      ps_nd (pm_in x1 3) (Q (some (.ref (ps_e0 901 (Int32.toNatClampNeg x1)))) s)))) : ps_At d 180 0 [(0, .ref 0), (1, .int x1)] [] s Q :=
  ps_wp_at (stops := []) (n := 21) h rfl

theorem xs_180 {m s : ps_S} {t : Int32} {d : Nat} {x1 : Int32} {f : Nat → ps_S → Prop} (J : xJ m t s) (k : ∀ (v : Nat), ps_is v 7 = true → f v s) : ps_Cl d 180 [.ref 0, .int x1] s (ps_rA f) :=
  pg_180_0 (And.intro (fun f1 => (k 870 ((rfl : ps_is 870 7 = true)))) (fun f1 => (And.intro (fun f2 => (k 870 ((rfl : ps_is 870 7 = true)))) (fun f2 => (ps_nd_i (xg_in f1 f2) (k (ps_e0 901 (Int32.toNatClampNeg x1)) ((xe_6 (r := 901) rfl (n := 3) (xg_in f1 f2)))))))))

-- ProofBench.theory()I
theorem pg_151_0 {d : Nat} {s : ps_S} {Q : Option Value → ps_S → Prop} (h :
  ps_Cl d 58 [.ref 902, .ref 1, .int (ps_i s 0 1), .ref (ps_r s 0 3)] s (ps_rI (fun v1 s1 =>
    (v1 ≠ 0 →
      ps_nk (ps_is (ps_r (ps_ur (ps_ur (ps_ui s1 0 1 0) 0 2 (ps_r (ps_ui s1 0 1 0) 0 3)) 0 3 (ps_r (ps_ui s1 0 1 0) 0 2)) 0 4) 2) (ps_Cl d 31 [.ref (ps_r (ps_ur (ps_ur (ps_ui s1 0 1 0) 0 2 (ps_r (ps_ui s1 0 1 0) 0 3)) 0 3 (ps_r (ps_ui s1 0 1 0) 0 2)) 0 4)] (ps_ur (ps_ur (ps_ui s1 0 1 0) 0 2 (ps_r (ps_ui s1 0 1 0) 0 3)) 0 3 (ps_r (ps_ui s1 0 1 0) 0 2)) (ps_rV (fun s2 =>
        ps_Cl d 108 [.ref 870] s2 (ps_rV (fun s3 =>
          ps_At (d + 1) 151 65 [(0, .ref 0), (3, .int 0)] [] s3 Q)))))) ∧
    (v1 = 0 →
      Q (some (.int (-1))) (ps_ui s1 0 1 0))))) : ps_At (d + 1) 151 0 [(0, .ref 0)] [] s Q :=
  ps_wp_at (stops := [(65, [0, 3])]) (n := 37) h rfl

theorem pg_151_65 {d : Nat} {x3 : Int32} {s : ps_S} {Q : Option Value → ps_S → Prop} (h :
  ((nI 3) ≤ x3 →
    ps_Cl d 91 [.ref 934] s (ps_rV (fun s1 =>
      ps_Cl d 81 [.ref 1021] s1 (ps_rV (fun s2 =>
        ps_Cl d 1 [.ref 944] s2 (ps_rV (fun s3 =>
          ps_nk (ps_is (ps_r s3 0 2) 9) (Q (some (.int (ps_i s3 (ps_r s3 0 2) 8))) s3)))))))) ∧
  (x3 < (nI 3) →
    ps_Cl d 180 [.ref 0, .int x3] s (ps_rA (fun v4 s4 =>
      ps_nk (ps_is v4 7) (ps_Cl d 108 [.ref v4] s4 (ps_rV (fun s5 =>
        ps_At (d + 1) 151 65 [(0, .ref 0), (3, .int (x3 + 1))] [] s5 Q))))))) : ps_At (d + 1) 151 65 [(0, .ref 0), (3, .int x3)] [] s Q :=
  ps_wp_at (stops := [(65, [0, 3])]) (n := 26) h rfl

theorem xs_151_65 {m s : ps_S} {t : Int32} {d : Nat} {x3 : Int32} {Q : Option Value → ps_S → Prop} (J : xJ m 0 s) (k : ∀ (v : Int32) (s' : ps_S), xJ m 0 s' → Q (some (.int v)) s') : ps_At (d + 40) 151 65 [(0, .ref 0), (3, .int x3)] [] s Q :=
  xs_up (P := fun x3 => ∀ (s : ps_S), xJ m 0 s → ps_At (d + 40) 151 65 [(0, .ref 0), (3, .int x3)] [] s Q) (fun x3 ih s J => pg_151_65 (d := d + 39) (And.intro (fun f1 => (xs_91 (rfl : ps_is 934 5 = true) J (fun s1 J1 => (xs_81 (rfl : ps_is 1021 4 = true) J1 (fun s2 J2 => (xs_1 (rfl : ps_is 944 0 = true) J2 (fun s3 J3 => (ps_nk_i (xj_11_2 J3 (rfl : ps_is 0 11 = true)) (k (ps_i s3 (ps_r s3 0 2) 8) s3 J3))))))))) (fun f1 => (xs_180  J (fun v4 g4 => (ps_nk_i g4 (xs_108 g4 J (fun s5 J5 => (ih ((x3 + 1)) (xs_lt f1) s5 J5))))))))) x3 s J

theorem xs_151 {m s : ps_S} {t : Int32} {d : Nat} {f : Int32 → ps_S → Prop} (J : xJ m t s) (k : ∀ (v : Int32) (s' : ps_S), xJ m 0 s' → f v s') : ps_Cl (d + 40) 151 [.ref 0] s (ps_rI f) :=
  pg_151_0 (d := d + 39) (xs_58 (rfl : ps_is 902 3 = true) (xq_a (r := 1) (t := 1) rfl rfl) (xj_11_3 J (rfl : ps_is 0 11 = true)) J (fun v1 s1 b1 J1 => (And.intro (fun f1 => (ps_nk_i (xj_11_4 (xw_11_3 (rfl : ps_is 0 11 = true) (xj_11_2 (xw_tape J1) (rfl : ps_is 0 11 = true)) (xw_11_2 (rfl : ps_is 0 11 = true) (xj_11_3 (xw_tape J1) (rfl : ps_is 0 11 = true)) (xw_tape J1))) (rfl : ps_is 0 11 = true)) (xs_31 (xj_11_4 (xw_11_3 (rfl : ps_is 0 11 = true) (xj_11_2 (xw_tape J1) (rfl : ps_is 0 11 = true)) (xw_11_2 (rfl : ps_is 0 11 = true) (xj_11_3 (xw_tape J1) (rfl : ps_is 0 11 = true)) (xw_tape J1))) (rfl : ps_is 0 11 = true)) (xw_11_3 (rfl : ps_is 0 11 = true) (xj_11_2 (xw_tape J1) (rfl : ps_is 0 11 = true)) (xw_11_2 (rfl : ps_is 0 11 = true) (xj_11_3 (xw_tape J1) (rfl : ps_is 0 11 = true)) (xw_tape J1))) (fun s2 J2 => (xs_108 (rfl : ps_is 870 7 = true) J2 (fun s3 J3 => (xs_151_65 (d := d) (t := 0) (x3 := 0)  J3 k ))))))) (fun f1 => (k (-1) (ps_ui s1 0 1 0) (xw_tape J1))))))

-- ProofBench.fault(I)I
theorem pg_152_0 {d : Nat} {x1 : Int32} {s : ps_S} {Q : Option Value → ps_S → Prop} (h :
  (x1 = 0 →
    Q (some (.int (ps_i s 902 9))) s) ∧
  (x1 ≠ 0 →
    (x1 = 1 →
    Q (some (.int (ps_i s 902 10))) s) ∧
  (x1 ≠ 1 →
    Q (some (.int (-1))) s))) : ps_At d 152 0 [(0, .ref 0), (1, .int x1)] [] s Q :=
  ps_wp_at (stops := []) (n := 14) h rfl

theorem xs_152 {m s : ps_S} {t : Int32} {d : Nat} {x1 : Int32} {f : Int32 → ps_S → Prop} (J : xJ m t s) (k : ∀ (v : Int32), f v s) : ps_Cl d 152 [.ref 0, .int x1] s (ps_rI f) :=
  pg_152_0 (And.intro (fun f1 => (k (ps_i s 902 9))) (fun f1 => (And.intro (fun f2 => (k (ps_i s 902 10))) (fun f2 => (k (-1))))))

-- ProofBench.prove()I
theorem pg_153_0 {d : Nat} {s : ps_S} {Q : Option Value → ps_S → Prop} (h :
  ps_Cl d 59 [.ref 902, .ref 1, .int (ps_i s 0 1), .ref (ps_r s 0 2), .ref (ps_r s 0 5)] s (ps_rI (fun v1 s1 =>
    (v1 ≠ 0 →
      ps_nk (ps_is (ps_r (ps_ur (ps_ur (ps_ui s1 0 1 0) 0 4 (ps_r (ps_ui s1 0 1 0) 0 5)) 0 5 (ps_r (ps_ui s1 0 1 0) 0 4)) 0 4) 2) (ps_Cl d 34 [.ref (ps_r (ps_ur (ps_ur (ps_ui s1 0 1 0) 0 4 (ps_r (ps_ui s1 0 1 0) 0 5)) 0 5 (ps_r (ps_ui s1 0 1 0) 0 4)) 0 4), .ref (ps_r (ps_ur (ps_ur (ps_ui s1 0 1 0) 0 4 (ps_r (ps_ui s1 0 1 0) 0 5)) 0 5 (ps_r (ps_ui s1 0 1 0) 0 4)) 0 2), .ref 870] (ps_ur (ps_ur (ps_ui s1 0 1 0) 0 4 (ps_r (ps_ui s1 0 1 0) 0 5)) 0 5 (ps_r (ps_ui s1 0 1 0) 0 4)) (ps_rV (fun s2 =>
        ps_nk (ps_is (ps_r s2 0 4) 2) (Q (some (.int (ps_i s2 (ps_r s2 0 4) 8))) s2))))) ∧
    (v1 = 0 →
      Q (some (.int (-1))) (ps_ui s1 0 1 0))))) : ps_At (d + 1) 153 0 [(0, .ref 0)] [] s Q :=
  ps_wp_at (stops := []) (n := 42) h rfl

theorem xs_153 {m s : ps_S} {t : Int32} {d : Nat} {f : Int32 → ps_S → Prop} (J : xJ m t s) (k : ∀ (v : Int32) (s' : ps_S), xJ m 0 s' → f v s') : ps_Cl (d + 40) 153 [.ref 0] s (ps_rI f) :=
  pg_153_0 (d := d + 39) (xs_59 (rfl : ps_is 902 3 = true) (xq_a (r := 1) (t := 1) rfl rfl) (xj_11_2 J (rfl : ps_is 0 11 = true)) (xj_11_5 J (rfl : ps_is 0 11 = true)) J (fun v1 s1 b1 J1 => (And.intro (fun f1 => (ps_nk_i (xj_11_4 (xw_11_5 (rfl : ps_is 0 11 = true) (xj_11_4 (xw_tape J1) (rfl : ps_is 0 11 = true)) (xw_11_4 (rfl : ps_is 0 11 = true) (xj_11_5 (xw_tape J1) (rfl : ps_is 0 11 = true)) (xw_tape J1))) (rfl : ps_is 0 11 = true)) (xs_34 (xj_11_4 (xw_11_5 (rfl : ps_is 0 11 = true) (xj_11_4 (xw_tape J1) (rfl : ps_is 0 11 = true)) (xw_11_4 (rfl : ps_is 0 11 = true) (xj_11_5 (xw_tape J1) (rfl : ps_is 0 11 = true)) (xw_tape J1))) (rfl : ps_is 0 11 = true)) (xj_11_2 (xw_11_5 (rfl : ps_is 0 11 = true) (xj_11_4 (xw_tape J1) (rfl : ps_is 0 11 = true)) (xw_11_4 (rfl : ps_is 0 11 = true) (xj_11_5 (xw_tape J1) (rfl : ps_is 0 11 = true)) (xw_tape J1))) (rfl : ps_is 0 11 = true)) (rfl : ps_is 870 7 = true) (xw_11_5 (rfl : ps_is 0 11 = true) (xj_11_4 (xw_tape J1) (rfl : ps_is 0 11 = true)) (xw_11_4 (rfl : ps_is 0 11 = true) (xj_11_5 (xw_tape J1) (rfl : ps_is 0 11 = true)) (xw_tape J1))) (fun s2 J2 => (ps_nk_i (xj_11_4 J2 (rfl : ps_is 0 11 = true)) (k (ps_i s2 (ps_r s2 0 4) 8) s2 J2)))))) (fun f1 => (k (-1) (ps_ui s1 0 1 0) (xw_tape J1))))))

-- ProofBench.refused(I)I
theorem pg_154_0 {d : Nat} {x1 : Int32} {s : ps_S} {Q : Option Value → ps_S → Prop} (h :
  ps_nk (ps_is (ps_r s 0 4) 2) (((ps_i s (ps_r s 0 4) 9) ≠ 0 →
    (x1 = 0 →
      ps_nk (ps_is (ps_r s 0 4) 2) (Q (some (.int (ps_i s (ps_r s 0 4) 8))) s)) ∧
    (x1 ≠ 0 →
      (x1 = 1 →
      ps_nk (ps_is (ps_r s 0 4) 2) (Q (some (.int (ps_i s (ps_r s 0 4) 9))) s)) ∧
    (x1 ≠ 1 →
      Q (some (.int (-1))) s))) ∧
  ((ps_i s (ps_r s 0 4) 9) = 0 →
    Q (some (.int (-1))) s))) : ps_At d 154 0 [(0, .ref 0), (1, .int x1)] [] s Q :=
  ps_wp_at (stops := []) (n := 20) h rfl

theorem xs_154 {m s : ps_S} {t : Int32} {d : Nat} {x1 : Int32} {f : Int32 → ps_S → Prop} (J : xJ m t s) (k : ∀ (v : Int32), f v s) : ps_Cl d 154 [.ref 0, .int x1] s (ps_rI f) :=
  pg_154_0 (ps_nk_i (xj_11_4 J (rfl : ps_is 0 11 = true)) (And.intro (fun f1 => (And.intro (fun f2 => (ps_nk_i (xj_11_4 J (rfl : ps_is 0 11 = true)) (k (ps_i s (ps_r s 0 4) 8)))) (fun f2 => (And.intro (fun f3 => (ps_nk_i (xj_11_4 J (rfl : ps_is 0 11 = true)) (k (ps_i s (ps_r s 0 4) 9)))) (fun f3 => (k (-1))))))) (fun f1 => (k (-1)))))

-- ProofBench.step(II)I
theorem pg_155_0 {d : Nat} {x1 : Int32} {x2 : Int32} {s : ps_S} {Q : Option Value → ps_S → Prop} (h :
  ps_nk (ps_is (ps_r s 0 4) 2) (ps_Cl d 32 [.ref (ps_r s 0 4), .int x1] s (ps_rI (fun v1 s1 =>
    (v1 ≠ 0 →
      ps_nk (ps_is (ps_r s1 0 4) 2) (ps_Cl d 33 [.ref (ps_r s1 0 4), .int x1] s1 (ps_rA (fun v2 s2 =>
        (x2 = 0 →
          ps_nk (ps_is v2 8) (ps_nk (ps_is (ps_c0 v2 6) 5) (Q (some (.int (ps_i s2 (ps_c0 v2 6) 1))) s2))) ∧
        (x2 ≠ 0 →
          (x2 = 1 →
          ps_nk (ps_is v2 8) (Q (some (.int (ps_i s2 v2 8))) s2)) ∧
        (x2 ≠ 1 →
          (x2 = 2 →
          ps_nk (ps_is v2 8) (Q (some (.int (ps_i s2 v2 10))) s2)) ∧
        (x2 ≠ 2 →
          (x2 = 3 →
          ps_nk (ps_is v2 8) (Q (some (.int (ps_i s2 v2 11))) s2)) ∧
        (x2 ≠ 3 →
          Q (some (.int (-1))) s2)))))))) ∧
    (v1 = 0 →
      Q (some (.int (-1))) s1))))) : ps_At (d + 1) 155 0 [(0, .ref 0), (1, .int x1), (2, .int x2)] [] s Q :=
  ps_wp_at (stops := []) (n := 31) h rfl

theorem xs_155 {m s : ps_S} {t : Int32} {d : Nat} {x1 : Int32} {x2 : Int32} {f : Int32 → ps_S → Prop} (J : xJ m t s) (k : ∀ (v : Int32), f v s) : ps_Cl (d + 1) 155 [.ref 0, .int x1, .int x2] s (ps_rI f) :=
  pg_155_0 (d := d) (ps_nk_i (xj_11_4 J (rfl : ps_is 0 11 = true)) (xs_32 (xj_11_4 J (rfl : ps_is 0 11 = true)) J (fun v1 b1 => (And.intro (fun f1 => (ps_nk_i (xj_11_4 J (rfl : ps_is 0 11 = true)) (xs_33 (xj_11_4 J (rfl : ps_is 0 11 = true)) J (fun v2 g2 => (And.intro (fun f2 => (ps_nk_i g2 (ps_nk_i (xk_8_6 g2) (k (ps_i s (ps_c0 v2 6) 1))))) (fun f2 => (And.intro (fun f3 => (ps_nk_i g2 (k (ps_i s v2 8)))) (fun f3 => (And.intro (fun f4 => (ps_nk_i g2 (k (ps_i s v2 10)))) (fun f4 => (And.intro (fun f5 => (ps_nk_i g2 (k (ps_i s v2 11)))) (fun f5 => (k (-1)))))))))))))) (fun f1 => (k (-1)))))))

-- ProofBench.line(II)I
theorem pg_156_0 {d : Nat} {x1 : Int32} {x2 : Int32} {s : ps_S} {Q : Option Value → ps_S → Prop} (h :
  ps_nk (ps_is (ps_r s 0 4) 2) (ps_Cl d 32 [.ref (ps_r s 0 4), .int x1] s (ps_rI (fun v1 s1 =>
    (v1 = 0 →
      Q (some (.int (-1))) s1) ∧
    (v1 ≠ 0 →
      ps_nk (ps_is (ps_r s1 0 4) 2) (ps_Cl d 33 [.ref (ps_r s1 0 4), .int x1] s1 (ps_rA (fun v2 s2 =>
        ps_nk (ps_is v2 8) (ps_nk (ps_is (ps_c0 v2 6) 5) (ps_Cl d 92 [.ref (ps_c0 v2 6), .int x2] s2 (ps_rI (fun v3 s3 =>
          Q (some (.int v3)) s3)))))))))))) : ps_At (d + 1) 156 0 [(0, .ref 0), (1, .int x1), (2, .int x2)] [] s Q :=
  ps_wp_at (stops := []) (n := 18) h rfl

theorem xs_156 {m s : ps_S} {t : Int32} {d : Nat} {x1 : Int32} {x2 : Int32} {f : Int32 → ps_S → Prop} (J : xJ m t s) (k : ∀ (v : Int32), f v s) : ps_Cl (d + 1) 156 [.ref 0, .int x1, .int x2] s (ps_rI f) :=
  pg_156_0 (d := d) (ps_nk_i (xj_11_4 J (rfl : ps_is 0 11 = true)) (xs_32 (xj_11_4 J (rfl : ps_is 0 11 = true)) J (fun v1 b1 => (And.intro (fun f1 => (k (-1))) (fun f1 => (ps_nk_i (xj_11_4 J (rfl : ps_is 0 11 = true)) (xs_33 (xj_11_4 J (rfl : ps_is 0 11 = true)) J (fun v2 g2 => (ps_nk_i g2 (ps_nk_i (xk_8_6 g2) (xs_92 (xk_8_6 g2) J (fun v3 => (k v3)))))))))))))

-- ProofBench.assumed(III)I
theorem pg_157_0 {d : Nat} {x1 : Int32} {x2 : Int32} {x3 : Int32} {s : ps_S} {Q : Option Value → ps_S → Prop} (h :
  ps_nk (ps_is (ps_r s 0 4) 2) (ps_Cl d 32 [.ref (ps_r s 0 4), .int x1] s (ps_rI (fun v1 s1 =>
    (v1 ≠ 0 →
      ps_nk (ps_is (ps_r s1 0 4) 2) (ps_Cl d 33 [.ref (ps_r s1 0 4), .int x1] s1 (ps_rA (fun v2 s2 =>
        ps_nk (ps_is v2 8) (ps_Cl d 122 [.ref v2, .int x2] s2 (ps_rI (fun v3 s3 =>
          (v3 ≠ (-1) →
            ps_nk (ps_is (ps_r s3 0 4) 2) (ps_Cl d 33 [.ref (ps_r s3 0 4), .int v3] s3 (ps_rA (fun v4 s4 =>
              ps_nk (ps_is v4 8) (ps_nk (ps_is (ps_c0 v4 6) 5) (ps_Cl d 92 [.ref (ps_c0 v4 6), .int x3] s4 (ps_rI (fun v5 s5 =>
                Q (some (.int v5)) s5)))))))) ∧
          (v3 = (-1) →
            Q (some (.int (-1))) s3)))))))) ∧
    (v1 = 0 →
      Q (some (.int (-1))) s1))))) : ps_At (d + 1) 157 0 [(0, .ref 0), (1, .int x1), (2, .int x2), (3, .int x3)] [] s Q :=
  ps_wp_at (stops := []) (n := 30) h rfl

theorem xs_157 {m s : ps_S} {t : Int32} {d : Nat} {x1 : Int32} {x2 : Int32} {x3 : Int32} {f : Int32 → ps_S → Prop} (J : xJ m t s) (k : ∀ (v : Int32), f v s) : ps_Cl (d + 2) 157 [.ref 0, .int x1, .int x2, .int x3] s (ps_rI f) :=
  pg_157_0 (d := d + 1) (ps_nk_i (xj_11_4 J (rfl : ps_is 0 11 = true)) (xs_32 (xj_11_4 J (rfl : ps_is 0 11 = true)) J (fun v1 b1 => (And.intro (fun f1 => (ps_nk_i (xj_11_4 J (rfl : ps_is 0 11 = true)) (xs_33 (xj_11_4 J (rfl : ps_is 0 11 = true)) J (fun v2 g2 => (ps_nk_i g2 (xs_122 g2 J (fun v3 => (And.intro (fun f2 => (ps_nk_i (xj_11_4 J (rfl : ps_is 0 11 = true)) (xs_33 (xj_11_4 J (rfl : ps_is 0 11 = true)) J (fun v4 g4 => (ps_nk_i g4 (ps_nk_i (xk_8_6 g4) (xs_92 (xk_8_6 g4) J (fun v5 => (k v5))))))))) (fun f2 => (k (-1))))))))))) (fun f1 => (k (-1)))))))

-- ProofBench.keep()I
theorem pg_158_0 {d : Nat} {s : ps_S} {Q : Option Value → ps_S → Prop} (h :
  ps_nk (ps_is (ps_r s 0 4) 2) (((ps_i s (ps_r s 0 4) 9) ≠ 0 →
    Q (some (.int (-1))) s) ∧
  ((ps_i s (ps_r s 0 4) 9) = 0 →
    ps_nk (ps_is (ps_r s 0 4) 2) (((ps_i s (ps_r s 0 4) 8) ≠ 0 →
      ps_nk (ps_is (ps_r s 0 4) 2) (ps_nk (ps_is (ps_r s 0 4) 2) (ps_Cl d 33 [.ref (ps_r s 0 4), .int ((ps_i s (ps_r s 0 4) 8) - 1)] s (ps_rA (fun v1 s1 =>
        ps_nk (ps_is v1 8) ((0 < (ps_i s1 v1 8) →
          Q (some (.int (-1))) s1) ∧
        ((ps_i s1 v1 8) ≤ 0 →
          ps_nk (ps_is v1 8) (ps_nk (ps_is (ps_c0 v1 6) 5) (ps_Cl d 101 [.ref (ps_c0 v1 6)] s1 (ps_rI (fun v2 s2 =>
            (v2 = 0 →
              ps_Cl d 111 [.ref 870, .ref v1] s2 (ps_rI (fun v3 s3 =>
                Q (some (.int v3)) s3))) ∧
            (v2 ≠ 0 →
              Q (some (.int (-1))) s2)))))))))))) ∧
    ((ps_i s (ps_r s 0 4) 8) = 0 →
      Q (some (.int (-1))) s))))) : ps_At (d + 1) 158 0 [(0, .ref 0)] [] s Q :=
  ps_wp_at (stops := []) (n := 39) h rfl

theorem xs_158 {m s : ps_S} {t : Int32} {d : Nat} {f : Int32 → ps_S → Prop} (J : xJ m t s) (k : ∀ (v : Int32) (s' : ps_S), xJ m t s' → f v s') : ps_Cl (d + 4) 158 [.ref 0] s (ps_rI f) :=
  pg_158_0 (d := d + 3) (ps_nk_i (xj_11_4 J (rfl : ps_is 0 11 = true)) (And.intro (fun f1 => (k (-1) s J)) (fun f1 => (ps_nk_i (xj_11_4 J (rfl : ps_is 0 11 = true)) (And.intro (fun f2 => (ps_nk_i (xj_11_4 J (rfl : ps_is 0 11 = true)) (ps_nk_i (xj_11_4 J (rfl : ps_is 0 11 = true)) (xs_33 (xj_11_4 J (rfl : ps_is 0 11 = true)) J (fun v1 g1 => (ps_nk_i g1 (And.intro (fun f3 => (k (-1) s J)) (fun f3 => (ps_nk_i g1 (ps_nk_i (xk_8_6 g1) (xs_101 (xk_8_6 g1) J (fun v2 b2 => (And.intro (fun f4 => (xs_111 (rfl : ps_is 870 7 = true) g1 J (fun v3 s3 J3 => (k v3 s3 J3)))) (fun f4 => (k (-1) s J))))))))))))))) (fun f2 => (k (-1) s J)))))))

-- ProofBench.theorem(II)I
theorem pg_159_0 {d : Nat} {x1 : Int32} {x2 : Int32} {s : ps_S} {Q : Option Value → ps_S → Prop} (h :
  ps_Cl d 109 [.ref 870, .int x1] s (ps_rI (fun v1 s1 =>
    (v1 = 0 →
      Q (some (.int (-1))) s1) ∧
    (v1 ≠ 0 →
      ps_Cl d 110 [.ref 870, .int x1] s1 (ps_rA (fun v2 s2 =>
        ps_nk (ps_is v2 5) (ps_Cl d 92 [.ref v2, .int x2] s2 (ps_rI (fun v3 s3 =>
          Q (some (.int v3)) s3))))))))) : ps_At (d + 1) 159 0 [(0, .ref 0), (1, .int x1), (2, .int x2)] [] s Q :=
  ps_wp_at (stops := []) (n := 17) h rfl

theorem xs_159 {m s : ps_S} {t : Int32} {d : Nat} {x1 : Int32} {x2 : Int32} {f : Int32 → ps_S → Prop} (J : xJ m t s) (k : ∀ (v : Int32), f v s) : ps_Cl (d + 1) 159 [.ref 0, .int x1, .int x2] s (ps_rI f) :=
  pg_159_0 (d := d) (xs_109 (rfl : ps_is 870 7 = true) J (fun v1 b1 => (And.intro (fun f1 => (k (-1))) (fun f1 => (xs_110 (rfl : ps_is 870 7 = true) J (fun v2 g2 => (ps_nk_i g2 (xs_92 g2 J (fun v3 => (k v3))))))))))

-- ProofBench.leans(II)I
theorem pg_160_0 {d : Nat} {x1 : Int32} {x2 : Int32} {s : ps_S} {Q : Option Value → ps_S → Prop} (h :
  ps_Cl d 109 [.ref 870, .int x1] s (ps_rI (fun v1 s1 =>
    (v1 ≠ 0 →
      (x2 = 0 →
        ps_Cl d 182 [.ref 874, .int x1] s1 (ps_rI (fun v2 s2 =>
          Q (some (.int v2)) s2))) ∧
      (x2 ≠ 0 →
        (x2 = 1 →
        ps_Cl d 182 [.ref 875, .int x1] s1 (ps_rI (fun v3 s3 =>
          Q (some (.int v3)) s3))) ∧
      (x2 ≠ 1 →
        (x2 = 2 →
        ps_Cl d 182 [.ref 876, .int x1] s1 (ps_rI (fun v4 s4 =>
          Q (some (.int v4)) s4))) ∧
      (x2 ≠ 2 →
        Q (some (.int (-1))) s1)))) ∧
    (v1 = 0 →
      Q (some (.int (-1))) s1)))) : ps_At (d + 1) 160 0 [(0, .ref 0), (1, .int x1), (2, .int x2)] [] s Q :=
  ps_wp_at (stops := []) (n := 31) h rfl

theorem xs_160 {m s : ps_S} {t : Int32} {d : Nat} {x1 : Int32} {x2 : Int32} {f : Int32 → ps_S → Prop} (J : xJ m t s) (k : ∀ (v : Int32), f v s) : ps_Cl (d + 1) 160 [.ref 0, .int x1, .int x2] s (ps_rI f) :=
  pg_160_0 (d := d) (xs_109 (rfl : ps_is 870 7 = true) J (fun v1 b1 => (And.intro (fun f1 => (And.intro (fun f2 => (xs_182 (xq_a (r := 874) (t := 0) rfl rfl) J (fun v2 => (k v2)))) (fun f2 => (And.intro (fun f3 => (xs_182 (xq_a (r := 875) (t := 0) rfl rfl) J (fun v3 => (k v3)))) (fun f3 => (And.intro (fun f4 => (xs_182 (xq_a (r := 876) (t := 0) rfl rfl) J (fun v4 => (k v4)))) (fun f4 => (k (-1))))))))) (fun f1 => (k (-1))))))

-- ProofBench.drop()I
theorem pg_161_0 {d : Nat} {s : ps_S} {Q : Option Value → ps_S → Prop} (h :
  (0 < (ps_i s 870 5) →
    ps_nk (ps_is (ps_r (ps_ui s 870 5 ((ps_i s 870 5) - 1)) 0 4) 2) (ps_Cl d 31 [.ref (ps_r (ps_ui s 870 5 ((ps_i s 870 5) - 1)) 0 4)] (ps_ui s 870 5 ((ps_i s 870 5) - 1)) (ps_rV (fun s1 =>
      Q (some (.int (ps_i s1 870 5))) s1)))) ∧
  ((ps_i s 870 5) ≤ 0 →
    Q (some (.int (-1))) s)) : ps_At (d + 1) 161 0 [(0, .ref 0)] [] s Q :=
  ps_wp_at (stops := []) (n := 22) h rfl

theorem xs_161 {m s : ps_S} {t : Int32} {d : Nat} {f : Int32 → ps_S → Prop} (J : xJ m t s) (k : ∀ (v : Int32) (s' : ps_S), xJ m t s' → f v s') : ps_Cl (d + 1) 161 [.ref 0] s (ps_rI f) :=
  pg_161_0 (d := d) (And.intro (fun f1 => (ps_nk_i (xj_11_4 (xw_i (c := 7) (by decide) (rfl : ps_is 870 7 = true) J) (rfl : ps_is 0 11 = true)) (xs_31 (xj_11_4 (xw_i (c := 7) (by decide) (rfl : ps_is 870 7 = true) J) (rfl : ps_is 0 11 = true)) (xw_i (c := 7) (by decide) (rfl : ps_is 870 7 = true) J) (fun s1 J1 => (k (ps_i s1 870 5) s1 J1))))) (fun f1 => (k (-1) s J)))

-- ProofBench.read()I
theorem pg_162_0 {d : Nat} {s : ps_S} {Q : Option Value → ps_S → Prop} (h :
  ps_Cl d 60 [.ref 902, .ref 1, .int (ps_i s 0 1), .ref (ps_r s 0 2), .ref 934, .int 0] s (ps_rI (fun v1 s1 =>
    (v1 ≠ 0 →
      Q (some (.int (ps_i (ps_ui s1 0 1 0) 934 1))) (ps_ui s1 0 1 0)) ∧
    (v1 = 0 →
      ps_Cl d 91 [.ref 934] (ps_ui s1 0 1 0) (ps_rV (fun s2 =>
        Q (some (.int (-1))) s2)))))) : ps_At (d + 1) 162 0 [(0, .ref 0)] [] s Q :=
  ps_wp_at (stops := []) (n := 29) h rfl

theorem xs_162 {m s : ps_S} {t : Int32} {d : Nat} {f : Int32 → ps_S → Prop} (J : xJ m t s) (k : ∀ (v : Int32) (s' : ps_S), xJ m 0 s' → f v s') : ps_Cl (d + 39) 162 [.ref 0] s (ps_rI f) :=
  pg_162_0 (d := d + 38) (xs_60 (rfl : ps_is 902 3 = true) (xq_a (r := 1) (t := 1) rfl rfl) (xj_11_2 J (rfl : ps_is 0 11 = true)) (rfl : ps_is 934 5 = true) J (fun v1 s1 b1 J1 => (And.intro (fun f1 => (k (ps_i (ps_ui s1 0 1 0) 934 1) (ps_ui s1 0 1 0) (xw_tape J1))) (fun f1 => (xs_91 (rfl : ps_is 934 5 = true) (xw_tape J1) (fun s2 J2 => (k (-1) s2 J2)))))))

-- ProofBench.piece(I)I
theorem pg_163_0 {d : Nat} {x1 : Int32} {s : ps_S} {Q : Option Value → ps_S → Prop} (h :
  ps_Cl d 92 [.ref 934, .int x1] s (ps_rI (fun v1 s1 =>
    Q (some (.int v1)) s1))) : ps_At (d + 1) 163 0 [(0, .ref 0), (1, .int x1)] [] s Q :=
  ps_wp_at (stops := []) (n := 7) h rfl

theorem xs_163 {m s : ps_S} {t : Int32} {d : Nat} {x1 : Int32} {f : Int32 → ps_S → Prop} (J : xJ m t s) (k : ∀ (v : Int32), f v s) : ps_Cl (d + 1) 163 [.ref 0, .int x1] s (ps_rI f) :=
  pg_163_0 (d := d) (xs_92 (rfl : ps_is 934 5 = true) J (fun v1 => (k v1)))

-- ProofBench.alike()I
theorem pg_164_0 {d : Nat} {s : ps_S} {Q : Option Value → ps_S → Prop} (h :
  ps_At (d + 1) 164 2 [(0, .ref 0), (1, .int 0)] [] s Q) : ps_At (d + 1) 164 0 [(0, .ref 0)] [] s Q :=
  ps_wp_at (stops := [(2, [0, 1])]) (n := 4) h rfl

theorem pg_164_2 {d : Nat} {x1 : Int32} {s : ps_S} {Q : Option Value → ps_S → Prop} (h :
  ps_nk (ps_is (ps_r s 0 4) 2) (((ps_i s (ps_r s 0 4) 8) ≤ x1 →
    Q (some (.int (-1))) s) ∧
  (x1 < (ps_i s (ps_r s 0 4) 8) →
    ps_nk (ps_is (ps_r s 0 4) 2) (ps_Cl d 33 [.ref (ps_r s 0 4), .int x1] s (ps_rA (fun v1 s1 =>
      ps_nk (ps_is v1 8) (ps_nk (ps_is (ps_c0 v1 6) 5) (ps_Cl d 98 [.ref (ps_c0 v1 6), .ref 934] s1 (ps_rI (fun v2 s2 =>
        (v2 = 0 →
          ps_At (d + 1) 164 2 [(0, .ref 0), (1, .int (x1 + 1))] [] s2 Q) ∧
        (v2 ≠ 0 →
          Q (some (.int x1)) s2))))))))))) : ps_At (d + 1) 164 2 [(0, .ref 0), (1, .int x1)] [] s Q :=
  ps_wp_at (stops := [(2, [0, 1])]) (n := 22) h rfl

theorem xs_164_2 {m s : ps_S} {t : Int32} {d : Nat} {x1 : Int32} {Q : Option Value → ps_S → Prop} (J : xJ m t s) (k : ∀ (v : Int32), Q (some (.int v)) s) : ps_At (d + 2) 164 2 [(0, .ref 0), (1, .int x1)] [] s Q :=
  xs_up (P := fun x1 => ps_At (d + 2) 164 2 [(0, .ref 0), (1, .int x1)] [] s Q) (fun x1 ih  => pg_164_2 (d := d + 1) (ps_nk_i (xj_11_4 J (rfl : ps_is 0 11 = true)) (And.intro (fun f1 => (k (-1))) (fun f1 => (ps_nk_i (xj_11_4 J (rfl : ps_is 0 11 = true)) (xs_33 (xj_11_4 J (rfl : ps_is 0 11 = true)) J (fun v1 g1 => (ps_nk_i g1 (ps_nk_i (xk_8_6 g1) (xs_98 (xk_8_6 g1) (rfl : ps_is 934 5 = true) J (fun v2 b2 => (And.intro (fun f2 => (ih ((x1 + 1)) (xs_lt f1) )) (fun f2 => (k x1)))))))))))))) x1 

theorem xs_164 {m s : ps_S} {t : Int32} {d : Nat} {f : Int32 → ps_S → Prop} (J : xJ m t s) (k : ∀ (v : Int32), f v s) : ps_Cl (d + 2) 164 [.ref 0] s (ps_rI f) :=
  pg_164_0 (d := d + 1) (xs_164_2 (d := d) (x1 := 0)  J k )

-- ProofBench.needs(I)J
theorem pg_165_0 {d : Nat} {x1 : Int32} {s : ps_S} {Q : Option Value → ps_S → Prop} (h :
  ps_nk (ps_is (ps_r s 0 4) 2) (ps_Cl d 32 [.ref (ps_r s 0 4), .int x1] s (ps_rI (fun v1 s1 =>
    (v1 = 0 →
      Q (some (.long (-1 : Int64))) s1) ∧
    (v1 ≠ 0 →
      ps_nk (ps_is (ps_r s1 0 4) 2) (ps_Cl d 33 [.ref (ps_r s1 0 4), .int x1] s1 (ps_rA (fun v2 s2 =>
        ps_nk (ps_is v2 8) (Q (some (.long (ps_j s2 v2 12))) s2))))))))) : ps_At (d + 1) 165 0 [(0, .ref 0), (1, .int x1)] [] s Q :=
  ps_wp_at (stops := []) (n := 16) h rfl

theorem xs_165 {m s : ps_S} {t : Int32} {d : Nat} {x1 : Int32} {f : Int64 → ps_S → Prop} (J : xJ m t s) (k : ∀ (v : Int64), f v s) : ps_Cl (d + 1) 165 [.ref 0, .int x1] s (ps_rJ f) :=
  pg_165_0 (d := d) (ps_nk_i (xj_11_4 J (rfl : ps_is 0 11 = true)) (xs_32 (xj_11_4 J (rfl : ps_is 0 11 = true)) J (fun v1 b1 => (And.intro (fun f1 => (k (-1 : Int64))) (fun f1 => (ps_nk_i (xj_11_4 J (rfl : ps_is 0 11 = true)) (xs_33 (xj_11_4 J (rfl : ps_is 0 11 = true)) J (fun v2 g2 => (ps_nk_i g2 (k (ps_j s v2 12)))))))))))

-- ProofBench.letters()I
theorem pg_166_0 {d : Nat} {s : ps_S} {Q : Option Value → ps_S → Prop} (h :
  ((ps_i s 934 1) ≠ 0 →
    ps_Cl d 21 [.ref 936, .ref 934, .ref (ps_r s 0 2)] s (ps_rV (fun s1 =>
      Q (some (.int (ps_i s1 936 4))) s1))) ∧
  ((ps_i s 934 1) = 0 →
    Q (some (.int (-1))) s)) : ps_At (d + 1) 166 0 [(0, .ref 0)] [] s Q :=
  ps_wp_at (stops := []) (n := 19) h rfl

theorem xs_166 {m s : ps_S} {t : Int32} {d : Nat} {f : Int32 → ps_S → Prop} (J : xJ m t s) (k : ∀ (v : Int32) (s' : ps_S), xJ m t s' → f v s') : ps_Cl (d + 4) 166 [.ref 0] s (ps_rI f) :=
  pg_166_0 (d := d + 3) (And.intro (fun f1 => (xs_21 (rfl : ps_is 936 1 = true) (rfl : ps_is 934 5 = true) (xj_11_2 J (rfl : ps_is 0 11 = true)) J (fun s1 J1 => (k (ps_i s1 936 4) s1 J1)))) (fun f1 => (k (-1) s J)))

-- ProofBench.table()I
theorem pg_167_0 {d : Nat} {s : ps_S} {Q : Option Value → ps_S → Prop} (h :
  ((ps_i s 934 1) ≠ 0 →
    ps_Cl d 21 [.ref 936, .ref 934, .ref (ps_r s 0 2)] s (ps_rV (fun s1 =>
      ((ps_i s1 936 4) ≤ 12 →
        ps_Cl d 23 [.ref 936] s1 (ps_rI (fun v2 s2 =>
          Q (some (.int v2)) s2))) ∧
      (12 < (ps_i s1 936 4) →
        Q (some (.int (-2))) s1)))) ∧
  ((ps_i s 934 1) = 0 →
    Q (some (.int (-1))) s)) : ps_At (d + 1) 167 0 [(0, .ref 0)] [] s Q :=
  ps_wp_at (stops := []) (n := 27) h rfl

theorem xs_167 {m s : ps_S} {t : Int32} {d : Nat} {f : Int32 → ps_S → Prop} (J : xJ m t s) (k : ∀ (v : Int32) (s' : ps_S), xJ m t s' → f v s') : ps_Cl (d + 4) 167 [.ref 0] s (ps_rI f) :=
  pg_167_0 (d := d + 3) (And.intro (fun f1 => (xs_21 (rfl : ps_is 936 1 = true) (rfl : ps_is 934 5 = true) (xj_11_2 J (rfl : ps_is 0 11 = true)) J (fun s1 J1 => (And.intro (fun f2 => (xs_23 (rfl : ps_is 936 1 = true) J1 (fun v2 s2 J2 => (k v2 s2 J2)))) (fun f2 => (k (-2) s1 J1)))))) (fun f1 => (k (-1) s J)))

-- ProofBench.row()I
theorem pg_168_0 {d : Nat} {s : ps_S} {Q : Option Value → ps_S → Prop} (h :
  ((ps_i s 934 1) ≠ 0 →
    ps_Cl d 21 [.ref 936, .ref 934, .ref (ps_r s 0 2)] s (ps_rV (fun s1 =>
      ((ps_i s1 936 4) ≤ 12 →
        ps_Cl d 24 [.ref 936] s1 (ps_rI (fun v2 s2 =>
          Q (some (.int v2)) s2))) ∧
      (12 < (ps_i s1 936 4) →
        Q (some (.int (-2))) s1)))) ∧
  ((ps_i s 934 1) = 0 →
    Q (some (.int (-1))) s)) : ps_At (d + 1) 168 0 [(0, .ref 0)] [] s Q :=
  ps_wp_at (stops := []) (n := 27) h rfl

theorem xs_168 {m s : ps_S} {t : Int32} {d : Nat} {f : Int32 → ps_S → Prop} (J : xJ m t s) (k : ∀ (v : Int32) (s' : ps_S), xJ m t s' → f v s') : ps_Cl (d + 4) 168 [.ref 0] s (ps_rI f) :=
  pg_168_0 (d := d + 3) (And.intro (fun f1 => (xs_21 (rfl : ps_is 936 1 = true) (rfl : ps_is 934 5 = true) (xj_11_2 J (rfl : ps_is 0 11 = true)) J (fun s1 J1 => (And.intro (fun f2 => (xs_24 (rfl : ps_is 936 1 = true) J1 (fun v2 s2 J2 => (k v2 s2 J2)))) (fun f2 => (k (-2) s1 J1)))))) (fun f1 => (k (-1) s J)))

-- ProofBench.rewrite()I
theorem pg_169_0 {d : Nat} {s : ps_S} {Q : Option Value → ps_S → Prop} (h :
  ps_Cl d 60 [.ref 902, .ref 1, .int (ps_i s 0 1), .ref (ps_r s 0 2), .ref 1022, .int 1] s (ps_rI (fun v1 s1 =>
    (v1 ≠ 0 →
      ps_Cl d 85 [.ref 1021, .ref (ps_r (ps_ui s1 0 1 0) 0 2)] (ps_ui s1 0 1 0) (ps_rI (fun v2 s2 =>
        Q (some (.int v2)) s2))) ∧
    (v1 = 0 →
      ps_Cl d 81 [.ref 1021] (ps_ui s1 0 1 0) (ps_rV (fun s3 =>
        Q (some (.int (-1))) s3)))))) : ps_At (d + 1) 169 0 [(0, .ref 0)] [] s Q :=
  ps_wp_at (stops := []) (n := 32) h rfl

theorem xs_169 {m s : ps_S} {t : Int32} {d : Nat} {f : Int32 → ps_S → Prop} (J : xJ m t s) (k : ∀ (v : Int32) (s' : ps_S), xJ m 0 s' → f v s') : ps_Cl (d + 39) 169 [.ref 0] s (ps_rI f) :=
  pg_169_0 (d := d + 38) (xs_60 (rfl : ps_is 902 3 = true) (xq_a (r := 1) (t := 1) rfl rfl) (xj_11_2 J (rfl : ps_is 0 11 = true)) (rfl : ps_is 1022 5 = true) J (fun v1 s1 b1 J1 => (And.intro (fun f1 => (xs_85 (rfl : ps_is 1021 4 = true) (xj_11_2 (xw_tape J1) (rfl : ps_is 0 11 = true)) (xw_tape J1) (fun v2 s2 J2 => (k v2 s2 J2)))) (fun f1 => (xs_81 (rfl : ps_is 1021 4 = true) (xw_tape J1) (fun s3 J3 => (k (-1) s3 J3)))))))

-- ProofBench.normal(I)I
theorem pg_170_0 {d : Nat} {x1 : Int32} {s : ps_S} {Q : Option Value → ps_S → Prop} (h :
  ps_Cl d 92 [.ref 1022, .int x1] s (ps_rI (fun v1 s1 =>
    Q (some (.int v1)) s1))) : ps_At (d + 1) 170 0 [(0, .ref 0), (1, .int x1)] [] s Q :=
  ps_wp_at (stops := []) (n := 8) h rfl

theorem xs_170 {m s : ps_S} {t : Int32} {d : Nat} {x1 : Int32} {f : Int32 → ps_S → Prop} (J : xJ m t s) (k : ∀ (v : Int32), f v s) : ps_Cl (d + 1) 170 [.ref 0, .int x1] s (ps_rI f) :=
  pg_170_0 (d := d) (xs_92 (rfl : ps_is 1022 5 = true) J (fun v1 => (k v1)))

-- ProofBench.rules()I
theorem pg_171_0 {d : Nat} {s : ps_S} {Q : Option Value → ps_S → Prop} (h :
  ps_Cl d 82 [.ref 1021, .ref (ps_r s 0 2)] s (ps_rI (fun v1 s1 =>
    Q (some (.int v1)) s1))) : ps_At (d + 1) 171 0 [(0, .ref 0)] [] s Q :=
  ps_wp_at (stops := []) (n := 8) h rfl

theorem xs_171 {m s : ps_S} {t : Int32} {d : Nat} {f : Int32 → ps_S → Prop} (J : xJ m t s) (k : ∀ (v : Int32) (s' : ps_S), xJ m t s' → f v s') : ps_Cl (d + 4) 171 [.ref 0] s (ps_rI f) :=
  pg_171_0 (d := d + 3) (xs_82 (rfl : ps_is 1021 4 = true) (xj_11_2 J (rfl : ps_is 0 11 = true)) J (fun v1 s1 J1 => (k v1 s1 J1)))

-- ProofBench.areThings(I)Z
theorem pg_181_0 {d : Nat} {x0 : Int32} {s : ps_S} {Q : Option Value → ps_S → Prop} (h :
  (x0 < 1 →
    Q (some (.int 0)) s) ∧
  (1 ≤ x0 →
    (3 < x0 →
      Q (some (.int 0)) s) ∧
    (x0 ≤ 3 →
      Q (some (.int 1)) s))) : ps_At d 181 0 [(0, .int x0)] [] s Q :=
  ps_wp_at (stops := []) (n := 15) h rfl

theorem xs_181 {m s : ps_S} {t : Int32} {d : Nat} {x0 : Int32} {f : Int32 → ps_S → Prop} (J : xJ m t s) (k : ∀ (v : Int32), v &&& 1 = v → f v s) : ps_Cl d 181 [.int x0] s (ps_rI f) :=
  pg_181_0 (And.intro (fun f1 => (k 0 (by decide))) (fun f1 => (And.intro (fun f2 => (k 0 (by decide))) (fun f2 => (k 1 (by decide))))))

-- ProofBench.models(I)I
theorem pg_172_0 {d : Nat} {x1 : Int32} {s : ps_S} {Q : Option Value → ps_S → Prop} (h :
  ps_Cl d 181 [.int x1] s (ps_rI (fun v1 s1 =>
    (v1 = 0 →
      Q (some (.int (-1))) s1) ∧
    (v1 ≠ 0 →
      ps_Cl d 2 [.ref 944, .ref (ps_r s1 0 2), .int x1] s1 (ps_rI (fun v2 s2 =>
        Q (some (.int v2)) s2)))))) : ps_At (d + 1) 172 0 [(0, .ref 0), (1, .int x1)] [] s Q :=
  ps_wp_at (stops := []) (n := 15) h rfl

theorem xs_172 {m s : ps_S} {t : Int32} {d : Nat} {x1 : Int32} {f : Int32 → ps_S → Prop} (J : xJ m t s) (k : ∀ (v : Int32) (s' : ps_S), xJ m t s' → f v s') : ps_Cl (d + 4) 172 [.ref 0, .int x1] s (ps_rI f) :=
  pg_172_0 (d := d + 3) (xs_181  J (fun v1 b1 => (And.intro (fun f1 => (k (-1) s J)) (fun f1 => (xs_2 (rfl : ps_is 944 0 = true) (xj_11_2 J (rfl : ps_is 0 11 = true)) J (fun v2 s2 J2 => (k v2 s2 J2)))))))

-- ProofBench.hold(I)I
theorem pg_173_0 {d : Nat} {x1 : Int32} {s : ps_S} {Q : Option Value → ps_S → Prop} (h :
  ps_Cl d 181 [.int x1] s (ps_rI (fun v1 s1 =>
    (v1 = 0 →
      Q (some (.int (-1))) s1) ∧
    (v1 ≠ 0 →
      ps_Cl d 3 [.ref 944, .ref (ps_r s1 0 2), .int x1] s1 (ps_rI (fun v2 s2 =>
        Q (some (.int v2)) s2)))))) : ps_At (d + 1) 173 0 [(0, .ref 0), (1, .int x1)] [] s Q :=
  ps_wp_at (stops := []) (n := 15) h rfl

theorem xs_173 {m s : ps_S} {t : Int32} {d : Nat} {x1 : Int32} {f : Int32 → ps_S → Prop} (J : xJ m t s) (k : ∀ (v : Int32) (s' : ps_S), xJ m t s' → f v s') : ps_Cl (d + 40) 173 [.ref 0, .int x1] s (ps_rI f) :=
  pg_173_0 (d := d + 39) (xs_181  J (fun v1 b1 => (And.intro (fun f1 => (k (-1) s J)) (fun f1 => (xs_3 (rfl : ps_is 944 0 = true) (xj_11_2 J (rfl : ps_is 0 11 = true)) J (fun v2 s2 J2 => (k v2 s2 J2)))))))

-- ProofBench.holds(II)I
theorem pg_174_0 {d : Nat} {x1 : Int32} {x2 : Int32} {s : ps_S} {Q : Option Value → ps_S → Prop} (h :
  ps_Cl d 181 [.int x1] s (ps_rI (fun v1 s1 =>
    (v1 = 0 →
      Q (some (.int (-1))) s1) ∧
    (v1 ≠ 0 →
      (x2 < 0 →
        Q (some (.int (-1))) s1) ∧
      (0 ≤ x2 →
        ((ps_i s1 934 1) ≠ 0 →
          ps_Cl d 4 [.ref 944, .ref (ps_r s1 0 2), .ref 934, .int x1, .int x2] s1 (ps_rI (fun v2 s2 =>
            Q (some (.int v2)) s2))) ∧
        ((ps_i s1 934 1) = 0 →
          Q (some (.int (-1))) s1)))))) : ps_At (d + 1) 174 0 [(0, .ref 0), (1, .int x1), (2, .int x2)] [] s Q :=
  ps_wp_at (stops := []) (n := 27) h rfl

theorem xs_174 {m s : ps_S} {t : Int32} {d : Nat} {x1 : Int32} {x2 : Int32} {f : Int32 → ps_S → Prop} (J : xJ m t s) (k : ∀ (v : Int32) (s' : ps_S), xJ m t s' → f v s') : ps_Cl (d + 39) 174 [.ref 0, .int x1, .int x2] s (ps_rI f) :=
  pg_174_0 (d := d + 38) (xs_181  J (fun v1 b1 => (And.intro (fun f1 => (k (-1) s J)) (fun f1 => (And.intro (fun f2 => (k (-1) s J)) (fun f2 => (And.intro (fun f3 => (xs_4 (rfl : ps_is 944 0 = true) (xj_11_2 J (rfl : ps_is 0 11 = true)) (rfl : ps_is 934 5 = true) J (fun v2 s2 J2 => (k v2 s2 J2)))) (fun f3 => (k (-1) s J)))))))))

-- ProofBench.counter(I)I
theorem pg_175_0 {d : Nat} {x1 : Int32} {s : ps_S} {Q : Option Value → ps_S → Prop} (h :
  ps_Cl d 181 [.int x1] s (ps_rI (fun v1 s1 =>
    (v1 = 0 →
      Q (some (.int (-1))) s1) ∧
    (v1 ≠ 0 →
      ((ps_i s1 934 1) ≠ 0 →
        ps_Cl d 5 [.ref 944, .ref (ps_r s1 0 2), .ref 934, .int x1] s1 (ps_rI (fun v2 s2 =>
          Q (some (.int v2)) s2))) ∧
      ((ps_i s1 934 1) = 0 →
        Q (some (.int (-1))) s1))))) : ps_At (d + 1) 175 0 [(0, .ref 0), (1, .int x1)] [] s Q :=
  ps_wp_at (stops := []) (n := 22) h rfl

theorem xs_175 {m s : ps_S} {t : Int32} {d : Nat} {x1 : Int32} {f : Int32 → ps_S → Prop} (J : xJ m t s) (k : ∀ (v : Int32) (s' : ps_S), xJ m t s' → f v s') : ps_Cl (d + 40) 175 [.ref 0, .int x1] s (ps_rI f) :=
  pg_175_0 (d := d + 39) (xs_181  J (fun v1 b1 => (And.intro (fun f1 => (k (-1) s J)) (fun f1 => (And.intro (fun f2 => (xs_5 (rfl : ps_is 944 0 = true) (xj_11_2 J (rfl : ps_is 0 11 = true)) (rfl : ps_is 934 5 = true) J (fun v2 s2 J2 => (k v2 s2 J2)))) (fun f2 => (k (-1) s J)))))))

-- ProofBench.image(I)I
theorem pg_176_0 {d : Nat} {x1 : Int32} {s : ps_S} {Q : Option Value → ps_S → Prop} (h :
  (x1 < 0 →
    Q (some (.int (-1))) s) ∧
  (0 ≤ x1 →
    (x1 < (nI 3) →
      ps_Cl d 180 [.ref 0, .int x1] s (ps_rA (fun v1 s1 =>
        ps_nk (ps_is v1 7) (ps_Cl d 112 [.ref v1, .ref 870] s1 (ps_rV (fun s2 =>
          ps_Cl d 180 [.ref 0, .int x1] s2 (ps_rA (fun v3 s3 =>
            ps_nk (ps_is v3 7) (Q (some (.int (ps_i (ps_ui s3 v3 6 1) 870 5))) (ps_ui s3 v3 6 1)))))))))) ∧
    ((nI 3) ≤ x1 →
      Q (some (.int (-1))) s))) : ps_At (d + 1) 176 0 [(0, .ref 0), (1, .int x1)] [] s Q :=
  ps_wp_at (stops := []) (n := 28) h rfl

theorem xs_176 {m s : ps_S} {t : Int32} {d : Nat} {x1 : Int32} {f : Int32 → ps_S → Prop} (J : xJ m t s) (k : ∀ (v : Int32) (s' : ps_S), xJ m t s' → f v s') : ps_Cl (d + 4) 176 [.ref 0, .int x1] s (ps_rI f) :=
  pg_176_0 (d := d + 3) (And.intro (fun f1 => (k (-1) s J)) (fun f1 => (And.intro (fun f2 => (xs_180  J (fun v1 g1 => (ps_nk_i g1 (xs_112 g1 (rfl : ps_is 870 7 = true) J (fun s2 J2 => (xs_180  J2 (fun v3 g3 => (ps_nk_i g3 (k (ps_i (ps_ui s2 v3 6 1) 870 5) (ps_ui s2 v3 6 1) (xw_i (c := 7) (by decide) g3 J2))))))))))) (fun f2 => (k (-1) s J)))))

-- ProofBench.back(I)I
theorem pg_177_0 {d : Nat} {x1 : Int32} {s : ps_S} {Q : Option Value → ps_S → Prop} (h :
  (x1 < 0 →
    Q (some (.int (-1))) s) ∧
  (0 ≤ x1 →
    ((nI 3) ≤ x1 →
      Q (some (.int (-1))) s) ∧
    (x1 < (nI 3) →
      ps_Cl d 180 [.ref 0, .int x1] s (ps_rA (fun v1 s1 =>
        ps_nk (ps_is v1 7) (((ps_i s1 v1 6) ≠ 0 →
          ps_Cl d 180 [.ref 0, .int x1] s1 (ps_rA (fun v2 s2 =>
            ps_Cl d 112 [.ref 870, .ref v2] s2 (ps_rV (fun s3 =>
              ps_nk (ps_is (ps_r s3 0 4) 2) (ps_Cl d 31 [.ref (ps_r s3 0 4)] s3 (ps_rV (fun s4 =>
                Q (some (.int (ps_i s4 870 5))) s4)))))))) ∧
        ((ps_i s1 v1 6) = 0 →
          Q (some (.int (-1))) s1))))))) : ps_At (d + 1) 177 0 [(0, .ref 0), (1, .int x1)] [] s Q :=
  ps_wp_at (stops := []) (n := 33) h rfl

theorem xs_177 {m s : ps_S} {t : Int32} {d : Nat} {x1 : Int32} {f : Int32 → ps_S → Prop} (J : xJ m t s) (k : ∀ (v : Int32) (s' : ps_S), xJ m t s' → f v s') : ps_Cl (d + 4) 177 [.ref 0, .int x1] s (ps_rI f) :=
  pg_177_0 (d := d + 3) (And.intro (fun f1 => (k (-1) s J)) (fun f1 => (And.intro (fun f2 => (k (-1) s J)) (fun f2 => (xs_180  J (fun v1 g1 => (ps_nk_i g1 (And.intro (fun f3 => (xs_180  J (fun v2 g2 => (xs_112 (rfl : ps_is 870 7 = true) g2 J (fun s3 J3 => (ps_nk_i (xj_11_4 J3 (rfl : ps_is 0 11 = true)) (xs_31 (xj_11_4 J3 (rfl : ps_is 0 11 = true)) J3 (fun s4 J4 => (k (ps_i s4 870 5) s4 J4))))))))) (fun f3 => (k (-1) s J))))))))))

-- ProofBench.about(I)I
theorem pg_178_0 {d : Nat} {x1 : Int32} {s : ps_S} {Q : Option Value → ps_S → Prop} (h :
  (x1 = 0 →
    ps_nk (ps_is (ps_r s 0 2) 9) (Q (some (.int (ps_i s (ps_r s 0 2) 6))) s)) ∧
  (x1 ≠ 0 →
    (x1 = 1 →
    ps_nk (ps_is (ps_r s 0 2) 9) (Q (some (.int (ps_i s (ps_r s 0 2) 7))) s)) ∧
  (x1 ≠ 1 →
    (x1 = 2 →
    ps_nk (ps_is (ps_r s 0 2) 9) (Q (some (.int (ps_i s (ps_r s 0 2) 8))) s)) ∧
  (x1 ≠ 2 →
    (x1 = 3 →
    ps_nk (ps_is (ps_r s 0 4) 2) (Q (some (.int (ps_i s (ps_r s 0 4) 8))) s)) ∧
  (x1 ≠ 3 →
    (x1 = 4 →
    Q (some (.int (ps_i s 870 5))) s) ∧
  (x1 ≠ 4 →
    (x1 = 5 →
    Q (some (.int (ps_i s 0 1))) s) ∧
  (x1 ≠ 5 →
    (x1 = 6 →
    Q (some (.int (ps_i s 934 1))) s) ∧
  (x1 ≠ 6 →
    Q (some (.int (-1))) s)))))))) : ps_At d 178 0 [(0, .ref 0), (1, .int x1)] [] s Q :=
  ps_wp_at (stops := []) (n := 33) h rfl

theorem xs_178 {m s : ps_S} {t : Int32} {d : Nat} {x1 : Int32} {f : Int32 → ps_S → Prop} (J : xJ m t s) (k : ∀ (v : Int32), f v s) : ps_Cl d 178 [.ref 0, .int x1] s (ps_rI f) :=
  pg_178_0 (And.intro (fun f1 => (ps_nk_i (xj_11_2 J (rfl : ps_is 0 11 = true)) (k (ps_i s (ps_r s 0 2) 6)))) (fun f1 => (And.intro (fun f2 => (ps_nk_i (xj_11_2 J (rfl : ps_is 0 11 = true)) (k (ps_i s (ps_r s 0 2) 7)))) (fun f2 => (And.intro (fun f3 => (ps_nk_i (xj_11_2 J (rfl : ps_is 0 11 = true)) (k (ps_i s (ps_r s 0 2) 8)))) (fun f3 => (And.intro (fun f4 => (ps_nk_i (xj_11_4 J (rfl : ps_is 0 11 = true)) (k (ps_i s (ps_r s 0 4) 8)))) (fun f4 => (And.intro (fun f5 => (k (ps_i s 870 5))) (fun f5 => (And.intro (fun f6 => (k (ps_i s 0 1))) (fun f6 => (And.intro (fun f7 => (k (ps_i s 934 1))) (fun f7 => (k (-1))))))))))))))))
end
section
/-! THE REFERENCE'S SIDE: ranges of its fields and arrays, what a call leaves as it was -/
def m_fr : Nat → Option (Int × Int)
  | 3 => some (0, 1600)
  | 4 => some (0, 1600)
  | 5 => some (0, 6)
  | 7 => some (0, 1600)
  | 8 => some (0, 1601)
  | 9 => some (0, 5)
  | 10 => some (0, 9999)
  | 21 => some (0, 1)
  | 22 => some (0, 1)
  | 23 => some (0, 12)
  | 29 => some (0, 16)
  | 31 => some (0, 42)
  | 34 => some (0, 100000)
  | 42 => some (0, 40)
  | 47 => some (0, 40)
  | 48 => some (-1, 40)
  | 50 => some (0, 5)
  | 51 => some (0, 1000)
  | 54 => some (0, 12)
  | 59 => some (0, 40)
  | 60 => some (0, 40)
  | 63 => some (0, 41)
  | 64 => some (0, 41)
  | 65 => some (0, 41)
  | 73 => some (0, 96)
  | _ => none
def m_ar : Nat → Option (Nat × Int × Int)
  | 1135 => some (2, 0, 6)
  | 1136 => some (2, 0, 4)
  | 1137 => some (2, 0, 8)
  | 1138 => some (12, 0, 9999)
  | 1139 => some (8, 0, 9999)
  | 1152 => some (40, 0, 18)
  | 1153 => some (40, -1, 9999)
  | 1154 => some (40, 0, 9999)
  | 1155 => some (40, 0, 9999)
  | 1156 => some (40, 0, 11)
  | 1157 => some (41, 0, 12)
  | 1163 => some (41, 0, 140)
  | 1164 => some (41, 0, 40)
  | 1165 => some (41, 0, 40)
  | 1166 => some (41, 0, 1)
  | 1167 => some (20, -1, 40)
  | 1168 => some (20, 0, 40)
  | 1171 => some (6, 0, 54)
  | 1172 => some (4, 0, 90)
  | 1176 => some (3, -1, 12)
  | _ => none
/-- what every call of the reference keeps: the class's references and tape count, its own ranges -/
def mJ (x : Nat → Nat → Nat) (t : Int32) (s : ps_S) : Prop := s.1.2.2 = x ∧ ps_i s 0 1 = t ∧ (∀ q a b, m_fr q = some (a, b) → a ≤ (ps_i s 1131 q).toInt ∧ (ps_i s 1131 q).toInt ≤ b) ∧ (∀ r n a b, m_ar r = some (n, a, b) → ∀ i, i < n → a ≤ (ps_a s r i).toInt ∧ (ps_a s r i).toInt ≤ b) ∧ (∀ k, k < 666 → 0 ≤ (ps_a s 1134 (41 * k)).toInt ∧ (ps_a s 1134 (41 * k)).toInt ≤ 40)
/-- only the arrays A and the fields F may have changed -/
def kp (A F : List Nat) (s s' : ps_S) : Prop := (∀ r q, (r = 1131 → F.contains q = false) → ps_i s' r q = ps_i s r q ∧ ps_j s' r q = ps_j s r q) ∧ (∀ r, A.contains r = false → ps_a s' r = ps_a s r ∧ ps_b s' r = ps_b s r)
theorem kp_refl {A F : List Nat} {s : ps_S} : kp A F s s := ⟨fun _ _ _ => ⟨rfl, rfl⟩, fun _ _ => ⟨rfl, rfl⟩⟩
theorem kp_i {A F : List Nat} {s s' : ps_S} (h : kp A F s s') (q : Nat) (hq : F.contains q = false) : ps_i s' 1131 q = ps_i s 1131 q := (h.1 1131 q (fun _ => hq)).1
theorem kp_j {A F : List Nat} {s s' : ps_S} (h : kp A F s s') (q : Nat) (hq : F.contains q = false) : ps_j s' 1131 q = ps_j s 1131 q := (h.1 1131 q (fun _ => hq)).2
theorem kp_a {A F : List Nat} {s s' : ps_S} (h : kp A F s s') (r : Nat) (hr : A.contains r = false) (i : Nat) : ps_a s' r i = ps_a s r i := congrFun (h.2 r hr).1 i
theorem kp_b {A F : List Nat} {s s' : ps_S} (h : kp A F s s') (r : Nat) (hr : A.contains r = false) (i : Nat) : ps_b s' r i = ps_b s r i := congrFun (h.2 r hr).2 i
theorem kp_ui {A F : List Nat} {s s' : ps_S} {q : Nat} {v : Int32} (hq : F.contains q = true) (h : kp A F s s') : kp A F s (ps_ui s' 1131 q v) := by
  refine ⟨fun r q' hr => ?_, h.2⟩
  obtain ⟨h1, h2⟩ := h.1 r q' hr
  refine ⟨?_, h2⟩
  rw [← h1, ps_i_ui, if_neg]
  rintro ⟨rfl, rfl⟩
  rw [hr rfl] at hq
  cases hq
theorem kp_uj {A F : List Nat} {s s' : ps_S} {q : Nat} {v : Int64} (hq : F.contains q = true) (h : kp A F s s') : kp A F s (ps_uj s' 1131 q v) := by
  refine ⟨fun r q' hr => ?_, h.2⟩
  obtain ⟨h1, h2⟩ := h.1 r q' hr
  refine ⟨h1, ?_⟩
  rw [← h2, ps_j_uj, if_neg]
  rintro ⟨rfl, rfl⟩
  rw [hr rfl] at hq
  cases hq
theorem kp_ua {A F : List Nat} {s s' : ps_S} {r i : Nat} {v : Int32} (hr : A.contains r = true) (h : kp A F s s') : kp A F s (ps_ua s' r i v) := by
  refine ⟨h.1, fun r' hr' => ?_⟩
  obtain ⟨h1, h2⟩ := h.2 r' hr'
  refine ⟨?_, h2⟩
  rw [← h1]
  funext j
  rw [ps_a_ua, if_neg]
  rintro ⟨rfl, rfl⟩
  rw [hr'] at hr
  cases hr
theorem kp_ub {A F : List Nat} {s s' : ps_S} {r i : Nat} {v : Int64} (hr : A.contains r = true) (h : kp A F s s') : kp A F s (ps_ub s' r i v) := by
  refine ⟨h.1, fun r' hr' => ?_⟩
  obtain ⟨h1, h2⟩ := h.2 r' hr'
  refine ⟨h1, ?_⟩
  rw [← h2]
  funext j
  rw [ps_b_ub, if_neg]
  rintro ⟨rfl, rfl⟩
  rw [hr'] at hr
  cases hr
theorem kp_sub {A A' : List Nat} (h : A'.all (fun a => A.contains a) = true) {q : Nat} (hq : A.contains q = false) : A'.contains q = false := by
  cases e : A'.contains q with
  | false => rfl
  | true =>
    have := List.all_eq_true.mp h q (List.contains_iff_mem.mp e)
    rw [hq] at this
    cases this
theorem kp_tr {A F A' F' : List Nat} {s s' s'' : ps_S} (hA : A'.all (fun a => A.contains a) = true) (hF : F'.all (fun a => F.contains a) = true) (h : kp A F s s') (h' : kp A' F' s' s'') : kp A F s s'' := by
  refine ⟨fun r q hr => ?_, fun r hr => ?_⟩
  · obtain ⟨h1, h2⟩ := h.1 r q hr
    obtain ⟨h3, h4⟩ := h'.1 r q (fun e => kp_sub hF (hr e))
    exact ⟨h3.trans h1, h4.trans h2⟩
  · obtain ⟨h1, h2⟩ := h.2 r hr
    obtain ⟨h3, h4⟩ := h'.2 r (kp_sub hA hr)
    exact ⟨h3.trans h1, h4.trans h2⟩
theorem mw_i {x : Nat → Nat → Nat} {t : Int32} {s : ps_S} {q : Nat} {v : Int32} (J : mJ x t s) (h : ∀ a b, m_fr q = some (a, b) → a ≤ v.toInt ∧ v.toInt ≤ b) : mJ x t (ps_ui s 1131 q v) := by
  obtain ⟨h1, h2, h3, h4, h5⟩ := J
  refine ⟨h1, ?_, fun q' a b e => ?_, h4, h5⟩
  · rw [ps_i_ui, if_neg (fun z => by omega)]; exact h2
  · rw [ps_i_ui]
    by_cases e' : q' = q
    · subst e'
      rw [if_pos ⟨rfl, rfl⟩]
      exact h a b e
    · rw [if_neg (fun z => e' z.2)]
      exact h3 q' a b e
theorem mwi_n {x : Nat → Nat → Nat} {t : Int32} {s : ps_S} (q : Nat) {v : Int32} (J : mJ x t s) (h : m_fr q = none) : mJ x t (ps_ui s 1131 q v) := mw_i J (fun a b e => by rw [h] at e; cases e)
theorem mw_j {x : Nat → Nat → Nat} {t : Int32} {s : ps_S} {q : Nat} {v : Int64} (J : mJ x t s) : mJ x t (ps_uj s 1131 q v) := J
theorem mw_b {x : Nat → Nat → Nat} {t : Int32} {s : ps_S} {r i : Nat} {v : Int64} (J : mJ x t s) : mJ x t (ps_ub s r i v) := J
theorem mw_a {x : Nat → Nat → Nat} {t : Int32} {s : ps_S} {r i : Nat} {v : Int32} (J : mJ x t s) (hr : r ≠ 1134) (h : ∀ n a b, m_ar r = some (n, a, b) → a ≤ v.toInt ∧ v.toInt ≤ b) : mJ x t (ps_ua s r i v) := by
  obtain ⟨h1, h2, h3, h4, h5⟩ := J
  refine ⟨h1, h2, h3, fun r' n a b e j hj => ?_, fun k hk => ?_⟩
  · rw [ps_a_ua]
    by_cases e' : r' = r ∧ j = i
    · rw [if_pos e']
      rw [e'.1] at e
      exact h n a b e
    · rw [if_neg e']
      exact h4 r' n a b e j hj
  · rw [ps_a_ua, if_neg (fun z => hr z.1.symm)]
    exact h5 k hk
theorem mwa_n {x : Nat → Nat → Nat} {t : Int32} {s : ps_S} (r : Nat) {i : Nat} {v : Int32} (J : mJ x t s) (h : m_ar r = none) (hr : r ≠ 1134) : mJ x t (ps_ua s r i v) := mw_a J hr (fun n a b e => by rw [h] at e; cases e)
theorem mw_p {x : Nat → Nat → Nat} {t : Int32} {s : ps_S} {i v : Int32} (J : mJ x t s) (h : i.toInt % 41 = 0 → 0 ≤ v.toInt ∧ v.toInt ≤ 40) (hi : 0 ≤ i.toInt) : mJ x t (ps_ua s 1134 (Int32.toNatClampNeg i) v) := by
  obtain ⟨h1, h2, h3, h4, h5⟩ := J
  have hi2 : ((Int32.toNatClampNeg i : Nat) : Int) = i.toInt := by
    show ((i.toInt.toNat : Nat) : Int) = _
    omega
  refine ⟨h1, h2, h3, fun r n a b e j hj => ?_, fun k hk => ?_⟩
  · have : r ≠ 1134 := fun z => by rw [z] at e; cases e
    rw [ps_a_ua, if_neg (fun z => this z.1)]
    exact h4 r n a b e j hj
  · rw [ps_a_ua]
    split
    · next z => exact h (by omega)
    · exact h5 k hk
theorem mp_row {x : Nat → Nat → Nat} {t : Int32} {s : ps_S} {i : Int32} (J : mJ x t s) (h : i.toInt % 41 = 0) (h0 : 0 ≤ i.toInt) (h1 : i.toInt < 27306) : 0 ≤ (ps_a s 1134 (Int32.toNatClampNeg i)).toInt ∧ (ps_a s 1134 (Int32.toNatClampNeg i)).toInt ≤ 40 := by
  have e : Int32.toNatClampNeg i = 41 * (i.toInt / 41).toNat := by
    show i.toInt.toNat = _
    omega
  rw [e]
  exact J.2.2.2.2 _ (by omega)
theorem mf_3 {x : Nat → Nat → Nat} {t : Int32} {s : ps_S} (J : mJ x t s) : 0 ≤ (ps_i s 1131 3).toInt ∧ (ps_i s 1131 3).toInt ≤ 1600 := J.2.2.1 3 _ _ rfl
theorem mwi_3 {x : Nat → Nat → Nat} {t : Int32} {s : ps_S} {v : Int32} (J : mJ x t s) (h1 : 0 ≤ v.toInt) (h2 : v.toInt ≤ 1600) : mJ x t (ps_ui s 1131 3 v) := mw_i J (fun a b e => by cases e; exact ⟨h1, h2⟩)
theorem mf_4 {x : Nat → Nat → Nat} {t : Int32} {s : ps_S} (J : mJ x t s) : 0 ≤ (ps_i s 1131 4).toInt ∧ (ps_i s 1131 4).toInt ≤ 1600 := J.2.2.1 4 _ _ rfl
theorem mwi_4 {x : Nat → Nat → Nat} {t : Int32} {s : ps_S} {v : Int32} (J : mJ x t s) (h1 : 0 ≤ v.toInt) (h2 : v.toInt ≤ 1600) : mJ x t (ps_ui s 1131 4 v) := mw_i J (fun a b e => by cases e; exact ⟨h1, h2⟩)
theorem mf_5 {x : Nat → Nat → Nat} {t : Int32} {s : ps_S} (J : mJ x t s) : 0 ≤ (ps_i s 1131 5).toInt ∧ (ps_i s 1131 5).toInt ≤ 6 := J.2.2.1 5 _ _ rfl
theorem mwi_5 {x : Nat → Nat → Nat} {t : Int32} {s : ps_S} {v : Int32} (J : mJ x t s) (h1 : 0 ≤ v.toInt) (h2 : v.toInt ≤ 6) : mJ x t (ps_ui s 1131 5 v) := mw_i J (fun a b e => by cases e; exact ⟨h1, h2⟩)
theorem mf_7 {x : Nat → Nat → Nat} {t : Int32} {s : ps_S} (J : mJ x t s) : 0 ≤ (ps_i s 1131 7).toInt ∧ (ps_i s 1131 7).toInt ≤ 1600 := J.2.2.1 7 _ _ rfl
theorem mwi_7 {x : Nat → Nat → Nat} {t : Int32} {s : ps_S} {v : Int32} (J : mJ x t s) (h1 : 0 ≤ v.toInt) (h2 : v.toInt ≤ 1600) : mJ x t (ps_ui s 1131 7 v) := mw_i J (fun a b e => by cases e; exact ⟨h1, h2⟩)
theorem mf_8 {x : Nat → Nat → Nat} {t : Int32} {s : ps_S} (J : mJ x t s) : 0 ≤ (ps_i s 1131 8).toInt ∧ (ps_i s 1131 8).toInt ≤ 1601 := J.2.2.1 8 _ _ rfl
theorem mwi_8 {x : Nat → Nat → Nat} {t : Int32} {s : ps_S} {v : Int32} (J : mJ x t s) (h1 : 0 ≤ v.toInt) (h2 : v.toInt ≤ 1601) : mJ x t (ps_ui s 1131 8 v) := mw_i J (fun a b e => by cases e; exact ⟨h1, h2⟩)
theorem mf_9 {x : Nat → Nat → Nat} {t : Int32} {s : ps_S} (J : mJ x t s) : 0 ≤ (ps_i s 1131 9).toInt ∧ (ps_i s 1131 9).toInt ≤ 5 := J.2.2.1 9 _ _ rfl
theorem mwi_9 {x : Nat → Nat → Nat} {t : Int32} {s : ps_S} {v : Int32} (J : mJ x t s) (h1 : 0 ≤ v.toInt) (h2 : v.toInt ≤ 5) : mJ x t (ps_ui s 1131 9 v) := mw_i J (fun a b e => by cases e; exact ⟨h1, h2⟩)
theorem mf_10 {x : Nat → Nat → Nat} {t : Int32} {s : ps_S} (J : mJ x t s) : 0 ≤ (ps_i s 1131 10).toInt ∧ (ps_i s 1131 10).toInt ≤ 9999 := J.2.2.1 10 _ _ rfl
theorem mwi_10 {x : Nat → Nat → Nat} {t : Int32} {s : ps_S} {v : Int32} (J : mJ x t s) (h1 : 0 ≤ v.toInt) (h2 : v.toInt ≤ 9999) : mJ x t (ps_ui s 1131 10 v) := mw_i J (fun a b e => by cases e; exact ⟨h1, h2⟩)
theorem mf_21 {x : Nat → Nat → Nat} {t : Int32} {s : ps_S} (J : mJ x t s) : 0 ≤ (ps_i s 1131 21).toInt ∧ (ps_i s 1131 21).toInt ≤ 1 := J.2.2.1 21 _ _ rfl
theorem mwi_21 {x : Nat → Nat → Nat} {t : Int32} {s : ps_S} {v : Int32} (J : mJ x t s) (h1 : 0 ≤ v.toInt) (h2 : v.toInt ≤ 1) : mJ x t (ps_ui s 1131 21 v) := mw_i J (fun a b e => by cases e; exact ⟨h1, h2⟩)
theorem mf_22 {x : Nat → Nat → Nat} {t : Int32} {s : ps_S} (J : mJ x t s) : 0 ≤ (ps_i s 1131 22).toInt ∧ (ps_i s 1131 22).toInt ≤ 1 := J.2.2.1 22 _ _ rfl
theorem mwi_22 {x : Nat → Nat → Nat} {t : Int32} {s : ps_S} {v : Int32} (J : mJ x t s) (h1 : 0 ≤ v.toInt) (h2 : v.toInt ≤ 1) : mJ x t (ps_ui s 1131 22 v) := mw_i J (fun a b e => by cases e; exact ⟨h1, h2⟩)
theorem mf_23 {x : Nat → Nat → Nat} {t : Int32} {s : ps_S} (J : mJ x t s) : 0 ≤ (ps_i s 1131 23).toInt ∧ (ps_i s 1131 23).toInt ≤ 12 := J.2.2.1 23 _ _ rfl
theorem mwi_23 {x : Nat → Nat → Nat} {t : Int32} {s : ps_S} {v : Int32} (J : mJ x t s) (h1 : 0 ≤ v.toInt) (h2 : v.toInt ≤ 12) : mJ x t (ps_ui s 1131 23 v) := mw_i J (fun a b e => by cases e; exact ⟨h1, h2⟩)
theorem mf_29 {x : Nat → Nat → Nat} {t : Int32} {s : ps_S} (J : mJ x t s) : 0 ≤ (ps_i s 1131 29).toInt ∧ (ps_i s 1131 29).toInt ≤ 16 := J.2.2.1 29 _ _ rfl
theorem mwi_29 {x : Nat → Nat → Nat} {t : Int32} {s : ps_S} {v : Int32} (J : mJ x t s) (h1 : 0 ≤ v.toInt) (h2 : v.toInt ≤ 16) : mJ x t (ps_ui s 1131 29 v) := mw_i J (fun a b e => by cases e; exact ⟨h1, h2⟩)
theorem mf_31 {x : Nat → Nat → Nat} {t : Int32} {s : ps_S} (J : mJ x t s) : 0 ≤ (ps_i s 1131 31).toInt ∧ (ps_i s 1131 31).toInt ≤ 42 := J.2.2.1 31 _ _ rfl
theorem mwi_31 {x : Nat → Nat → Nat} {t : Int32} {s : ps_S} {v : Int32} (J : mJ x t s) (h1 : 0 ≤ v.toInt) (h2 : v.toInt ≤ 42) : mJ x t (ps_ui s 1131 31 v) := mw_i J (fun a b e => by cases e; exact ⟨h1, h2⟩)
theorem mf_34 {x : Nat → Nat → Nat} {t : Int32} {s : ps_S} (J : mJ x t s) : 0 ≤ (ps_i s 1131 34).toInt ∧ (ps_i s 1131 34).toInt ≤ 100000 := J.2.2.1 34 _ _ rfl
theorem mwi_34 {x : Nat → Nat → Nat} {t : Int32} {s : ps_S} {v : Int32} (J : mJ x t s) (h1 : 0 ≤ v.toInt) (h2 : v.toInt ≤ 100000) : mJ x t (ps_ui s 1131 34 v) := mw_i J (fun a b e => by cases e; exact ⟨h1, h2⟩)
theorem mf_42 {x : Nat → Nat → Nat} {t : Int32} {s : ps_S} (J : mJ x t s) : 0 ≤ (ps_i s 1131 42).toInt ∧ (ps_i s 1131 42).toInt ≤ 40 := J.2.2.1 42 _ _ rfl
theorem mwi_42 {x : Nat → Nat → Nat} {t : Int32} {s : ps_S} {v : Int32} (J : mJ x t s) (h1 : 0 ≤ v.toInt) (h2 : v.toInt ≤ 40) : mJ x t (ps_ui s 1131 42 v) := mw_i J (fun a b e => by cases e; exact ⟨h1, h2⟩)
theorem mf_47 {x : Nat → Nat → Nat} {t : Int32} {s : ps_S} (J : mJ x t s) : 0 ≤ (ps_i s 1131 47).toInt ∧ (ps_i s 1131 47).toInt ≤ 40 := J.2.2.1 47 _ _ rfl
theorem mwi_47 {x : Nat → Nat → Nat} {t : Int32} {s : ps_S} {v : Int32} (J : mJ x t s) (h1 : 0 ≤ v.toInt) (h2 : v.toInt ≤ 40) : mJ x t (ps_ui s 1131 47 v) := mw_i J (fun a b e => by cases e; exact ⟨h1, h2⟩)
theorem mf_48 {x : Nat → Nat → Nat} {t : Int32} {s : ps_S} (J : mJ x t s) : -1 ≤ (ps_i s 1131 48).toInt ∧ (ps_i s 1131 48).toInt ≤ 40 := J.2.2.1 48 _ _ rfl
theorem mwi_48 {x : Nat → Nat → Nat} {t : Int32} {s : ps_S} {v : Int32} (J : mJ x t s) (h1 : -1 ≤ v.toInt) (h2 : v.toInt ≤ 40) : mJ x t (ps_ui s 1131 48 v) := mw_i J (fun a b e => by cases e; exact ⟨h1, h2⟩)
theorem mf_50 {x : Nat → Nat → Nat} {t : Int32} {s : ps_S} (J : mJ x t s) : 0 ≤ (ps_i s 1131 50).toInt ∧ (ps_i s 1131 50).toInt ≤ 5 := J.2.2.1 50 _ _ rfl
theorem mwi_50 {x : Nat → Nat → Nat} {t : Int32} {s : ps_S} {v : Int32} (J : mJ x t s) (h1 : 0 ≤ v.toInt) (h2 : v.toInt ≤ 5) : mJ x t (ps_ui s 1131 50 v) := mw_i J (fun a b e => by cases e; exact ⟨h1, h2⟩)
theorem mf_51 {x : Nat → Nat → Nat} {t : Int32} {s : ps_S} (J : mJ x t s) : 0 ≤ (ps_i s 1131 51).toInt ∧ (ps_i s 1131 51).toInt ≤ 1000 := J.2.2.1 51 _ _ rfl
theorem mwi_51 {x : Nat → Nat → Nat} {t : Int32} {s : ps_S} {v : Int32} (J : mJ x t s) (h1 : 0 ≤ v.toInt) (h2 : v.toInt ≤ 1000) : mJ x t (ps_ui s 1131 51 v) := mw_i J (fun a b e => by cases e; exact ⟨h1, h2⟩)
theorem mf_54 {x : Nat → Nat → Nat} {t : Int32} {s : ps_S} (J : mJ x t s) : 0 ≤ (ps_i s 1131 54).toInt ∧ (ps_i s 1131 54).toInt ≤ 12 := J.2.2.1 54 _ _ rfl
theorem mwi_54 {x : Nat → Nat → Nat} {t : Int32} {s : ps_S} {v : Int32} (J : mJ x t s) (h1 : 0 ≤ v.toInt) (h2 : v.toInt ≤ 12) : mJ x t (ps_ui s 1131 54 v) := mw_i J (fun a b e => by cases e; exact ⟨h1, h2⟩)
theorem mf_59 {x : Nat → Nat → Nat} {t : Int32} {s : ps_S} (J : mJ x t s) : 0 ≤ (ps_i s 1131 59).toInt ∧ (ps_i s 1131 59).toInt ≤ 40 := J.2.2.1 59 _ _ rfl
theorem mwi_59 {x : Nat → Nat → Nat} {t : Int32} {s : ps_S} {v : Int32} (J : mJ x t s) (h1 : 0 ≤ v.toInt) (h2 : v.toInt ≤ 40) : mJ x t (ps_ui s 1131 59 v) := mw_i J (fun a b e => by cases e; exact ⟨h1, h2⟩)
theorem mf_60 {x : Nat → Nat → Nat} {t : Int32} {s : ps_S} (J : mJ x t s) : 0 ≤ (ps_i s 1131 60).toInt ∧ (ps_i s 1131 60).toInt ≤ 40 := J.2.2.1 60 _ _ rfl
theorem mwi_60 {x : Nat → Nat → Nat} {t : Int32} {s : ps_S} {v : Int32} (J : mJ x t s) (h1 : 0 ≤ v.toInt) (h2 : v.toInt ≤ 40) : mJ x t (ps_ui s 1131 60 v) := mw_i J (fun a b e => by cases e; exact ⟨h1, h2⟩)
theorem mf_63 {x : Nat → Nat → Nat} {t : Int32} {s : ps_S} (J : mJ x t s) : 0 ≤ (ps_i s 1131 63).toInt ∧ (ps_i s 1131 63).toInt ≤ 41 := J.2.2.1 63 _ _ rfl
theorem mwi_63 {x : Nat → Nat → Nat} {t : Int32} {s : ps_S} {v : Int32} (J : mJ x t s) (h1 : 0 ≤ v.toInt) (h2 : v.toInt ≤ 41) : mJ x t (ps_ui s 1131 63 v) := mw_i J (fun a b e => by cases e; exact ⟨h1, h2⟩)
theorem mf_64 {x : Nat → Nat → Nat} {t : Int32} {s : ps_S} (J : mJ x t s) : 0 ≤ (ps_i s 1131 64).toInt ∧ (ps_i s 1131 64).toInt ≤ 41 := J.2.2.1 64 _ _ rfl
theorem mwi_64 {x : Nat → Nat → Nat} {t : Int32} {s : ps_S} {v : Int32} (J : mJ x t s) (h1 : 0 ≤ v.toInt) (h2 : v.toInt ≤ 41) : mJ x t (ps_ui s 1131 64 v) := mw_i J (fun a b e => by cases e; exact ⟨h1, h2⟩)
theorem mf_65 {x : Nat → Nat → Nat} {t : Int32} {s : ps_S} (J : mJ x t s) : 0 ≤ (ps_i s 1131 65).toInt ∧ (ps_i s 1131 65).toInt ≤ 41 := J.2.2.1 65 _ _ rfl
theorem mwi_65 {x : Nat → Nat → Nat} {t : Int32} {s : ps_S} {v : Int32} (J : mJ x t s) (h1 : 0 ≤ v.toInt) (h2 : v.toInt ≤ 41) : mJ x t (ps_ui s 1131 65 v) := mw_i J (fun a b e => by cases e; exact ⟨h1, h2⟩)
theorem mf_73 {x : Nat → Nat → Nat} {t : Int32} {s : ps_S} (J : mJ x t s) : 0 ≤ (ps_i s 1131 73).toInt ∧ (ps_i s 1131 73).toInt ≤ 96 := J.2.2.1 73 _ _ rfl
theorem mwi_73 {x : Nat → Nat → Nat} {t : Int32} {s : ps_S} {v : Int32} (J : mJ x t s) (h1 : 0 ≤ v.toInt) (h2 : v.toInt ≤ 96) : mJ x t (ps_ui s 1131 73 v) := mw_i J (fun a b e => by cases e; exact ⟨h1, h2⟩)
theorem ma_1135 {x : Nat → Nat → Nat} {t : Int32} {s : ps_S} {i : Int32} (J : mJ x t s) (h0 : 0 ≤ i.toInt) (h1 : i.toInt < 2) : 0 ≤ (ps_a s 1135 (Int32.toNatClampNeg i)).toInt ∧ (ps_a s 1135 (Int32.toNatClampNeg i)).toInt ≤ 6 := J.2.2.2.1 1135 _ _ _ rfl _ (by show i.toInt.toNat < _; omega)
theorem mwa_1135 {x : Nat → Nat → Nat} {t : Int32} {s : ps_S} {i : Nat} {v : Int32} (J : mJ x t s) (h1 : 0 ≤ v.toInt) (h2 : v.toInt ≤ 6) : mJ x t (ps_ua s 1135 i v) := mw_a J (by decide) (fun n a b e => by cases e; exact ⟨h1, h2⟩)
theorem ma_1136 {x : Nat → Nat → Nat} {t : Int32} {s : ps_S} {i : Int32} (J : mJ x t s) (h0 : 0 ≤ i.toInt) (h1 : i.toInt < 2) : 0 ≤ (ps_a s 1136 (Int32.toNatClampNeg i)).toInt ∧ (ps_a s 1136 (Int32.toNatClampNeg i)).toInt ≤ 4 := J.2.2.2.1 1136 _ _ _ rfl _ (by show i.toInt.toNat < _; omega)
theorem mwa_1136 {x : Nat → Nat → Nat} {t : Int32} {s : ps_S} {i : Nat} {v : Int32} (J : mJ x t s) (h1 : 0 ≤ v.toInt) (h2 : v.toInt ≤ 4) : mJ x t (ps_ua s 1136 i v) := mw_a J (by decide) (fun n a b e => by cases e; exact ⟨h1, h2⟩)
theorem ma_1137 {x : Nat → Nat → Nat} {t : Int32} {s : ps_S} {i : Int32} (J : mJ x t s) (h0 : 0 ≤ i.toInt) (h1 : i.toInt < 2) : 0 ≤ (ps_a s 1137 (Int32.toNatClampNeg i)).toInt ∧ (ps_a s 1137 (Int32.toNatClampNeg i)).toInt ≤ 8 := J.2.2.2.1 1137 _ _ _ rfl _ (by show i.toInt.toNat < _; omega)
theorem mwa_1137 {x : Nat → Nat → Nat} {t : Int32} {s : ps_S} {i : Nat} {v : Int32} (J : mJ x t s) (h1 : 0 ≤ v.toInt) (h2 : v.toInt ≤ 8) : mJ x t (ps_ua s 1137 i v) := mw_a J (by decide) (fun n a b e => by cases e; exact ⟨h1, h2⟩)
theorem ma_1138 {x : Nat → Nat → Nat} {t : Int32} {s : ps_S} {i : Int32} (J : mJ x t s) (h0 : 0 ≤ i.toInt) (h1 : i.toInt < 12) : 0 ≤ (ps_a s 1138 (Int32.toNatClampNeg i)).toInt ∧ (ps_a s 1138 (Int32.toNatClampNeg i)).toInt ≤ 9999 := J.2.2.2.1 1138 _ _ _ rfl _ (by show i.toInt.toNat < _; omega)
theorem mwa_1138 {x : Nat → Nat → Nat} {t : Int32} {s : ps_S} {i : Nat} {v : Int32} (J : mJ x t s) (h1 : 0 ≤ v.toInt) (h2 : v.toInt ≤ 9999) : mJ x t (ps_ua s 1138 i v) := mw_a J (by decide) (fun n a b e => by cases e; exact ⟨h1, h2⟩)
theorem ma_1139 {x : Nat → Nat → Nat} {t : Int32} {s : ps_S} {i : Int32} (J : mJ x t s) (h0 : 0 ≤ i.toInt) (h1 : i.toInt < 8) : 0 ≤ (ps_a s 1139 (Int32.toNatClampNeg i)).toInt ∧ (ps_a s 1139 (Int32.toNatClampNeg i)).toInt ≤ 9999 := J.2.2.2.1 1139 _ _ _ rfl _ (by show i.toInt.toNat < _; omega)
theorem mwa_1139 {x : Nat → Nat → Nat} {t : Int32} {s : ps_S} {i : Nat} {v : Int32} (J : mJ x t s) (h1 : 0 ≤ v.toInt) (h2 : v.toInt ≤ 9999) : mJ x t (ps_ua s 1139 i v) := mw_a J (by decide) (fun n a b e => by cases e; exact ⟨h1, h2⟩)
theorem ma_1152 {x : Nat → Nat → Nat} {t : Int32} {s : ps_S} {i : Int32} (J : mJ x t s) (h0 : 0 ≤ i.toInt) (h1 : i.toInt < 40) : 0 ≤ (ps_a s 1152 (Int32.toNatClampNeg i)).toInt ∧ (ps_a s 1152 (Int32.toNatClampNeg i)).toInt ≤ 18 := J.2.2.2.1 1152 _ _ _ rfl _ (by show i.toInt.toNat < _; omega)
theorem mwa_1152 {x : Nat → Nat → Nat} {t : Int32} {s : ps_S} {i : Nat} {v : Int32} (J : mJ x t s) (h1 : 0 ≤ v.toInt) (h2 : v.toInt ≤ 18) : mJ x t (ps_ua s 1152 i v) := mw_a J (by decide) (fun n a b e => by cases e; exact ⟨h1, h2⟩)
theorem ma_1153 {x : Nat → Nat → Nat} {t : Int32} {s : ps_S} {i : Int32} (J : mJ x t s) (h0 : 0 ≤ i.toInt) (h1 : i.toInt < 40) : -1 ≤ (ps_a s 1153 (Int32.toNatClampNeg i)).toInt ∧ (ps_a s 1153 (Int32.toNatClampNeg i)).toInt ≤ 9999 := J.2.2.2.1 1153 _ _ _ rfl _ (by show i.toInt.toNat < _; omega)
theorem mwa_1153 {x : Nat → Nat → Nat} {t : Int32} {s : ps_S} {i : Nat} {v : Int32} (J : mJ x t s) (h1 : -1 ≤ v.toInt) (h2 : v.toInt ≤ 9999) : mJ x t (ps_ua s 1153 i v) := mw_a J (by decide) (fun n a b e => by cases e; exact ⟨h1, h2⟩)
theorem ma_1154 {x : Nat → Nat → Nat} {t : Int32} {s : ps_S} {i : Int32} (J : mJ x t s) (h0 : 0 ≤ i.toInt) (h1 : i.toInt < 40) : 0 ≤ (ps_a s 1154 (Int32.toNatClampNeg i)).toInt ∧ (ps_a s 1154 (Int32.toNatClampNeg i)).toInt ≤ 9999 := J.2.2.2.1 1154 _ _ _ rfl _ (by show i.toInt.toNat < _; omega)
theorem mwa_1154 {x : Nat → Nat → Nat} {t : Int32} {s : ps_S} {i : Nat} {v : Int32} (J : mJ x t s) (h1 : 0 ≤ v.toInt) (h2 : v.toInt ≤ 9999) : mJ x t (ps_ua s 1154 i v) := mw_a J (by decide) (fun n a b e => by cases e; exact ⟨h1, h2⟩)
theorem ma_1155 {x : Nat → Nat → Nat} {t : Int32} {s : ps_S} {i : Int32} (J : mJ x t s) (h0 : 0 ≤ i.toInt) (h1 : i.toInt < 40) : 0 ≤ (ps_a s 1155 (Int32.toNatClampNeg i)).toInt ∧ (ps_a s 1155 (Int32.toNatClampNeg i)).toInt ≤ 9999 := J.2.2.2.1 1155 _ _ _ rfl _ (by show i.toInt.toNat < _; omega)
theorem mwa_1155 {x : Nat → Nat → Nat} {t : Int32} {s : ps_S} {i : Nat} {v : Int32} (J : mJ x t s) (h1 : 0 ≤ v.toInt) (h2 : v.toInt ≤ 9999) : mJ x t (ps_ua s 1155 i v) := mw_a J (by decide) (fun n a b e => by cases e; exact ⟨h1, h2⟩)
theorem ma_1156 {x : Nat → Nat → Nat} {t : Int32} {s : ps_S} {i : Int32} (J : mJ x t s) (h0 : 0 ≤ i.toInt) (h1 : i.toInt < 40) : 0 ≤ (ps_a s 1156 (Int32.toNatClampNeg i)).toInt ∧ (ps_a s 1156 (Int32.toNatClampNeg i)).toInt ≤ 11 := J.2.2.2.1 1156 _ _ _ rfl _ (by show i.toInt.toNat < _; omega)
theorem mwa_1156 {x : Nat → Nat → Nat} {t : Int32} {s : ps_S} {i : Nat} {v : Int32} (J : mJ x t s) (h1 : 0 ≤ v.toInt) (h2 : v.toInt ≤ 11) : mJ x t (ps_ua s 1156 i v) := mw_a J (by decide) (fun n a b e => by cases e; exact ⟨h1, h2⟩)
theorem ma_1157 {x : Nat → Nat → Nat} {t : Int32} {s : ps_S} {i : Int32} (J : mJ x t s) (h0 : 0 ≤ i.toInt) (h1 : i.toInt < 41) : 0 ≤ (ps_a s 1157 (Int32.toNatClampNeg i)).toInt ∧ (ps_a s 1157 (Int32.toNatClampNeg i)).toInt ≤ 12 := J.2.2.2.1 1157 _ _ _ rfl _ (by show i.toInt.toNat < _; omega)
theorem mwa_1157 {x : Nat → Nat → Nat} {t : Int32} {s : ps_S} {i : Nat} {v : Int32} (J : mJ x t s) (h1 : 0 ≤ v.toInt) (h2 : v.toInt ≤ 12) : mJ x t (ps_ua s 1157 i v) := mw_a J (by decide) (fun n a b e => by cases e; exact ⟨h1, h2⟩)
theorem ma_1163 {x : Nat → Nat → Nat} {t : Int32} {s : ps_S} {i : Int32} (J : mJ x t s) (h0 : 0 ≤ i.toInt) (h1 : i.toInt < 41) : 0 ≤ (ps_a s 1163 (Int32.toNatClampNeg i)).toInt ∧ (ps_a s 1163 (Int32.toNatClampNeg i)).toInt ≤ 140 := J.2.2.2.1 1163 _ _ _ rfl _ (by show i.toInt.toNat < _; omega)
theorem mwa_1163 {x : Nat → Nat → Nat} {t : Int32} {s : ps_S} {i : Nat} {v : Int32} (J : mJ x t s) (h1 : 0 ≤ v.toInt) (h2 : v.toInt ≤ 140) : mJ x t (ps_ua s 1163 i v) := mw_a J (by decide) (fun n a b e => by cases e; exact ⟨h1, h2⟩)
theorem ma_1164 {x : Nat → Nat → Nat} {t : Int32} {s : ps_S} {i : Int32} (J : mJ x t s) (h0 : 0 ≤ i.toInt) (h1 : i.toInt < 41) : 0 ≤ (ps_a s 1164 (Int32.toNatClampNeg i)).toInt ∧ (ps_a s 1164 (Int32.toNatClampNeg i)).toInt ≤ 40 := J.2.2.2.1 1164 _ _ _ rfl _ (by show i.toInt.toNat < _; omega)
theorem mwa_1164 {x : Nat → Nat → Nat} {t : Int32} {s : ps_S} {i : Nat} {v : Int32} (J : mJ x t s) (h1 : 0 ≤ v.toInt) (h2 : v.toInt ≤ 40) : mJ x t (ps_ua s 1164 i v) := mw_a J (by decide) (fun n a b e => by cases e; exact ⟨h1, h2⟩)
theorem ma_1165 {x : Nat → Nat → Nat} {t : Int32} {s : ps_S} {i : Int32} (J : mJ x t s) (h0 : 0 ≤ i.toInt) (h1 : i.toInt < 41) : 0 ≤ (ps_a s 1165 (Int32.toNatClampNeg i)).toInt ∧ (ps_a s 1165 (Int32.toNatClampNeg i)).toInt ≤ 40 := J.2.2.2.1 1165 _ _ _ rfl _ (by show i.toInt.toNat < _; omega)
theorem mwa_1165 {x : Nat → Nat → Nat} {t : Int32} {s : ps_S} {i : Nat} {v : Int32} (J : mJ x t s) (h1 : 0 ≤ v.toInt) (h2 : v.toInt ≤ 40) : mJ x t (ps_ua s 1165 i v) := mw_a J (by decide) (fun n a b e => by cases e; exact ⟨h1, h2⟩)
theorem ma_1166 {x : Nat → Nat → Nat} {t : Int32} {s : ps_S} {i : Int32} (J : mJ x t s) (h0 : 0 ≤ i.toInt) (h1 : i.toInt < 41) : 0 ≤ (ps_a s 1166 (Int32.toNatClampNeg i)).toInt ∧ (ps_a s 1166 (Int32.toNatClampNeg i)).toInt ≤ 1 := J.2.2.2.1 1166 _ _ _ rfl _ (by show i.toInt.toNat < _; omega)
theorem mwa_1166 {x : Nat → Nat → Nat} {t : Int32} {s : ps_S} {i : Nat} {v : Int32} (J : mJ x t s) (h1 : 0 ≤ v.toInt) (h2 : v.toInt ≤ 1) : mJ x t (ps_ua s 1166 i v) := mw_a J (by decide) (fun n a b e => by cases e; exact ⟨h1, h2⟩)
theorem ma_1167 {x : Nat → Nat → Nat} {t : Int32} {s : ps_S} {i : Int32} (J : mJ x t s) (h0 : 0 ≤ i.toInt) (h1 : i.toInt < 20) : -1 ≤ (ps_a s 1167 (Int32.toNatClampNeg i)).toInt ∧ (ps_a s 1167 (Int32.toNatClampNeg i)).toInt ≤ 40 := J.2.2.2.1 1167 _ _ _ rfl _ (by show i.toInt.toNat < _; omega)
theorem mwa_1167 {x : Nat → Nat → Nat} {t : Int32} {s : ps_S} {i : Nat} {v : Int32} (J : mJ x t s) (h1 : -1 ≤ v.toInt) (h2 : v.toInt ≤ 40) : mJ x t (ps_ua s 1167 i v) := mw_a J (by decide) (fun n a b e => by cases e; exact ⟨h1, h2⟩)
theorem ma_1168 {x : Nat → Nat → Nat} {t : Int32} {s : ps_S} {i : Int32} (J : mJ x t s) (h0 : 0 ≤ i.toInt) (h1 : i.toInt < 20) : 0 ≤ (ps_a s 1168 (Int32.toNatClampNeg i)).toInt ∧ (ps_a s 1168 (Int32.toNatClampNeg i)).toInt ≤ 40 := J.2.2.2.1 1168 _ _ _ rfl _ (by show i.toInt.toNat < _; omega)
theorem mwa_1168 {x : Nat → Nat → Nat} {t : Int32} {s : ps_S} {i : Nat} {v : Int32} (J : mJ x t s) (h1 : 0 ≤ v.toInt) (h2 : v.toInt ≤ 40) : mJ x t (ps_ua s 1168 i v) := mw_a J (by decide) (fun n a b e => by cases e; exact ⟨h1, h2⟩)
theorem ma_1171 {x : Nat → Nat → Nat} {t : Int32} {s : ps_S} {i : Int32} (J : mJ x t s) (h0 : 0 ≤ i.toInt) (h1 : i.toInt < 6) : 0 ≤ (ps_a s 1171 (Int32.toNatClampNeg i)).toInt ∧ (ps_a s 1171 (Int32.toNatClampNeg i)).toInt ≤ 54 := J.2.2.2.1 1171 _ _ _ rfl _ (by show i.toInt.toNat < _; omega)
theorem mwa_1171 {x : Nat → Nat → Nat} {t : Int32} {s : ps_S} {i : Nat} {v : Int32} (J : mJ x t s) (h1 : 0 ≤ v.toInt) (h2 : v.toInt ≤ 54) : mJ x t (ps_ua s 1171 i v) := mw_a J (by decide) (fun n a b e => by cases e; exact ⟨h1, h2⟩)
theorem ma_1172 {x : Nat → Nat → Nat} {t : Int32} {s : ps_S} {i : Int32} (J : mJ x t s) (h0 : 0 ≤ i.toInt) (h1 : i.toInt < 4) : 0 ≤ (ps_a s 1172 (Int32.toNatClampNeg i)).toInt ∧ (ps_a s 1172 (Int32.toNatClampNeg i)).toInt ≤ 90 := J.2.2.2.1 1172 _ _ _ rfl _ (by show i.toInt.toNat < _; omega)
theorem mwa_1172 {x : Nat → Nat → Nat} {t : Int32} {s : ps_S} {i : Nat} {v : Int32} (J : mJ x t s) (h1 : 0 ≤ v.toInt) (h2 : v.toInt ≤ 90) : mJ x t (ps_ua s 1172 i v) := mw_a J (by decide) (fun n a b e => by cases e; exact ⟨h1, h2⟩)
theorem ma_1176 {x : Nat → Nat → Nat} {t : Int32} {s : ps_S} {i : Int32} (J : mJ x t s) (h0 : 0 ≤ i.toInt) (h1 : i.toInt < 3) : -1 ≤ (ps_a s 1176 (Int32.toNatClampNeg i)).toInt ∧ (ps_a s 1176 (Int32.toNatClampNeg i)).toInt ≤ 12 := J.2.2.2.1 1176 _ _ _ rfl _ (by show i.toInt.toNat < _; omega)
theorem mwa_1176 {x : Nat → Nat → Nat} {t : Int32} {s : ps_S} {i : Nat} {v : Int32} (J : mJ x t s) (h1 : -1 ≤ v.toInt) (h2 : v.toInt ≤ 12) : mJ x t (ps_ua s 1176 i v) := mw_a J (by decide) (fun n a b e => by cases e; exact ⟨h1, h2⟩)
theorem xlt {a b : Int32} (h : a < b) : a.toInt < b.toInt := Int32.lt_iff_toInt_lt.mp h
theorem xle {a b : Int32} (h : a ≤ b) : a.toInt ≤ b.toInt := Int32.le_iff_toInt_le.mp h
theorem xeq {a b : Int32} (h : a = b) : a.toInt = b.toInt := congrArg Int32.toInt h
theorem xne {a b : Int32} (h : a ≠ b) : a.toInt ≠ b.toInt := fun z => h (Int32.toInt_inj.mp z)
theorem xR (a : Int32) : -2147483648 ≤ a.toInt ∧ a.toInt < 2147483648 := ⟨Int32.le_toInt a, Int32.toInt_lt a⟩
theorem xbm (n : Int) : ∃ k : Int, n.bmod 4294967296 = n + 4294967296 * k := by
  rw [Int.bmod_def]
  split
  · exact ⟨-(n / 4294967296), by omega⟩
  · exact ⟨-(n / 4294967296) - 1, by omega⟩
theorem xA (a b : Int32) : ∃ k : Int, (a + b).toInt = a.toInt + b.toInt + 4294967296 * k ∧ -2147483648 ≤ (a + b).toInt ∧ (a + b).toInt < 2147483648 := by
  obtain ⟨k, hk⟩ := xbm (a.toInt + b.toInt)
  exact ⟨k, by rw [Int32.toInt_add]; exact hk, xR _⟩
theorem xS (a b : Int32) : ∃ k : Int, (a - b).toInt = a.toInt - b.toInt + 4294967296 * k ∧ -2147483648 ≤ (a - b).toInt ∧ (a - b).toInt < 2147483648 := by
  obtain ⟨k, hk⟩ := xbm (a.toInt - b.toInt)
  exact ⟨k, by rw [Int32.toInt_sub]; exact hk, xR _⟩
theorem xM (a b : Int32) : ∃ k : Int, (a * b).toInt = a.toInt * b.toInt + 4294967296 * k ∧ -2147483648 ≤ (a * b).toInt ∧ (a * b).toInt < 2147483648 := by
  obtain ⟨k, hk⟩ := xbm (a.toInt * b.toInt)
  exact ⟨k, by rw [Int32.toInt_mul]; exact hk, xR _⟩
theorem xgi {i : Int32} {n : Nat} (h1 : 0 ≤ i.toInt) (h2 : i.toInt < n) : pm_in i n = true := by
  unfold pm_in
  rw [Bool.and_eq_true]
  refine ⟨decide_eq_true (Int32.le_iff_toInt_le.mpr (by rw [Int32.toInt_zero]; exact h1)), Nat.ble_eq_true_of_le ?_⟩
  show i.toInt.toNat < n
  omega
theorem xN (a : Int32) {c : Int32} {n : Nat} (hc : c.toBitVec.toNat = n) (hn : n < 2147483648) : 0 ≤ (a &&& c).toInt ∧ (a &&& c).toInt ≤ n := by
  have h1 : (a &&& c).toBitVec.toNat ≤ n := by
    rw [← hc, Int32.toBitVec_and, BitVec.toNat_and]
    exact Nat.and_le_right
  have h2 : (a &&& c).toInt = (a &&& c).toBitVec.toNat := by
    show (a &&& c).toBitVec.toInt = _
    rw [BitVec.toInt_eq_toNat_of_lt (by omega)]
  omega
theorem xstr {P : Nat → Prop} (h : ∀ n, (∀ k, k < n → P k) → P n) (n : Nat) : P n := Nat.strongRecOn n h
theorem xb1 {v : Int32} (h : v.toInt = 0 ∨ v.toInt = 1) : v &&& 1 = v := by
  rcases h with h | h
  · rw [show v = 0 from Int32.toInt_inj.mp h]; decide
  · rw [show v = 1 from Int32.toInt_inj.mp h]; decide
theorem xb2 {v : Int32} (h : v &&& 1 = v) : 0 ≤ v.toInt ∧ v.toInt ≤ 1 := by
  have := xN v (c := 1) (n := 1) rfl (by decide)
  rw [h] at this
  exact this
end
section
theorem kpi {A F : List Nat} {s s' : ps_S} (h : kp A F s s') {q : Nat} {v : Int32} (hq : F.contains q = true) : kp A F s (ps_ui s' 1131 q v) := kp_ui hq h
theorem kpj {A F : List Nat} {s s' : ps_S} (h : kp A F s s') {q : Nat} {v : Int64} (hq : F.contains q = true) : kp A F s (ps_uj s' 1131 q v) := kp_uj hq h
theorem kpa' {A F : List Nat} {s s' : ps_S} (h : kp A F s s') {r i : Nat} {v : Int32} (hq : A.contains r = true) : kp A F s (ps_ua s' r i v) := kp_ua hq h
theorem kpb' {A F : List Nat} {s s' : ps_S} (h : kp A F s s') {r i : Nat} {v : Int64} (hq : A.contains r = true) : kp A F s (ps_ub s' r i v) := kp_ub hq h
theorem kpt {A F A' F' : List Nat} {s s' s'' : ps_S} (h : kp A F s s') (h' : kp A' F' s' s'') (hA : A'.all (fun a => A.contains a) = true) (hF : F'.all (fun a => F.contains a) = true) : kp A F s s'' := kp_tr hA hF h h'
theorem xnz {i : Int32} (h : i.toInt ≠ 0) : (!decide (i = 0)) = true := by
  have : i ≠ 0 := fun z => h (by rw [z]; decide)
  simp [this]
theorem xIa {a b : Int32} (h1 : -2147483648 ≤ a.toInt + b.toInt) (h2 : a.toInt + b.toInt < 2147483648) : (a + b).toInt = a.toInt + b.toInt := xI_add h1 h2
theorem xIs {a b : Int32} (h1 : -2147483648 ≤ a.toInt - b.toInt) (h2 : a.toInt - b.toInt < 2147483648) : (a - b).toInt = a.toInt - b.toInt := by
  rw [Int32.toInt_sub]
  exact Int.bmod_eq_of_le (by omega) (by omega)
theorem xIm {a b : Int32} (h1 : -2147483648 ≤ a.toInt * b.toInt) (h2 : a.toInt * b.toInt < 2147483648) : (a * b).toInt = a.toInt * b.toInt := by
  rw [Int32.toInt_mul]
  exact Int.bmod_eq_of_le (by omega) (by omega)
end
section
set_option maxRecDepth 100000
-- ProofBenchModel.sign(I)I
theorem pg_188_0 {d : Nat} {x1 : Int32} {s : ps_S} {Q : Option Value → ps_S → Prop} (h :
  ((ps_i s 1131 4) ≤ x1 →
    Q (some (.int 0)) s) ∧
  (x1 < (ps_i s 1131 4) →
    ps_nd (pm_in x1 1600) (Q (some (.int ((ps_a s 1133 (Int32.toNatClampNeg x1)) &&& 255))) s))) : ps_At d 188 0 [(0, .ref 1131), (1, .int x1)] [] s Q :=
  ps_wp_at (stops := []) (n := 16) h rfl

-- ProofBenchModel.isLetter(I)Z
theorem pg_189_0 {d : Nat} {x0 : Int32} {s : ps_S} {Q : Option Value → ps_S → Prop} (h :
  (x0 < 97 →
    Q (some (.int 0)) s) ∧
  (97 ≤ x0 →
    (122 < x0 →
      Q (some (.int 0)) s) ∧
    (x0 ≤ 122 →
      Q (some (.int 1)) s))) : ps_At d 189 0 [(0, .int x0)] [] s Q :=
  ps_wp_at (stops := []) (n := 15) h rfl

theorem ms_189 {x : Nat → Nat → Nat} {t : Int32} {s : ps_S} {d : Nat} {x0 : Int32} {f : Int32 → ps_S → Prop} (J : mJ x t s) (k : ∀ (v : Int32), (v.toInt = 0 ∨ 97 ≤ x0.toInt) → v &&& 1 = v → f v s) : ps_Cl d 189 [.int x0] s (ps_rI f) := by
  refine pg_189_0 ?_
  refine And.intro (fun h1 => ?_) (fun h1 => ?_)
  · have f2 : x0.toInt < (97 : Int) := xlt h1
    exact k (0 : Int32) (show (0 : Int) = 0 ∨ 97 ≤ x0.toInt from by omega) (by decide)
  · have f3 : (97 : Int) ≤ x0.toInt := xle h1
    refine And.intro (fun h4 => ?_) (fun h4 => ?_)
    · have f5 : (122 : Int) < x0.toInt := xlt h4
      exact k (0 : Int32) (show (0 : Int) = 0 ∨ 97 ≤ x0.toInt from by omega) (by decide)
    · have f6 : x0.toInt ≤ (122 : Int) := xle h4
      exact k (1 : Int32) (show (1 : Int) = 0 ∨ 97 ≤ x0.toInt from by omega) (by decide)

-- ProofBenchModel.isDigit(I)Z
theorem pg_190_0 {d : Nat} {x0 : Int32} {s : ps_S} {Q : Option Value → ps_S → Prop} (h :
  (x0 < 48 →
    Q (some (.int 0)) s) ∧
  (48 ≤ x0 →
    (57 < x0 →
      Q (some (.int 0)) s) ∧
    (x0 ≤ 57 →
      Q (some (.int 1)) s))) : ps_At d 190 0 [(0, .int x0)] [] s Q :=
  ps_wp_at (stops := []) (n := 15) h rfl

theorem ms_190 {x : Nat → Nat → Nat} {t : Int32} {s : ps_S} {d : Nat} {x0 : Int32} {f : Int32 → ps_S → Prop} (J : mJ x t s) (k : ∀ (v : Int32), (v.toInt = 0 ∨ (48 ≤ x0.toInt ∧ x0.toInt ≤ 57)) → v &&& 1 = v → f v s) : ps_Cl d 190 [.int x0] s (ps_rI f) := by
  refine pg_190_0 ?_
  refine And.intro (fun h1 => ?_) (fun h1 => ?_)
  · have f2 : x0.toInt < (48 : Int) := xlt h1
    exact k (0 : Int32) (show (0 : Int) = 0 ∨ (48 ≤ x0.toInt ∧ x0.toInt ≤ 57) from by omega) (by decide)
  · have f3 : (48 : Int) ≤ x0.toInt := xle h1
    refine And.intro (fun h4 => ?_) (fun h4 => ?_)
    · have f5 : (57 : Int) < x0.toInt := xlt h4
      exact k (0 : Int32) (show (0 : Int) = 0 ∨ (48 ≤ x0.toInt ∧ x0.toInt ≤ 57) from by omega) (by decide)
    · have f6 : x0.toInt ≤ (57 : Int) := xle h4
      exact k (1 : Int32) (show (1 : Int) = 0 ∨ (48 ≤ x0.toInt ∧ x0.toInt ≤ 57) from by omega) (by decide)

-- ProofBenchModel.fails(II)V
theorem pg_191_0 {d : Nat} {x1 : Int32} {x2 : Int32} {s : ps_S} {Q : Option Value → ps_S → Prop} (h :
  ((ps_i s 1131 5) ≤ 0 →
    Q none (ps_ui (ps_ui s 1131 5 x1) 1131 6 x2)) ∧
  (0 < (ps_i s 1131 5) →
    Q none s)) : ps_At d 191 0 [(0, .ref 1131), (1, .int x1), (2, .int x2)] [] s Q :=
  ps_wp_at (stops := []) (n := 13) h rfl

theorem ms_191 {x : Nat → Nat → Nat} {t : Int32} {s : ps_S} {d : Nat} {x1 : Int32} {x2 : Int32} {f : ps_S → Prop} (J : mJ x t s) (q0 : 1 ≤ x1.toInt) (q1 : x1.toInt ≤ 6) (k : ∀ (s' : ps_S), mJ x t s' → kp [] [5, 6] s s' → (1 ≤ (ps_i s' 1131 5).toInt) → f s') : ps_Cl d 191 [.ref 1131, .int x1, .int x2] s (ps_rV f) := by
  have K : kp [] [5, 6] s s := kp_refl
  refine pg_191_0 ?_
  have r1 := mf_5 J
  refine And.intro (fun h2 => ?_) (fun h2 => ?_)
  · have f3 : (ps_i s 1131 5).toInt ≤ (0 : Int) := xle h2
    have J4 := mwi_5 (v := x1) J (show 0 ≤ x1.toInt from by omega) (show x1.toInt ≤ 6 from by omega)
    have K5 := kpi K (q := 5) (v := x1) rfl
    have J6 := mwi_n 6 (v := x2) J4 rfl
    have K7 := kpi K5 (q := 6) (v := x2) rfl
    exact k _ J6 K7 (show 1 ≤ x1.toInt from by omega)
  · have f8 : (0 : Int) < (ps_i s 1131 5).toInt := xlt h2
    exact k _ J K (show 1 ≤ (ps_i s 1131 5).toInt from by omega)

-- ProofBenchModel.isGood()Z
theorem pg_192_0 {d : Nat} {s : ps_S} {Q : Option Value → ps_S → Prop} (h :
  ((ps_i s 1131 5) ≠ 0 →
    Q (some (.int 0)) s) ∧
  ((ps_i s 1131 5) = 0 →
    Q (some (.int 1)) s)) : ps_At d 192 0 [(0, .ref 1131)] [] s Q :=
  ps_wp_at (stops := []) (n := 10) h rfl

theorem ms_192 {x : Nat → Nat → Nat} {t : Int32} {s : ps_S} {d : Nat} {f : Int32 → ps_S → Prop} (J : mJ x t s) (k : ∀ (v : Int32), ((v.toInt = 0 ∧ 1 ≤ (ps_i s 1131 5).toInt) ∨ (v.toInt = 1 ∧ (ps_i s 1131 5).toInt = 0)) → v &&& 1 = v → f v s) : ps_Cl d 192 [.ref 1131] s (ps_rI f) := by
  refine pg_192_0 ?_
  have r1 := mf_5 J
  refine And.intro (fun h2 => ?_) (fun h2 => ?_)
  · have f3 : (ps_i s 1131 5).toInt ≠ (0 : Int) := xne h2
    exact k (0 : Int32) (show ((0 : Int) = 0 ∧ 1 ≤ (ps_i s 1131 5).toInt) ∨ ((0 : Int) = 1 ∧ (ps_i s 1131 5).toInt = 0) from by omega) (by decide)
  · have f4 : (ps_i s 1131 5).toInt = (0 : Int) := xeq h2
    exact k (1 : Int32) (show ((1 : Int) = 0 ∧ 1 ≤ (ps_i s 1131 5).toInt) ∨ ((1 : Int) = 1 ∧ (ps_i s 1131 5).toInt = 0) from by omega) (by decide)

-- ProofBenchModel.isKept(J)Z
theorem pg_193_0 {d : Nat} {l0 : Int64} {s : ps_S} {Q : Option Value → ps_S → Prop} (h :
  ((lg_cmp l0 (7497068 : Int64)) = 0 →
    ps_At d 193 80 [(0, .long l0)] [] s Q) ∧
  ((lg_cmp l0 (7497068 : Int64)) ≠ 0 →
    ((lg_cmp l0 (6714734 : Int64)) = 0 →
      ps_At d 193 80 [(0, .long l0)] [] s Q) ∧
    ((lg_cmp l0 (6714734 : Int64)) ≠ 0 →
      ((lg_cmp l0 (418632003437 : Int64)) = 0 →
        ps_At d 193 80 [(0, .long l0)] [] s Q) ∧
      ((lg_cmp l0 (418632003437 : Int64)) ≠ 0 →
        ((lg_cmp l0 (439721161573 : Int64)) = 0 →
          ps_At d 193 80 [(0, .long l0)] [] s Q) ∧
        ((lg_cmp l0 (439721161573 : Int64)) ≠ 0 →
          ((lg_cmp l0 (7237492 : Int64)) = 0 →
            ps_At d 193 80 [(0, .long l0)] [] s Q) ∧
          ((lg_cmp l0 (7237492 : Int64)) ≠ 0 →
            ((lg_cmp l0 (6385252 : Int64)) = 0 →
              ps_At d 193 80 [(0, .long l0)] [] s Q) ∧
            ((lg_cmp l0 (6385252 : Int64)) ≠ 0 →
              ((lg_cmp l0 (28530 : Int64)) = 0 →
                ps_At d 193 80 [(0, .long l0)] [] s Q) ∧
              ((lg_cmp l0 (28530 : Int64)) ≠ 0 →
                ((lg_cmp l0 (6909296 : Int64)) = 0 →
                  ps_At d 193 80 [(0, .long l0)] [] s Q) ∧
                ((lg_cmp l0 (6909296 : Int64)) ≠ 0 →
                  ((lg_cmp l0 (6384748 : Int64)) = 0 →
                    ps_At d 193 80 [(0, .long l0)] [] s Q) ∧
                  ((lg_cmp l0 (6384748 : Int64)) ≠ 0 →
                    ((lg_cmp l0 (1936682341 : Int64)) ≠ 0 →
                      ((lg_cmp l0 (1935764837 : Int64)) = 0 →
                        ps_At d 193 158 [(0, .long l0), (2, .int 0)] [] s Q) ∧
                      ((lg_cmp l0 (1935764837 : Int64)) ≠ 0 →
                        ((lg_cmp l0 (107148486208869 : Int64)) = 0 →
                          ps_At d 193 158 [(0, .long l0), (2, .int 0)] [] s Q) ∧
                        ((lg_cmp l0 (107148486208869 : Int64)) ≠ 0 →
                          ((lg_cmp l0 (32765882169189741 : Int64)) = 0 →
                            ps_At d 193 158 [(0, .long l0), (2, .int 0)] [] s Q) ∧
                          ((lg_cmp l0 (32765882169189741 : Int64)) ≠ 0 →
                            ((lg_cmp l0 (1651471464 : Int64)) = 0 →
                              ps_At d 193 158 [(0, .long l0), (2, .int 0)] [] s Q) ∧
                            ((lg_cmp l0 (1651471464 : Int64)) ≠ 0 →
                              ((lg_cmp l0 (1818584692 : Int64)) = 0 →
                                ps_At d 193 158 [(0, .long l0), (2, .int 0)] [] s Q) ∧
                              ((lg_cmp l0 (1818584692 : Int64)) ≠ 0 →
                                ((lg_cmp l0 (491394656372 : Int64)) = 0 →
                                  ps_At d 193 158 [(0, .long l0), (2, .int 0)] [] s Q) ∧
                                ((lg_cmp l0 (491394656372 : Int64)) ≠ 0 →
                                  ((lg_cmp l0 (122537235539572 : Int64)) = 0 →
                                    ps_At d 193 158 [(0, .long l0), (2, .int 0)] [] s Q) ∧
                                  ((lg_cmp l0 (122537235539572 : Int64)) ≠ 0 →
                                    ((lg_cmp l0 (31369558135105652 : Int64)) = 0 →
                                      ps_At d 193 158 [(0, .long l0), (2, .int 0)] [] s Q) ∧
                                    ((lg_cmp l0 (31369558135105652 : Int64)) ≠ 0 →
                                      ((lg_cmp l0 (1667330917 : Int64)) ≠ 0 →
                                        ((0 : Int32) ≠ 0 →
                                          Q (some (.int 1)) s) ∧
                                        ((0 : Int32) = 0 →
                                          ((0 : Int32) ≠ 0 →
                                            Q (some (.int 1)) s) ∧
                                          ((0 : Int32) = 0 →
                                            ((lg_cmp l0 (418498243705 : Int64)) = 0 →
                                              Q (some (.int 1)) s) ∧
                                            ((lg_cmp l0 (418498243705 : Int64)) ≠ 0 →
                                              ((lg_cmp l0 (29103447424000364 : Int64)) = 0 →
                                                Q (some (.int 1)) s) ∧
                                              ((lg_cmp l0 (29103447424000364 : Int64)) ≠ 0 →
                                                ((lg_cmp l0 (32493203083583852 : Int64)) = 0 →
                                                  Q (some (.int 1)) s) ∧
                                                ((lg_cmp l0 (32493203083583852 : Int64)) ≠ 0 →
                                                  ((lg_cmp l0 (435811873652 : Int64)) = 0 →
                                                    Q (some (.int 1)) s) ∧
                                                  ((lg_cmp l0 (435811873652 : Int64)) ≠ 0 →
                                                    ((lg_cmp l0 (1869636974 : Int64)) = 0 →
                                                      Q (some (.int 1)) s) ∧
                                                    ((lg_cmp l0 (1869636974 : Int64)) ≠ 0 →
                                                      ((lg_cmp l0 (32199680874079077 : Int64)) = 0 →
                                                        Q (some (.int 1)) s) ∧
                                                      ((lg_cmp l0 (32199680874079077 : Int64)) ≠ 0 →
                                                        ((lg_cmp l0 (107075471766116 : Int64)) = 0 →
                                                          Q (some (.int 1)) s) ∧
                                                        ((lg_cmp l0 (107075471766116 : Int64)) ≠ 0 →
                                                          ((lg_cmp l0 (27985188498925923 : Int64)) = 0 →
                                                            Q (some (.int 1)) s) ∧
                                                          ((lg_cmp l0 (27985188498925923 : Int64)) ≠ 0 →
                                                            ((lg_cmp l0 (110386639889253 : Int64)) ≠ 0 →
                                                              Q (some (.int 0)) s) ∧
                                                            ((lg_cmp l0 (110386639889253 : Int64)) = 0 →
                                                              Q (some (.int 1)) s)))))))))))) ∧
                                      ((lg_cmp l0 (1667330917 : Int64)) = 0 →
                                        ps_At d 193 158 [(0, .long l0), (2, .int 0)] [] s Q)))))))))) ∧
                    ((lg_cmp l0 (1936682341 : Int64)) = 0 →
                      ps_At d 193 80 [(0, .long l0)] [] s Q))))))))))) : ps_At d 193 0 [(0, .long l0)] [] s Q :=
  ps_wp_at (stops := [(80, [0]), (158, [0, 2])]) (n := 157) h rfl

theorem pg_193_80 {d : Nat} {l0 : Int64} {s : ps_S} {Q : Option Value → ps_S → Prop} (h :
  ((lg_cmp l0 (1935764837 : Int64)) = 0 →
    ps_At d 193 158 [(0, .long l0), (2, .int 1)] [] s Q) ∧
  ((lg_cmp l0 (1935764837 : Int64)) ≠ 0 →
    ((lg_cmp l0 (107148486208869 : Int64)) = 0 →
      ps_At d 193 158 [(0, .long l0), (2, .int 1)] [] s Q) ∧
    ((lg_cmp l0 (107148486208869 : Int64)) ≠ 0 →
      ((lg_cmp l0 (32765882169189741 : Int64)) = 0 →
        ps_At d 193 158 [(0, .long l0), (2, .int 1)] [] s Q) ∧
      ((lg_cmp l0 (32765882169189741 : Int64)) ≠ 0 →
        ((lg_cmp l0 (1651471464 : Int64)) = 0 →
          ps_At d 193 158 [(0, .long l0), (2, .int 1)] [] s Q) ∧
        ((lg_cmp l0 (1651471464 : Int64)) ≠ 0 →
          ((lg_cmp l0 (1818584692 : Int64)) = 0 →
            ps_At d 193 158 [(0, .long l0), (2, .int 1)] [] s Q) ∧
          ((lg_cmp l0 (1818584692 : Int64)) ≠ 0 →
            ((lg_cmp l0 (491394656372 : Int64)) = 0 →
              ps_At d 193 158 [(0, .long l0), (2, .int 1)] [] s Q) ∧
            ((lg_cmp l0 (491394656372 : Int64)) ≠ 0 →
              ((lg_cmp l0 (122537235539572 : Int64)) = 0 →
                ps_At d 193 158 [(0, .long l0), (2, .int 1)] [] s Q) ∧
              ((lg_cmp l0 (122537235539572 : Int64)) ≠ 0 →
                ((lg_cmp l0 (31369558135105652 : Int64)) = 0 →
                  ps_At d 193 158 [(0, .long l0), (2, .int 1)] [] s Q) ∧
                ((lg_cmp l0 (31369558135105652 : Int64)) ≠ 0 →
                  ((lg_cmp l0 (1667330917 : Int64)) ≠ 0 →
                    ((1 : Int32) ≠ 0 →
                      Q (some (.int 1)) s) ∧
                    ((1 : Int32) = 0 →
                      ((0 : Int32) ≠ 0 →
                        Q (some (.int 1)) s) ∧
                      ((0 : Int32) = 0 →
                        ((lg_cmp l0 (418498243705 : Int64)) = 0 →
                          Q (some (.int 1)) s) ∧
                        ((lg_cmp l0 (418498243705 : Int64)) ≠ 0 →
                          ((lg_cmp l0 (29103447424000364 : Int64)) = 0 →
                            Q (some (.int 1)) s) ∧
                          ((lg_cmp l0 (29103447424000364 : Int64)) ≠ 0 →
                            ((lg_cmp l0 (32493203083583852 : Int64)) = 0 →
                              Q (some (.int 1)) s) ∧
                            ((lg_cmp l0 (32493203083583852 : Int64)) ≠ 0 →
                              ((lg_cmp l0 (435811873652 : Int64)) = 0 →
                                Q (some (.int 1)) s) ∧
                              ((lg_cmp l0 (435811873652 : Int64)) ≠ 0 →
                                ((lg_cmp l0 (1869636974 : Int64)) = 0 →
                                  Q (some (.int 1)) s) ∧
                                ((lg_cmp l0 (1869636974 : Int64)) ≠ 0 →
                                  ((lg_cmp l0 (32199680874079077 : Int64)) = 0 →
                                    Q (some (.int 1)) s) ∧
                                  ((lg_cmp l0 (32199680874079077 : Int64)) ≠ 0 →
                                    ((lg_cmp l0 (107075471766116 : Int64)) = 0 →
                                      Q (some (.int 1)) s) ∧
                                    ((lg_cmp l0 (107075471766116 : Int64)) ≠ 0 →
                                      ((lg_cmp l0 (27985188498925923 : Int64)) = 0 →
                                        Q (some (.int 1)) s) ∧
                                      ((lg_cmp l0 (27985188498925923 : Int64)) ≠ 0 →
                                        ((lg_cmp l0 (110386639889253 : Int64)) ≠ 0 →
                                          Q (some (.int 0)) s) ∧
                                        ((lg_cmp l0 (110386639889253 : Int64)) = 0 →
                                          Q (some (.int 1)) s)))))))))))) ∧
                  ((lg_cmp l0 (1667330917 : Int64)) = 0 →
                    ps_At d 193 158 [(0, .long l0), (2, .int 1)] [] s Q)))))))))) : ps_At d 193 80 [(0, .long l0)] [] s Q :=
  ps_wp_at (stops := [(80, [0]), (158, [0, 2])]) (n := 118) h rfl

theorem pg_193_158 {d : Nat} {l0 : Int64} {x2 : Int32} {s : ps_S} {Q : Option Value → ps_S → Prop} (h :
  (x2 ≠ 0 →
    Q (some (.int 1)) s) ∧
  (x2 = 0 →
    ((1 : Int32) ≠ 0 →
      Q (some (.int 1)) s) ∧
    ((1 : Int32) = 0 →
      ((lg_cmp l0 (418498243705 : Int64)) = 0 →
        Q (some (.int 1)) s) ∧
      ((lg_cmp l0 (418498243705 : Int64)) ≠ 0 →
        ((lg_cmp l0 (29103447424000364 : Int64)) = 0 →
          Q (some (.int 1)) s) ∧
        ((lg_cmp l0 (29103447424000364 : Int64)) ≠ 0 →
          ((lg_cmp l0 (32493203083583852 : Int64)) = 0 →
            Q (some (.int 1)) s) ∧
          ((lg_cmp l0 (32493203083583852 : Int64)) ≠ 0 →
            ((lg_cmp l0 (435811873652 : Int64)) = 0 →
              Q (some (.int 1)) s) ∧
            ((lg_cmp l0 (435811873652 : Int64)) ≠ 0 →
              ((lg_cmp l0 (1869636974 : Int64)) = 0 →
                Q (some (.int 1)) s) ∧
              ((lg_cmp l0 (1869636974 : Int64)) ≠ 0 →
                ((lg_cmp l0 (32199680874079077 : Int64)) = 0 →
                  Q (some (.int 1)) s) ∧
                ((lg_cmp l0 (32199680874079077 : Int64)) ≠ 0 →
                  ((lg_cmp l0 (107075471766116 : Int64)) = 0 →
                    Q (some (.int 1)) s) ∧
                  ((lg_cmp l0 (107075471766116 : Int64)) ≠ 0 →
                    ((lg_cmp l0 (27985188498925923 : Int64)) = 0 →
                      Q (some (.int 1)) s) ∧
                    ((lg_cmp l0 (27985188498925923 : Int64)) ≠ 0 →
                      ((lg_cmp l0 (110386639889253 : Int64)) ≠ 0 →
                        Q (some (.int 0)) s) ∧
                      ((lg_cmp l0 (110386639889253 : Int64)) = 0 →
                        Q (some (.int 1)) s)))))))))))) : ps_At d 193 158 [(0, .long l0), (2, .int x2)] [] s Q :=
  ps_wp_at (stops := [(80, [0]), (158, [0, 2])]) (n := 80) h rfl

theorem ms_193_158 {x : Nat → Nat → Nat} {t : Int32} {d : Nat} {s : ps_S} {l0 : Int64} {Q : Option Value → ps_S → Prop} (k : ∀ (v : Int32), v &&& 1 = v → Q (some (.int v)) s) (x2 : Int32) (J : mJ x t s) : ps_At d 193 158 [(0, .long l0), (2, .int x2)] [] s Q := by
  refine pg_193_158 ?_
  refine And.intro (fun h1 => ?_) (fun h1 => ?_)
  · have f2 : x2.toInt ≠ (0 : Int) := xne h1
    exact k (1 : Int32) (by decide)
  · have f3 : x2.toInt = (0 : Int) := xeq h1
    refine And.intro (fun h4 => ?_) (fun h4 => ?_)
    · have f5 : (1 : Int) ≠ (0 : Int) := xne h4
      exact k (1 : Int32) (by decide)
    · exact absurd (show (1 : Int32) = (0 : Int32) from h4) (by decide)

theorem ms_193_80 {x : Nat → Nat → Nat} {t : Int32} {d : Nat} {s : ps_S} {l0 : Int64} {Q : Option Value → ps_S → Prop} (k : ∀ (v : Int32), v &&& 1 = v → Q (some (.int v)) s) (J : mJ x t s) : ps_At d 193 80 [(0, .long l0)] [] s Q := by
  refine pg_193_80 ?_
  refine And.intro (fun h1 => ?_) (fun h1 => ?_)
  · have f2 : (lg_cmp l0 (1935764837 : Int64)).toInt = (0 : Int) := xeq h1
    exact ms_193_158 (l0 := l0) k  (1) J 
  · have f3 : (lg_cmp l0 (1935764837 : Int64)).toInt ≠ (0 : Int) := xne h1
    refine And.intro (fun h4 => ?_) (fun h4 => ?_)
    · have f5 : (lg_cmp l0 (107148486208869 : Int64)).toInt = (0 : Int) := xeq h4
      exact ms_193_158 (l0 := l0) k  (1) J 
    · have f6 : (lg_cmp l0 (107148486208869 : Int64)).toInt ≠ (0 : Int) := xne h4
      refine And.intro (fun h7 => ?_) (fun h7 => ?_)
      · have f8 : (lg_cmp l0 (32765882169189741 : Int64)).toInt = (0 : Int) := xeq h7
        exact ms_193_158 (l0 := l0) k  (1) J 
      · have f9 : (lg_cmp l0 (32765882169189741 : Int64)).toInt ≠ (0 : Int) := xne h7
        refine And.intro (fun h10 => ?_) (fun h10 => ?_)
        · have f11 : (lg_cmp l0 (1651471464 : Int64)).toInt = (0 : Int) := xeq h10
          exact ms_193_158 (l0 := l0) k  (1) J 
        · have f12 : (lg_cmp l0 (1651471464 : Int64)).toInt ≠ (0 : Int) := xne h10
          refine And.intro (fun h13 => ?_) (fun h13 => ?_)
          · have f14 : (lg_cmp l0 (1818584692 : Int64)).toInt = (0 : Int) := xeq h13
            exact ms_193_158 (l0 := l0) k  (1) J 
          · have f15 : (lg_cmp l0 (1818584692 : Int64)).toInt ≠ (0 : Int) := xne h13
            refine And.intro (fun h16 => ?_) (fun h16 => ?_)
            · have f17 : (lg_cmp l0 (491394656372 : Int64)).toInt = (0 : Int) := xeq h16
              exact ms_193_158 (l0 := l0) k  (1) J 
            · have f18 : (lg_cmp l0 (491394656372 : Int64)).toInt ≠ (0 : Int) := xne h16
              refine And.intro (fun h19 => ?_) (fun h19 => ?_)
              · have f20 : (lg_cmp l0 (122537235539572 : Int64)).toInt = (0 : Int) := xeq h19
                exact ms_193_158 (l0 := l0) k  (1) J 
              · have f21 : (lg_cmp l0 (122537235539572 : Int64)).toInt ≠ (0 : Int) := xne h19
                refine And.intro (fun h22 => ?_) (fun h22 => ?_)
                · have f23 : (lg_cmp l0 (31369558135105652 : Int64)).toInt = (0 : Int) := xeq h22
                  exact ms_193_158 (l0 := l0) k  (1) J 
                · have f24 : (lg_cmp l0 (31369558135105652 : Int64)).toInt ≠ (0 : Int) := xne h22
                  refine And.intro (fun h25 => ?_) (fun h25 => ?_)
                  · have f26 : (lg_cmp l0 (1667330917 : Int64)).toInt ≠ (0 : Int) := xne h25
                    refine And.intro (fun h27 => ?_) (fun h27 => ?_)
                    · have f28 : (1 : Int) ≠ (0 : Int) := xne h27
                      exact k (1 : Int32) (by decide)
                    · exact absurd (show (1 : Int32) = (0 : Int32) from h27) (by decide)
                  · have f29 : (lg_cmp l0 (1667330917 : Int64)).toInt = (0 : Int) := xeq h25
                    exact ms_193_158 (l0 := l0) k  (1) J 

theorem ms_193 {x : Nat → Nat → Nat} {t : Int32} {s : ps_S} {d : Nat} {l0 : Int64} {f : Int32 → ps_S → Prop} (J : mJ x t s) (k : ∀ (v : Int32), v &&& 1 = v → f v s) : ps_Cl d 193 [.long l0] s (ps_rI f) := by
  refine pg_193_0 ?_
  refine And.intro (fun h1 => ?_) (fun h1 => ?_)
  · have f2 : (lg_cmp l0 (7497068 : Int64)).toInt = (0 : Int) := xeq h1
    exact ms_193_80 (l0 := l0) k   J 
  · have f3 : (lg_cmp l0 (7497068 : Int64)).toInt ≠ (0 : Int) := xne h1
    refine And.intro (fun h4 => ?_) (fun h4 => ?_)
    · have f5 : (lg_cmp l0 (6714734 : Int64)).toInt = (0 : Int) := xeq h4
      exact ms_193_80 (l0 := l0) k   J 
    · have f6 : (lg_cmp l0 (6714734 : Int64)).toInt ≠ (0 : Int) := xne h4
      refine And.intro (fun h7 => ?_) (fun h7 => ?_)
      · have f8 : (lg_cmp l0 (418632003437 : Int64)).toInt = (0 : Int) := xeq h7
        exact ms_193_80 (l0 := l0) k   J 
      · have f9 : (lg_cmp l0 (418632003437 : Int64)).toInt ≠ (0 : Int) := xne h7
        refine And.intro (fun h10 => ?_) (fun h10 => ?_)
        · have f11 : (lg_cmp l0 (439721161573 : Int64)).toInt = (0 : Int) := xeq h10
          exact ms_193_80 (l0 := l0) k   J 
        · have f12 : (lg_cmp l0 (439721161573 : Int64)).toInt ≠ (0 : Int) := xne h10
          refine And.intro (fun h13 => ?_) (fun h13 => ?_)
          · have f14 : (lg_cmp l0 (7237492 : Int64)).toInt = (0 : Int) := xeq h13
            exact ms_193_80 (l0 := l0) k   J 
          · have f15 : (lg_cmp l0 (7237492 : Int64)).toInt ≠ (0 : Int) := xne h13
            refine And.intro (fun h16 => ?_) (fun h16 => ?_)
            · have f17 : (lg_cmp l0 (6385252 : Int64)).toInt = (0 : Int) := xeq h16
              exact ms_193_80 (l0 := l0) k   J 
            · have f18 : (lg_cmp l0 (6385252 : Int64)).toInt ≠ (0 : Int) := xne h16
              refine And.intro (fun h19 => ?_) (fun h19 => ?_)
              · have f20 : (lg_cmp l0 (28530 : Int64)).toInt = (0 : Int) := xeq h19
                exact ms_193_80 (l0 := l0) k   J 
              · have f21 : (lg_cmp l0 (28530 : Int64)).toInt ≠ (0 : Int) := xne h19
                refine And.intro (fun h22 => ?_) (fun h22 => ?_)
                · have f23 : (lg_cmp l0 (6909296 : Int64)).toInt = (0 : Int) := xeq h22
                  exact ms_193_80 (l0 := l0) k   J 
                · have f24 : (lg_cmp l0 (6909296 : Int64)).toInt ≠ (0 : Int) := xne h22
                  refine And.intro (fun h25 => ?_) (fun h25 => ?_)
                  · have f26 : (lg_cmp l0 (6384748 : Int64)).toInt = (0 : Int) := xeq h25
                    exact ms_193_80 (l0 := l0) k   J 
                  · have f27 : (lg_cmp l0 (6384748 : Int64)).toInt ≠ (0 : Int) := xne h25
                    refine And.intro (fun h28 => ?_) (fun h28 => ?_)
                    · have f29 : (lg_cmp l0 (1936682341 : Int64)).toInt ≠ (0 : Int) := xne h28
                      refine And.intro (fun h30 => ?_) (fun h30 => ?_)
                      · have f31 : (lg_cmp l0 (1935764837 : Int64)).toInt = (0 : Int) := xeq h30
                        exact ms_193_158 (l0 := l0) k  (0) J 
                      · have f32 : (lg_cmp l0 (1935764837 : Int64)).toInt ≠ (0 : Int) := xne h30
                        refine And.intro (fun h33 => ?_) (fun h33 => ?_)
                        · have f34 : (lg_cmp l0 (107148486208869 : Int64)).toInt = (0 : Int) := xeq h33
                          exact ms_193_158 (l0 := l0) k  (0) J 
                        · have f35 : (lg_cmp l0 (107148486208869 : Int64)).toInt ≠ (0 : Int) := xne h33
                          refine And.intro (fun h36 => ?_) (fun h36 => ?_)
                          · have f37 : (lg_cmp l0 (32765882169189741 : Int64)).toInt = (0 : Int) := xeq h36
                            exact ms_193_158 (l0 := l0) k  (0) J 
                          · have f38 : (lg_cmp l0 (32765882169189741 : Int64)).toInt ≠ (0 : Int) := xne h36
                            refine And.intro (fun h39 => ?_) (fun h39 => ?_)
                            · have f40 : (lg_cmp l0 (1651471464 : Int64)).toInt = (0 : Int) := xeq h39
                              exact ms_193_158 (l0 := l0) k  (0) J 
                            · have f41 : (lg_cmp l0 (1651471464 : Int64)).toInt ≠ (0 : Int) := xne h39
                              refine And.intro (fun h42 => ?_) (fun h42 => ?_)
                              · have f43 : (lg_cmp l0 (1818584692 : Int64)).toInt = (0 : Int) := xeq h42
                                exact ms_193_158 (l0 := l0) k  (0) J 
                              · have f44 : (lg_cmp l0 (1818584692 : Int64)).toInt ≠ (0 : Int) := xne h42
                                refine And.intro (fun h45 => ?_) (fun h45 => ?_)
                                · have f46 : (lg_cmp l0 (491394656372 : Int64)).toInt = (0 : Int) := xeq h45
                                  exact ms_193_158 (l0 := l0) k  (0) J 
                                · have f47 : (lg_cmp l0 (491394656372 : Int64)).toInt ≠ (0 : Int) := xne h45
                                  refine And.intro (fun h48 => ?_) (fun h48 => ?_)
                                  · have f49 : (lg_cmp l0 (122537235539572 : Int64)).toInt = (0 : Int) := xeq h48
                                    exact ms_193_158 (l0 := l0) k  (0) J 
                                  · have f50 : (lg_cmp l0 (122537235539572 : Int64)).toInt ≠ (0 : Int) := xne h48
                                    refine And.intro (fun h51 => ?_) (fun h51 => ?_)
                                    · have f52 : (lg_cmp l0 (31369558135105652 : Int64)).toInt = (0 : Int) := xeq h51
                                      exact ms_193_158 (l0 := l0) k  (0) J 
                                    · have f53 : (lg_cmp l0 (31369558135105652 : Int64)).toInt ≠ (0 : Int) := xne h51
                                      refine And.intro (fun h54 => ?_) (fun h54 => ?_)
                                      · have f55 : (lg_cmp l0 (1667330917 : Int64)).toInt ≠ (0 : Int) := xne h54
                                        refine And.intro (fun h56 => ?_) (fun h56 => ?_)
                                        · exact absurd (show (0 : Int32) ≠ (0 : Int32) from h56) (by decide)
                                        · refine And.intro (fun h57 => ?_) (fun h57 => ?_)
                                          · exact absurd (show (0 : Int32) ≠ (0 : Int32) from h57) (by decide)
                                          · refine And.intro (fun h58 => ?_) (fun h58 => ?_)
                                            · have f59 : (lg_cmp l0 (418498243705 : Int64)).toInt = (0 : Int) := xeq h58
                                              exact k (1 : Int32) (by decide)
                                            · have f60 : (lg_cmp l0 (418498243705 : Int64)).toInt ≠ (0 : Int) := xne h58
                                              refine And.intro (fun h61 => ?_) (fun h61 => ?_)
                                              · have f62 : (lg_cmp l0 (29103447424000364 : Int64)).toInt = (0 : Int) := xeq h61
                                                exact k (1 : Int32) (by decide)
                                              · have f63 : (lg_cmp l0 (29103447424000364 : Int64)).toInt ≠ (0 : Int) := xne h61
                                                refine And.intro (fun h64 => ?_) (fun h64 => ?_)
                                                · have f65 : (lg_cmp l0 (32493203083583852 : Int64)).toInt = (0 : Int) := xeq h64
                                                  exact k (1 : Int32) (by decide)
                                                · have f66 : (lg_cmp l0 (32493203083583852 : Int64)).toInt ≠ (0 : Int) := xne h64
                                                  refine And.intro (fun h67 => ?_) (fun h67 => ?_)
                                                  · have f68 : (lg_cmp l0 (435811873652 : Int64)).toInt = (0 : Int) := xeq h67
                                                    exact k (1 : Int32) (by decide)
                                                  · have f69 : (lg_cmp l0 (435811873652 : Int64)).toInt ≠ (0 : Int) := xne h67
                                                    refine And.intro (fun h70 => ?_) (fun h70 => ?_)
                                                    · have f71 : (lg_cmp l0 (1869636974 : Int64)).toInt = (0 : Int) := xeq h70
                                                      exact k (1 : Int32) (by decide)
                                                    · have f72 : (lg_cmp l0 (1869636974 : Int64)).toInt ≠ (0 : Int) := xne h70
                                                      refine And.intro (fun h73 => ?_) (fun h73 => ?_)
                                                      · have f74 : (lg_cmp l0 (32199680874079077 : Int64)).toInt = (0 : Int) := xeq h73
                                                        exact k (1 : Int32) (by decide)
                                                      · have f75 : (lg_cmp l0 (32199680874079077 : Int64)).toInt ≠ (0 : Int) := xne h73
                                                        refine And.intro (fun h76 => ?_) (fun h76 => ?_)
                                                        · have f77 : (lg_cmp l0 (107075471766116 : Int64)).toInt = (0 : Int) := xeq h76
                                                          exact k (1 : Int32) (by decide)
                                                        · have f78 : (lg_cmp l0 (107075471766116 : Int64)).toInt ≠ (0 : Int) := xne h76
                                                          refine And.intro (fun h79 => ?_) (fun h79 => ?_)
                                                          · have f80 : (lg_cmp l0 (27985188498925923 : Int64)).toInt = (0 : Int) := xeq h79
                                                            exact k (1 : Int32) (by decide)
                                                          · have f81 : (lg_cmp l0 (27985188498925923 : Int64)).toInt ≠ (0 : Int) := xne h79
                                                            refine And.intro (fun h82 => ?_) (fun h82 => ?_)
                                                            · have f83 : (lg_cmp l0 (110386639889253 : Int64)).toInt ≠ (0 : Int) := xne h82
                                                              exact k (0 : Int32) (by decide)
                                                            · have f84 : (lg_cmp l0 (110386639889253 : Int64)).toInt = (0 : Int) := xeq h82
                                                              exact k (1 : Int32) (by decide)
                                      · have f85 : (lg_cmp l0 (1667330917 : Int64)).toInt = (0 : Int) := xeq h54
                                        exact ms_193_158 (l0 := l0) k  (0) J 
                    · have f86 : (lg_cmp l0 (1936682341 : Int64)).toInt = (0 : Int) := xeq h28
                      exact ms_193_80 (l0 := l0) k   J 

-- ProofBenchModel.goOn()V
theorem pg_194_0 {d : Nat} {s : ps_S} {Q : Option Value → ps_S → Prop} (h :
  ps_At (d + 1) 194 8 [(0, .ref 1131)] [] (ps_ui s 1131 7 (ps_i s 1131 8)) Q) : ps_At (d + 1) 194 0 [(0, .ref 1131)] [] s Q :=
  ps_wp_at (stops := [(8, [0]), (58, [0]), (119, [0]), (156, [0, 2]), (199, [0]), (259, [0])]) (n := 6) h rfl

theorem pg_194_8 {d : Nat} {s : ps_S} {Q : Option Value → ps_S → Prop} (h :
  ((ps_i s 1131 4) ≤ (ps_i s 1131 7) →
    ps_At (d + 1) 194 58 [(0, .ref 1131)] [] s Q) ∧
  ((ps_i s 1131 7) < (ps_i s 1131 4) →
    ps_Cl d 188 [.ref 1131, .int (ps_i s 1131 7)] s (ps_rI (fun v1 s1 =>
      (v1 = 32 →
        ps_At (d + 1) 194 8 [(0, .ref 1131)] [] (ps_ui s1 1131 7 ((ps_i s1 1131 7) + 1)) Q) ∧
      (v1 ≠ 32 →
        ps_Cl d 188 [.ref 1131, .int (ps_i s1 1131 7)] s1 (ps_rI (fun v2 s2 =>
          (v2 ≠ 10 →
            ps_At (d + 1) 194 58 [(0, .ref 1131)] [] s2 Q) ∧
          (v2 = 10 →
            ps_At (d + 1) 194 8 [(0, .ref 1131)] [] (ps_ui s2 1131 7 ((ps_i s2 1131 7) + 1)) Q)))))))) : ps_At (d + 1) 194 8 [(0, .ref 1131)] [] s Q :=
  ps_wp_at (stops := [(8, [0]), (58, [0]), (119, [0]), (156, [0, 2]), (199, [0]), (259, [0])]) (n := 33) h rfl

theorem pg_194_58 {d : Nat} {s : ps_S} {Q : Option Value → ps_S → Prop} (h :
  ps_Cl d 188 [.ref 1131, .int (ps_i s 1131 7)] s (ps_rI (fun v1 s1 =>
    ((ps_i (ps_ui s1 1131 8 ((ps_i s1 1131 7) + 1)) 1131 7) < (ps_i (ps_ui s1 1131 8 ((ps_i s1 1131 7) + 1)) 1131 4) →
      ps_Cl d 189 [.int v1] (ps_ui s1 1131 8 ((ps_i s1 1131 7) + 1)) (ps_rI (fun v2 s2 =>
        (v2 = 0 →
          ps_Cl d 190 [.int v1] s2 (ps_rI (fun v3 s3 =>
            (v3 = 0 →
              (v1 ≠ 59 →
                Q none (ps_ui s3 1131 9 1)) ∧
              (v1 = 59 →
                Q none (ps_ui s3 1131 9 5))) ∧
            (v3 ≠ 0 →
              ps_At (d + 1) 194 259 [(0, .ref 1131)] [] (ps_ui (ps_ui s3 1131 10 0) 1131 8 (ps_i (ps_ui s3 1131 10 0) 1131 7)) Q)))) ∧
        (v2 ≠ 0 →
          ps_At (d + 1) 194 119 [(0, .ref 1131)] [] s2 Q)))) ∧
    ((ps_i (ps_ui s1 1131 8 ((ps_i s1 1131 7) + 1)) 1131 4) ≤ (ps_i (ps_ui s1 1131 8 ((ps_i s1 1131 7) + 1)) 1131 7) →
      Q none (ps_ui (ps_ui (ps_ui (ps_ui s1 1131 8 ((ps_i s1 1131 7) + 1)) 1131 9 0) 1131 7 (ps_i (ps_ui (ps_ui s1 1131 8 ((ps_i s1 1131 7) + 1)) 1131 9 0) 1131 4)) 1131 8 (ps_i (ps_ui (ps_ui (ps_ui s1 1131 8 ((ps_i s1 1131 7) + 1)) 1131 9 0) 1131 7 (ps_i (ps_ui (ps_ui s1 1131 8 ((ps_i s1 1131 7) + 1)) 1131 9 0) 1131 4)) 1131 4)))))) : ps_At (d + 1) 194 58 [(0, .ref 1131)] [] s Q :=
  ps_wp_at (stops := [(8, [0]), (58, [0]), (119, [0]), (156, [0, 2]), (199, [0]), (259, [0])]) (n := 55) h rfl

theorem pg_194_119 {d : Nat} {s : ps_S} {Q : Option Value → ps_S → Prop} (h :
  ps_Cl d 188 [.ref 1131, .int (ps_i s 1131 8)] s (ps_rI (fun v1 s1 =>
    ps_Cl d 189 [.int v1] s1 (ps_rI (fun v2 s2 =>
      (v2 = 0 →
        ps_At (d + 1) 194 156 [(0, .ref 1131), (2, .int (ps_i (ps_uj s2 1131 11 0) 1131 7))] [] (ps_uj s2 1131 11 0) Q) ∧
      (v2 ≠ 0 →
        ps_At (d + 1) 194 119 [(0, .ref 1131)] [] (ps_ui s2 1131 8 ((ps_i s2 1131 8) + 1)) Q)))))) : ps_At (d + 1) 194 119 [(0, .ref 1131)] [] s Q :=
  ps_wp_at (stops := [(8, [0]), (58, [0]), (119, [0]), (156, [0, 2]), (199, [0]), (259, [0])]) (n := 21) h rfl

theorem pg_194_156 {d : Nat} {x2 : Int32} {s : ps_S} {Q : Option Value → ps_S → Prop} (h :
  ((ps_i s 1131 8) ≤ x2 →
    ps_At (d + 1) 194 199 [(0, .ref 1131)] [] s Q) ∧
  (x2 < (ps_i s 1131 8) →
    (((ps_i s 1131 7) + 8) ≤ x2 →
      ps_At (d + 1) 194 199 [(0, .ref 1131)] [] s Q) ∧
    (x2 < ((ps_i s 1131 7) + 8) →
      ps_Cl d 188 [.ref 1131, .int x2] s (ps_rI (fun v1 s1 =>
        ps_At (d + 1) 194 156 [(0, .ref 1131), (2, .int (x2 + 1))] [] (ps_uj s1 1131 11 (((ps_j s 1131 11) <<< (Int32.toInt64 (8 : Int32) &&& 63)) ||| (Int32.toInt64 v1))) Q))))) : ps_At (d + 1) 194 156 [(0, .ref 1131), (2, .int x2)] [] s Q :=
  ps_wp_at (stops := [(8, [0]), (58, [0]), (119, [0]), (156, [0, 2]), (199, [0]), (259, [0])]) (n := 25) h rfl

theorem pg_194_199 {d : Nat} {s : ps_S} {Q : Option Value → ps_S → Prop} (h :
  (((ps_i s 1131 8) - (ps_i s 1131 7)) ≤ 8 →
    ps_Cl d 193 [.long (ps_j s 1131 11)] s (ps_rI (fun v1 s1 =>
      (v1 = 0 →
        Q none (ps_ui s1 1131 9 2)) ∧
      (v1 ≠ 0 →
        Q none (ps_ui s1 1131 9 3))))) ∧
  (8 < ((ps_i s 1131 8) - (ps_i s 1131 7)) →
    Q none (ps_ui s 1131 9 1))) : ps_At (d + 1) 194 199 [(0, .ref 1131)] [] s Q :=
  ps_wp_at (stops := [(8, [0]), (58, [0]), (119, [0]), (156, [0, 2]), (199, [0]), (259, [0])]) (n := 28) h rfl

theorem pg_194_259 {d : Nat} {s : ps_S} {Q : Option Value → ps_S → Prop} (h :
  ps_Cl d 188 [.ref 1131, .int (ps_i s 1131 8)] s (ps_rI (fun v1 s1 =>
    ps_Cl d 190 [.int v1] s1 (ps_rI (fun v2 s2 =>
      (v2 = 0 →
        (4 < ((ps_i s2 1131 8) - (ps_i s2 1131 7)) →
          Q none (ps_ui s2 1131 9 1)) ∧
        (((ps_i s2 1131 8) - (ps_i s2 1131 7)) ≤ 4 →
          ps_Cl d 188 [.ref 1131, .int (ps_i s2 1131 8)] s2 (ps_rI (fun v3 s3 =>
            ps_Cl d 189 [.int v3] s3 (ps_rI (fun v4 s4 =>
              (v4 = 0 →
                Q none (ps_ui s4 1131 9 4)) ∧
              (v4 ≠ 0 →
                Q none (ps_ui s4 1131 9 1)))))))) ∧
      (v2 ≠ 0 →
        (4 ≤ ((ps_i s2 1131 8) - (ps_i s2 1131 7)) →
          ps_At (d + 1) 194 259 [(0, .ref 1131)] [] (ps_ui s2 1131 8 ((ps_i s2 1131 8) + 1)) Q) ∧
        (((ps_i s2 1131 8) - (ps_i s2 1131 7)) < 4 →
          ps_Cl d 188 [.ref 1131, .int (ps_i s2 1131 8)] s2 (ps_rI (fun v5 s5 =>
            ps_At (d + 1) 194 259 [(0, .ref 1131)] [] (ps_ui (ps_ui s5 1131 10 ((((10 : Int32) * (ps_i s2 1131 10)) + v5) - 48)) 1131 8 ((ps_i (ps_ui s5 1131 10 ((((10 : Int32) * (ps_i s2 1131 10)) + v5) - 48)) 1131 8) + 1)) Q))))))))) : ps_At (d + 1) 194 259 [(0, .ref 1131)] [] s Q :=
  ps_wp_at (stops := [(8, [0]), (58, [0]), (119, [0]), (156, [0, 2]), (199, [0]), (259, [0])]) (n := 70) h rfl

theorem ms_194_199 {x : Nat → Nat → Nat} {t : Int32} {d : Nat} {s0 : ps_S} {Q : Option Value → ps_S → Prop} (k : ∀ (s' : ps_S), mJ x t s' → kp [] [7, 8, 9, 10, 11] s0 s' → ((ps_i s' 1131 8).toInt ≤ (ps_i s' 1131 4).toInt) → Q none s') (s : ps_S) (J : mJ x t s) (K : kp [] [7, 8, 9, 10, 11] s0 s) (i0 : (ps_i s 1131 8).toInt ≤ (ps_i s 1131 4).toInt) : ps_At (d + 1) 194 199 [(0, .ref 1131)] [] s Q := by
  have r1 := mf_8 J
  have r2 := mf_4 J
  refine pg_194_199 (d := d) ?_
  have r3 := mf_7 J
  have a4 : ((ps_i s 1131 8) - (ps_i s 1131 7)).toInt = (ps_i s 1131 8).toInt - (ps_i s 1131 7).toInt := xIs (show -2147483648 ≤ (ps_i s 1131 8).toInt - (ps_i s 1131 7).toInt from by omega) (show (ps_i s 1131 8).toInt - (ps_i s 1131 7).toInt < 2147483648 from by omega)
  refine And.intro (fun h5 => ?_) (fun h5 => ?_)
  · have f6 : ((ps_i s 1131 8) - (ps_i s 1131 7)).toInt ≤ (8 : Int) := xle h5
    refine ms_193 J  (fun v7 b7 => ?_)
    refine And.intro (fun h8 => ?_) (fun h8 => ?_)
    · have f9 : v7.toInt = (0 : Int) := xeq h8
      have J10 := mwi_9 (v := (2 : Int32)) J (show 0 ≤ (2 : Int) from by omega) (show (2 : Int) ≤ 5 from by omega)
      have K11 := kpi K (q := 9) (v := (2 : Int32)) rfl
      exact k _ J10 K11 (show (ps_i s 1131 8).toInt ≤ (ps_i s 1131 4).toInt from by omega)
    · have f12 : v7.toInt ≠ (0 : Int) := xne h8
      have J13 := mwi_9 (v := (3 : Int32)) J (show 0 ≤ (3 : Int) from by omega) (show (3 : Int) ≤ 5 from by omega)
      have K14 := kpi K (q := 9) (v := (3 : Int32)) rfl
      exact k _ J13 K14 (show (ps_i s 1131 8).toInt ≤ (ps_i s 1131 4).toInt from by omega)
  · have f15 : (8 : Int) < ((ps_i s 1131 8) - (ps_i s 1131 7)).toInt := xlt h5
    have J16 := mwi_9 (v := (1 : Int32)) J (show 0 ≤ (1 : Int) from by omega) (show (1 : Int) ≤ 5 from by omega)
    have K17 := kpi K (q := 9) (v := (1 : Int32)) rfl
    exact k _ J16 K17 (show (ps_i s 1131 8).toInt ≤ (ps_i s 1131 4).toInt from by omega)

theorem ms_194_156 {x : Nat → Nat → Nat} {t : Int32} {d : Nat} {s0 : ps_S} {Q : Option Value → ps_S → Prop} (k : ∀ (s' : ps_S), mJ x t s' → kp [] [7, 8, 9, 10, 11] s0 s' → ((ps_i s' 1131 8).toInt ≤ (ps_i s' 1131 4).toInt) → Q none s') : ∀ (n : Nat) (x2 : Int32) (s : ps_S), (mJ x t s) → (kp [] [7, 8, 9, 10, 11] s0 s) → ((ps_i s 1131 8).toInt ≤ (ps_i s 1131 4).toInt) → (0 ≤ x2.toInt) → (x2.toInt ≤ 1601) → 1700 - x2.toInt ≤ (n : Int) → ps_At (d + 1) 194 156 [(0, .ref 1131), (2, .int x2)] [] s Q := by
  refine xstr (fun n ih => ?_)
  intro x2 s J K i0 i1 i2 hm
  have r1 := mf_8 J
  have r2 := mf_4 J
  refine pg_194_156 (d := d) ?_
  refine And.intro (fun h3 => ?_) (fun h3 => ?_)
  · have f4 : (ps_i s 1131 8).toInt ≤ x2.toInt := xle h3
    exact ms_194_199  k   _ J K (show (ps_i s 1131 8).toInt ≤ (ps_i s 1131 4).toInt from by omega)
  · have f5 : x2.toInt < (ps_i s 1131 8).toInt := xlt h3
    have r6 := mf_7 J
    have a7 : ((ps_i s 1131 7) + 8).toInt = (ps_i s 1131 7).toInt + (8 : Int) := xIa (show -2147483648 ≤ (ps_i s 1131 7).toInt + (8 : Int) from by omega) (show (ps_i s 1131 7).toInt + (8 : Int) < 2147483648 from by omega)
    refine And.intro (fun h8 => ?_) (fun h8 => ?_)
    · have f9 : ((ps_i s 1131 7) + 8).toInt ≤ x2.toInt := xle h8
      exact ms_194_199  k   _ J K (show (ps_i s 1131 8).toInt ≤ (ps_i s 1131 4).toInt from by omega)
    · have f10 : x2.toInt < ((ps_i s 1131 7) + 8).toInt := xlt h8
      refine pg_188_0 ?_
      refine And.intro (fun h11 => ?_) (fun h11 => ?_)
      · have f12 : (ps_i s 1131 4).toInt ≤ x2.toInt := xle h11
        have J13 := mw_j (q := 11) (v := (((ps_j s 1131 11) <<< (Int32.toInt64 (8 : Int32) &&& 63)) ||| (Int32.toInt64 0))) J
        have K14 := kpj K (q := 11) (v := (((ps_j s 1131 11) <<< (Int32.toInt64 (8 : Int32) &&& 63)) ||| (Int32.toInt64 0))) rfl
        have a15 : (x2 + 1).toInt = x2.toInt + (1 : Int) := xIa (show -2147483648 ≤ x2.toInt + (1 : Int) from by omega) (show x2.toInt + (1 : Int) < 2147483648 from by omega)
        exact ih (n - 1) (show n - 1 < n from by omega) (x2 + 1) _ J13 K14 (show (ps_i s 1131 8).toInt ≤ (ps_i s 1131 4).toInt from by omega) (show 0 ≤ (x2 + 1).toInt from by omega) (show (x2 + 1).toInt ≤ 1601 from by omega) (show 1700 - (x2 + 1).toInt ≤ ((n - 1 : Nat) : Int) from by omega)
      · have f16 : x2.toInt < (ps_i s 1131 4).toInt := xlt h11
        refine ps_nd_i (show pm_in x2 1600 = true from xgi (show 0 ≤ x2.toInt from by omega) (show x2.toInt < 1600 from by omega)) ?_
        have n17 : 0 ≤ ((ps_a s 1133 (Int32.toNatClampNeg x2)) &&& 255).toInt ∧ ((ps_a s 1133 (Int32.toNatClampNeg x2)) &&& 255).toInt ≤ 255 := xN (ps_a s 1133 (Int32.toNatClampNeg x2)) (c := 255) (n := 255) (by decide) (by decide)
        have J18 := mw_j (q := 11) (v := (((ps_j s 1131 11) <<< (Int32.toInt64 (8 : Int32) &&& 63)) ||| (Int32.toInt64 ((ps_a s 1133 (Int32.toNatClampNeg x2)) &&& 255)))) J
        have K19 := kpj K (q := 11) (v := (((ps_j s 1131 11) <<< (Int32.toInt64 (8 : Int32) &&& 63)) ||| (Int32.toInt64 ((ps_a s 1133 (Int32.toNatClampNeg x2)) &&& 255)))) rfl
        have a20 : (x2 + 1).toInt = x2.toInt + (1 : Int) := xIa (show -2147483648 ≤ x2.toInt + (1 : Int) from by omega) (show x2.toInt + (1 : Int) < 2147483648 from by omega)
        exact ih (n - 1) (show n - 1 < n from by omega) (x2 + 1) _ J18 K19 (show (ps_i s 1131 8).toInt ≤ (ps_i s 1131 4).toInt from by omega) (show 0 ≤ (x2 + 1).toInt from by omega) (show (x2 + 1).toInt ≤ 1601 from by omega) (show 1700 - (x2 + 1).toInt ≤ ((n - 1 : Nat) : Int) from by omega)

theorem ms_194_119 {x : Nat → Nat → Nat} {t : Int32} {d : Nat} {s0 : ps_S} {Q : Option Value → ps_S → Prop} (k : ∀ (s' : ps_S), mJ x t s' → kp [] [7, 8, 9, 10, 11] s0 s' → ((ps_i s' 1131 8).toInt ≤ (ps_i s' 1131 4).toInt) → Q none s') : ∀ (n : Nat) (s : ps_S), (mJ x t s) → (kp [] [7, 8, 9, 10, 11] s0 s) → ((ps_i s 1131 7).toInt < (ps_i s 1131 4).toInt) → ((ps_i s 1131 8).toInt ≤ (ps_i s 1131 4).toInt) → (ps_i s 1131 4).toInt - (ps_i s 1131 8).toInt ≤ (n : Int) → ps_At (d + 1) 194 119 [(0, .ref 1131)] [] s Q := by
  refine xstr (fun n ih => ?_)
  intro s J K i0 i1 hm
  have r1 := mf_7 J
  have r2 := mf_4 J
  have r3 := mf_8 J
  refine pg_194_119 (d := d) ?_
  refine pg_188_0 ?_
  refine And.intro (fun h4 => ?_) (fun h4 => ?_)
  · have f5 : (ps_i s 1131 4).toInt ≤ (ps_i s 1131 8).toInt := xle h4
    refine ms_189 J  (fun v6 p6_0 b6 => ?_)
    have p6_0' : v6.toInt = 0 ∨ 97 ≤ (0 : Int) := p6_0
    refine And.intro (fun h7 => ?_) (fun h7 => ?_)
    · have f8 : v6.toInt = (0 : Int) := xeq h7
      have J9 := mw_j (q := 11) (v := (0 : Int64)) J
      have K10 := kpj K (q := 11) (v := (0 : Int64)) rfl
      exact ms_194_156  k  (1700 - (ps_i s 1131 7).toInt).toNat (ps_i s 1131 7) _ J9 K10 (show (ps_i s 1131 8).toInt ≤ (ps_i s 1131 4).toInt from by omega) (show 0 ≤ (ps_i s 1131 7).toInt from by omega) (show (ps_i s 1131 7).toInt ≤ 1601 from by omega) (show 1700 - (ps_i s 1131 7).toInt ≤ (((1700 - (ps_i s 1131 7).toInt).toNat : Nat) : Int) from by omega)
    · have f11 : v6.toInt ≠ (0 : Int) := xne h7
      have a12 : ((ps_i s 1131 8) + 1).toInt = (ps_i s 1131 8).toInt + (1 : Int) := xIa (show -2147483648 ≤ (ps_i s 1131 8).toInt + (1 : Int) from by omega) (show (ps_i s 1131 8).toInt + (1 : Int) < 2147483648 from by omega)
      have J13 := mwi_8 (v := ((ps_i s 1131 8) + 1)) J (show 0 ≤ ((ps_i s 1131 8) + 1).toInt from by omega) (show ((ps_i s 1131 8) + 1).toInt ≤ 1601 from by omega)
      have K14 := kpi K (q := 8) (v := ((ps_i s 1131 8) + 1)) rfl
      exact ih (n - 1) (show n - 1 < n from by omega)  _ J13 K14 (show (ps_i s 1131 7).toInt < (ps_i s 1131 4).toInt from by omega) (show ((ps_i s 1131 8) + 1).toInt ≤ (ps_i s 1131 4).toInt from by omega) (show (ps_i s 1131 4).toInt - ((ps_i s 1131 8) + 1).toInt ≤ ((n - 1 : Nat) : Int) from by omega)
  · have f15 : (ps_i s 1131 8).toInt < (ps_i s 1131 4).toInt := xlt h4
    refine ps_nd_i (show pm_in (ps_i s 1131 8) 1600 = true from xgi (show 0 ≤ (ps_i s 1131 8).toInt from by omega) (show (ps_i s 1131 8).toInt < 1600 from by omega)) ?_
    have n16 : 0 ≤ ((ps_a s 1133 (Int32.toNatClampNeg (ps_i s 1131 8))) &&& 255).toInt ∧ ((ps_a s 1133 (Int32.toNatClampNeg (ps_i s 1131 8))) &&& 255).toInt ≤ 255 := xN (ps_a s 1133 (Int32.toNatClampNeg (ps_i s 1131 8))) (c := 255) (n := 255) (by decide) (by decide)
    refine ms_189 J  (fun v17 p17_0 b17 => ?_)
    have p17_0' : v17.toInt = 0 ∨ 97 ≤ ((ps_a s 1133 (Int32.toNatClampNeg (ps_i s 1131 8))) &&& 255).toInt := p17_0
    refine And.intro (fun h18 => ?_) (fun h18 => ?_)
    · have f19 : v17.toInt = (0 : Int) := xeq h18
      have J20 := mw_j (q := 11) (v := (0 : Int64)) J
      have K21 := kpj K (q := 11) (v := (0 : Int64)) rfl
      exact ms_194_156  k  (1700 - (ps_i s 1131 7).toInt).toNat (ps_i s 1131 7) _ J20 K21 (show (ps_i s 1131 8).toInt ≤ (ps_i s 1131 4).toInt from by omega) (show 0 ≤ (ps_i s 1131 7).toInt from by omega) (show (ps_i s 1131 7).toInt ≤ 1601 from by omega) (show 1700 - (ps_i s 1131 7).toInt ≤ (((1700 - (ps_i s 1131 7).toInt).toNat : Nat) : Int) from by omega)
    · have f22 : v17.toInt ≠ (0 : Int) := xne h18
      have a23 : ((ps_i s 1131 8) + 1).toInt = (ps_i s 1131 8).toInt + (1 : Int) := xIa (show -2147483648 ≤ (ps_i s 1131 8).toInt + (1 : Int) from by omega) (show (ps_i s 1131 8).toInt + (1 : Int) < 2147483648 from by omega)
      have J24 := mwi_8 (v := ((ps_i s 1131 8) + 1)) J (show 0 ≤ ((ps_i s 1131 8) + 1).toInt from by omega) (show ((ps_i s 1131 8) + 1).toInt ≤ 1601 from by omega)
      have K25 := kpi K (q := 8) (v := ((ps_i s 1131 8) + 1)) rfl
      exact ih (n - 1) (show n - 1 < n from by omega)  _ J24 K25 (show (ps_i s 1131 7).toInt < (ps_i s 1131 4).toInt from by omega) (show ((ps_i s 1131 8) + 1).toInt ≤ (ps_i s 1131 4).toInt from by omega) (show (ps_i s 1131 4).toInt - ((ps_i s 1131 8) + 1).toInt ≤ ((n - 1 : Nat) : Int) from by omega)

theorem ms_194_259 {x : Nat → Nat → Nat} {t : Int32} {d : Nat} {s0 : ps_S} {Q : Option Value → ps_S → Prop} (k : ∀ (s' : ps_S), mJ x t s' → kp [] [7, 8, 9, 10, 11] s0 s' → ((ps_i s' 1131 8).toInt ≤ (ps_i s' 1131 4).toInt) → Q none s') : ∀ (n : Nat) (s : ps_S), (mJ x t s) → (kp [] [7, 8, 9, 10, 11] s0 s) → ((ps_i s 1131 7).toInt ≤ (ps_i s 1131 8).toInt) → ((ps_i s 1131 8).toInt ≤ (ps_i s 1131 4).toInt) → (((ps_i s 1131 8).toInt - (ps_i s 1131 7).toInt ≤ 0 ∧ (ps_i s 1131 10).toInt = 0) ∨ ((ps_i s 1131 8).toInt - (ps_i s 1131 7).toInt = 1 ∧ (ps_i s 1131 10).toInt ≤ 9) ∨ ((ps_i s 1131 8).toInt - (ps_i s 1131 7).toInt = 2 ∧ (ps_i s 1131 10).toInt ≤ 99) ∨ ((ps_i s 1131 8).toInt - (ps_i s 1131 7).toInt = 3 ∧ (ps_i s 1131 10).toInt ≤ 999) ∨ 4 ≤ (ps_i s 1131 8).toInt - (ps_i s 1131 7).toInt) → (ps_i s 1131 4).toInt - (ps_i s 1131 8).toInt ≤ (n : Int) → ps_At (d + 1) 194 259 [(0, .ref 1131)] [] s Q := by
  refine xstr (fun n ih => ?_)
  intro s J K i0 i1 i2 hm
  have r1 := mf_7 J
  have r2 := mf_8 J
  have r3 := mf_4 J
  have r4 := mf_10 J
  refine pg_194_259 (d := d) ?_
  refine pg_188_0 ?_
  refine And.intro (fun h5 => ?_) (fun h5 => ?_)
  · have f6 : (ps_i s 1131 4).toInt ≤ (ps_i s 1131 8).toInt := xle h5
    refine ms_190 J  (fun v7 p7_0 b7 => ?_)
    have p7_0' : v7.toInt = 0 ∨ (48 ≤ (0 : Int) ∧ (0 : Int) ≤ 57) := p7_0
    refine And.intro (fun h8 => ?_) (fun h8 => ?_)
    · have f9 : v7.toInt = (0 : Int) := xeq h8
      have a10 : ((ps_i s 1131 8) - (ps_i s 1131 7)).toInt = (ps_i s 1131 8).toInt - (ps_i s 1131 7).toInt := xIs (show -2147483648 ≤ (ps_i s 1131 8).toInt - (ps_i s 1131 7).toInt from by omega) (show (ps_i s 1131 8).toInt - (ps_i s 1131 7).toInt < 2147483648 from by omega)
      refine And.intro (fun h11 => ?_) (fun h11 => ?_)
      · have f12 : (4 : Int) < ((ps_i s 1131 8) - (ps_i s 1131 7)).toInt := xlt h11
        have J13 := mwi_9 (v := (1 : Int32)) J (show 0 ≤ (1 : Int) from by omega) (show (1 : Int) ≤ 5 from by omega)
        have K14 := kpi K (q := 9) (v := (1 : Int32)) rfl
        exact k _ J13 K14 (show (ps_i s 1131 8).toInt ≤ (ps_i s 1131 4).toInt from by omega)
      · have f15 : ((ps_i s 1131 8) - (ps_i s 1131 7)).toInt ≤ (4 : Int) := xle h11
        refine pg_188_0 ?_
        refine And.intro (fun h16 => ?_) (fun h16 => ?_)
        · have f17 : (ps_i s 1131 4).toInt ≤ (ps_i s 1131 8).toInt := xle h16
          refine ms_189 J  (fun v18 p18_0 b18 => ?_)
          have p18_0' : v18.toInt = 0 ∨ 97 ≤ (0 : Int) := p18_0
          refine And.intro (fun h19 => ?_) (fun h19 => ?_)
          · have f20 : v18.toInt = (0 : Int) := xeq h19
            have J21 := mwi_9 (v := (4 : Int32)) J (show 0 ≤ (4 : Int) from by omega) (show (4 : Int) ≤ 5 from by omega)
            have K22 := kpi K (q := 9) (v := (4 : Int32)) rfl
            exact k _ J21 K22 (show (ps_i s 1131 8).toInt ≤ (ps_i s 1131 4).toInt from by omega)
          · have f23 : v18.toInt ≠ (0 : Int) := xne h19
            have J24 := mwi_9 (v := (1 : Int32)) J (show 0 ≤ (1 : Int) from by omega) (show (1 : Int) ≤ 5 from by omega)
            have K25 := kpi K (q := 9) (v := (1 : Int32)) rfl
            exact k _ J24 K25 (show (ps_i s 1131 8).toInt ≤ (ps_i s 1131 4).toInt from by omega)
        · have f26 : (ps_i s 1131 8).toInt < (ps_i s 1131 4).toInt := xlt h16
          refine ps_nd_i (show pm_in (ps_i s 1131 8) 1600 = true from xgi (show 0 ≤ (ps_i s 1131 8).toInt from by omega) (show (ps_i s 1131 8).toInt < 1600 from by omega)) ?_
          have n27 : 0 ≤ ((ps_a s 1133 (Int32.toNatClampNeg (ps_i s 1131 8))) &&& 255).toInt ∧ ((ps_a s 1133 (Int32.toNatClampNeg (ps_i s 1131 8))) &&& 255).toInt ≤ 255 := xN (ps_a s 1133 (Int32.toNatClampNeg (ps_i s 1131 8))) (c := 255) (n := 255) (by decide) (by decide)
          refine ms_189 J  (fun v28 p28_0 b28 => ?_)
          have p28_0' : v28.toInt = 0 ∨ 97 ≤ ((ps_a s 1133 (Int32.toNatClampNeg (ps_i s 1131 8))) &&& 255).toInt := p28_0
          refine And.intro (fun h29 => ?_) (fun h29 => ?_)
          · have f30 : v28.toInt = (0 : Int) := xeq h29
            have J31 := mwi_9 (v := (4 : Int32)) J (show 0 ≤ (4 : Int) from by omega) (show (4 : Int) ≤ 5 from by omega)
            have K32 := kpi K (q := 9) (v := (4 : Int32)) rfl
            exact k _ J31 K32 (show (ps_i s 1131 8).toInt ≤ (ps_i s 1131 4).toInt from by omega)
          · have f33 : v28.toInt ≠ (0 : Int) := xne h29
            have J34 := mwi_9 (v := (1 : Int32)) J (show 0 ≤ (1 : Int) from by omega) (show (1 : Int) ≤ 5 from by omega)
            have K35 := kpi K (q := 9) (v := (1 : Int32)) rfl
            exact k _ J34 K35 (show (ps_i s 1131 8).toInt ≤ (ps_i s 1131 4).toInt from by omega)
    · have f36 : v7.toInt ≠ (0 : Int) := xne h8
      have a37 : ((ps_i s 1131 8) - (ps_i s 1131 7)).toInt = (ps_i s 1131 8).toInt - (ps_i s 1131 7).toInt := xIs (show -2147483648 ≤ (ps_i s 1131 8).toInt - (ps_i s 1131 7).toInt from by omega) (show (ps_i s 1131 8).toInt - (ps_i s 1131 7).toInt < 2147483648 from by omega)
      refine And.intro (fun h38 => ?_) (fun h38 => ?_)
      · have f39 : (4 : Int) ≤ ((ps_i s 1131 8) - (ps_i s 1131 7)).toInt := xle h38
        have a40 : ((ps_i s 1131 8) + 1).toInt = (ps_i s 1131 8).toInt + (1 : Int) := xIa (show -2147483648 ≤ (ps_i s 1131 8).toInt + (1 : Int) from by omega) (show (ps_i s 1131 8).toInt + (1 : Int) < 2147483648 from by omega)
        have J41 := mwi_8 (v := ((ps_i s 1131 8) + 1)) J (show 0 ≤ ((ps_i s 1131 8) + 1).toInt from by omega) (show ((ps_i s 1131 8) + 1).toInt ≤ 1601 from by omega)
        have K42 := kpi K (q := 8) (v := ((ps_i s 1131 8) + 1)) rfl
        exact ih (n - 1) (show n - 1 < n from by omega)  _ J41 K42 (show (ps_i s 1131 7).toInt ≤ ((ps_i s 1131 8) + 1).toInt from by omega) (show ((ps_i s 1131 8) + 1).toInt ≤ (ps_i s 1131 4).toInt from by omega) (show (((ps_i s 1131 8) + 1).toInt - (ps_i s 1131 7).toInt ≤ 0 ∧ (ps_i s 1131 10).toInt = 0) ∨ (((ps_i s 1131 8) + 1).toInt - (ps_i s 1131 7).toInt = 1 ∧ (ps_i s 1131 10).toInt ≤ 9) ∨ (((ps_i s 1131 8) + 1).toInt - (ps_i s 1131 7).toInt = 2 ∧ (ps_i s 1131 10).toInt ≤ 99) ∨ (((ps_i s 1131 8) + 1).toInt - (ps_i s 1131 7).toInt = 3 ∧ (ps_i s 1131 10).toInt ≤ 999) ∨ 4 ≤ ((ps_i s 1131 8) + 1).toInt - (ps_i s 1131 7).toInt from by omega) (show (ps_i s 1131 4).toInt - ((ps_i s 1131 8) + 1).toInt ≤ ((n - 1 : Nat) : Int) from by omega)
      · have f43 : ((ps_i s 1131 8) - (ps_i s 1131 7)).toInt < (4 : Int) := xlt h38
        have a44 : ((10 : Int32) * (ps_i s 1131 10)).toInt = (10 : Int) * (ps_i s 1131 10).toInt := xIm (show -2147483648 ≤ (10 : Int) * (ps_i s 1131 10).toInt from by omega) (show (10 : Int) * (ps_i s 1131 10).toInt < 2147483648 from by omega)
        refine pg_188_0 ?_
        refine And.intro (fun h45 => ?_) (fun h45 => ?_)
        · have f46 : (ps_i s 1131 4).toInt ≤ (ps_i s 1131 8).toInt := xle h45
          have a47 : (((10 : Int32) * (ps_i s 1131 10)) + 0).toInt = ((10 : Int32) * (ps_i s 1131 10)).toInt + (0 : Int) := xIa (show -2147483648 ≤ ((10 : Int32) * (ps_i s 1131 10)).toInt + (0 : Int) from by omega) (show ((10 : Int32) * (ps_i s 1131 10)).toInt + (0 : Int) < 2147483648 from by omega)
          have a48 : ((((10 : Int32) * (ps_i s 1131 10)) + 0) - 48).toInt = (((10 : Int32) * (ps_i s 1131 10)) + 0).toInt - (48 : Int) := xIs (show -2147483648 ≤ (((10 : Int32) * (ps_i s 1131 10)) + 0).toInt - (48 : Int) from by omega) (show (((10 : Int32) * (ps_i s 1131 10)) + 0).toInt - (48 : Int) < 2147483648 from by omega)
          have J49 := mwi_10 (v := ((((10 : Int32) * (ps_i s 1131 10)) + 0) - 48)) J (show 0 ≤ ((((10 : Int32) * (ps_i s 1131 10)) + 0) - 48).toInt from by omega) (show ((((10 : Int32) * (ps_i s 1131 10)) + 0) - 48).toInt ≤ 9999 from by omega)
          have K50 := kpi K (q := 10) (v := ((((10 : Int32) * (ps_i s 1131 10)) + 0) - 48)) rfl
          have a51 : ((ps_i s 1131 8) + 1).toInt = (ps_i s 1131 8).toInt + (1 : Int) := xIa (show -2147483648 ≤ (ps_i s 1131 8).toInt + (1 : Int) from by omega) (show (ps_i s 1131 8).toInt + (1 : Int) < 2147483648 from by omega)
          have J52 := mwi_8 (v := ((ps_i s 1131 8) + 1)) J49 (show 0 ≤ ((ps_i s 1131 8) + 1).toInt from by omega) (show ((ps_i s 1131 8) + 1).toInt ≤ 1601 from by omega)
          have K53 := kpi K50 (q := 8) (v := ((ps_i s 1131 8) + 1)) rfl
          exact ih (n - 1) (show n - 1 < n from by omega)  _ J52 K53 (show (ps_i s 1131 7).toInt ≤ ((ps_i s 1131 8) + 1).toInt from by omega) (show ((ps_i s 1131 8) + 1).toInt ≤ (ps_i s 1131 4).toInt from by omega) (show (((ps_i s 1131 8) + 1).toInt - (ps_i s 1131 7).toInt ≤ 0 ∧ ((((10 : Int32) * (ps_i s 1131 10)) + 0) - 48).toInt = 0) ∨ (((ps_i s 1131 8) + 1).toInt - (ps_i s 1131 7).toInt = 1 ∧ ((((10 : Int32) * (ps_i s 1131 10)) + 0) - 48).toInt ≤ 9) ∨ (((ps_i s 1131 8) + 1).toInt - (ps_i s 1131 7).toInt = 2 ∧ ((((10 : Int32) * (ps_i s 1131 10)) + 0) - 48).toInt ≤ 99) ∨ (((ps_i s 1131 8) + 1).toInt - (ps_i s 1131 7).toInt = 3 ∧ ((((10 : Int32) * (ps_i s 1131 10)) + 0) - 48).toInt ≤ 999) ∨ 4 ≤ ((ps_i s 1131 8) + 1).toInt - (ps_i s 1131 7).toInt from by omega) (show (ps_i s 1131 4).toInt - ((ps_i s 1131 8) + 1).toInt ≤ ((n - 1 : Nat) : Int) from by omega)
        · have f54 : (ps_i s 1131 8).toInt < (ps_i s 1131 4).toInt := xlt h45
          refine ps_nd_i (show pm_in (ps_i s 1131 8) 1600 = true from xgi (show 0 ≤ (ps_i s 1131 8).toInt from by omega) (show (ps_i s 1131 8).toInt < 1600 from by omega)) ?_
          have n55 : 0 ≤ ((ps_a s 1133 (Int32.toNatClampNeg (ps_i s 1131 8))) &&& 255).toInt ∧ ((ps_a s 1133 (Int32.toNatClampNeg (ps_i s 1131 8))) &&& 255).toInt ≤ 255 := xN (ps_a s 1133 (Int32.toNatClampNeg (ps_i s 1131 8))) (c := 255) (n := 255) (by decide) (by decide)
          have a56 : (((10 : Int32) * (ps_i s 1131 10)) + ((ps_a s 1133 (Int32.toNatClampNeg (ps_i s 1131 8))) &&& 255)).toInt = ((10 : Int32) * (ps_i s 1131 10)).toInt + ((ps_a s 1133 (Int32.toNatClampNeg (ps_i s 1131 8))) &&& 255).toInt := xIa (show -2147483648 ≤ ((10 : Int32) * (ps_i s 1131 10)).toInt + ((ps_a s 1133 (Int32.toNatClampNeg (ps_i s 1131 8))) &&& 255).toInt from by omega) (show ((10 : Int32) * (ps_i s 1131 10)).toInt + ((ps_a s 1133 (Int32.toNatClampNeg (ps_i s 1131 8))) &&& 255).toInt < 2147483648 from by omega)
          have a57 : ((((10 : Int32) * (ps_i s 1131 10)) + ((ps_a s 1133 (Int32.toNatClampNeg (ps_i s 1131 8))) &&& 255)) - 48).toInt = (((10 : Int32) * (ps_i s 1131 10)) + ((ps_a s 1133 (Int32.toNatClampNeg (ps_i s 1131 8))) &&& 255)).toInt - (48 : Int) := xIs (show -2147483648 ≤ (((10 : Int32) * (ps_i s 1131 10)) + ((ps_a s 1133 (Int32.toNatClampNeg (ps_i s 1131 8))) &&& 255)).toInt - (48 : Int) from by omega) (show (((10 : Int32) * (ps_i s 1131 10)) + ((ps_a s 1133 (Int32.toNatClampNeg (ps_i s 1131 8))) &&& 255)).toInt - (48 : Int) < 2147483648 from by omega)
          have J58 := mwi_10 (v := ((((10 : Int32) * (ps_i s 1131 10)) + ((ps_a s 1133 (Int32.toNatClampNeg (ps_i s 1131 8))) &&& 255)) - 48)) J (show 0 ≤ ((((10 : Int32) * (ps_i s 1131 10)) + ((ps_a s 1133 (Int32.toNatClampNeg (ps_i s 1131 8))) &&& 255)) - 48).toInt from by omega) (show ((((10 : Int32) * (ps_i s 1131 10)) + ((ps_a s 1133 (Int32.toNatClampNeg (ps_i s 1131 8))) &&& 255)) - 48).toInt ≤ 9999 from by omega)
          have K59 := kpi K (q := 10) (v := ((((10 : Int32) * (ps_i s 1131 10)) + ((ps_a s 1133 (Int32.toNatClampNeg (ps_i s 1131 8))) &&& 255)) - 48)) rfl
          have a60 : ((ps_i s 1131 8) + 1).toInt = (ps_i s 1131 8).toInt + (1 : Int) := xIa (show -2147483648 ≤ (ps_i s 1131 8).toInt + (1 : Int) from by omega) (show (ps_i s 1131 8).toInt + (1 : Int) < 2147483648 from by omega)
          have J61 := mwi_8 (v := ((ps_i s 1131 8) + 1)) J58 (show 0 ≤ ((ps_i s 1131 8) + 1).toInt from by omega) (show ((ps_i s 1131 8) + 1).toInt ≤ 1601 from by omega)
          have K62 := kpi K59 (q := 8) (v := ((ps_i s 1131 8) + 1)) rfl
          exact ih (n - 1) (show n - 1 < n from by omega)  _ J61 K62 (show (ps_i s 1131 7).toInt ≤ ((ps_i s 1131 8) + 1).toInt from by omega) (show ((ps_i s 1131 8) + 1).toInt ≤ (ps_i s 1131 4).toInt from by omega) (show (((ps_i s 1131 8) + 1).toInt - (ps_i s 1131 7).toInt ≤ 0 ∧ ((((10 : Int32) * (ps_i s 1131 10)) + ((ps_a s 1133 (Int32.toNatClampNeg (ps_i s 1131 8))) &&& 255)) - 48).toInt = 0) ∨ (((ps_i s 1131 8) + 1).toInt - (ps_i s 1131 7).toInt = 1 ∧ ((((10 : Int32) * (ps_i s 1131 10)) + ((ps_a s 1133 (Int32.toNatClampNeg (ps_i s 1131 8))) &&& 255)) - 48).toInt ≤ 9) ∨ (((ps_i s 1131 8) + 1).toInt - (ps_i s 1131 7).toInt = 2 ∧ ((((10 : Int32) * (ps_i s 1131 10)) + ((ps_a s 1133 (Int32.toNatClampNeg (ps_i s 1131 8))) &&& 255)) - 48).toInt ≤ 99) ∨ (((ps_i s 1131 8) + 1).toInt - (ps_i s 1131 7).toInt = 3 ∧ ((((10 : Int32) * (ps_i s 1131 10)) + ((ps_a s 1133 (Int32.toNatClampNeg (ps_i s 1131 8))) &&& 255)) - 48).toInt ≤ 999) ∨ 4 ≤ ((ps_i s 1131 8) + 1).toInt - (ps_i s 1131 7).toInt from by omega) (show (ps_i s 1131 4).toInt - ((ps_i s 1131 8) + 1).toInt ≤ ((n - 1 : Nat) : Int) from by omega)
  · have f63 : (ps_i s 1131 8).toInt < (ps_i s 1131 4).toInt := xlt h5
    refine ps_nd_i (show pm_in (ps_i s 1131 8) 1600 = true from xgi (show 0 ≤ (ps_i s 1131 8).toInt from by omega) (show (ps_i s 1131 8).toInt < 1600 from by omega)) ?_
    have n64 : 0 ≤ ((ps_a s 1133 (Int32.toNatClampNeg (ps_i s 1131 8))) &&& 255).toInt ∧ ((ps_a s 1133 (Int32.toNatClampNeg (ps_i s 1131 8))) &&& 255).toInt ≤ 255 := xN (ps_a s 1133 (Int32.toNatClampNeg (ps_i s 1131 8))) (c := 255) (n := 255) (by decide) (by decide)
    refine ms_190 J  (fun v65 p65_0 b65 => ?_)
    have p65_0' : v65.toInt = 0 ∨ (48 ≤ ((ps_a s 1133 (Int32.toNatClampNeg (ps_i s 1131 8))) &&& 255).toInt ∧ ((ps_a s 1133 (Int32.toNatClampNeg (ps_i s 1131 8))) &&& 255).toInt ≤ 57) := p65_0
    refine And.intro (fun h66 => ?_) (fun h66 => ?_)
    · have f67 : v65.toInt = (0 : Int) := xeq h66
      have a68 : ((ps_i s 1131 8) - (ps_i s 1131 7)).toInt = (ps_i s 1131 8).toInt - (ps_i s 1131 7).toInt := xIs (show -2147483648 ≤ (ps_i s 1131 8).toInt - (ps_i s 1131 7).toInt from by omega) (show (ps_i s 1131 8).toInt - (ps_i s 1131 7).toInt < 2147483648 from by omega)
      refine And.intro (fun h69 => ?_) (fun h69 => ?_)
      · have f70 : (4 : Int) < ((ps_i s 1131 8) - (ps_i s 1131 7)).toInt := xlt h69
        have J71 := mwi_9 (v := (1 : Int32)) J (show 0 ≤ (1 : Int) from by omega) (show (1 : Int) ≤ 5 from by omega)
        have K72 := kpi K (q := 9) (v := (1 : Int32)) rfl
        exact k _ J71 K72 (show (ps_i s 1131 8).toInt ≤ (ps_i s 1131 4).toInt from by omega)
      · have f73 : ((ps_i s 1131 8) - (ps_i s 1131 7)).toInt ≤ (4 : Int) := xle h69
        refine pg_188_0 ?_
        refine And.intro (fun h74 => ?_) (fun h74 => ?_)
        · have f75 : (ps_i s 1131 4).toInt ≤ (ps_i s 1131 8).toInt := xle h74
          refine ms_189 J  (fun v76 p76_0 b76 => ?_)
          have p76_0' : v76.toInt = 0 ∨ 97 ≤ (0 : Int) := p76_0
          refine And.intro (fun h77 => ?_) (fun h77 => ?_)
          · have f78 : v76.toInt = (0 : Int) := xeq h77
            have J79 := mwi_9 (v := (4 : Int32)) J (show 0 ≤ (4 : Int) from by omega) (show (4 : Int) ≤ 5 from by omega)
            have K80 := kpi K (q := 9) (v := (4 : Int32)) rfl
            exact k _ J79 K80 (show (ps_i s 1131 8).toInt ≤ (ps_i s 1131 4).toInt from by omega)
          · have f81 : v76.toInt ≠ (0 : Int) := xne h77
            have J82 := mwi_9 (v := (1 : Int32)) J (show 0 ≤ (1 : Int) from by omega) (show (1 : Int) ≤ 5 from by omega)
            have K83 := kpi K (q := 9) (v := (1 : Int32)) rfl
            exact k _ J82 K83 (show (ps_i s 1131 8).toInt ≤ (ps_i s 1131 4).toInt from by omega)
        · have f84 : (ps_i s 1131 8).toInt < (ps_i s 1131 4).toInt := xlt h74
          refine ps_nd_i (show pm_in (ps_i s 1131 8) 1600 = true from xgi (show 0 ≤ (ps_i s 1131 8).toInt from by omega) (show (ps_i s 1131 8).toInt < 1600 from by omega)) ?_
          refine ms_189 J  (fun v85 p85_0 b85 => ?_)
          have p85_0' : v85.toInt = 0 ∨ 97 ≤ ((ps_a s 1133 (Int32.toNatClampNeg (ps_i s 1131 8))) &&& 255).toInt := p85_0
          refine And.intro (fun h86 => ?_) (fun h86 => ?_)
          · have f87 : v85.toInt = (0 : Int) := xeq h86
            have J88 := mwi_9 (v := (4 : Int32)) J (show 0 ≤ (4 : Int) from by omega) (show (4 : Int) ≤ 5 from by omega)
            have K89 := kpi K (q := 9) (v := (4 : Int32)) rfl
            exact k _ J88 K89 (show (ps_i s 1131 8).toInt ≤ (ps_i s 1131 4).toInt from by omega)
          · have f90 : v85.toInt ≠ (0 : Int) := xne h86
            have J91 := mwi_9 (v := (1 : Int32)) J (show 0 ≤ (1 : Int) from by omega) (show (1 : Int) ≤ 5 from by omega)
            have K92 := kpi K (q := 9) (v := (1 : Int32)) rfl
            exact k _ J91 K92 (show (ps_i s 1131 8).toInt ≤ (ps_i s 1131 4).toInt from by omega)
    · have f93 : v65.toInt ≠ (0 : Int) := xne h66
      have a94 : ((ps_i s 1131 8) - (ps_i s 1131 7)).toInt = (ps_i s 1131 8).toInt - (ps_i s 1131 7).toInt := xIs (show -2147483648 ≤ (ps_i s 1131 8).toInt - (ps_i s 1131 7).toInt from by omega) (show (ps_i s 1131 8).toInt - (ps_i s 1131 7).toInt < 2147483648 from by omega)
      refine And.intro (fun h95 => ?_) (fun h95 => ?_)
      · have f96 : (4 : Int) ≤ ((ps_i s 1131 8) - (ps_i s 1131 7)).toInt := xle h95
        have a97 : ((ps_i s 1131 8) + 1).toInt = (ps_i s 1131 8).toInt + (1 : Int) := xIa (show -2147483648 ≤ (ps_i s 1131 8).toInt + (1 : Int) from by omega) (show (ps_i s 1131 8).toInt + (1 : Int) < 2147483648 from by omega)
        have J98 := mwi_8 (v := ((ps_i s 1131 8) + 1)) J (show 0 ≤ ((ps_i s 1131 8) + 1).toInt from by omega) (show ((ps_i s 1131 8) + 1).toInt ≤ 1601 from by omega)
        have K99 := kpi K (q := 8) (v := ((ps_i s 1131 8) + 1)) rfl
        exact ih (n - 1) (show n - 1 < n from by omega)  _ J98 K99 (show (ps_i s 1131 7).toInt ≤ ((ps_i s 1131 8) + 1).toInt from by omega) (show ((ps_i s 1131 8) + 1).toInt ≤ (ps_i s 1131 4).toInt from by omega) (show (((ps_i s 1131 8) + 1).toInt - (ps_i s 1131 7).toInt ≤ 0 ∧ (ps_i s 1131 10).toInt = 0) ∨ (((ps_i s 1131 8) + 1).toInt - (ps_i s 1131 7).toInt = 1 ∧ (ps_i s 1131 10).toInt ≤ 9) ∨ (((ps_i s 1131 8) + 1).toInt - (ps_i s 1131 7).toInt = 2 ∧ (ps_i s 1131 10).toInt ≤ 99) ∨ (((ps_i s 1131 8) + 1).toInt - (ps_i s 1131 7).toInt = 3 ∧ (ps_i s 1131 10).toInt ≤ 999) ∨ 4 ≤ ((ps_i s 1131 8) + 1).toInt - (ps_i s 1131 7).toInt from by omega) (show (ps_i s 1131 4).toInt - ((ps_i s 1131 8) + 1).toInt ≤ ((n - 1 : Nat) : Int) from by omega)
      · have f100 : ((ps_i s 1131 8) - (ps_i s 1131 7)).toInt < (4 : Int) := xlt h95
        have a101 : ((10 : Int32) * (ps_i s 1131 10)).toInt = (10 : Int) * (ps_i s 1131 10).toInt := xIm (show -2147483648 ≤ (10 : Int) * (ps_i s 1131 10).toInt from by omega) (show (10 : Int) * (ps_i s 1131 10).toInt < 2147483648 from by omega)
        refine pg_188_0 ?_
        refine And.intro (fun h102 => ?_) (fun h102 => ?_)
        · have f103 : (ps_i s 1131 4).toInt ≤ (ps_i s 1131 8).toInt := xle h102
          have a104 : (((10 : Int32) * (ps_i s 1131 10)) + 0).toInt = ((10 : Int32) * (ps_i s 1131 10)).toInt + (0 : Int) := xIa (show -2147483648 ≤ ((10 : Int32) * (ps_i s 1131 10)).toInt + (0 : Int) from by omega) (show ((10 : Int32) * (ps_i s 1131 10)).toInt + (0 : Int) < 2147483648 from by omega)
          have a105 : ((((10 : Int32) * (ps_i s 1131 10)) + 0) - 48).toInt = (((10 : Int32) * (ps_i s 1131 10)) + 0).toInt - (48 : Int) := xIs (show -2147483648 ≤ (((10 : Int32) * (ps_i s 1131 10)) + 0).toInt - (48 : Int) from by omega) (show (((10 : Int32) * (ps_i s 1131 10)) + 0).toInt - (48 : Int) < 2147483648 from by omega)
          have J106 := mwi_10 (v := ((((10 : Int32) * (ps_i s 1131 10)) + 0) - 48)) J (show 0 ≤ ((((10 : Int32) * (ps_i s 1131 10)) + 0) - 48).toInt from by omega) (show ((((10 : Int32) * (ps_i s 1131 10)) + 0) - 48).toInt ≤ 9999 from by omega)
          have K107 := kpi K (q := 10) (v := ((((10 : Int32) * (ps_i s 1131 10)) + 0) - 48)) rfl
          have a108 : ((ps_i s 1131 8) + 1).toInt = (ps_i s 1131 8).toInt + (1 : Int) := xIa (show -2147483648 ≤ (ps_i s 1131 8).toInt + (1 : Int) from by omega) (show (ps_i s 1131 8).toInt + (1 : Int) < 2147483648 from by omega)
          have J109 := mwi_8 (v := ((ps_i s 1131 8) + 1)) J106 (show 0 ≤ ((ps_i s 1131 8) + 1).toInt from by omega) (show ((ps_i s 1131 8) + 1).toInt ≤ 1601 from by omega)
          have K110 := kpi K107 (q := 8) (v := ((ps_i s 1131 8) + 1)) rfl
          exact ih (n - 1) (show n - 1 < n from by omega)  _ J109 K110 (show (ps_i s 1131 7).toInt ≤ ((ps_i s 1131 8) + 1).toInt from by omega) (show ((ps_i s 1131 8) + 1).toInt ≤ (ps_i s 1131 4).toInt from by omega) (show (((ps_i s 1131 8) + 1).toInt - (ps_i s 1131 7).toInt ≤ 0 ∧ ((((10 : Int32) * (ps_i s 1131 10)) + 0) - 48).toInt = 0) ∨ (((ps_i s 1131 8) + 1).toInt - (ps_i s 1131 7).toInt = 1 ∧ ((((10 : Int32) * (ps_i s 1131 10)) + 0) - 48).toInt ≤ 9) ∨ (((ps_i s 1131 8) + 1).toInt - (ps_i s 1131 7).toInt = 2 ∧ ((((10 : Int32) * (ps_i s 1131 10)) + 0) - 48).toInt ≤ 99) ∨ (((ps_i s 1131 8) + 1).toInt - (ps_i s 1131 7).toInt = 3 ∧ ((((10 : Int32) * (ps_i s 1131 10)) + 0) - 48).toInt ≤ 999) ∨ 4 ≤ ((ps_i s 1131 8) + 1).toInt - (ps_i s 1131 7).toInt from by omega) (show (ps_i s 1131 4).toInt - ((ps_i s 1131 8) + 1).toInt ≤ ((n - 1 : Nat) : Int) from by omega)
        · have f111 : (ps_i s 1131 8).toInt < (ps_i s 1131 4).toInt := xlt h102
          refine ps_nd_i (show pm_in (ps_i s 1131 8) 1600 = true from xgi (show 0 ≤ (ps_i s 1131 8).toInt from by omega) (show (ps_i s 1131 8).toInt < 1600 from by omega)) ?_
          have a112 : (((10 : Int32) * (ps_i s 1131 10)) + ((ps_a s 1133 (Int32.toNatClampNeg (ps_i s 1131 8))) &&& 255)).toInt = ((10 : Int32) * (ps_i s 1131 10)).toInt + ((ps_a s 1133 (Int32.toNatClampNeg (ps_i s 1131 8))) &&& 255).toInt := xIa (show -2147483648 ≤ ((10 : Int32) * (ps_i s 1131 10)).toInt + ((ps_a s 1133 (Int32.toNatClampNeg (ps_i s 1131 8))) &&& 255).toInt from by omega) (show ((10 : Int32) * (ps_i s 1131 10)).toInt + ((ps_a s 1133 (Int32.toNatClampNeg (ps_i s 1131 8))) &&& 255).toInt < 2147483648 from by omega)
          have a113 : ((((10 : Int32) * (ps_i s 1131 10)) + ((ps_a s 1133 (Int32.toNatClampNeg (ps_i s 1131 8))) &&& 255)) - 48).toInt = (((10 : Int32) * (ps_i s 1131 10)) + ((ps_a s 1133 (Int32.toNatClampNeg (ps_i s 1131 8))) &&& 255)).toInt - (48 : Int) := xIs (show -2147483648 ≤ (((10 : Int32) * (ps_i s 1131 10)) + ((ps_a s 1133 (Int32.toNatClampNeg (ps_i s 1131 8))) &&& 255)).toInt - (48 : Int) from by omega) (show (((10 : Int32) * (ps_i s 1131 10)) + ((ps_a s 1133 (Int32.toNatClampNeg (ps_i s 1131 8))) &&& 255)).toInt - (48 : Int) < 2147483648 from by omega)
          have J114 := mwi_10 (v := ((((10 : Int32) * (ps_i s 1131 10)) + ((ps_a s 1133 (Int32.toNatClampNeg (ps_i s 1131 8))) &&& 255)) - 48)) J (show 0 ≤ ((((10 : Int32) * (ps_i s 1131 10)) + ((ps_a s 1133 (Int32.toNatClampNeg (ps_i s 1131 8))) &&& 255)) - 48).toInt from by omega) (show ((((10 : Int32) * (ps_i s 1131 10)) + ((ps_a s 1133 (Int32.toNatClampNeg (ps_i s 1131 8))) &&& 255)) - 48).toInt ≤ 9999 from by omega)
          have K115 := kpi K (q := 10) (v := ((((10 : Int32) * (ps_i s 1131 10)) + ((ps_a s 1133 (Int32.toNatClampNeg (ps_i s 1131 8))) &&& 255)) - 48)) rfl
          have a116 : ((ps_i s 1131 8) + 1).toInt = (ps_i s 1131 8).toInt + (1 : Int) := xIa (show -2147483648 ≤ (ps_i s 1131 8).toInt + (1 : Int) from by omega) (show (ps_i s 1131 8).toInt + (1 : Int) < 2147483648 from by omega)
          have J117 := mwi_8 (v := ((ps_i s 1131 8) + 1)) J114 (show 0 ≤ ((ps_i s 1131 8) + 1).toInt from by omega) (show ((ps_i s 1131 8) + 1).toInt ≤ 1601 from by omega)
          have K118 := kpi K115 (q := 8) (v := ((ps_i s 1131 8) + 1)) rfl
          exact ih (n - 1) (show n - 1 < n from by omega)  _ J117 K118 (show (ps_i s 1131 7).toInt ≤ ((ps_i s 1131 8) + 1).toInt from by omega) (show ((ps_i s 1131 8) + 1).toInt ≤ (ps_i s 1131 4).toInt from by omega) (show (((ps_i s 1131 8) + 1).toInt - (ps_i s 1131 7).toInt ≤ 0 ∧ ((((10 : Int32) * (ps_i s 1131 10)) + ((ps_a s 1133 (Int32.toNatClampNeg (ps_i s 1131 8))) &&& 255)) - 48).toInt = 0) ∨ (((ps_i s 1131 8) + 1).toInt - (ps_i s 1131 7).toInt = 1 ∧ ((((10 : Int32) * (ps_i s 1131 10)) + ((ps_a s 1133 (Int32.toNatClampNeg (ps_i s 1131 8))) &&& 255)) - 48).toInt ≤ 9) ∨ (((ps_i s 1131 8) + 1).toInt - (ps_i s 1131 7).toInt = 2 ∧ ((((10 : Int32) * (ps_i s 1131 10)) + ((ps_a s 1133 (Int32.toNatClampNeg (ps_i s 1131 8))) &&& 255)) - 48).toInt ≤ 99) ∨ (((ps_i s 1131 8) + 1).toInt - (ps_i s 1131 7).toInt = 3 ∧ ((((10 : Int32) * (ps_i s 1131 10)) + ((ps_a s 1133 (Int32.toNatClampNeg (ps_i s 1131 8))) &&& 255)) - 48).toInt ≤ 999) ∨ 4 ≤ ((ps_i s 1131 8) + 1).toInt - (ps_i s 1131 7).toInt from by omega) (show (ps_i s 1131 4).toInt - ((ps_i s 1131 8) + 1).toInt ≤ ((n - 1 : Nat) : Int) from by omega)

theorem ms_194_58 {x : Nat → Nat → Nat} {t : Int32} {d : Nat} {s0 : ps_S} {Q : Option Value → ps_S → Prop} (k : ∀ (s' : ps_S), mJ x t s' → kp [] [7, 8, 9, 10, 11] s0 s' → ((ps_i s' 1131 8).toInt ≤ (ps_i s' 1131 4).toInt) → Q none s') (s : ps_S) (J : mJ x t s) (K : kp [] [7, 8, 9, 10, 11] s0 s) (i0 : (ps_i s 1131 7).toInt ≤ (ps_i s 1131 4).toInt) : ps_At (d + 1) 194 58 [(0, .ref 1131)] [] s Q := by
  have r1 := mf_7 J
  have r2 := mf_4 J
  refine pg_194_58 (d := d) ?_
  refine pg_188_0 ?_
  refine And.intro (fun h3 => ?_) (fun h3 => ?_)
  · have f4 : (ps_i s 1131 4).toInt ≤ (ps_i s 1131 7).toInt := xle h3
    have a5 : ((ps_i s 1131 7) + 1).toInt = (ps_i s 1131 7).toInt + (1 : Int) := xIa (show -2147483648 ≤ (ps_i s 1131 7).toInt + (1 : Int) from by omega) (show (ps_i s 1131 7).toInt + (1 : Int) < 2147483648 from by omega)
    have J6 := mwi_8 (v := ((ps_i s 1131 7) + 1)) J (show 0 ≤ ((ps_i s 1131 7) + 1).toInt from by omega) (show ((ps_i s 1131 7) + 1).toInt ≤ 1601 from by omega)
    have K7 := kpi K (q := 8) (v := ((ps_i s 1131 7) + 1)) rfl
    refine And.intro (fun h8 => ?_) (fun h8 => ?_)
    · have f9 : (ps_i s 1131 7).toInt < (ps_i s 1131 4).toInt := xlt h8
      refine ms_189 J6  (fun v10 p10_0 b10 => ?_)
      have p10_0' : v10.toInt = 0 ∨ 97 ≤ (0 : Int) := p10_0
      refine And.intro (fun h11 => ?_) (fun h11 => ?_)
      · have f12 : v10.toInt = (0 : Int) := xeq h11
        refine ms_190 J6  (fun v13 p13_0 b13 => ?_)
        have p13_0' : v13.toInt = 0 ∨ (48 ≤ (0 : Int) ∧ (0 : Int) ≤ 57) := p13_0
        refine And.intro (fun h14 => ?_) (fun h14 => ?_)
        · have f15 : v13.toInt = (0 : Int) := xeq h14
          refine And.intro (fun h16 => ?_) (fun h16 => ?_)
          · have f17 : (0 : Int) ≠ (59 : Int) := xne h16
            have J18 := mwi_9 (v := (1 : Int32)) J6 (show 0 ≤ (1 : Int) from by omega) (show (1 : Int) ≤ 5 from by omega)
            have K19 := kpi K7 (q := 9) (v := (1 : Int32)) rfl
            exact k _ J18 K19 (show ((ps_i s 1131 7) + 1).toInt ≤ (ps_i s 1131 4).toInt from by omega)
          · exact absurd (show (0 : Int32) = (59 : Int32) from h16) (by decide)
        · have f20 : v13.toInt ≠ (0 : Int) := xne h14
          have J21 := mwi_10 (v := (0 : Int32)) J6 (show 0 ≤ (0 : Int) from by omega) (show (0 : Int) ≤ 9999 from by omega)
          have K22 := kpi K7 (q := 10) (v := (0 : Int32)) rfl
          have J23 := mwi_8 (v := (ps_i s 1131 7)) J21 (show 0 ≤ (ps_i s 1131 7).toInt from by omega) (show (ps_i s 1131 7).toInt ≤ 1601 from by omega)
          have K24 := kpi K22 (q := 8) (v := (ps_i s 1131 7)) rfl
          exact ms_194_259  k  ((ps_i s 1131 4).toInt - (ps_i s 1131 7).toInt).toNat  _ J23 K24 (show (ps_i s 1131 7).toInt ≤ (ps_i s 1131 7).toInt from by omega) (show (ps_i s 1131 7).toInt ≤ (ps_i s 1131 4).toInt from by omega) (show ((ps_i s 1131 7).toInt - (ps_i s 1131 7).toInt ≤ 0 ∧ (0 : Int) = 0) ∨ ((ps_i s 1131 7).toInt - (ps_i s 1131 7).toInt = 1 ∧ (0 : Int) ≤ 9) ∨ ((ps_i s 1131 7).toInt - (ps_i s 1131 7).toInt = 2 ∧ (0 : Int) ≤ 99) ∨ ((ps_i s 1131 7).toInt - (ps_i s 1131 7).toInt = 3 ∧ (0 : Int) ≤ 999) ∨ 4 ≤ (ps_i s 1131 7).toInt - (ps_i s 1131 7).toInt from by omega) (show (ps_i s 1131 4).toInt - (ps_i s 1131 7).toInt ≤ ((((ps_i s 1131 4).toInt - (ps_i s 1131 7).toInt).toNat : Nat) : Int) from by omega)
      · have f25 : v10.toInt ≠ (0 : Int) := xne h11
        exact ms_194_119  k  ((ps_i s 1131 4).toInt - ((ps_i s 1131 7) + 1).toInt).toNat  _ J6 K7 (show (ps_i s 1131 7).toInt < (ps_i s 1131 4).toInt from by omega) (show ((ps_i s 1131 7) + 1).toInt ≤ (ps_i s 1131 4).toInt from by omega) (show (ps_i s 1131 4).toInt - ((ps_i s 1131 7) + 1).toInt ≤ ((((ps_i s 1131 4).toInt - ((ps_i s 1131 7) + 1).toInt).toNat : Nat) : Int) from by omega)
    · have f26 : (ps_i s 1131 4).toInt ≤ (ps_i s 1131 7).toInt := xle h8
      have J27 := mwi_9 (v := (0 : Int32)) J6 (show 0 ≤ (0 : Int) from by omega) (show (0 : Int) ≤ 5 from by omega)
      have K28 := kpi K7 (q := 9) (v := (0 : Int32)) rfl
      have J29 := mwi_7 (v := (ps_i s 1131 4)) J27 (show 0 ≤ (ps_i s 1131 4).toInt from by omega) (show (ps_i s 1131 4).toInt ≤ 1600 from by omega)
      have K30 := kpi K28 (q := 7) (v := (ps_i s 1131 4)) rfl
      have J31 := mwi_8 (v := (ps_i s 1131 4)) J29 (show 0 ≤ (ps_i s 1131 4).toInt from by omega) (show (ps_i s 1131 4).toInt ≤ 1601 from by omega)
      have K32 := kpi K30 (q := 8) (v := (ps_i s 1131 4)) rfl
      exact k _ J31 K32 (show (ps_i s 1131 4).toInt ≤ (ps_i s 1131 4).toInt from by omega)
  · have f33 : (ps_i s 1131 7).toInt < (ps_i s 1131 4).toInt := xlt h3
    refine ps_nd_i (show pm_in (ps_i s 1131 7) 1600 = true from xgi (show 0 ≤ (ps_i s 1131 7).toInt from by omega) (show (ps_i s 1131 7).toInt < 1600 from by omega)) ?_
    have n34 : 0 ≤ ((ps_a s 1133 (Int32.toNatClampNeg (ps_i s 1131 7))) &&& 255).toInt ∧ ((ps_a s 1133 (Int32.toNatClampNeg (ps_i s 1131 7))) &&& 255).toInt ≤ 255 := xN (ps_a s 1133 (Int32.toNatClampNeg (ps_i s 1131 7))) (c := 255) (n := 255) (by decide) (by decide)
    have a35 : ((ps_i s 1131 7) + 1).toInt = (ps_i s 1131 7).toInt + (1 : Int) := xIa (show -2147483648 ≤ (ps_i s 1131 7).toInt + (1 : Int) from by omega) (show (ps_i s 1131 7).toInt + (1 : Int) < 2147483648 from by omega)
    have J36 := mwi_8 (v := ((ps_i s 1131 7) + 1)) J (show 0 ≤ ((ps_i s 1131 7) + 1).toInt from by omega) (show ((ps_i s 1131 7) + 1).toInt ≤ 1601 from by omega)
    have K37 := kpi K (q := 8) (v := ((ps_i s 1131 7) + 1)) rfl
    refine And.intro (fun h38 => ?_) (fun h38 => ?_)
    · have f39 : (ps_i s 1131 7).toInt < (ps_i s 1131 4).toInt := xlt h38
      refine ms_189 J36  (fun v40 p40_0 b40 => ?_)
      have p40_0' : v40.toInt = 0 ∨ 97 ≤ ((ps_a s 1133 (Int32.toNatClampNeg (ps_i s 1131 7))) &&& 255).toInt := p40_0
      refine And.intro (fun h41 => ?_) (fun h41 => ?_)
      · have f42 : v40.toInt = (0 : Int) := xeq h41
        refine ms_190 J36  (fun v43 p43_0 b43 => ?_)
        have p43_0' : v43.toInt = 0 ∨ (48 ≤ ((ps_a s 1133 (Int32.toNatClampNeg (ps_i s 1131 7))) &&& 255).toInt ∧ ((ps_a s 1133 (Int32.toNatClampNeg (ps_i s 1131 7))) &&& 255).toInt ≤ 57) := p43_0
        refine And.intro (fun h44 => ?_) (fun h44 => ?_)
        · have f45 : v43.toInt = (0 : Int) := xeq h44
          refine And.intro (fun h46 => ?_) (fun h46 => ?_)
          · have f47 : ((ps_a s 1133 (Int32.toNatClampNeg (ps_i s 1131 7))) &&& 255).toInt ≠ (59 : Int) := xne h46
            have J48 := mwi_9 (v := (1 : Int32)) J36 (show 0 ≤ (1 : Int) from by omega) (show (1 : Int) ≤ 5 from by omega)
            have K49 := kpi K37 (q := 9) (v := (1 : Int32)) rfl
            exact k _ J48 K49 (show ((ps_i s 1131 7) + 1).toInt ≤ (ps_i s 1131 4).toInt from by omega)
          · have f50 : ((ps_a s 1133 (Int32.toNatClampNeg (ps_i s 1131 7))) &&& 255).toInt = (59 : Int) := xeq h46
            have J51 := mwi_9 (v := (5 : Int32)) J36 (show 0 ≤ (5 : Int) from by omega) (show (5 : Int) ≤ 5 from by omega)
            have K52 := kpi K37 (q := 9) (v := (5 : Int32)) rfl
            exact k _ J51 K52 (show ((ps_i s 1131 7) + 1).toInt ≤ (ps_i s 1131 4).toInt from by omega)
        · have f53 : v43.toInt ≠ (0 : Int) := xne h44
          have J54 := mwi_10 (v := (0 : Int32)) J36 (show 0 ≤ (0 : Int) from by omega) (show (0 : Int) ≤ 9999 from by omega)
          have K55 := kpi K37 (q := 10) (v := (0 : Int32)) rfl
          have J56 := mwi_8 (v := (ps_i s 1131 7)) J54 (show 0 ≤ (ps_i s 1131 7).toInt from by omega) (show (ps_i s 1131 7).toInt ≤ 1601 from by omega)
          have K57 := kpi K55 (q := 8) (v := (ps_i s 1131 7)) rfl
          exact ms_194_259  k  ((ps_i s 1131 4).toInt - (ps_i s 1131 7).toInt).toNat  _ J56 K57 (show (ps_i s 1131 7).toInt ≤ (ps_i s 1131 7).toInt from by omega) (show (ps_i s 1131 7).toInt ≤ (ps_i s 1131 4).toInt from by omega) (show ((ps_i s 1131 7).toInt - (ps_i s 1131 7).toInt ≤ 0 ∧ (0 : Int) = 0) ∨ ((ps_i s 1131 7).toInt - (ps_i s 1131 7).toInt = 1 ∧ (0 : Int) ≤ 9) ∨ ((ps_i s 1131 7).toInt - (ps_i s 1131 7).toInt = 2 ∧ (0 : Int) ≤ 99) ∨ ((ps_i s 1131 7).toInt - (ps_i s 1131 7).toInt = 3 ∧ (0 : Int) ≤ 999) ∨ 4 ≤ (ps_i s 1131 7).toInt - (ps_i s 1131 7).toInt from by omega) (show (ps_i s 1131 4).toInt - (ps_i s 1131 7).toInt ≤ ((((ps_i s 1131 4).toInt - (ps_i s 1131 7).toInt).toNat : Nat) : Int) from by omega)
      · have f58 : v40.toInt ≠ (0 : Int) := xne h41
        exact ms_194_119  k  ((ps_i s 1131 4).toInt - ((ps_i s 1131 7) + 1).toInt).toNat  _ J36 K37 (show (ps_i s 1131 7).toInt < (ps_i s 1131 4).toInt from by omega) (show ((ps_i s 1131 7) + 1).toInt ≤ (ps_i s 1131 4).toInt from by omega) (show (ps_i s 1131 4).toInt - ((ps_i s 1131 7) + 1).toInt ≤ ((((ps_i s 1131 4).toInt - ((ps_i s 1131 7) + 1).toInt).toNat : Nat) : Int) from by omega)
    · have f59 : (ps_i s 1131 4).toInt ≤ (ps_i s 1131 7).toInt := xle h38
      have J60 := mwi_9 (v := (0 : Int32)) J36 (show 0 ≤ (0 : Int) from by omega) (show (0 : Int) ≤ 5 from by omega)
      have K61 := kpi K37 (q := 9) (v := (0 : Int32)) rfl
      have J62 := mwi_7 (v := (ps_i s 1131 4)) J60 (show 0 ≤ (ps_i s 1131 4).toInt from by omega) (show (ps_i s 1131 4).toInt ≤ 1600 from by omega)
      have K63 := kpi K61 (q := 7) (v := (ps_i s 1131 4)) rfl
      have J64 := mwi_8 (v := (ps_i s 1131 4)) J62 (show 0 ≤ (ps_i s 1131 4).toInt from by omega) (show (ps_i s 1131 4).toInt ≤ 1601 from by omega)
      have K65 := kpi K63 (q := 8) (v := (ps_i s 1131 4)) rfl
      exact k _ J64 K65 (show (ps_i s 1131 4).toInt ≤ (ps_i s 1131 4).toInt from by omega)

theorem ms_194_8 {x : Nat → Nat → Nat} {t : Int32} {d : Nat} {s0 : ps_S} {Q : Option Value → ps_S → Prop} (k : ∀ (s' : ps_S), mJ x t s' → kp [] [7, 8, 9, 10, 11] s0 s' → ((ps_i s' 1131 8).toInt ≤ (ps_i s' 1131 4).toInt) → Q none s') : ∀ (n : Nat) (s : ps_S), (mJ x t s) → (kp [] [7, 8, 9, 10, 11] s0 s) → ((ps_i s 1131 7).toInt ≤ (ps_i s 1131 4).toInt) → (ps_i s 1131 4).toInt - (ps_i s 1131 7).toInt ≤ (n : Int) → ps_At (d + 1) 194 8 [(0, .ref 1131)] [] s Q := by
  refine xstr (fun n ih => ?_)
  intro s J K i0 hm
  have r1 := mf_7 J
  have r2 := mf_4 J
  refine pg_194_8 (d := d) ?_
  refine And.intro (fun h3 => ?_) (fun h3 => ?_)
  · have f4 : (ps_i s 1131 4).toInt ≤ (ps_i s 1131 7).toInt := xle h3
    exact ms_194_58  k   _ J K (show (ps_i s 1131 7).toInt ≤ (ps_i s 1131 4).toInt from by omega)
  · have f5 : (ps_i s 1131 7).toInt < (ps_i s 1131 4).toInt := xlt h3
    refine pg_188_0 ?_
    refine And.intro (fun h6 => ?_) (fun h6 => ?_)
    · have f7 : (ps_i s 1131 4).toInt ≤ (ps_i s 1131 7).toInt := xle h6
      refine And.intro (fun h8 => ?_) (fun h8 => ?_)
      · exact absurd (show (0 : Int32) = (32 : Int32) from h8) (by decide)
      · have f9 : (0 : Int) ≠ (32 : Int) := xne h8
        refine pg_188_0 ?_
        refine And.intro (fun h10 => ?_) (fun h10 => ?_)
        · have f11 : (ps_i s 1131 4).toInt ≤ (ps_i s 1131 7).toInt := xle h10
          refine And.intro (fun h12 => ?_) (fun h12 => ?_)
          · have f13 : (0 : Int) ≠ (10 : Int) := xne h12
            exact ms_194_58  k   _ J K (show (ps_i s 1131 7).toInt ≤ (ps_i s 1131 4).toInt from by omega)
          · exact absurd (show (0 : Int32) = (10 : Int32) from h12) (by decide)
        · have f14 : (ps_i s 1131 7).toInt < (ps_i s 1131 4).toInt := xlt h10
          refine ps_nd_i (show pm_in (ps_i s 1131 7) 1600 = true from xgi (show 0 ≤ (ps_i s 1131 7).toInt from by omega) (show (ps_i s 1131 7).toInt < 1600 from by omega)) ?_
          have n15 : 0 ≤ ((ps_a s 1133 (Int32.toNatClampNeg (ps_i s 1131 7))) &&& 255).toInt ∧ ((ps_a s 1133 (Int32.toNatClampNeg (ps_i s 1131 7))) &&& 255).toInt ≤ 255 := xN (ps_a s 1133 (Int32.toNatClampNeg (ps_i s 1131 7))) (c := 255) (n := 255) (by decide) (by decide)
          refine And.intro (fun h16 => ?_) (fun h16 => ?_)
          · have f17 : ((ps_a s 1133 (Int32.toNatClampNeg (ps_i s 1131 7))) &&& 255).toInt ≠ (10 : Int) := xne h16
            exact ms_194_58  k   _ J K (show (ps_i s 1131 7).toInt ≤ (ps_i s 1131 4).toInt from by omega)
          · have f18 : ((ps_a s 1133 (Int32.toNatClampNeg (ps_i s 1131 7))) &&& 255).toInt = (10 : Int) := xeq h16
            have a19 : ((ps_i s 1131 7) + 1).toInt = (ps_i s 1131 7).toInt + (1 : Int) := xIa (show -2147483648 ≤ (ps_i s 1131 7).toInt + (1 : Int) from by omega) (show (ps_i s 1131 7).toInt + (1 : Int) < 2147483648 from by omega)
            have J20 := mwi_7 (v := ((ps_i s 1131 7) + 1)) J (show 0 ≤ ((ps_i s 1131 7) + 1).toInt from by omega) (show ((ps_i s 1131 7) + 1).toInt ≤ 1600 from by omega)
            have K21 := kpi K (q := 7) (v := ((ps_i s 1131 7) + 1)) rfl
            exact ih (n - 1) (show n - 1 < n from by omega)  _ J20 K21 (show ((ps_i s 1131 7) + 1).toInt ≤ (ps_i s 1131 4).toInt from by omega) (show (ps_i s 1131 4).toInt - ((ps_i s 1131 7) + 1).toInt ≤ ((n - 1 : Nat) : Int) from by omega)
    · have f22 : (ps_i s 1131 7).toInt < (ps_i s 1131 4).toInt := xlt h6
      refine ps_nd_i (show pm_in (ps_i s 1131 7) 1600 = true from xgi (show 0 ≤ (ps_i s 1131 7).toInt from by omega) (show (ps_i s 1131 7).toInt < 1600 from by omega)) ?_
      have n23 : 0 ≤ ((ps_a s 1133 (Int32.toNatClampNeg (ps_i s 1131 7))) &&& 255).toInt ∧ ((ps_a s 1133 (Int32.toNatClampNeg (ps_i s 1131 7))) &&& 255).toInt ≤ 255 := xN (ps_a s 1133 (Int32.toNatClampNeg (ps_i s 1131 7))) (c := 255) (n := 255) (by decide) (by decide)
      refine And.intro (fun h24 => ?_) (fun h24 => ?_)
      · have f25 : ((ps_a s 1133 (Int32.toNatClampNeg (ps_i s 1131 7))) &&& 255).toInt = (32 : Int) := xeq h24
        have a26 : ((ps_i s 1131 7) + 1).toInt = (ps_i s 1131 7).toInt + (1 : Int) := xIa (show -2147483648 ≤ (ps_i s 1131 7).toInt + (1 : Int) from by omega) (show (ps_i s 1131 7).toInt + (1 : Int) < 2147483648 from by omega)
        have J27 := mwi_7 (v := ((ps_i s 1131 7) + 1)) J (show 0 ≤ ((ps_i s 1131 7) + 1).toInt from by omega) (show ((ps_i s 1131 7) + 1).toInt ≤ 1600 from by omega)
        have K28 := kpi K (q := 7) (v := ((ps_i s 1131 7) + 1)) rfl
        exact ih (n - 1) (show n - 1 < n from by omega)  _ J27 K28 (show ((ps_i s 1131 7) + 1).toInt ≤ (ps_i s 1131 4).toInt from by omega) (show (ps_i s 1131 4).toInt - ((ps_i s 1131 7) + 1).toInt ≤ ((n - 1 : Nat) : Int) from by omega)
      · have f29 : ((ps_a s 1133 (Int32.toNatClampNeg (ps_i s 1131 7))) &&& 255).toInt ≠ (32 : Int) := xne h24
        refine pg_188_0 ?_
        refine And.intro (fun h30 => ?_) (fun h30 => ?_)
        · have f31 : (ps_i s 1131 4).toInt ≤ (ps_i s 1131 7).toInt := xle h30
          refine And.intro (fun h32 => ?_) (fun h32 => ?_)
          · have f33 : (0 : Int) ≠ (10 : Int) := xne h32
            exact ms_194_58  k   _ J K (show (ps_i s 1131 7).toInt ≤ (ps_i s 1131 4).toInt from by omega)
          · exact absurd (show (0 : Int32) = (10 : Int32) from h32) (by decide)
        · have f34 : (ps_i s 1131 7).toInt < (ps_i s 1131 4).toInt := xlt h30
          refine ps_nd_i (show pm_in (ps_i s 1131 7) 1600 = true from xgi (show 0 ≤ (ps_i s 1131 7).toInt from by omega) (show (ps_i s 1131 7).toInt < 1600 from by omega)) ?_
          refine And.intro (fun h35 => ?_) (fun h35 => ?_)
          · have f36 : ((ps_a s 1133 (Int32.toNatClampNeg (ps_i s 1131 7))) &&& 255).toInt ≠ (10 : Int) := xne h35
            exact ms_194_58  k   _ J K (show (ps_i s 1131 7).toInt ≤ (ps_i s 1131 4).toInt from by omega)
          · have f37 : ((ps_a s 1133 (Int32.toNatClampNeg (ps_i s 1131 7))) &&& 255).toInt = (10 : Int) := xeq h35
            have a38 : ((ps_i s 1131 7) + 1).toInt = (ps_i s 1131 7).toInt + (1 : Int) := xIa (show -2147483648 ≤ (ps_i s 1131 7).toInt + (1 : Int) from by omega) (show (ps_i s 1131 7).toInt + (1 : Int) < 2147483648 from by omega)
            have J39 := mwi_7 (v := ((ps_i s 1131 7) + 1)) J (show 0 ≤ ((ps_i s 1131 7) + 1).toInt from by omega) (show ((ps_i s 1131 7) + 1).toInt ≤ 1600 from by omega)
            have K40 := kpi K (q := 7) (v := ((ps_i s 1131 7) + 1)) rfl
            exact ih (n - 1) (show n - 1 < n from by omega)  _ J39 K40 (show ((ps_i s 1131 7) + 1).toInt ≤ (ps_i s 1131 4).toInt from by omega) (show (ps_i s 1131 4).toInt - ((ps_i s 1131 7) + 1).toInt ≤ ((n - 1 : Nat) : Int) from by omega)

theorem ms_194 {x : Nat → Nat → Nat} {t : Int32} {s : ps_S} {d : Nat} {f : ps_S → Prop} (J : mJ x t s) (q0 : (ps_i s 1131 8).toInt ≤ (ps_i s 1131 4).toInt) (k : ∀ (s' : ps_S), mJ x t s' → kp [] [7, 8, 9, 10, 11] s s' → ((ps_i s' 1131 8).toInt ≤ (ps_i s' 1131 4).toInt) → f s') : ps_Cl (d + 1) 194 [.ref 1131] s (ps_rV f) := by
  have r1 := mf_8 J
  have r2 := mf_4 J
  have K : kp [] [7, 8, 9, 10, 11] s s := kp_refl
  refine pg_194_0 (d := d) ?_
  have J3 := mwi_7 (v := (ps_i s 1131 8)) J (show 0 ≤ (ps_i s 1131 8).toInt from by omega) (show (ps_i s 1131 8).toInt ≤ 1600 from by omega)
  have K4 := kpi K (q := 7) (v := (ps_i s 1131 8)) rfl
  exact ms_194_8  k  ((ps_i s 1131 4).toInt - (ps_i s 1131 8).toInt).toNat  _ J3 K4 (show (ps_i s 1131 8).toInt ≤ (ps_i s 1131 4).toInt from by omega) (show (ps_i s 1131 4).toInt - (ps_i s 1131 8).toInt ≤ ((((ps_i s 1131 4).toInt - (ps_i s 1131 8).toInt).toNat : Nat) : Int) from by omega)

-- ProofBenchModel.isWord(J)Z
theorem pg_195_0 {d : Nat} {l1 : Int64} {s : ps_S} {Q : Option Value → ps_S → Prop} (h :
  ((ps_i s 1131 9) ≠ 3 →
    Q (some (.int 0)) s) ∧
  ((ps_i s 1131 9) = 3 →
    ((lg_cmp (ps_j s 1131 11) l1) ≠ 0 →
      Q (some (.int 0)) s) ∧
    ((lg_cmp (ps_j s 1131 11) l1) = 0 →
      Q (some (.int 1)) s))) : ps_At d 195 0 [(0, .ref 1131), (1, .long l1)] [] s Q :=
  ps_wp_at (stops := []) (n := 18) h rfl

theorem ms_195 {x : Nat → Nat → Nat} {t : Int32} {s : ps_S} {d : Nat} {l1 : Int64} {f : Int32 → ps_S → Prop} (J : mJ x t s) (k : ∀ (v : Int32), (v.toInt = 0 ∨ (ps_i s 1131 9).toInt = 3) → v &&& 1 = v → f v s) : ps_Cl d 195 [.ref 1131, .long l1] s (ps_rI f) := by
  refine pg_195_0 ?_
  have r1 := mf_9 J
  refine And.intro (fun h2 => ?_) (fun h2 => ?_)
  · have f3 : (ps_i s 1131 9).toInt ≠ (3 : Int) := xne h2
    exact k (0 : Int32) (show (0 : Int) = 0 ∨ (ps_i s 1131 9).toInt = 3 from by omega) (by decide)
  · have f4 : (ps_i s 1131 9).toInt = (3 : Int) := xeq h2
    refine And.intro (fun h5 => ?_) (fun h5 => ?_)
    · have f6 : (lg_cmp (ps_j s 1131 11) l1).toInt ≠ (0 : Int) := xne h5
      exact k (0 : Int32) (show (0 : Int) = 0 ∨ (ps_i s 1131 9).toInt = 3 from by omega) (by decide)
    · have f7 : (lg_cmp (ps_j s 1131 11) l1).toInt = (0 : Int) := xeq h5
      exact k (1 : Int32) (show (1 : Int) = 0 ∨ (ps_i s 1131 9).toInt = 3 from by omega) (by decide)

-- ProofBenchModel.misplaced()V
theorem pg_196_0 {d : Nat} {s : ps_S} {Q : Option Value → ps_S → Prop} (h :
  ((ps_i s 1131 9) ≠ 1 →
    ps_Cl d 191 [.ref 1131, .int 2, .int (ps_i s 1131 7)] s (ps_rV (fun s1 =>
      Q none s1))) ∧
  ((ps_i s 1131 9) = 1 →
    ps_Cl d 191 [.ref 1131, .int 1, .int (ps_i s 1131 7)] s (ps_rV (fun s2 =>
      Q none s2)))) : ps_At (d + 1) 196 0 [(0, .ref 1131)] [] s Q :=
  ps_wp_at (stops := []) (n := 18) h rfl

theorem ms_196 {x : Nat → Nat → Nat} {t : Int32} {s : ps_S} {d : Nat} {f : ps_S → Prop} (J : mJ x t s) (k : ∀ (s' : ps_S), mJ x t s' → kp [] [5, 6] s s' → (1 ≤ (ps_i s' 1131 5).toInt) → f s') : ps_Cl (d + 1) 196 [.ref 1131] s (ps_rV f) := by
  have K : kp [] [5, 6] s s := kp_refl
  refine pg_196_0 (d := d) ?_
  have r1 := mf_9 J
  refine And.intro (fun h2 => ?_) (fun h2 => ?_)
  · have f3 : (ps_i s 1131 9).toInt ≠ (1 : Int) := xne h2
    have r4 := mf_7 J
    refine ms_191 J (show 1 ≤ (2 : Int) from by omega) (show (2 : Int) ≤ 6 from by omega) (fun s5 J5 K5 p5_0 => ?_)
    have K6 := kpt K K5 rfl rfl
    have p5_0' : 1 ≤ (ps_i s5 1131 5).toInt := p5_0
    have r7 := mf_5 J5
    exact k _ J5 K6 (show 1 ≤ (ps_i s5 1131 5).toInt from by omega)
  · have f8 : (ps_i s 1131 9).toInt = (1 : Int) := xeq h2
    have r9 := mf_7 J
    refine ms_191 J (show 1 ≤ (1 : Int) from by omega) (show (1 : Int) ≤ 6 from by omega) (fun s10 J10 K10 p10_0 => ?_)
    have K11 := kpt K K10 rfl rfl
    have p10_0' : 1 ≤ (ps_i s10 1131 5).toInt := p10_0
    have r12 := mf_5 J10
    exact k _ J10 K11 (show 1 ≤ (ps_i s10 1131 5).toInt from by omega)

-- ProofBenchModel.must(Z)V
theorem pg_197_0 {d : Nat} {x1 : Int32} {s : ps_S} {Q : Option Value → ps_S → Prop} (h :
  ps_Cl d 192 [.ref 1131] s (ps_rI (fun v1 s1 =>
    (v1 ≠ 0 →
      (x1 = 0 →
        ps_Cl d 196 [.ref 1131] s1 (ps_rV (fun s2 =>
          Q none s2))) ∧
      (x1 ≠ 0 →
        ps_Cl d 194 [.ref 1131] s1 (ps_rV (fun s3 =>
          Q none s3)))) ∧
    (v1 = 0 →
      Q none s1)))) : ps_At (d + 1) 197 0 [(0, .ref 1131), (1, .int x1)] [] s Q :=
  ps_wp_at (stops := []) (n := 15) h rfl

theorem ms_197 {x : Nat → Nat → Nat} {t : Int32} {s : ps_S} {d : Nat} {x1 : Int32} {f : ps_S → Prop} (J : mJ x t s) (q0 : (ps_i s 1131 8).toInt ≤ (ps_i s 1131 4).toInt) (k : ∀ (s' : ps_S), mJ x t s' → kp [] [5, 6, 7, 8, 9, 10, 11] s s' → ((ps_i s' 1131 8).toInt ≤ (ps_i s' 1131 4).toInt) → (1 ≤ (ps_i s 1131 5).toInt → 1 ≤ (ps_i s' 1131 5).toInt) → (x1.toInt = 0 → 1 ≤ (ps_i s' 1131 5).toInt) → f s') : ps_Cl (d + 2) 197 [.ref 1131, .int x1] s (ps_rV f) := by
  have r1 := mf_8 J
  have r2 := mf_4 J
  have K : kp [] [5, 6, 7, 8, 9, 10, 11] s s := kp_refl
  refine pg_197_0 (d := d + 1) ?_
  refine ms_192 J  (fun v3 p3_0 b3 => ?_)
  have p3_0' : (v3.toInt = 0 ∧ 1 ≤ (ps_i s 1131 5).toInt) ∨ (v3.toInt = 1 ∧ (ps_i s 1131 5).toInt = 0) := p3_0
  have r4 := mf_5 J
  refine And.intro (fun h5 => ?_) (fun h5 => ?_)
  · have f6 : v3.toInt ≠ (0 : Int) := xne h5
    refine And.intro (fun h7 => ?_) (fun h7 => ?_)
    · have f8 : x1.toInt = (0 : Int) := xeq h7
      refine ms_196 J  (fun s9 J9 K9 p9_0 => ?_)
      have K10 := kpt K K9 rfl rfl
      have p9_0' : 1 ≤ (ps_i s9 1131 5).toInt := p9_0
      have r11 := mf_5 J9
      have r12 := mf_8 J9
      have u13 : (ps_i s9 1131 8).toInt = (ps_i s 1131 8).toInt := xeq (kp_i K9 8 rfl)
      have r14 := mf_4 J9
      have u15 : (ps_i s9 1131 4).toInt = (ps_i s 1131 4).toInt := xeq (kp_i K9 4 rfl)
      exact k _ J9 K10 (show (ps_i s9 1131 8).toInt ≤ (ps_i s9 1131 4).toInt from by omega) (show 1 ≤ (ps_i s 1131 5).toInt → 1 ≤ (ps_i s9 1131 5).toInt from by omega) (show x1.toInt = 0 → 1 ≤ (ps_i s9 1131 5).toInt from by omega)
    · have f16 : x1.toInt ≠ (0 : Int) := xne h7
      refine ms_194 J (show (ps_i s 1131 8).toInt ≤ (ps_i s 1131 4).toInt from by omega) (fun s17 J17 K17 p17_0 => ?_)
      have K18 := kpt K K17 rfl rfl
      have p17_0' : (ps_i s17 1131 8).toInt ≤ (ps_i s17 1131 4).toInt := p17_0
      have r19 := mf_8 J17
      have r20 := mf_4 J17
      have u21 : (ps_i s17 1131 4).toInt = (ps_i s 1131 4).toInt := xeq (kp_i K17 4 rfl)
      have r22 := mf_5 J17
      have u23 : (ps_i s17 1131 5).toInt = (ps_i s 1131 5).toInt := xeq (kp_i K17 5 rfl)
      exact k _ J17 K18 (show (ps_i s17 1131 8).toInt ≤ (ps_i s17 1131 4).toInt from by omega) (show 1 ≤ (ps_i s 1131 5).toInt → 1 ≤ (ps_i s17 1131 5).toInt from by omega) (show x1.toInt = 0 → 1 ≤ (ps_i s17 1131 5).toInt from by omega)
  · have f24 : v3.toInt = (0 : Int) := xeq h5
    exact k _ J K (show (ps_i s 1131 8).toInt ≤ (ps_i s 1131 4).toInt from by omega) (show 1 ≤ (ps_i s 1131 5).toInt → 1 ≤ (ps_i s 1131 5).toInt from by omega) (show x1.toInt = 0 → 1 ≤ (ps_i s 1131 5).toInt from by omega)

-- ProofBenchModel.beginText()V
theorem pg_198_0 {d : Nat} {s : ps_S} {Q : Option Value → ps_S → Prop} (h :
  ps_At (d + 1) 198 20 [(0, .ref 1131), (1, .int 0)] [] (ps_ui (ps_ui (ps_ui s 1131 5 0) 1131 6 (-1)) 1131 4 (ps_i (ps_ui (ps_ui s 1131 5 0) 1131 6 (-1)) 1131 3)) Q) : ps_At (d + 1) 198 0 [(0, .ref 1131)] [] s Q :=
  ps_wp_at (stops := [(20, [0, 1])]) (n := 14) h rfl

theorem pg_198_20 {d : Nat} {x1 : Int32} {s : ps_S} {Q : Option Value → ps_S → Prop} (h :
  ((ps_i s 1131 4) ≤ x1 →
    ps_Cl d 194 [.ref 1131] (ps_ui (ps_ui (ps_ui (ps_ui s 1131 3 0) 1131 8 0) 1131 23 0) 1131 22 (ps_i (ps_ui (ps_ui (ps_ui s 1131 3 0) 1131 8 0) 1131 23 0) 1131 21)) (ps_rV (fun s1 =>
      Q none s1))) ∧
  (x1 < (ps_i s 1131 4) →
    ps_nd (pm_in x1 1620) (ps_nd (pm_in x1 1600) (ps_At (d + 1) 198 20 [(0, .ref 1131), (1, .int (x1 + 1))] [] (ps_ua s 1133 (Int32.toNatClampNeg x1) (Int8.toInt32 (Int32.toInt8 (ps_a s 1132 (Int32.toNatClampNeg x1))))) Q)))) : ps_At (d + 1) 198 20 [(0, .ref 1131), (1, .int x1)] [] s Q :=
  ps_wp_at (stops := [(20, [0, 1])]) (n := 32) h rfl

theorem ms_198_20 {x : Nat → Nat → Nat} {t : Int32} {d : Nat} {s0 : ps_S} {Q : Option Value → ps_S → Prop} (k : ∀ (s' : ps_S), mJ x t s' → kp [1133] [3, 4, 5, 6, 7, 8, 9, 10, 11, 22, 23] s0 s' → ((ps_i s' 1131 8).toInt ≤ (ps_i s' 1131 4).toInt) → ((ps_i s' 1131 5).toInt = 0) → ((ps_i s' 1131 3).toInt = 0) → ((ps_i s' 1131 23).toInt = 0) → ((ps_i s' 1131 22).toInt = (ps_i s' 1131 21).toInt) → Q none s') : ∀ (n : Nat) (x1 : Int32) (s : ps_S), (mJ x t s) → (kp [1133] [3, 4, 5, 6, 7, 8, 9, 10, 11, 22, 23] s0 s) → (0 ≤ x1.toInt) → (x1.toInt ≤ (ps_i s 1131 4).toInt) → ((ps_i s 1131 5).toInt = 0) → (ps_i s 1131 4).toInt - x1.toInt ≤ (n : Int) → ps_At (d + 2) 198 20 [(0, .ref 1131), (1, .int x1)] [] s Q := by
  refine xstr (fun n ih => ?_)
  intro x1 s J K i0 i1 i2 hm
  have r1 := mf_4 J
  have r2 := mf_5 J
  refine pg_198_20 (d := d + 1) ?_
  refine And.intro (fun h3 => ?_) (fun h3 => ?_)
  · have f4 : (ps_i s 1131 4).toInt ≤ x1.toInt := xle h3
    have J5 := mwi_3 (v := (0 : Int32)) J (show 0 ≤ (0 : Int) from by omega) (show (0 : Int) ≤ 1600 from by omega)
    have K6 := kpi K (q := 3) (v := (0 : Int32)) rfl
    have J7 := mwi_8 (v := (0 : Int32)) J5 (show 0 ≤ (0 : Int) from by omega) (show (0 : Int) ≤ 1601 from by omega)
    have K8 := kpi K6 (q := 8) (v := (0 : Int32)) rfl
    have J9 := mwi_23 (v := (0 : Int32)) J7 (show 0 ≤ (0 : Int) from by omega) (show (0 : Int) ≤ 12 from by omega)
    have K10 := kpi K8 (q := 23) (v := (0 : Int32)) rfl
    have r11 := mf_21 J
    have J12 := mwi_22 (v := (ps_i s 1131 21)) J9 (show 0 ≤ (ps_i s 1131 21).toInt from by omega) (show (ps_i s 1131 21).toInt ≤ 1 from by omega)
    have K13 := kpi K10 (q := 22) (v := (ps_i s 1131 21)) rfl
    refine ms_194 J12 (show (0 : Int) ≤ (ps_i s 1131 4).toInt from by omega) (fun s14 J14 K14 p14_0 => ?_)
    have K15 := kpt K13 K14 rfl rfl
    have p14_0' : (ps_i s14 1131 8).toInt ≤ (ps_i s14 1131 4).toInt := p14_0
    have r16 := mf_8 J14
    have r17 := mf_4 J14
    have u18 : (ps_i s14 1131 4).toInt = (ps_i s 1131 4).toInt := xeq (kp_i K14 4 rfl)
    have r19 := mf_5 J14
    have u20 : (ps_i s14 1131 5).toInt = (ps_i s 1131 5).toInt := xeq (kp_i K14 5 rfl)
    have r21 := mf_3 J14
    have u22 : (ps_i s14 1131 3).toInt = (0 : Int) := xeq (kp_i K14 3 rfl)
    have r23 := mf_23 J14
    have u24 : (ps_i s14 1131 23).toInt = (0 : Int) := xeq (kp_i K14 23 rfl)
    have r25 := mf_22 J14
    have u26 : (ps_i s14 1131 22).toInt = (ps_i s 1131 21).toInt := xeq (kp_i K14 22 rfl)
    have r27 := mf_21 J14
    have u28 : (ps_i s14 1131 21).toInt = (ps_i s 1131 21).toInt := xeq (kp_i K14 21 rfl)
    exact k _ J14 K15 (show (ps_i s14 1131 8).toInt ≤ (ps_i s14 1131 4).toInt from by omega) (show (ps_i s14 1131 5).toInt = 0 from by omega) (show (ps_i s14 1131 3).toInt = 0 from by omega) (show (ps_i s14 1131 23).toInt = 0 from by omega) (show (ps_i s14 1131 22).toInt = (ps_i s14 1131 21).toInt from by omega)
  · have f29 : x1.toInt < (ps_i s 1131 4).toInt := xlt h3
    refine ps_nd_i (show pm_in x1 1620 = true from xgi (show 0 ≤ x1.toInt from by omega) (show x1.toInt < 1620 from by omega)) ?_
    refine ps_nd_i (show pm_in x1 1600 = true from xgi (show 0 ≤ x1.toInt from by omega) (show x1.toInt < 1600 from by omega)) ?_
    have J30 := mwa_n 1133 (i := (Int32.toNatClampNeg x1)) (v := (Int8.toInt32 (Int32.toInt8 (ps_a s 1132 (Int32.toNatClampNeg x1))))) J rfl (by decide)
    have K31 := kpa' K (r := 1133) (i := (Int32.toNatClampNeg x1)) (v := (Int8.toInt32 (Int32.toInt8 (ps_a s 1132 (Int32.toNatClampNeg x1))))) rfl
    have a32 : (x1 + 1).toInt = x1.toInt + (1 : Int) := xIa (show -2147483648 ≤ x1.toInt + (1 : Int) from by omega) (show x1.toInt + (1 : Int) < 2147483648 from by omega)
    exact ih (n - 1) (show n - 1 < n from by omega) (x1 + 1) _ J30 K31 (show 0 ≤ (x1 + 1).toInt from by omega) (show (x1 + 1).toInt ≤ (ps_i s 1131 4).toInt from by omega) (show (ps_i s 1131 5).toInt = 0 from by omega) (show (ps_i s 1131 4).toInt - (x1 + 1).toInt ≤ ((n - 1 : Nat) : Int) from by omega)

theorem ms_198 {x : Nat → Nat → Nat} {t : Int32} {s : ps_S} {d : Nat} {f : ps_S → Prop} (J : mJ x t s) (k : ∀ (s' : ps_S), mJ x t s' → kp [1133] [3, 4, 5, 6, 7, 8, 9, 10, 11, 22, 23] s s' → ((ps_i s' 1131 8).toInt ≤ (ps_i s' 1131 4).toInt) → ((ps_i s' 1131 5).toInt = 0) → ((ps_i s' 1131 3).toInt = 0) → ((ps_i s' 1131 23).toInt = 0) → ((ps_i s' 1131 22).toInt = (ps_i s' 1131 21).toInt) → f s') : ps_Cl (d + 2) 198 [.ref 1131] s (ps_rV f) := by
  have K : kp [1133] [3, 4, 5, 6, 7, 8, 9, 10, 11, 22, 23] s s := kp_refl
  refine pg_198_0 (d := d + 1) ?_
  have J1 := mwi_5 (v := (0 : Int32)) J (show 0 ≤ (0 : Int) from by omega) (show (0 : Int) ≤ 6 from by omega)
  have K2 := kpi K (q := 5) (v := (0 : Int32)) rfl
  have J3 := mwi_n 6 (v := (-1 : Int32)) J1 rfl
  have K4 := kpi K2 (q := 6) (v := (-1 : Int32)) rfl
  have r5 := mf_3 J
  have J6 := mwi_4 (v := (ps_i s 1131 3)) J3 (show 0 ≤ (ps_i s 1131 3).toInt from by omega) (show (ps_i s 1131 3).toInt ≤ 1600 from by omega)
  have K7 := kpi K4 (q := 4) (v := (ps_i s 1131 3)) rfl
  exact ms_198_20  k  ((ps_i s 1131 3).toInt - (0 : Int)).toNat (0) _ J6 K7 (show 0 ≤ (0 : Int) from by omega) (show (0 : Int) ≤ (ps_i s 1131 3).toInt from by omega) (show (0 : Int) = 0 from by omega) (show (ps_i s 1131 3).toInt - (0 : Int) ≤ ((((ps_i s 1131 3).toInt - (0 : Int)).toNat : Nat) : Int) from by omega)

-- ProofBenchModel.fault(I)I
theorem pg_199_0 {d : Nat} {x1 : Int32} {s : ps_S} {Q : Option Value → ps_S → Prop} (h :
  (x1 ≠ 0 →
    (x1 ≠ 1 →
      Q (some (.int (-1))) s) ∧
    (x1 = 1 →
      Q (some (.int (ps_i s 1131 6))) s)) ∧
  (x1 = 0 →
    Q (some (.int (ps_i s 1131 5))) s)) : ps_At d 199 0 [(0, .ref 1131), (1, .int x1)] [] s Q :=
  ps_wp_at (stops := []) (n := 17) h rfl

theorem ms_199 {x : Nat → Nat → Nat} {t : Int32} {s : ps_S} {d : Nat} {x1 : Int32} {f : Int32 → ps_S → Prop} (J : mJ x t s) (k : ∀ (v : Int32), f v s) : ps_Cl d 199 [.ref 1131, .int x1] s (ps_rI f) := by
  refine pg_199_0 ?_
  refine And.intro (fun h1 => ?_) (fun h1 => ?_)
  · have f2 : x1.toInt ≠ (0 : Int) := xne h1
    refine And.intro (fun h3 => ?_) (fun h3 => ?_)
    · have f4 : x1.toInt ≠ (1 : Int) := xne h3
      exact k (-1 : Int32)
    · have f5 : x1.toInt = (1 : Int) := xeq h3
      exact k (ps_i s 1131 6)
  · have f6 : x1.toInt = (0 : Int) := xeq h1
    have r7 := mf_5 J
    exact k (ps_i s 1131 5)

-- ProofBenchModel.isIn(III)Z
theorem pg_200_0 {d : Nat} {x0 : Int32} {x1 : Int32} {x2 : Int32} {s : ps_S} {Q : Option Value → ps_S → Prop} (h :
  (x0 < x1 →
    Q (some (.int 0)) s) ∧
  (x1 ≤ x0 →
    (x2 < x0 →
      Q (some (.int 0)) s) ∧
    (x0 ≤ x2 →
      Q (some (.int 1)) s))) : ps_At d 200 0 [(0, .int x0), (1, .int x1), (2, .int x2)] [] s Q :=
  ps_wp_at (stops := []) (n := 15) h rfl

theorem ms_200 {x : Nat → Nat → Nat} {t : Int32} {s : ps_S} {d : Nat} {x0 : Int32} {x1 : Int32} {x2 : Int32} {f : Int32 → ps_S → Prop} (J : mJ x t s) (k : ∀ (v : Int32), (v.toInt = 0 ∨ (x1.toInt ≤ x0.toInt ∧ x0.toInt ≤ x2.toInt)) → v &&& 1 = v → f v s) : ps_Cl d 200 [.int x0, .int x1, .int x2] s (ps_rI f) := by
  refine pg_200_0 ?_
  refine And.intro (fun h1 => ?_) (fun h1 => ?_)
  · have f2 : x0.toInt < x1.toInt := xlt h1
    exact k (0 : Int32) (show (0 : Int) = 0 ∨ (x1.toInt ≤ x0.toInt ∧ x0.toInt ≤ x2.toInt) from by omega) (by decide)
  · have f3 : x1.toInt ≤ x0.toInt := xle h1
    refine And.intro (fun h4 => ?_) (fun h4 => ?_)
    · have f5 : x2.toInt < x0.toInt := xlt h4
      exact k (0 : Int32) (show (0 : Int) = 0 ∨ (x1.toInt ≤ x0.toInt ∧ x0.toInt ≤ x2.toInt) from by omega) (by decide)
    · have f6 : x0.toInt ≤ x2.toInt := xle h4
      exact k (1 : Int32) (show (1 : Int) = 0 ∨ (x1.toInt ≤ x0.toInt ∧ x0.toInt ≤ x2.toInt) from by omega) (by decide)
end
section
set_option maxRecDepth 100000
-- ProofBenchModel.axiomHere()I
theorem pg_205_0 {d : Nat} {s : ps_S} {Q : Option Value → ps_S → Prop} (h :
  ps_At d 205 2 [(0, .ref 1131), (1, .int 0)] [] s Q) : ps_At d 205 0 [(0, .ref 1131)] [] s Q :=
  ps_wp_at (stops := [(2, [0, 1])]) (n := 4) h rfl

theorem pg_205_2 {d : Nat} {x1 : Int32} {s : ps_S} {Q : Option Value → ps_S → Prop} (h :
  ps_nd (pm_in (ps_i s 1131 22) 2) (((ps_a s 1137 (Int32.toNatClampNeg (ps_i s 1131 22))) ≤ x1 →
    Q (some (.int (-1))) s) ∧
  (x1 < (ps_a s 1137 (Int32.toNatClampNeg (ps_i s 1131 22))) →
    ((ps_i s 1131 9) ≠ 2 →
      ps_At d 205 2 [(0, .ref 1131), (1, .int (x1 + 1))] [] s Q) ∧
    ((ps_i s 1131 9) = 2 →
      ps_nd (pm_in (((8 : Int32) * (ps_i s 1131 22)) + x1) 16) (((lg_cmp (ps_b s 1142 (Int32.toNatClampNeg (((8 : Int32) * (ps_i s 1131 22)) + x1))) (ps_j s 1131 11)) ≠ 0 →
        ps_At d 205 2 [(0, .ref 1131), (1, .int (x1 + 1))] [] s Q) ∧
      ((lg_cmp (ps_b s 1142 (Int32.toNatClampNeg (((8 : Int32) * (ps_i s 1131 22)) + x1))) (ps_j s 1131 11)) = 0 →
        Q (some (.int x1)) s)))))) : ps_At d 205 2 [(0, .ref 1131), (1, .int x1)] [] s Q :=
  ps_wp_at (stops := [(2, [0, 1])]) (n := 34) h rfl

theorem ms_205_2 {x : Nat → Nat → Nat} {t : Int32} {d : Nat} {s : ps_S} {Q : Option Value → ps_S → Prop} (k : ∀ (v : Int32), (-1 ≤ v.toInt) → (v.toInt < (ps_a s 1137 (Int32.toNatClampNeg (ps_i s 1131 22))).toInt) → Q (some (.int v)) s) : ∀ (n : Nat) (x1 : Int32), (mJ x t s) → (0 ≤ x1.toInt) → (x1.toInt ≤ (ps_a s 1137 (Int32.toNatClampNeg (ps_i s 1131 22))).toInt) → 20 - x1.toInt ≤ (n : Int) → ps_At d 205 2 [(0, .ref 1131), (1, .int x1)] [] s Q := by
  refine xstr (fun n ih => ?_)
  intro x1 J i0 i1 hm
  have r1 := mf_22 J
  have r2 : 0 ≤ (ps_a s 1137 (Int32.toNatClampNeg (ps_i s 1131 22))).toInt ∧ (ps_a s 1137 (Int32.toNatClampNeg (ps_i s 1131 22))).toInt ≤ 8 := ma_1137 (i := (ps_i s 1131 22)) J (show 0 ≤ (ps_i s 1131 22).toInt from by omega) (show (ps_i s 1131 22).toInt < 2 from by omega)
  refine pg_205_2 ?_
  refine ps_nd_i (show pm_in (ps_i s 1131 22) 2 = true from xgi (show 0 ≤ (ps_i s 1131 22).toInt from by omega) (show (ps_i s 1131 22).toInt < 2 from by omega)) ?_
  refine And.intro (fun h3 => ?_) (fun h3 => ?_)
  · have f4 : (ps_a s 1137 (Int32.toNatClampNeg (ps_i s 1131 22))).toInt ≤ x1.toInt := xle h3
    exact k (-1 : Int32) (show -1 ≤ (-1 : Int) from by omega) (show (-1 : Int) < (ps_a s 1137 (Int32.toNatClampNeg (ps_i s 1131 22))).toInt from by omega)
  · have f5 : x1.toInt < (ps_a s 1137 (Int32.toNatClampNeg (ps_i s 1131 22))).toInt := xlt h3
    have r6 := mf_9 J
    refine And.intro (fun h7 => ?_) (fun h7 => ?_)
    · have f8 : (ps_i s 1131 9).toInt ≠ (2 : Int) := xne h7
      have a9 : (x1 + 1).toInt = x1.toInt + (1 : Int) := xIa (show -2147483648 ≤ x1.toInt + (1 : Int) from by omega) (show x1.toInt + (1 : Int) < 2147483648 from by omega)
      exact ih (n - 1) (show n - 1 < n from by omega) (x1 + 1) J (show 0 ≤ (x1 + 1).toInt from by omega) (show (x1 + 1).toInt ≤ (ps_a s 1137 (Int32.toNatClampNeg (ps_i s 1131 22))).toInt from by omega) (show 20 - (x1 + 1).toInt ≤ ((n - 1 : Nat) : Int) from by omega)
    · have f10 : (ps_i s 1131 9).toInt = (2 : Int) := xeq h7
      have a11 : ((8 : Int32) * (ps_i s 1131 22)).toInt = (8 : Int) * (ps_i s 1131 22).toInt := xIm (show -2147483648 ≤ (8 : Int) * (ps_i s 1131 22).toInt from by omega) (show (8 : Int) * (ps_i s 1131 22).toInt < 2147483648 from by omega)
      have a12 : (((8 : Int32) * (ps_i s 1131 22)) + x1).toInt = ((8 : Int32) * (ps_i s 1131 22)).toInt + x1.toInt := xIa (show -2147483648 ≤ ((8 : Int32) * (ps_i s 1131 22)).toInt + x1.toInt from by omega) (show ((8 : Int32) * (ps_i s 1131 22)).toInt + x1.toInt < 2147483648 from by omega)
      refine ps_nd_i (show pm_in (((8 : Int32) * (ps_i s 1131 22)) + x1) 16 = true from xgi (show 0 ≤ (((8 : Int32) * (ps_i s 1131 22)) + x1).toInt from by omega) (show (((8 : Int32) * (ps_i s 1131 22)) + x1).toInt < 16 from by omega)) ?_
      refine And.intro (fun h13 => ?_) (fun h13 => ?_)
      · have f14 : (lg_cmp (ps_b s 1142 (Int32.toNatClampNeg (((8 : Int32) * (ps_i s 1131 22)) + x1))) (ps_j s 1131 11)).toInt ≠ (0 : Int) := xne h13
        have a15 : (x1 + 1).toInt = x1.toInt + (1 : Int) := xIa (show -2147483648 ≤ x1.toInt + (1 : Int) from by omega) (show x1.toInt + (1 : Int) < 2147483648 from by omega)
        exact ih (n - 1) (show n - 1 < n from by omega) (x1 + 1) J (show 0 ≤ (x1 + 1).toInt from by omega) (show (x1 + 1).toInt ≤ (ps_a s 1137 (Int32.toNatClampNeg (ps_i s 1131 22))).toInt from by omega) (show 20 - (x1 + 1).toInt ≤ ((n - 1 : Nat) : Int) from by omega)
      · have f16 : (lg_cmp (ps_b s 1142 (Int32.toNatClampNeg (((8 : Int32) * (ps_i s 1131 22)) + x1))) (ps_j s 1131 11)).toInt = (0 : Int) := xeq h13
        exact k x1 (show -1 ≤ x1.toInt from by omega) (show x1.toInt < (ps_a s 1137 (Int32.toNatClampNeg (ps_i s 1131 22))).toInt from by omega)

theorem ms_205 {x : Nat → Nat → Nat} {t : Int32} {s : ps_S} {d : Nat} {f : Int32 → ps_S → Prop} (J : mJ x t s) (k : ∀ (v : Int32), (-1 ≤ v.toInt) → (v.toInt < (ps_a s 1137 (Int32.toNatClampNeg (ps_i s 1131 22))).toInt) → f v s) : ps_Cl d 205 [.ref 1131] s (ps_rI f) := by
  refine pg_205_0 ?_
  have r1 := mf_22 J
  have r2 : 0 ≤ (ps_a s 1137 (Int32.toNatClampNeg (ps_i s 1131 22))).toInt ∧ (ps_a s 1137 (Int32.toNatClampNeg (ps_i s 1131 22))).toInt ≤ 8 := ma_1137 (i := (ps_i s 1131 22)) J (show 0 ≤ (ps_i s 1131 22).toInt from by omega) (show (ps_i s 1131 22).toInt < 2 from by omega)
  exact ms_205_2  k  (20 - (0 : Int)).toNat (0) J (show 0 ≤ (0 : Int) from by omega) (show (0 : Int) ≤ (ps_a s 1137 (Int32.toNatClampNeg (ps_i s 1131 22))).toInt from by omega) (show 20 - (0 : Int) ≤ (((20 - (0 : Int)).toNat : Nat) : Int) from by omega)

-- ProofBenchModel.relHere()I
theorem pg_206_0 {d : Nat} {s : ps_S} {Q : Option Value → ps_S → Prop} (h :
  ps_At d 206 2 [(0, .ref 1131), (1, .int 0)] [] s Q) : ps_At d 206 0 [(0, .ref 1131)] [] s Q :=
  ps_wp_at (stops := [(2, [0, 1])]) (n := 4) h rfl

theorem pg_206_2 {d : Nat} {x1 : Int32} {s : ps_S} {Q : Option Value → ps_S → Prop} (h :
  ps_nd (pm_in (ps_i s 1131 22) 2) (((ps_a s 1135 (Int32.toNatClampNeg (ps_i s 1131 22))) ≤ x1 →
    Q (some (.int (-1))) s) ∧
  (x1 < (ps_a s 1135 (Int32.toNatClampNeg (ps_i s 1131 22))) →
    ((ps_i s 1131 9) ≠ 2 →
      ps_At d 206 2 [(0, .ref 1131), (1, .int (x1 + 1))] [] s Q) ∧
    ((ps_i s 1131 9) = 2 →
      ps_nd (pm_in (((6 : Int32) * (ps_i s 1131 22)) + x1) 12) (((lg_cmp (ps_b s 1140 (Int32.toNatClampNeg (((6 : Int32) * (ps_i s 1131 22)) + x1))) (ps_j s 1131 11)) ≠ 0 →
        ps_At d 206 2 [(0, .ref 1131), (1, .int (x1 + 1))] [] s Q) ∧
      ((lg_cmp (ps_b s 1140 (Int32.toNatClampNeg (((6 : Int32) * (ps_i s 1131 22)) + x1))) (ps_j s 1131 11)) = 0 →
        Q (some (.int x1)) s)))))) : ps_At d 206 2 [(0, .ref 1131), (1, .int x1)] [] s Q :=
  ps_wp_at (stops := [(2, [0, 1])]) (n := 34) h rfl

theorem ms_206_2 {x : Nat → Nat → Nat} {t : Int32} {d : Nat} {s : ps_S} {Q : Option Value → ps_S → Prop} (k : ∀ (v : Int32), (-1 ≤ v.toInt) → (v.toInt < (ps_a s 1135 (Int32.toNatClampNeg (ps_i s 1131 22))).toInt) → Q (some (.int v)) s) : ∀ (n : Nat) (x1 : Int32), (mJ x t s) → (0 ≤ x1.toInt) → (x1.toInt ≤ (ps_a s 1135 (Int32.toNatClampNeg (ps_i s 1131 22))).toInt) → 20 - x1.toInt ≤ (n : Int) → ps_At d 206 2 [(0, .ref 1131), (1, .int x1)] [] s Q := by
  refine xstr (fun n ih => ?_)
  intro x1 J i0 i1 hm
  have r1 := mf_22 J
  have r2 : 0 ≤ (ps_a s 1135 (Int32.toNatClampNeg (ps_i s 1131 22))).toInt ∧ (ps_a s 1135 (Int32.toNatClampNeg (ps_i s 1131 22))).toInt ≤ 6 := ma_1135 (i := (ps_i s 1131 22)) J (show 0 ≤ (ps_i s 1131 22).toInt from by omega) (show (ps_i s 1131 22).toInt < 2 from by omega)
  refine pg_206_2 ?_
  refine ps_nd_i (show pm_in (ps_i s 1131 22) 2 = true from xgi (show 0 ≤ (ps_i s 1131 22).toInt from by omega) (show (ps_i s 1131 22).toInt < 2 from by omega)) ?_
  refine And.intro (fun h3 => ?_) (fun h3 => ?_)
  · have f4 : (ps_a s 1135 (Int32.toNatClampNeg (ps_i s 1131 22))).toInt ≤ x1.toInt := xle h3
    exact k (-1 : Int32) (show -1 ≤ (-1 : Int) from by omega) (show (-1 : Int) < (ps_a s 1135 (Int32.toNatClampNeg (ps_i s 1131 22))).toInt from by omega)
  · have f5 : x1.toInt < (ps_a s 1135 (Int32.toNatClampNeg (ps_i s 1131 22))).toInt := xlt h3
    have r6 := mf_9 J
    refine And.intro (fun h7 => ?_) (fun h7 => ?_)
    · have f8 : (ps_i s 1131 9).toInt ≠ (2 : Int) := xne h7
      have a9 : (x1 + 1).toInt = x1.toInt + (1 : Int) := xIa (show -2147483648 ≤ x1.toInt + (1 : Int) from by omega) (show x1.toInt + (1 : Int) < 2147483648 from by omega)
      exact ih (n - 1) (show n - 1 < n from by omega) (x1 + 1) J (show 0 ≤ (x1 + 1).toInt from by omega) (show (x1 + 1).toInt ≤ (ps_a s 1135 (Int32.toNatClampNeg (ps_i s 1131 22))).toInt from by omega) (show 20 - (x1 + 1).toInt ≤ ((n - 1 : Nat) : Int) from by omega)
    · have f10 : (ps_i s 1131 9).toInt = (2 : Int) := xeq h7
      have a11 : ((6 : Int32) * (ps_i s 1131 22)).toInt = (6 : Int) * (ps_i s 1131 22).toInt := xIm (show -2147483648 ≤ (6 : Int) * (ps_i s 1131 22).toInt from by omega) (show (6 : Int) * (ps_i s 1131 22).toInt < 2147483648 from by omega)
      have a12 : (((6 : Int32) * (ps_i s 1131 22)) + x1).toInt = ((6 : Int32) * (ps_i s 1131 22)).toInt + x1.toInt := xIa (show -2147483648 ≤ ((6 : Int32) * (ps_i s 1131 22)).toInt + x1.toInt from by omega) (show ((6 : Int32) * (ps_i s 1131 22)).toInt + x1.toInt < 2147483648 from by omega)
      refine ps_nd_i (show pm_in (((6 : Int32) * (ps_i s 1131 22)) + x1) 12 = true from xgi (show 0 ≤ (((6 : Int32) * (ps_i s 1131 22)) + x1).toInt from by omega) (show (((6 : Int32) * (ps_i s 1131 22)) + x1).toInt < 12 from by omega)) ?_
      refine And.intro (fun h13 => ?_) (fun h13 => ?_)
      · have f14 : (lg_cmp (ps_b s 1140 (Int32.toNatClampNeg (((6 : Int32) * (ps_i s 1131 22)) + x1))) (ps_j s 1131 11)).toInt ≠ (0 : Int) := xne h13
        have a15 : (x1 + 1).toInt = x1.toInt + (1 : Int) := xIa (show -2147483648 ≤ x1.toInt + (1 : Int) from by omega) (show x1.toInt + (1 : Int) < 2147483648 from by omega)
        exact ih (n - 1) (show n - 1 < n from by omega) (x1 + 1) J (show 0 ≤ (x1 + 1).toInt from by omega) (show (x1 + 1).toInt ≤ (ps_a s 1135 (Int32.toNatClampNeg (ps_i s 1131 22))).toInt from by omega) (show 20 - (x1 + 1).toInt ≤ ((n - 1 : Nat) : Int) from by omega)
      · have f16 : (lg_cmp (ps_b s 1140 (Int32.toNatClampNeg (((6 : Int32) * (ps_i s 1131 22)) + x1))) (ps_j s 1131 11)).toInt = (0 : Int) := xeq h13
        exact k x1 (show -1 ≤ x1.toInt from by omega) (show x1.toInt < (ps_a s 1135 (Int32.toNatClampNeg (ps_i s 1131 22))).toInt from by omega)

theorem ms_206 {x : Nat → Nat → Nat} {t : Int32} {s : ps_S} {d : Nat} {f : Int32 → ps_S → Prop} (J : mJ x t s) (k : ∀ (v : Int32), (-1 ≤ v.toInt) → (v.toInt < (ps_a s 1135 (Int32.toNatClampNeg (ps_i s 1131 22))).toInt) → f v s) : ps_Cl d 206 [.ref 1131] s (ps_rI f) := by
  refine pg_206_0 ?_
  have r1 := mf_22 J
  have r2 : 0 ≤ (ps_a s 1135 (Int32.toNatClampNeg (ps_i s 1131 22))).toInt ∧ (ps_a s 1135 (Int32.toNatClampNeg (ps_i s 1131 22))).toInt ≤ 6 := ma_1135 (i := (ps_i s 1131 22)) J (show 0 ≤ (ps_i s 1131 22).toInt from by omega) (show (ps_i s 1131 22).toInt < 2 from by omega)
  exact ms_206_2  k  (20 - (0 : Int)).toNat (0) J (show 0 ≤ (0 : Int) from by omega) (show (0 : Int) ≤ (ps_a s 1135 (Int32.toNatClampNeg (ps_i s 1131 22))).toInt from by omega) (show 20 - (0 : Int) ≤ (((20 - (0 : Int)).toNat : Nat) : Int) from by omega)

-- ProofBenchModel.funHere()I
theorem pg_207_0 {d : Nat} {s : ps_S} {Q : Option Value → ps_S → Prop} (h :
  ps_At d 207 2 [(0, .ref 1131), (1, .int 0)] [] s Q) : ps_At d 207 0 [(0, .ref 1131)] [] s Q :=
  ps_wp_at (stops := [(2, [0, 1])]) (n := 4) h rfl

theorem pg_207_2 {d : Nat} {x1 : Int32} {s : ps_S} {Q : Option Value → ps_S → Prop} (h :
  ps_nd (pm_in (ps_i s 1131 22) 2) (((ps_a s 1136 (Int32.toNatClampNeg (ps_i s 1131 22))) ≤ x1 →
    Q (some (.int (-1))) s) ∧
  (x1 < (ps_a s 1136 (Int32.toNatClampNeg (ps_i s 1131 22))) →
    ((ps_i s 1131 9) ≠ 2 →
      ps_At d 207 2 [(0, .ref 1131), (1, .int (x1 + 1))] [] s Q) ∧
    ((ps_i s 1131 9) = 2 →
      ps_nd (pm_in (((4 : Int32) * (ps_i s 1131 22)) + x1) 8) (((lg_cmp (ps_b s 1141 (Int32.toNatClampNeg (((4 : Int32) * (ps_i s 1131 22)) + x1))) (ps_j s 1131 11)) ≠ 0 →
        ps_At d 207 2 [(0, .ref 1131), (1, .int (x1 + 1))] [] s Q) ∧
      ((lg_cmp (ps_b s 1141 (Int32.toNatClampNeg (((4 : Int32) * (ps_i s 1131 22)) + x1))) (ps_j s 1131 11)) = 0 →
        Q (some (.int x1)) s)))))) : ps_At d 207 2 [(0, .ref 1131), (1, .int x1)] [] s Q :=
  ps_wp_at (stops := [(2, [0, 1])]) (n := 34) h rfl

theorem ms_207_2 {x : Nat → Nat → Nat} {t : Int32} {d : Nat} {s : ps_S} {Q : Option Value → ps_S → Prop} (k : ∀ (v : Int32), (-1 ≤ v.toInt) → (v.toInt < (ps_a s 1136 (Int32.toNatClampNeg (ps_i s 1131 22))).toInt) → Q (some (.int v)) s) : ∀ (n : Nat) (x1 : Int32), (mJ x t s) → (0 ≤ x1.toInt) → (x1.toInt ≤ (ps_a s 1136 (Int32.toNatClampNeg (ps_i s 1131 22))).toInt) → 20 - x1.toInt ≤ (n : Int) → ps_At d 207 2 [(0, .ref 1131), (1, .int x1)] [] s Q := by
  refine xstr (fun n ih => ?_)
  intro x1 J i0 i1 hm
  have r1 := mf_22 J
  have r2 : 0 ≤ (ps_a s 1136 (Int32.toNatClampNeg (ps_i s 1131 22))).toInt ∧ (ps_a s 1136 (Int32.toNatClampNeg (ps_i s 1131 22))).toInt ≤ 4 := ma_1136 (i := (ps_i s 1131 22)) J (show 0 ≤ (ps_i s 1131 22).toInt from by omega) (show (ps_i s 1131 22).toInt < 2 from by omega)
  refine pg_207_2 ?_
  refine ps_nd_i (show pm_in (ps_i s 1131 22) 2 = true from xgi (show 0 ≤ (ps_i s 1131 22).toInt from by omega) (show (ps_i s 1131 22).toInt < 2 from by omega)) ?_
  refine And.intro (fun h3 => ?_) (fun h3 => ?_)
  · have f4 : (ps_a s 1136 (Int32.toNatClampNeg (ps_i s 1131 22))).toInt ≤ x1.toInt := xle h3
    exact k (-1 : Int32) (show -1 ≤ (-1 : Int) from by omega) (show (-1 : Int) < (ps_a s 1136 (Int32.toNatClampNeg (ps_i s 1131 22))).toInt from by omega)
  · have f5 : x1.toInt < (ps_a s 1136 (Int32.toNatClampNeg (ps_i s 1131 22))).toInt := xlt h3
    have r6 := mf_9 J
    refine And.intro (fun h7 => ?_) (fun h7 => ?_)
    · have f8 : (ps_i s 1131 9).toInt ≠ (2 : Int) := xne h7
      have a9 : (x1 + 1).toInt = x1.toInt + (1 : Int) := xIa (show -2147483648 ≤ x1.toInt + (1 : Int) from by omega) (show x1.toInt + (1 : Int) < 2147483648 from by omega)
      exact ih (n - 1) (show n - 1 < n from by omega) (x1 + 1) J (show 0 ≤ (x1 + 1).toInt from by omega) (show (x1 + 1).toInt ≤ (ps_a s 1136 (Int32.toNatClampNeg (ps_i s 1131 22))).toInt from by omega) (show 20 - (x1 + 1).toInt ≤ ((n - 1 : Nat) : Int) from by omega)
    · have f10 : (ps_i s 1131 9).toInt = (2 : Int) := xeq h7
      have a11 : ((4 : Int32) * (ps_i s 1131 22)).toInt = (4 : Int) * (ps_i s 1131 22).toInt := xIm (show -2147483648 ≤ (4 : Int) * (ps_i s 1131 22).toInt from by omega) (show (4 : Int) * (ps_i s 1131 22).toInt < 2147483648 from by omega)
      have a12 : (((4 : Int32) * (ps_i s 1131 22)) + x1).toInt = ((4 : Int32) * (ps_i s 1131 22)).toInt + x1.toInt := xIa (show -2147483648 ≤ ((4 : Int32) * (ps_i s 1131 22)).toInt + x1.toInt from by omega) (show ((4 : Int32) * (ps_i s 1131 22)).toInt + x1.toInt < 2147483648 from by omega)
      refine ps_nd_i (show pm_in (((4 : Int32) * (ps_i s 1131 22)) + x1) 8 = true from xgi (show 0 ≤ (((4 : Int32) * (ps_i s 1131 22)) + x1).toInt from by omega) (show (((4 : Int32) * (ps_i s 1131 22)) + x1).toInt < 8 from by omega)) ?_
      refine And.intro (fun h13 => ?_) (fun h13 => ?_)
      · have f14 : (lg_cmp (ps_b s 1141 (Int32.toNatClampNeg (((4 : Int32) * (ps_i s 1131 22)) + x1))) (ps_j s 1131 11)).toInt ≠ (0 : Int) := xne h13
        have a15 : (x1 + 1).toInt = x1.toInt + (1 : Int) := xIa (show -2147483648 ≤ x1.toInt + (1 : Int) from by omega) (show x1.toInt + (1 : Int) < 2147483648 from by omega)
        exact ih (n - 1) (show n - 1 < n from by omega) (x1 + 1) J (show 0 ≤ (x1 + 1).toInt from by omega) (show (x1 + 1).toInt ≤ (ps_a s 1136 (Int32.toNatClampNeg (ps_i s 1131 22))).toInt from by omega) (show 20 - (x1 + 1).toInt ≤ ((n - 1 : Nat) : Int) from by omega)
      · have f16 : (lg_cmp (ps_b s 1141 (Int32.toNatClampNeg (((4 : Int32) * (ps_i s 1131 22)) + x1))) (ps_j s 1131 11)).toInt = (0 : Int) := xeq h13
        exact k x1 (show -1 ≤ x1.toInt from by omega) (show x1.toInt < (ps_a s 1136 (Int32.toNatClampNeg (ps_i s 1131 22))).toInt from by omega)

theorem ms_207 {x : Nat → Nat → Nat} {t : Int32} {s : ps_S} {d : Nat} {f : Int32 → ps_S → Prop} (J : mJ x t s) (k : ∀ (v : Int32), (-1 ≤ v.toInt) → (v.toInt < (ps_a s 1136 (Int32.toNatClampNeg (ps_i s 1131 22))).toInt) → f v s) : ps_Cl d 207 [.ref 1131] s (ps_rI f) := by
  refine pg_207_0 ?_
  have r1 := mf_22 J
  have r2 : 0 ≤ (ps_a s 1136 (Int32.toNatClampNeg (ps_i s 1131 22))).toInt ∧ (ps_a s 1136 (Int32.toNatClampNeg (ps_i s 1131 22))).toInt ≤ 4 := ma_1136 (i := (ps_i s 1131 22)) J (show 0 ≤ (ps_i s 1131 22).toInt from by omega) (show (ps_i s 1131 22).toInt < 2 from by omega)
  exact ms_207_2  k  (20 - (0 : Int)).toNat (0) J (show 0 ≤ (0 : Int) from by omega) (show (0 : Int) ≤ (ps_a s 1136 (Int32.toNatClampNeg (ps_i s 1131 22))).toInt from by omega) (show 20 - (0 : Int) ≤ (((20 - (0 : Int)).toNat : Nat) : Int) from by omega)

-- ProofBenchModel.isX()Z
theorem pg_208_0 {d : Nat} {s : ps_S} {Q : Option Value → ps_S → Prop} (h :
  ((ps_i s 1131 9) ≠ 2 →
    Q (some (.int 0)) s) ∧
  ((ps_i s 1131 9) = 2 →
    ps_Cl d 206 [.ref 1131] s (ps_rI (fun v1 s1 =>
      (0 ≤ v1 →
        Q (some (.int 0)) s1) ∧
      (v1 < 0 →
        ps_Cl d 207 [.ref 1131] s1 (ps_rI (fun v2 s2 =>
          (0 ≤ v2 →
            Q (some (.int 0)) s2) ∧
          (v2 < 0 →
            Q (some (.int 1)) s2)))))))) : ps_At (d + 1) 208 0 [(0, .ref 1131)] [] s Q :=
  ps_wp_at (stops := []) (n := 21) h rfl

theorem ms_208 {x : Nat → Nat → Nat} {t : Int32} {s : ps_S} {d : Nat} {f : Int32 → ps_S → Prop} (J : mJ x t s) (k : ∀ (v : Int32), v &&& 1 = v → f v s) : ps_Cl (d + 1) 208 [.ref 1131] s (ps_rI f) := by
  refine pg_208_0 (d := d) ?_
  have r1 := mf_9 J
  refine And.intro (fun h2 => ?_) (fun h2 => ?_)
  · have f3 : (ps_i s 1131 9).toInt ≠ (2 : Int) := xne h2
    exact k (0 : Int32) (by decide)
  · have f4 : (ps_i s 1131 9).toInt = (2 : Int) := xeq h2
    refine ms_206 J  (fun v5 p5_0 p5_1 => ?_)
    have p5_0' : -1 ≤ v5.toInt := p5_0
    have p5_1' : v5.toInt < (ps_a s 1135 (Int32.toNatClampNeg (ps_i s 1131 22))).toInt := p5_1
    have r6 := mf_22 J
    have r7 : 0 ≤ (ps_a s 1135 (Int32.toNatClampNeg (ps_i s 1131 22))).toInt ∧ (ps_a s 1135 (Int32.toNatClampNeg (ps_i s 1131 22))).toInt ≤ 6 := ma_1135 (i := (ps_i s 1131 22)) J (show 0 ≤ (ps_i s 1131 22).toInt from by omega) (show (ps_i s 1131 22).toInt < 2 from by omega)
    refine And.intro (fun h8 => ?_) (fun h8 => ?_)
    · have f9 : (0 : Int) ≤ v5.toInt := xle h8
      exact k (0 : Int32) (by decide)
    · have f10 : v5.toInt < (0 : Int) := xlt h8
      refine ms_207 J  (fun v11 p11_0 p11_1 => ?_)
      have p11_0' : -1 ≤ v11.toInt := p11_0
      have p11_1' : v11.toInt < (ps_a s 1136 (Int32.toNatClampNeg (ps_i s 1131 22))).toInt := p11_1
      have r12 : 0 ≤ (ps_a s 1136 (Int32.toNatClampNeg (ps_i s 1131 22))).toInt ∧ (ps_a s 1136 (Int32.toNatClampNeg (ps_i s 1131 22))).toInt ≤ 4 := ma_1136 (i := (ps_i s 1131 22)) J (show 0 ≤ (ps_i s 1131 22).toInt from by omega) (show (ps_i s 1131 22).toInt < 2 from by omega)
      refine And.intro (fun h13 => ?_) (fun h13 => ?_)
      · have f14 : (0 : Int) ≤ v11.toInt := xle h13
        exact k (0 : Int32) (by decide)
      · have f15 : v11.toInt < (0 : Int) := xlt h13
        exact k (1 : Int32) (by decide)

-- ProofBenchModel.freeHere()I
theorem pg_217_0 {d : Nat} {s : ps_S} {Q : Option Value → ps_S → Prop} (h :
  ps_At (d + 1) 217 2 [(0, .ref 1131), (1, .int 0)] [] s Q) : ps_At (d + 1) 217 0 [(0, .ref 1131)] [] s Q :=
  ps_wp_at (stops := [(2, [0, 1])]) (n := 4) h rfl

theorem pg_217_2 {d : Nat} {x1 : Int32} {s : ps_S} {Q : Option Value → ps_S → Prop} (h :
  ((ps_i s 1131 23) ≤ x1 →
    ((ps_i s 1131 23) ≠ 12 →
      ps_nd (pm_in (ps_i s 1131 23) 12) (Q (some (.int ((ps_i (ps_ui (ps_ub s 1143 (Int32.toNatClampNeg (ps_i s 1131 23)) (ps_j s 1131 11)) 1131 23 ((ps_i (ps_ub s 1143 (Int32.toNatClampNeg (ps_i s 1131 23)) (ps_j s 1131 11)) 1131 23) + 1)) 1131 23) - 1))) (ps_ui (ps_ub s 1143 (Int32.toNatClampNeg (ps_i s 1131 23)) (ps_j s 1131 11)) 1131 23 ((ps_i (ps_ub s 1143 (Int32.toNatClampNeg (ps_i s 1131 23)) (ps_j s 1131 11)) 1131 23) + 1)))) ∧
    ((ps_i s 1131 23) = 12 →
      ps_Cl d 196 [.ref 1131] s (ps_rV (fun s1 =>
        Q (some (.int 0)) s1)))) ∧
  (x1 < (ps_i s 1131 23) →
    ps_nd (pm_in x1 12) (((lg_cmp (ps_b s 1143 (Int32.toNatClampNeg x1)) (ps_j s 1131 11)) ≠ 0 →
      ps_At (d + 1) 217 2 [(0, .ref 1131), (1, .int (x1 + 1))] [] s Q) ∧
    ((lg_cmp (ps_b s 1143 (Int32.toNatClampNeg x1)) (ps_j s 1131 11)) = 0 →
      Q (some (.int x1)) s)))) : ps_At (d + 1) 217 2 [(0, .ref 1131), (1, .int x1)] [] s Q :=
  ps_wp_at (stops := [(2, [0, 1])]) (n := 44) h rfl

theorem ms_217_2 {x : Nat → Nat → Nat} {t : Int32} {d : Nat} {s0 : ps_S} {Q : Option Value → ps_S → Prop} (k : ∀ (v : Int32) (s' : ps_S), mJ x t s' → kp [1143] [5, 6, 23] s0 s' → (0 ≤ v.toInt) → (v.toInt ≤ 11) → (1 ≤ (ps_i s0 1131 5).toInt → 1 ≤ (ps_i s' 1131 5).toInt) → Q (some (.int v)) s') : ∀ (n : Nat) (x1 : Int32) (s : ps_S), (mJ x t s) → (kp [1143] [5, 6, 23] s0 s) → (0 ≤ x1.toInt) → (x1.toInt ≤ (ps_i s 1131 23).toInt) → ((ps_i s0 1131 5).toInt = (ps_i s 1131 5).toInt) → 20 - x1.toInt ≤ (n : Int) → ps_At (d + 2) 217 2 [(0, .ref 1131), (1, .int x1)] [] s Q := by
  refine xstr (fun n ih => ?_)
  intro x1 s J K i0 i1 i2 hm
  have r1 := mf_23 J
  have r2 := mf_5 J
  refine pg_217_2 (d := d + 1) ?_
  refine And.intro (fun h3 => ?_) (fun h3 => ?_)
  · have f4 : (ps_i s 1131 23).toInt ≤ x1.toInt := xle h3
    refine And.intro (fun h5 => ?_) (fun h5 => ?_)
    · have f6 : (ps_i s 1131 23).toInt ≠ (12 : Int) := xne h5
      refine ps_nd_i (show pm_in (ps_i s 1131 23) 12 = true from xgi (show 0 ≤ (ps_i s 1131 23).toInt from by omega) (show (ps_i s 1131 23).toInt < 12 from by omega)) ?_
      have J7 := mw_b (r := 1143) (i := (Int32.toNatClampNeg (ps_i s 1131 23))) (v := (ps_j s 1131 11)) J
      have K8 := kpb' K (r := 1143) (i := (Int32.toNatClampNeg (ps_i s 1131 23))) (v := (ps_j s 1131 11)) rfl
      have a9 : ((ps_i s 1131 23) + 1).toInt = (ps_i s 1131 23).toInt + (1 : Int) := xIa (show -2147483648 ≤ (ps_i s 1131 23).toInt + (1 : Int) from by omega) (show (ps_i s 1131 23).toInt + (1 : Int) < 2147483648 from by omega)
      have J10 := mwi_23 (v := ((ps_i s 1131 23) + 1)) J7 (show 0 ≤ ((ps_i s 1131 23) + 1).toInt from by omega) (show ((ps_i s 1131 23) + 1).toInt ≤ 12 from by omega)
      have K11 := kpi K8 (q := 23) (v := ((ps_i s 1131 23) + 1)) rfl
      have a12 : (((ps_i s 1131 23) + 1) - 1).toInt = ((ps_i s 1131 23) + 1).toInt - (1 : Int) := xIs (show -2147483648 ≤ ((ps_i s 1131 23) + 1).toInt - (1 : Int) from by omega) (show ((ps_i s 1131 23) + 1).toInt - (1 : Int) < 2147483648 from by omega)
      exact k (((ps_i s 1131 23) + 1) - 1) _ J10 K11 (show 0 ≤ (((ps_i s 1131 23) + 1) - 1).toInt from by omega) (show (((ps_i s 1131 23) + 1) - 1).toInt ≤ 11 from by omega) (show 1 ≤ (ps_i s0 1131 5).toInt → 1 ≤ (ps_i s 1131 5).toInt from by omega)
    · have f13 : (ps_i s 1131 23).toInt = (12 : Int) := xeq h5
      refine ms_196 J  (fun s14 J14 K14 p14_0 => ?_)
      have K15 := kpt K K14 rfl rfl
      have p14_0' : 1 ≤ (ps_i s14 1131 5).toInt := p14_0
      have r16 := mf_5 J14
      exact k (0 : Int32) _ J14 K15 (show 0 ≤ (0 : Int) from by omega) (show (0 : Int) ≤ 11 from by omega) (show 1 ≤ (ps_i s0 1131 5).toInt → 1 ≤ (ps_i s14 1131 5).toInt from by omega)
  · have f17 : x1.toInt < (ps_i s 1131 23).toInt := xlt h3
    refine ps_nd_i (show pm_in x1 12 = true from xgi (show 0 ≤ x1.toInt from by omega) (show x1.toInt < 12 from by omega)) ?_
    refine And.intro (fun h18 => ?_) (fun h18 => ?_)
    · have f19 : (lg_cmp (ps_b s 1143 (Int32.toNatClampNeg x1)) (ps_j s 1131 11)).toInt ≠ (0 : Int) := xne h18
      have a20 : (x1 + 1).toInt = x1.toInt + (1 : Int) := xIa (show -2147483648 ≤ x1.toInt + (1 : Int) from by omega) (show x1.toInt + (1 : Int) < 2147483648 from by omega)
      exact ih (n - 1) (show n - 1 < n from by omega) (x1 + 1) _ J K (show 0 ≤ (x1 + 1).toInt from by omega) (show (x1 + 1).toInt ≤ (ps_i s 1131 23).toInt from by omega) (show (ps_i s0 1131 5).toInt = (ps_i s 1131 5).toInt from by omega) (show 20 - (x1 + 1).toInt ≤ ((n - 1 : Nat) : Int) from by omega)
    · have f21 : (lg_cmp (ps_b s 1143 (Int32.toNatClampNeg x1)) (ps_j s 1131 11)).toInt = (0 : Int) := xeq h18
      exact k x1 _ J K (show 0 ≤ x1.toInt from by omega) (show x1.toInt ≤ 11 from by omega) (show 1 ≤ (ps_i s0 1131 5).toInt → 1 ≤ (ps_i s 1131 5).toInt from by omega)

theorem ms_217 {x : Nat → Nat → Nat} {t : Int32} {s : ps_S} {d : Nat} {f : Int32 → ps_S → Prop} (J : mJ x t s) (k : ∀ (v : Int32) (s' : ps_S), mJ x t s' → kp [1143] [5, 6, 23] s s' → (0 ≤ v.toInt) → (v.toInt ≤ 11) → (1 ≤ (ps_i s 1131 5).toInt → 1 ≤ (ps_i s' 1131 5).toInt) → f v s') : ps_Cl (d + 2) 217 [.ref 1131] s (ps_rI f) := by
  have K : kp [1143] [5, 6, 23] s s := kp_refl
  refine pg_217_0 (d := d + 1) ?_
  have r1 := mf_23 J
  have r2 := mf_5 J
  exact ms_217_2  k  (20 - (0 : Int)).toNat (0) _ J K (show 0 ≤ (0 : Int) from by omega) (show (0 : Int) ≤ (ps_i s 1131 23).toInt from by omega) (show (ps_i s 1131 5).toInt = (ps_i s 1131 5).toInt from by omega) (show 20 - (0 : Int) ≤ (((20 - (0 : Int)).toNat : Nat) : Int) from by omega)

-- ProofBenchModel.xHere()I
theorem pg_216_0 {d : Nat} {s : ps_S} {Q : Option Value → ps_S → Prop} (h :
  ps_At (d + 1) 216 9 [(0, .ref 1131), (1, .int 0), (2, .int ((ps_i s 1131 29) - 1))] [] s Q) : ps_At (d + 1) 216 0 [(0, .ref 1131)] [] s Q :=
  ps_wp_at (stops := [(9, [0, 1, 2])]) (n := 9) h rfl

theorem pg_216_9 {d : Nat} {x1 : Int32} {x2 : Int32} {s : ps_S} {Q : Option Value → ps_S → Prop} (h :
  (x2 < 0 →
    ((ps_i s 1131 32) = 0 →
      ps_Cl d 217 [.ref 1131] s (ps_rI (fun v1 s1 =>
        Q (some (.int ((60 : Int32) + v1))) s1))) ∧
    ((ps_i s 1131 32) ≠ 0 →
      ps_Cl d 191 [.ref 1131, .int 5, .int (ps_i s 1131 7)] s (ps_rV (fun s2 =>
        Q (some (.int 0)) s2)))) ∧
  (0 ≤ x2 →
    ps_nd (pm_in x2 16) (((ps_a s 1147 (Int32.toNatClampNeg x2)) ≠ 0 →
      ps_nd (pm_in x2 16) (((lg_cmp (ps_b s 1148 (Int32.toNatClampNeg x2)) (ps_j s 1131 11)) ≠ 0 →
        ps_At (d + 1) 216 9 [(0, .ref 1131), (1, .int (x1 + 1)), (2, .int (x2 + (-1)))] [] s Q) ∧
      ((lg_cmp (ps_b s 1148 (Int32.toNatClampNeg x2)) (ps_j s 1131 11)) = 0 →
        Q (some (.int ((40 : Int32) + x1))) s))) ∧
    ((ps_a s 1147 (Int32.toNatClampNeg x2)) = 0 →
      ps_At (d + 1) 216 9 [(0, .ref 1131), (1, .int x1), (2, .int (x2 + (-1)))] [] s Q)))) : ps_At (d + 1) 216 9 [(0, .ref 1131), (1, .int x1), (2, .int x2)] [] s Q :=
  ps_wp_at (stops := [(9, [0, 1, 2])]) (n := 42) h rfl

theorem ms_216_9 {x : Nat → Nat → Nat} {t : Int32} {d : Nat} {s0 : ps_S} {Q : Option Value → ps_S → Prop} (k : ∀ (v : Int32) (s' : ps_S), mJ x t s' → kp [1143] [5, 6, 23] s0 s' → ((v.toInt = 0 ∧ 1 ≤ (ps_i s' 1131 5).toInt) ∨ (40 ≤ v.toInt ∧ v.toInt < 60) ∨ (60 ≤ v.toInt ∧ v.toInt ≤ 71 ∧ (ps_i s' 1131 32).toInt = 0)) → (1 ≤ (ps_i s0 1131 5).toInt → 1 ≤ (ps_i s' 1131 5).toInt) → Q (some (.int v)) s') : ∀ (n : Nat) (x1 : Int32) (x2 : Int32) (s : ps_S), (mJ x t s) → (kp [1143] [5, 6, 23] s0 s) → (-1 ≤ x2.toInt) → (x2.toInt < (ps_i s 1131 29).toInt) → (0 ≤ x1.toInt) → (x1.toInt + x2.toInt + 1 ≤ (ps_i s 1131 29).toInt) → ((ps_i s0 1131 5).toInt = (ps_i s 1131 5).toInt) → ((ps_i s0 1131 29).toInt = (ps_i s 1131 29).toInt) → x2.toInt + 1 ≤ (n : Int) → ps_At (d + 3) 216 9 [(0, .ref 1131), (1, .int x1), (2, .int x2)] [] s Q := by
  refine xstr (fun n ih => ?_)
  intro x1 x2 s J K i0 i1 i2 i3 i4 i5 hm
  have r1 := mf_29 J
  have r2 := mf_5 J
  refine pg_216_9 (d := d + 2) ?_
  refine And.intro (fun h3 => ?_) (fun h3 => ?_)
  · have f4 : x2.toInt < (0 : Int) := xlt h3
    refine And.intro (fun h5 => ?_) (fun h5 => ?_)
    · have f6 : (ps_i s 1131 32).toInt = (0 : Int) := xeq h5
      refine ms_217 J  (fun v7 s7 J7 K7 p7_0 p7_1 p7_2 => ?_)
      have K8 := kpt K K7 rfl rfl
      have p7_0' : 0 ≤ v7.toInt := p7_0
      have p7_1' : v7.toInt ≤ 11 := p7_1
      have p7_2' : 1 ≤ (ps_i s 1131 5).toInt → 1 ≤ (ps_i s7 1131 5).toInt := p7_2
      have r9 := mf_5 J7
      have a10 : ((60 : Int32) + v7).toInt = (60 : Int) + v7.toInt := xIa (show -2147483648 ≤ (60 : Int) + v7.toInt from by omega) (show (60 : Int) + v7.toInt < 2147483648 from by omega)
      have u11 : (ps_i s7 1131 32).toInt = (ps_i s 1131 32).toInt := xeq (kp_i K7 32 rfl)
      exact k ((60 : Int32) + v7) _ J7 K8 (show (((60 : Int32) + v7).toInt = 0 ∧ 1 ≤ (ps_i s7 1131 5).toInt) ∨ (40 ≤ ((60 : Int32) + v7).toInt ∧ ((60 : Int32) + v7).toInt < 60) ∨ (60 ≤ ((60 : Int32) + v7).toInt ∧ ((60 : Int32) + v7).toInt ≤ 71 ∧ (ps_i s7 1131 32).toInt = 0) from by omega) (show 1 ≤ (ps_i s0 1131 5).toInt → 1 ≤ (ps_i s7 1131 5).toInt from by omega)
    · have f12 : (ps_i s 1131 32).toInt ≠ (0 : Int) := xne h5
      have r13 := mf_7 J
      refine ms_191 J (show 1 ≤ (5 : Int) from by omega) (show (5 : Int) ≤ 6 from by omega) (fun s14 J14 K14 p14_0 => ?_)
      have K15 := kpt K K14 rfl rfl
      have p14_0' : 1 ≤ (ps_i s14 1131 5).toInt := p14_0
      have r16 := mf_5 J14
      have u17 : (ps_i s14 1131 32).toInt = (ps_i s 1131 32).toInt := xeq (kp_i K14 32 rfl)
      exact k (0 : Int32) _ J14 K15 (show ((0 : Int) = 0 ∧ 1 ≤ (ps_i s14 1131 5).toInt) ∨ (40 ≤ (0 : Int) ∧ (0 : Int) < 60) ∨ (60 ≤ (0 : Int) ∧ (0 : Int) ≤ 71 ∧ (ps_i s14 1131 32).toInt = 0) from by omega) (show 1 ≤ (ps_i s0 1131 5).toInt → 1 ≤ (ps_i s14 1131 5).toInt from by omega)
  · have f18 : (0 : Int) ≤ x2.toInt := xle h3
    refine ps_nd_i (show pm_in x2 16 = true from xgi (show 0 ≤ x2.toInt from by omega) (show x2.toInt < 16 from by omega)) ?_
    refine And.intro (fun h19 => ?_) (fun h19 => ?_)
    · have f20 : (ps_a s 1147 (Int32.toNatClampNeg x2)).toInt ≠ (0 : Int) := xne h19
      refine ps_nd_i (show pm_in x2 16 = true from xgi (show 0 ≤ x2.toInt from by omega) (show x2.toInt < 16 from by omega)) ?_
      refine And.intro (fun h21 => ?_) (fun h21 => ?_)
      · have f22 : (lg_cmp (ps_b s 1148 (Int32.toNatClampNeg x2)) (ps_j s 1131 11)).toInt ≠ (0 : Int) := xne h21
        have a23 : (x1 + 1).toInt = x1.toInt + (1 : Int) := xIa (show -2147483648 ≤ x1.toInt + (1 : Int) from by omega) (show x1.toInt + (1 : Int) < 2147483648 from by omega)
        have a24 : (x2 + (-1)).toInt = x2.toInt + (-1 : Int) := xIa (show -2147483648 ≤ x2.toInt + (-1 : Int) from by omega) (show x2.toInt + (-1 : Int) < 2147483648 from by omega)
        exact ih (n - 1) (show n - 1 < n from by omega) (x1 + 1) (x2 + (-1)) _ J K (show -1 ≤ (x2 + (-1)).toInt from by omega) (show (x2 + (-1)).toInt < (ps_i s 1131 29).toInt from by omega) (show 0 ≤ (x1 + 1).toInt from by omega) (show (x1 + 1).toInt + (x2 + (-1)).toInt + 1 ≤ (ps_i s 1131 29).toInt from by omega) (show (ps_i s0 1131 5).toInt = (ps_i s 1131 5).toInt from by omega) (show (ps_i s0 1131 29).toInt = (ps_i s 1131 29).toInt from by omega) (show (x2 + (-1)).toInt + 1 ≤ ((n - 1 : Nat) : Int) from by omega)
      · have f25 : (lg_cmp (ps_b s 1148 (Int32.toNatClampNeg x2)) (ps_j s 1131 11)).toInt = (0 : Int) := xeq h21
        have a26 : ((40 : Int32) + x1).toInt = (40 : Int) + x1.toInt := xIa (show -2147483648 ≤ (40 : Int) + x1.toInt from by omega) (show (40 : Int) + x1.toInt < 2147483648 from by omega)
        exact k ((40 : Int32) + x1) _ J K (show (((40 : Int32) + x1).toInt = 0 ∧ 1 ≤ (ps_i s 1131 5).toInt) ∨ (40 ≤ ((40 : Int32) + x1).toInt ∧ ((40 : Int32) + x1).toInt < 60) ∨ (60 ≤ ((40 : Int32) + x1).toInt ∧ ((40 : Int32) + x1).toInt ≤ 71 ∧ (ps_i s 1131 32).toInt = 0) from by omega) (show 1 ≤ (ps_i s0 1131 5).toInt → 1 ≤ (ps_i s 1131 5).toInt from by omega)
    · have f27 : (ps_a s 1147 (Int32.toNatClampNeg x2)).toInt = (0 : Int) := xeq h19
      have a28 : (x2 + (-1)).toInt = x2.toInt + (-1 : Int) := xIa (show -2147483648 ≤ x2.toInt + (-1 : Int) from by omega) (show x2.toInt + (-1 : Int) < 2147483648 from by omega)
      exact ih (n - 1) (show n - 1 < n from by omega) x1 (x2 + (-1)) _ J K (show -1 ≤ (x2 + (-1)).toInt from by omega) (show (x2 + (-1)).toInt < (ps_i s 1131 29).toInt from by omega) (show 0 ≤ x1.toInt from by omega) (show x1.toInt + (x2 + (-1)).toInt + 1 ≤ (ps_i s 1131 29).toInt from by omega) (show (ps_i s0 1131 5).toInt = (ps_i s 1131 5).toInt from by omega) (show (ps_i s0 1131 29).toInt = (ps_i s 1131 29).toInt from by omega) (show (x2 + (-1)).toInt + 1 ≤ ((n - 1 : Nat) : Int) from by omega)

theorem ms_216 {x : Nat → Nat → Nat} {t : Int32} {s : ps_S} {d : Nat} {f : Int32 → ps_S → Prop} (J : mJ x t s) (k : ∀ (v : Int32) (s' : ps_S), mJ x t s' → kp [1143] [5, 6, 23] s s' → ((v.toInt = 0 ∧ 1 ≤ (ps_i s' 1131 5).toInt) ∨ (40 ≤ v.toInt ∧ v.toInt < 60) ∨ (60 ≤ v.toInt ∧ v.toInt ≤ 71 ∧ (ps_i s' 1131 32).toInt = 0)) → (1 ≤ (ps_i s 1131 5).toInt → 1 ≤ (ps_i s' 1131 5).toInt) → f v s') : ps_Cl (d + 3) 216 [.ref 1131] s (ps_rI f) := by
  have K : kp [1143] [5, 6, 23] s s := kp_refl
  refine pg_216_0 (d := d + 2) ?_
  have r1 := mf_29 J
  have a2 : ((ps_i s 1131 29) - 1).toInt = (ps_i s 1131 29).toInt - (1 : Int) := xIs (show -2147483648 ≤ (ps_i s 1131 29).toInt - (1 : Int) from by omega) (show (ps_i s 1131 29).toInt - (1 : Int) < 2147483648 from by omega)
  have r3 := mf_5 J
  exact ms_216_9  k  (((ps_i s 1131 29) - 1).toInt + 1).toNat (0) ((ps_i s 1131 29) - 1) _ J K (show -1 ≤ ((ps_i s 1131 29) - 1).toInt from by omega) (show ((ps_i s 1131 29) - 1).toInt < (ps_i s 1131 29).toInt from by omega) (show 0 ≤ (0 : Int) from by omega) (show (0 : Int) + ((ps_i s 1131 29) - 1).toInt + 1 ≤ (ps_i s 1131 29).toInt from by omega) (show (ps_i s 1131 5).toInt = (ps_i s 1131 5).toInt from by omega) (show (ps_i s 1131 29).toInt = (ps_i s 1131 29).toInt from by omega) (show ((ps_i s 1131 29) - 1).toInt + 1 ≤ (((((ps_i s 1131 29) - 1).toInt + 1).toNat : Nat) : Int) from by omega)
end
section
set_option maxRecDepth 100000
-- ProofBenchModel.manyOf(I)I
theorem pg_219_0 {d : Nat} {x1 : Int32} {s : ps_S} {Q : Option Value → ps_S → Prop} (h :
  ps_nd (pm_in x1 27400) (Q (some (.int (ps_a s 1134 (Int32.toNatClampNeg x1)))) s)) : ps_At d 219 0 [(0, .ref 1131), (1, .int x1)] [] s Q :=
  ps_wp_at (stops := []) (n := 7) h rfl

-- ProofBenchModel.pieceAt(II)I
theorem pg_220_0 {d : Nat} {x1 : Int32} {x2 : Int32} {s : ps_S} {Q : Option Value → ps_S → Prop} (h :
  ps_nd (pm_in ((x1 + 1) + x2) 27400) (Q (some (.int (ps_a s 1134 (Int32.toNatClampNeg ((x1 + 1) + x2))))) s)) : ps_At d 220 0 [(0, .ref 1131), (1, .int x1), (2, .int x2)] [] s Q :=
  ps_wp_at (stops := []) (n := 11) h rfl

-- ProofBenchModel.areAlike(II)Z
theorem pg_222_0 {d : Nat} {x1 : Int32} {x2 : Int32} {s : ps_S} {Q : Option Value → ps_S → Prop} (h :
  ps_Cl d 219 [.ref 1131, .int x1] s (ps_rI (fun v1 s1 =>
    ps_Cl d 219 [.ref 1131, .int x2] s1 (ps_rI (fun v2 s2 =>
      (v1 = v2 →
        ps_At (d + 1) 222 17 [(0, .ref 1131), (1, .int x1), (2, .int x2), (3, .int 0)] [] s2 Q) ∧
      (v1 ≠ v2 →
        Q (some (.int 0)) s2)))))) : ps_At (d + 1) 222 0 [(0, .ref 1131), (1, .int x1), (2, .int x2)] [] s Q :=
  ps_wp_at (stops := [(17, [0, 1, 2, 3])]) (n := 13) h rfl

theorem pg_222_17 {d : Nat} {x1 : Int32} {x2 : Int32} {x3 : Int32} {s : ps_S} {Q : Option Value → ps_S → Prop} (h :
  ps_Cl d 219 [.ref 1131, .int x1] s (ps_rI (fun v1 s1 =>
    (v1 ≤ x3 →
      Q (some (.int 1)) s1) ∧
    (x3 < v1 →
      ps_Cl d 220 [.ref 1131, .int x1, .int x3] s1 (ps_rI (fun v2 s2 =>
        ps_Cl d 220 [.ref 1131, .int x2, .int x3] s2 (ps_rI (fun v3 s3 =>
          (v2 = v3 →
            ps_At (d + 1) 222 17 [(0, .ref 1131), (1, .int x1), (2, .int x2), (3, .int (x3 + 1))] [] s3 Q) ∧
          (v2 ≠ v3 →
            Q (some (.int 0)) s3))))))))) : ps_At (d + 1) 222 17 [(0, .ref 1131), (1, .int x1), (2, .int x2), (3, .int x3)] [] s Q :=
  ps_wp_at (stops := [(17, [0, 1, 2, 3])]) (n := 22) h rfl

theorem ms_222_17 {x : Nat → Nat → Nat} {t : Int32} {d : Nat} {s : ps_S} {x1 : Int32} {x2 : Int32} {Q : Option Value → ps_S → Prop} (k : ∀ (v : Int32), v &&& 1 = v → Q (some (.int v)) s) : ∀ (n : Nat) (x3 : Int32), (mJ x t s) → (x1.toInt % 41 = 0) → (0 ≤ x1.toInt) → (x1.toInt < 27306) → (x2.toInt % 41 = 0) → (0 ≤ x2.toInt) → (x2.toInt < 27306) → (0 ≤ x3.toInt) → (x3.toInt ≤ 40) → ((ps_a s 1134 (Int32.toNatClampNeg x1)).toInt = (ps_a s 1134 (Int32.toNatClampNeg x2)).toInt) → 50 - x3.toInt ≤ (n : Int) → ps_At (d + 1) 222 17 [(0, .ref 1131), (1, .int x1), (2, .int x2), (3, .int x3)] [] s Q := by
  refine xstr (fun n ih => ?_)
  intro x3 J i0 i1 i2 i3 i4 i5 i6 i7 i8 hm
  have r1 : x1.toInt % 41 = 0 → x1.toInt < 27306 → 0 ≤ (ps_a s 1134 (Int32.toNatClampNeg x1)).toInt ∧ (ps_a s 1134 (Int32.toNatClampNeg x1)).toInt ≤ 40 := fun z1 z2 => mp_row (i := x1) J z1 (show 0 ≤ x1.toInt from by omega) z2
  have r2 : x2.toInt % 41 = 0 → x2.toInt < 27306 → 0 ≤ (ps_a s 1134 (Int32.toNatClampNeg x2)).toInt ∧ (ps_a s 1134 (Int32.toNatClampNeg x2)).toInt ≤ 40 := fun z1 z2 => mp_row (i := x2) J z1 (show 0 ≤ x2.toInt from by omega) z2
  refine pg_222_17 (d := d) ?_
  refine pg_219_0 ?_
  refine ps_nd_i (show pm_in x1 27400 = true from xgi (show 0 ≤ x1.toInt from by omega) (show x1.toInt < 27400 from by omega)) ?_
  refine And.intro (fun h3 => ?_) (fun h3 => ?_)
  · have f4 : (ps_a s 1134 (Int32.toNatClampNeg x1)).toInt ≤ x3.toInt := xle h3
    exact k (1 : Int32) (by decide)
  · have f5 : x3.toInt < (ps_a s 1134 (Int32.toNatClampNeg x1)).toInt := xlt h3
    refine pg_220_0 ?_
    have a6 : (x1 + 1).toInt = x1.toInt + (1 : Int) := xIa (show -2147483648 ≤ x1.toInt + (1 : Int) from by omega) (show x1.toInt + (1 : Int) < 2147483648 from by omega)
    have a7 : ((x1 + 1) + x3).toInt = (x1 + 1).toInt + x3.toInt := xIa (show -2147483648 ≤ (x1 + 1).toInt + x3.toInt from by omega) (show (x1 + 1).toInt + x3.toInt < 2147483648 from by omega)
    refine ps_nd_i (show pm_in ((x1 + 1) + x3) 27400 = true from xgi (show 0 ≤ ((x1 + 1) + x3).toInt from by omega) (show ((x1 + 1) + x3).toInt < 27400 from by omega)) ?_
    have r8 : ((x1 + 1) + x3).toInt % 41 = 0 → ((x1 + 1) + x3).toInt < 27306 → 0 ≤ (ps_a s 1134 (Int32.toNatClampNeg ((x1 + 1) + x3))).toInt ∧ (ps_a s 1134 (Int32.toNatClampNeg ((x1 + 1) + x3))).toInt ≤ 40 := fun z1 z2 => mp_row (i := ((x1 + 1) + x3)) J z1 (show 0 ≤ ((x1 + 1) + x3).toInt from by omega) z2
    refine pg_220_0 ?_
    have a9 : (x2 + 1).toInt = x2.toInt + (1 : Int) := xIa (show -2147483648 ≤ x2.toInt + (1 : Int) from by omega) (show x2.toInt + (1 : Int) < 2147483648 from by omega)
    have a10 : ((x2 + 1) + x3).toInt = (x2 + 1).toInt + x3.toInt := xIa (show -2147483648 ≤ (x2 + 1).toInt + x3.toInt from by omega) (show (x2 + 1).toInt + x3.toInt < 2147483648 from by omega)
    refine ps_nd_i (show pm_in ((x2 + 1) + x3) 27400 = true from xgi (show 0 ≤ ((x2 + 1) + x3).toInt from by omega) (show ((x2 + 1) + x3).toInt < 27400 from by omega)) ?_
    have r11 : ((x2 + 1) + x3).toInt % 41 = 0 → ((x2 + 1) + x3).toInt < 27306 → 0 ≤ (ps_a s 1134 (Int32.toNatClampNeg ((x2 + 1) + x3))).toInt ∧ (ps_a s 1134 (Int32.toNatClampNeg ((x2 + 1) + x3))).toInt ≤ 40 := fun z1 z2 => mp_row (i := ((x2 + 1) + x3)) J z1 (show 0 ≤ ((x2 + 1) + x3).toInt from by omega) z2
    refine And.intro (fun h12 => ?_) (fun h12 => ?_)
    · have f13 : (ps_a s 1134 (Int32.toNatClampNeg ((x1 + 1) + x3))).toInt = (ps_a s 1134 (Int32.toNatClampNeg ((x2 + 1) + x3))).toInt := xeq h12
      have a14 : (x3 + 1).toInt = x3.toInt + (1 : Int) := xIa (show -2147483648 ≤ x3.toInt + (1 : Int) from by omega) (show x3.toInt + (1 : Int) < 2147483648 from by omega)
      exact ih (n - 1) (show n - 1 < n from by omega) (x3 + 1) J (show x1.toInt % 41 = 0 from by omega) (show 0 ≤ x1.toInt from by omega) (show x1.toInt < 27306 from by omega) (show x2.toInt % 41 = 0 from by omega) (show 0 ≤ x2.toInt from by omega) (show x2.toInt < 27306 from by omega) (show 0 ≤ (x3 + 1).toInt from by omega) (show (x3 + 1).toInt ≤ 40 from by omega) (show (ps_a s 1134 (Int32.toNatClampNeg x1)).toInt = (ps_a s 1134 (Int32.toNatClampNeg x2)).toInt from by omega) (show 50 - (x3 + 1).toInt ≤ ((n - 1 : Nat) : Int) from by omega)
    · have f15 : (ps_a s 1134 (Int32.toNatClampNeg ((x1 + 1) + x3))).toInt ≠ (ps_a s 1134 (Int32.toNatClampNeg ((x2 + 1) + x3))).toInt := xne h12
      exact k (0 : Int32) (by decide)

theorem ms_222 {x : Nat → Nat → Nat} {t : Int32} {s : ps_S} {d : Nat} {x1 : Int32} {x2 : Int32} {f : Int32 → ps_S → Prop} (J : mJ x t s) (q0 : x1.toInt % 41 = 0) (q1 : 0 ≤ x1.toInt) (q2 : x1.toInt < 27306) (q3 : x2.toInt % 41 = 0) (q4 : 0 ≤ x2.toInt) (q5 : x2.toInt < 27306) (k : ∀ (v : Int32), v &&& 1 = v → f v s) : ps_Cl (d + 1) 222 [.ref 1131, .int x1, .int x2] s (ps_rI f) := by
  refine pg_222_0 (d := d) ?_
  refine pg_219_0 ?_
  refine ps_nd_i (show pm_in x1 27400 = true from xgi (show 0 ≤ x1.toInt from by omega) (show x1.toInt < 27400 from by omega)) ?_
  have r1 : x1.toInt % 41 = 0 → x1.toInt < 27306 → 0 ≤ (ps_a s 1134 (Int32.toNatClampNeg x1)).toInt ∧ (ps_a s 1134 (Int32.toNatClampNeg x1)).toInt ≤ 40 := fun z1 z2 => mp_row (i := x1) J z1 (show 0 ≤ x1.toInt from by omega) z2
  refine pg_219_0 ?_
  refine ps_nd_i (show pm_in x2 27400 = true from xgi (show 0 ≤ x2.toInt from by omega) (show x2.toInt < 27400 from by omega)) ?_
  have r2 : x2.toInt % 41 = 0 → x2.toInt < 27306 → 0 ≤ (ps_a s 1134 (Int32.toNatClampNeg x2)).toInt ∧ (ps_a s 1134 (Int32.toNatClampNeg x2)).toInt ≤ 40 := fun z1 z2 => mp_row (i := x2) J z1 (show 0 ≤ x2.toInt from by omega) z2
  refine And.intro (fun h3 => ?_) (fun h3 => ?_)
  · have f4 : (ps_a s 1134 (Int32.toNatClampNeg x1)).toInt = (ps_a s 1134 (Int32.toNatClampNeg x2)).toInt := xeq h3
    exact ms_222_17 (x1 := x1) (x2 := x2) k  (50 - (0 : Int)).toNat (0) J (show x1.toInt % 41 = 0 from by omega) (show 0 ≤ x1.toInt from by omega) (show x1.toInt < 27306 from by omega) (show x2.toInt % 41 = 0 from by omega) (show 0 ≤ x2.toInt from by omega) (show x2.toInt < 27306 from by omega) (show 0 ≤ (0 : Int) from by omega) (show (0 : Int) ≤ 40 from by omega) (show (ps_a s 1134 (Int32.toNatClampNeg x1)).toInt = (ps_a s 1134 (Int32.toNatClampNeg x2)).toInt from by omega) (show 50 - (0 : Int) ≤ (((50 - (0 : Int)).toNat : Nat) : Int) from by omega)
  · have f5 : (ps_a s 1134 (Int32.toNatClampNeg x1)).toInt ≠ (ps_a s 1134 (Int32.toNatClampNeg x2)).toInt := xne h3
    exact k (0 : Int32) (by decide)

-- ProofBenchModel.make(I)V
theorem pg_225_0 {d : Nat} {x1 : Int32} {s : ps_S} {Q : Option Value → ps_S → Prop} (h :
  (260 ≤ (ps_i s 1131 34) →
    Q none (ps_ui s 1131 34 ((ps_i s 1131 34) + 1))) ∧
  ((ps_i s 1131 34) < 260 →
    ps_nd (pm_in (ps_i s 1131 34) 260) (Q none (ps_ui (ps_ua s 1149 (Int32.toNatClampNeg (ps_i s 1131 34)) x1) 1131 34 ((ps_i (ps_ua s 1149 (Int32.toNatClampNeg (ps_i s 1131 34)) x1) 1131 34) + 1))))) : ps_At d 225 0 [(0, .ref 1131), (1, .int x1)] [] s Q :=
  ps_wp_at (stops := []) (n := 26) h rfl

-- ProofBenchModel.stepHere()I
theorem pg_233_0 {d : Nat} {s : ps_S} {Q : Option Value → ps_S → Prop} (h :
  ((ps_i s 1131 9) = 3 →
    ((lg_cmp (ps_j s 1131 11) (107148486208869 : Int64)) ≠ 0 →
      ((lg_cmp (ps_j s 1131 11) (418632003437 : Int64)) ≠ 0 →
        ((lg_cmp (ps_j s 1131 11) (32765882169189741 : Int64)) ≠ 0 →
          ((lg_cmp (ps_j s 1131 11) (1651471464 : Int64)) ≠ 0 →
            ((lg_cmp (ps_j s 1131 11) (1818584692 : Int64)) ≠ 0 →
              ((lg_cmp (ps_j s 1131 11) (491394656372 : Int64)) ≠ 0 →
                ((lg_cmp (ps_j s 1131 11) (122537235539572 : Int64)) ≠ 0 →
                  ((lg_cmp (ps_j s 1131 11) (31369558135105652 : Int64)) ≠ 0 →
                    ((lg_cmp (ps_j s 1131 11) (1667330917 : Int64)) ≠ 0 →
                      ((lg_cmp (ps_j s 1131 11) (418498243705 : Int64)) ≠ 0 →
                        ((lg_cmp (ps_j s 1131 11) (110386639889253 : Int64)) ≠ 0 →
                          ((lg_cmp (ps_j s 1131 11) (29103447424000364 : Int64)) ≠ 0 →
                            ((lg_cmp (ps_j s 1131 11) (32493203083583852 : Int64)) ≠ 0 →
                              ((lg_cmp (ps_j s 1131 11) (435811873652 : Int64)) ≠ 0 →
                                ((lg_cmp (ps_j s 1131 11) (1869636974 : Int64)) ≠ 0 →
                                  ((lg_cmp (ps_j s 1131 11) (1935764837 : Int64)) ≠ 0 →
                                    ((lg_cmp (ps_j s 1131 11) (32199680874079077 : Int64)) ≠ 0 →
                                      ((lg_cmp (ps_j s 1131 11) (107075471766116 : Int64)) ≠ 0 →
                                        ((lg_cmp (ps_j s 1131 11) (27985188498925923 : Int64)) ≠ 0 →
                                          Q (some (.int (-1))) s) ∧
                                        ((lg_cmp (ps_j s 1131 11) (27985188498925923 : Int64)) = 0 →
                                          Q (some (.int 18)) s)) ∧
                                      ((lg_cmp (ps_j s 1131 11) (107075471766116 : Int64)) = 0 →
                                        Q (some (.int 17)) s)) ∧
                                    ((lg_cmp (ps_j s 1131 11) (32199680874079077 : Int64)) = 0 →
                                      Q (some (.int 16)) s)) ∧
                                  ((lg_cmp (ps_j s 1131 11) (1935764837 : Int64)) = 0 →
                                    Q (some (.int 15)) s)) ∧
                                ((lg_cmp (ps_j s 1131 11) (1869636974 : Int64)) = 0 →
                                  Q (some (.int 14)) s)) ∧
                              ((lg_cmp (ps_j s 1131 11) (435811873652 : Int64)) = 0 →
                                Q (some (.int 13)) s)) ∧
                            ((lg_cmp (ps_j s 1131 11) (32493203083583852 : Int64)) = 0 →
                              Q (some (.int 12)) s)) ∧
                          ((lg_cmp (ps_j s 1131 11) (29103447424000364 : Int64)) = 0 →
                            Q (some (.int 11)) s)) ∧
                        ((lg_cmp (ps_j s 1131 11) (110386639889253 : Int64)) = 0 →
                          Q (some (.int 10)) s)) ∧
                      ((lg_cmp (ps_j s 1131 11) (418498243705 : Int64)) = 0 →
                        Q (some (.int 9)) s)) ∧
                    ((lg_cmp (ps_j s 1131 11) (1667330917 : Int64)) = 0 →
                      Q (some (.int 8)) s)) ∧
                  ((lg_cmp (ps_j s 1131 11) (31369558135105652 : Int64)) = 0 →
                    Q (some (.int 7)) s)) ∧
                ((lg_cmp (ps_j s 1131 11) (122537235539572 : Int64)) = 0 →
                  Q (some (.int 6)) s)) ∧
              ((lg_cmp (ps_j s 1131 11) (491394656372 : Int64)) = 0 →
                Q (some (.int 5)) s)) ∧
            ((lg_cmp (ps_j s 1131 11) (1818584692 : Int64)) = 0 →
              Q (some (.int 4)) s)) ∧
          ((lg_cmp (ps_j s 1131 11) (1651471464 : Int64)) = 0 →
            Q (some (.int 3)) s)) ∧
        ((lg_cmp (ps_j s 1131 11) (32765882169189741 : Int64)) = 0 →
          Q (some (.int 2)) s)) ∧
      ((lg_cmp (ps_j s 1131 11) (418632003437 : Int64)) = 0 →
        Q (some (.int 1)) s)) ∧
    ((lg_cmp (ps_j s 1131 11) (107148486208869 : Int64)) = 0 →
      Q (some (.int 0)) s)) ∧
  ((ps_i s 1131 9) ≠ 3 →
    Q (some (.int (-1))) s)) : ps_At d 233 0 [(0, .ref 1131)] [] s Q :=
  ps_wp_at (stops := []) (n := 144) h rfl

theorem ms_233 {x : Nat → Nat → Nat} {t : Int32} {s : ps_S} {d : Nat} {f : Int32 → ps_S → Prop} (J : mJ x t s) (k : ∀ (v : Int32), (-1 ≤ v.toInt) → (v.toInt ≤ 18) → (v.toInt = -1 ∨ (ps_i s 1131 9).toInt = 3) → f v s) : ps_Cl d 233 [.ref 1131] s (ps_rI f) := by
  refine pg_233_0 ?_
  have r1 := mf_9 J
  refine And.intro (fun h2 => ?_) (fun h2 => ?_)
  · have f3 : (ps_i s 1131 9).toInt = (3 : Int) := xeq h2
    refine And.intro (fun h4 => ?_) (fun h4 => ?_)
    · have f5 : (lg_cmp (ps_j s 1131 11) (107148486208869 : Int64)).toInt ≠ (0 : Int) := xne h4
      refine And.intro (fun h6 => ?_) (fun h6 => ?_)
      · have f7 : (lg_cmp (ps_j s 1131 11) (418632003437 : Int64)).toInt ≠ (0 : Int) := xne h6
        refine And.intro (fun h8 => ?_) (fun h8 => ?_)
        · have f9 : (lg_cmp (ps_j s 1131 11) (32765882169189741 : Int64)).toInt ≠ (0 : Int) := xne h8
          refine And.intro (fun h10 => ?_) (fun h10 => ?_)
          · have f11 : (lg_cmp (ps_j s 1131 11) (1651471464 : Int64)).toInt ≠ (0 : Int) := xne h10
            refine And.intro (fun h12 => ?_) (fun h12 => ?_)
            · have f13 : (lg_cmp (ps_j s 1131 11) (1818584692 : Int64)).toInt ≠ (0 : Int) := xne h12
              refine And.intro (fun h14 => ?_) (fun h14 => ?_)
              · have f15 : (lg_cmp (ps_j s 1131 11) (491394656372 : Int64)).toInt ≠ (0 : Int) := xne h14
                refine And.intro (fun h16 => ?_) (fun h16 => ?_)
                · have f17 : (lg_cmp (ps_j s 1131 11) (122537235539572 : Int64)).toInt ≠ (0 : Int) := xne h16
                  refine And.intro (fun h18 => ?_) (fun h18 => ?_)
                  · have f19 : (lg_cmp (ps_j s 1131 11) (31369558135105652 : Int64)).toInt ≠ (0 : Int) := xne h18
                    refine And.intro (fun h20 => ?_) (fun h20 => ?_)
                    · have f21 : (lg_cmp (ps_j s 1131 11) (1667330917 : Int64)).toInt ≠ (0 : Int) := xne h20
                      refine And.intro (fun h22 => ?_) (fun h22 => ?_)
                      · have f23 : (lg_cmp (ps_j s 1131 11) (418498243705 : Int64)).toInt ≠ (0 : Int) := xne h22
                        refine And.intro (fun h24 => ?_) (fun h24 => ?_)
                        · have f25 : (lg_cmp (ps_j s 1131 11) (110386639889253 : Int64)).toInt ≠ (0 : Int) := xne h24
                          refine And.intro (fun h26 => ?_) (fun h26 => ?_)
                          · have f27 : (lg_cmp (ps_j s 1131 11) (29103447424000364 : Int64)).toInt ≠ (0 : Int) := xne h26
                            refine And.intro (fun h28 => ?_) (fun h28 => ?_)
                            · have f29 : (lg_cmp (ps_j s 1131 11) (32493203083583852 : Int64)).toInt ≠ (0 : Int) := xne h28
                              refine And.intro (fun h30 => ?_) (fun h30 => ?_)
                              · have f31 : (lg_cmp (ps_j s 1131 11) (435811873652 : Int64)).toInt ≠ (0 : Int) := xne h30
                                refine And.intro (fun h32 => ?_) (fun h32 => ?_)
                                · have f33 : (lg_cmp (ps_j s 1131 11) (1869636974 : Int64)).toInt ≠ (0 : Int) := xne h32
                                  refine And.intro (fun h34 => ?_) (fun h34 => ?_)
                                  · have f35 : (lg_cmp (ps_j s 1131 11) (1935764837 : Int64)).toInt ≠ (0 : Int) := xne h34
                                    refine And.intro (fun h36 => ?_) (fun h36 => ?_)
                                    · have f37 : (lg_cmp (ps_j s 1131 11) (32199680874079077 : Int64)).toInt ≠ (0 : Int) := xne h36
                                      refine And.intro (fun h38 => ?_) (fun h38 => ?_)
                                      · have f39 : (lg_cmp (ps_j s 1131 11) (107075471766116 : Int64)).toInt ≠ (0 : Int) := xne h38
                                        refine And.intro (fun h40 => ?_) (fun h40 => ?_)
                                        · have f41 : (lg_cmp (ps_j s 1131 11) (27985188498925923 : Int64)).toInt ≠ (0 : Int) := xne h40
                                          exact k (-1 : Int32) (show -1 ≤ (-1 : Int) from by omega) (show (-1 : Int) ≤ 18 from by omega) (show (-1 : Int) = -1 ∨ (ps_i s 1131 9).toInt = 3 from by omega)
                                        · have f42 : (lg_cmp (ps_j s 1131 11) (27985188498925923 : Int64)).toInt = (0 : Int) := xeq h40
                                          exact k (18 : Int32) (show -1 ≤ (18 : Int) from by omega) (show (18 : Int) ≤ 18 from by omega) (show (18 : Int) = -1 ∨ (ps_i s 1131 9).toInt = 3 from by omega)
                                      · have f43 : (lg_cmp (ps_j s 1131 11) (107075471766116 : Int64)).toInt = (0 : Int) := xeq h38
                                        exact k (17 : Int32) (show -1 ≤ (17 : Int) from by omega) (show (17 : Int) ≤ 18 from by omega) (show (17 : Int) = -1 ∨ (ps_i s 1131 9).toInt = 3 from by omega)
                                    · have f44 : (lg_cmp (ps_j s 1131 11) (32199680874079077 : Int64)).toInt = (0 : Int) := xeq h36
                                      exact k (16 : Int32) (show -1 ≤ (16 : Int) from by omega) (show (16 : Int) ≤ 18 from by omega) (show (16 : Int) = -1 ∨ (ps_i s 1131 9).toInt = 3 from by omega)
                                  · have f45 : (lg_cmp (ps_j s 1131 11) (1935764837 : Int64)).toInt = (0 : Int) := xeq h34
                                    exact k (15 : Int32) (show -1 ≤ (15 : Int) from by omega) (show (15 : Int) ≤ 18 from by omega) (show (15 : Int) = -1 ∨ (ps_i s 1131 9).toInt = 3 from by omega)
                                · have f46 : (lg_cmp (ps_j s 1131 11) (1869636974 : Int64)).toInt = (0 : Int) := xeq h32
                                  exact k (14 : Int32) (show -1 ≤ (14 : Int) from by omega) (show (14 : Int) ≤ 18 from by omega) (show (14 : Int) = -1 ∨ (ps_i s 1131 9).toInt = 3 from by omega)
                              · have f47 : (lg_cmp (ps_j s 1131 11) (435811873652 : Int64)).toInt = (0 : Int) := xeq h30
                                exact k (13 : Int32) (show -1 ≤ (13 : Int) from by omega) (show (13 : Int) ≤ 18 from by omega) (show (13 : Int) = -1 ∨ (ps_i s 1131 9).toInt = 3 from by omega)
                            · have f48 : (lg_cmp (ps_j s 1131 11) (32493203083583852 : Int64)).toInt = (0 : Int) := xeq h28
                              exact k (12 : Int32) (show -1 ≤ (12 : Int) from by omega) (show (12 : Int) ≤ 18 from by omega) (show (12 : Int) = -1 ∨ (ps_i s 1131 9).toInt = 3 from by omega)
                          · have f49 : (lg_cmp (ps_j s 1131 11) (29103447424000364 : Int64)).toInt = (0 : Int) := xeq h26
                            exact k (11 : Int32) (show -1 ≤ (11 : Int) from by omega) (show (11 : Int) ≤ 18 from by omega) (show (11 : Int) = -1 ∨ (ps_i s 1131 9).toInt = 3 from by omega)
                        · have f50 : (lg_cmp (ps_j s 1131 11) (110386639889253 : Int64)).toInt = (0 : Int) := xeq h24
                          exact k (10 : Int32) (show -1 ≤ (10 : Int) from by omega) (show (10 : Int) ≤ 18 from by omega) (show (10 : Int) = -1 ∨ (ps_i s 1131 9).toInt = 3 from by omega)
                      · have f51 : (lg_cmp (ps_j s 1131 11) (418498243705 : Int64)).toInt = (0 : Int) := xeq h22
                        exact k (9 : Int32) (show -1 ≤ (9 : Int) from by omega) (show (9 : Int) ≤ 18 from by omega) (show (9 : Int) = -1 ∨ (ps_i s 1131 9).toInt = 3 from by omega)
                    · have f52 : (lg_cmp (ps_j s 1131 11) (1667330917 : Int64)).toInt = (0 : Int) := xeq h20
                      exact k (8 : Int32) (show -1 ≤ (8 : Int) from by omega) (show (8 : Int) ≤ 18 from by omega) (show (8 : Int) = -1 ∨ (ps_i s 1131 9).toInt = 3 from by omega)
                  · have f53 : (lg_cmp (ps_j s 1131 11) (31369558135105652 : Int64)).toInt = (0 : Int) := xeq h18
                    exact k (7 : Int32) (show -1 ≤ (7 : Int) from by omega) (show (7 : Int) ≤ 18 from by omega) (show (7 : Int) = -1 ∨ (ps_i s 1131 9).toInt = 3 from by omega)
                · have f54 : (lg_cmp (ps_j s 1131 11) (122537235539572 : Int64)).toInt = (0 : Int) := xeq h16
                  exact k (6 : Int32) (show -1 ≤ (6 : Int) from by omega) (show (6 : Int) ≤ 18 from by omega) (show (6 : Int) = -1 ∨ (ps_i s 1131 9).toInt = 3 from by omega)
              · have f55 : (lg_cmp (ps_j s 1131 11) (491394656372 : Int64)).toInt = (0 : Int) := xeq h14
                exact k (5 : Int32) (show -1 ≤ (5 : Int) from by omega) (show (5 : Int) ≤ 18 from by omega) (show (5 : Int) = -1 ∨ (ps_i s 1131 9).toInt = 3 from by omega)
            · have f56 : (lg_cmp (ps_j s 1131 11) (1818584692 : Int64)).toInt = (0 : Int) := xeq h12
              exact k (4 : Int32) (show -1 ≤ (4 : Int) from by omega) (show (4 : Int) ≤ 18 from by omega) (show (4 : Int) = -1 ∨ (ps_i s 1131 9).toInt = 3 from by omega)
          · have f57 : (lg_cmp (ps_j s 1131 11) (1651471464 : Int64)).toInt = (0 : Int) := xeq h10
            exact k (3 : Int32) (show -1 ≤ (3 : Int) from by omega) (show (3 : Int) ≤ 18 from by omega) (show (3 : Int) = -1 ∨ (ps_i s 1131 9).toInt = 3 from by omega)
        · have f58 : (lg_cmp (ps_j s 1131 11) (32765882169189741 : Int64)).toInt = (0 : Int) := xeq h8
          exact k (2 : Int32) (show -1 ≤ (2 : Int) from by omega) (show (2 : Int) ≤ 18 from by omega) (show (2 : Int) = -1 ∨ (ps_i s 1131 9).toInt = 3 from by omega)
      · have f59 : (lg_cmp (ps_j s 1131 11) (418632003437 : Int64)).toInt = (0 : Int) := xeq h6
        exact k (1 : Int32) (show -1 ≤ (1 : Int) from by omega) (show (1 : Int) ≤ 18 from by omega) (show (1 : Int) = -1 ∨ (ps_i s 1131 9).toInt = 3 from by omega)
    · have f60 : (lg_cmp (ps_j s 1131 11) (107148486208869 : Int64)).toInt = (0 : Int) := xeq h4
      exact k (0 : Int32) (show -1 ≤ (0 : Int) from by omega) (show (0 : Int) ≤ 18 from by omega) (show (0 : Int) = -1 ∨ (ps_i s 1131 9).toInt = 3 from by omega)
  · have f61 : (ps_i s 1131 9).toInt ≠ (3 : Int) := xne h2
    exact k (-1 : Int32) (show -1 ≤ (-1 : Int) from by omega) (show (-1 : Int) ≤ 18 from by omega) (show (-1 : Int) = -1 ∨ (ps_i s 1131 9).toInt = 3 from by omega)

-- ProofBenchModel.premises(I)I
theorem pg_234_0 {d : Nat} {x0 : Int32} {s : ps_S} {Q : Option Value → ps_S → Prop} (h :
  (x0 = 0 →
    Q (some (.int 0)) s) ∧
  (x0 ≠ 0 →
    (x0 = 1 →
    Q (some (.int 0)) s) ∧
  (x0 ≠ 1 →
    (x0 = 2 →
    Q (some (.int 1)) s) ∧
  (x0 ≠ 2 →
    (x0 = 3 →
    Q (some (.int 2)) s) ∧
  (x0 ≠ 3 →
    (x0 = 4 →
    Q (some (.int 1)) s) ∧
  (x0 ≠ 4 →
    (x0 = 5 →
    Q (some (.int 1)) s) ∧
  (x0 ≠ 5 →
    (x0 = 6 →
    Q (some (.int 1)) s) ∧
  (x0 ≠ 6 →
    (x0 = 7 →
    Q (some (.int 1)) s) ∧
  (x0 ≠ 7 →
    (x0 = 8 →
    Q (some (.int 3)) s) ∧
  (x0 ≠ 8 →
    (x0 = 9 →
    Q (some (.int 2)) s) ∧
  (x0 ≠ 9 →
    (x0 = 10 →
    Q (some (.int 1)) s) ∧
  (x0 ≠ 10 →
    (x0 = 11 →
    Q (some (.int 1)) s) ∧
  (x0 ≠ 11 →
    (x0 = 12 →
    Q (some (.int 1)) s) ∧
  (x0 ≠ 12 →
    (x0 = 13 →
    Q (some (.int 1)) s) ∧
  (x0 ≠ 13 →
    (x0 = 14 →
    Q (some (.int 2)) s) ∧
  (x0 ≠ 14 →
    (x0 = 15 →
    Q (some (.int 0)) s) ∧
  (x0 ≠ 15 →
    (x0 = 16 →
    Q (some (.int 2)) s) ∧
  (x0 ≠ 16 →
    Q (some (.int 1)) s)))))))))))))))))) : ps_At d 234 0 [(0, .int x0)] [] s Q :=
  ps_wp_at (stops := []) (n := 40) h rfl

theorem ms_234 {x : Nat → Nat → Nat} {t : Int32} {s : ps_S} {d : Nat} {x0 : Int32} {f : Int32 → ps_S → Prop} (J : mJ x t s) (k : ∀ (v : Int32), (((x0.toInt = 0 ∨ x0.toInt = 1 ∨ x0.toInt = 15) ∧ v.toInt = 0) ∨ ((x0.toInt = 3 ∨ x0.toInt = 9 ∨ x0.toInt = 14 ∨ x0.toInt = 16) ∧ v.toInt = 2) ∨ (x0.toInt = 8 ∧ v.toInt = 3) ∨ (v.toInt = 1 ∧ x0.toInt ≠ 0 ∧ x0.toInt ≠ 1 ∧ x0.toInt ≠ 15 ∧ x0.toInt ≠ 3 ∧ x0.toInt ≠ 9 ∧ x0.toInt ≠ 14 ∧ x0.toInt ≠ 16 ∧ x0.toInt ≠ 8)) → f v s) : ps_Cl d 234 [.int x0] s (ps_rI f) := by
  refine pg_234_0 ?_
  refine And.intro (fun h1 => ?_) (fun h1 => ?_)
  · have f2 : x0.toInt = (0 : Int) := xeq h1
    exact k (0 : Int32) (show ((x0.toInt = 0 ∨ x0.toInt = 1 ∨ x0.toInt = 15) ∧ (0 : Int) = 0) ∨ ((x0.toInt = 3 ∨ x0.toInt = 9 ∨ x0.toInt = 14 ∨ x0.toInt = 16) ∧ (0 : Int) = 2) ∨ (x0.toInt = 8 ∧ (0 : Int) = 3) ∨ ((0 : Int) = 1 ∧ x0.toInt ≠ 0 ∧ x0.toInt ≠ 1 ∧ x0.toInt ≠ 15 ∧ x0.toInt ≠ 3 ∧ x0.toInt ≠ 9 ∧ x0.toInt ≠ 14 ∧ x0.toInt ≠ 16 ∧ x0.toInt ≠ 8) from by omega)
  have f3 : x0.toInt ≠ (0 : Int) := xne h1
  refine And.intro (fun h4 => ?_) (fun h4 => ?_)
  · have f5 : x0.toInt = (1 : Int) := xeq h4
    exact k (0 : Int32) (show ((x0.toInt = 0 ∨ x0.toInt = 1 ∨ x0.toInt = 15) ∧ (0 : Int) = 0) ∨ ((x0.toInt = 3 ∨ x0.toInt = 9 ∨ x0.toInt = 14 ∨ x0.toInt = 16) ∧ (0 : Int) = 2) ∨ (x0.toInt = 8 ∧ (0 : Int) = 3) ∨ ((0 : Int) = 1 ∧ x0.toInt ≠ 0 ∧ x0.toInt ≠ 1 ∧ x0.toInt ≠ 15 ∧ x0.toInt ≠ 3 ∧ x0.toInt ≠ 9 ∧ x0.toInt ≠ 14 ∧ x0.toInt ≠ 16 ∧ x0.toInt ≠ 8) from by omega)
  have f6 : x0.toInt ≠ (1 : Int) := xne h4
  refine And.intro (fun h7 => ?_) (fun h7 => ?_)
  · have f8 : x0.toInt = (2 : Int) := xeq h7
    exact k (1 : Int32) (show ((x0.toInt = 0 ∨ x0.toInt = 1 ∨ x0.toInt = 15) ∧ (1 : Int) = 0) ∨ ((x0.toInt = 3 ∨ x0.toInt = 9 ∨ x0.toInt = 14 ∨ x0.toInt = 16) ∧ (1 : Int) = 2) ∨ (x0.toInt = 8 ∧ (1 : Int) = 3) ∨ ((1 : Int) = 1 ∧ x0.toInt ≠ 0 ∧ x0.toInt ≠ 1 ∧ x0.toInt ≠ 15 ∧ x0.toInt ≠ 3 ∧ x0.toInt ≠ 9 ∧ x0.toInt ≠ 14 ∧ x0.toInt ≠ 16 ∧ x0.toInt ≠ 8) from by omega)
  have f9 : x0.toInt ≠ (2 : Int) := xne h7
  refine And.intro (fun h10 => ?_) (fun h10 => ?_)
  · have f11 : x0.toInt = (3 : Int) := xeq h10
    exact k (2 : Int32) (show ((x0.toInt = 0 ∨ x0.toInt = 1 ∨ x0.toInt = 15) ∧ (2 : Int) = 0) ∨ ((x0.toInt = 3 ∨ x0.toInt = 9 ∨ x0.toInt = 14 ∨ x0.toInt = 16) ∧ (2 : Int) = 2) ∨ (x0.toInt = 8 ∧ (2 : Int) = 3) ∨ ((2 : Int) = 1 ∧ x0.toInt ≠ 0 ∧ x0.toInt ≠ 1 ∧ x0.toInt ≠ 15 ∧ x0.toInt ≠ 3 ∧ x0.toInt ≠ 9 ∧ x0.toInt ≠ 14 ∧ x0.toInt ≠ 16 ∧ x0.toInt ≠ 8) from by omega)
  have f12 : x0.toInt ≠ (3 : Int) := xne h10
  refine And.intro (fun h13 => ?_) (fun h13 => ?_)
  · have f14 : x0.toInt = (4 : Int) := xeq h13
    exact k (1 : Int32) (show ((x0.toInt = 0 ∨ x0.toInt = 1 ∨ x0.toInt = 15) ∧ (1 : Int) = 0) ∨ ((x0.toInt = 3 ∨ x0.toInt = 9 ∨ x0.toInt = 14 ∨ x0.toInt = 16) ∧ (1 : Int) = 2) ∨ (x0.toInt = 8 ∧ (1 : Int) = 3) ∨ ((1 : Int) = 1 ∧ x0.toInt ≠ 0 ∧ x0.toInt ≠ 1 ∧ x0.toInt ≠ 15 ∧ x0.toInt ≠ 3 ∧ x0.toInt ≠ 9 ∧ x0.toInt ≠ 14 ∧ x0.toInt ≠ 16 ∧ x0.toInt ≠ 8) from by omega)
  have f15 : x0.toInt ≠ (4 : Int) := xne h13
  refine And.intro (fun h16 => ?_) (fun h16 => ?_)
  · have f17 : x0.toInt = (5 : Int) := xeq h16
    exact k (1 : Int32) (show ((x0.toInt = 0 ∨ x0.toInt = 1 ∨ x0.toInt = 15) ∧ (1 : Int) = 0) ∨ ((x0.toInt = 3 ∨ x0.toInt = 9 ∨ x0.toInt = 14 ∨ x0.toInt = 16) ∧ (1 : Int) = 2) ∨ (x0.toInt = 8 ∧ (1 : Int) = 3) ∨ ((1 : Int) = 1 ∧ x0.toInt ≠ 0 ∧ x0.toInt ≠ 1 ∧ x0.toInt ≠ 15 ∧ x0.toInt ≠ 3 ∧ x0.toInt ≠ 9 ∧ x0.toInt ≠ 14 ∧ x0.toInt ≠ 16 ∧ x0.toInt ≠ 8) from by omega)
  have f18 : x0.toInt ≠ (5 : Int) := xne h16
  refine And.intro (fun h19 => ?_) (fun h19 => ?_)
  · have f20 : x0.toInt = (6 : Int) := xeq h19
    exact k (1 : Int32) (show ((x0.toInt = 0 ∨ x0.toInt = 1 ∨ x0.toInt = 15) ∧ (1 : Int) = 0) ∨ ((x0.toInt = 3 ∨ x0.toInt = 9 ∨ x0.toInt = 14 ∨ x0.toInt = 16) ∧ (1 : Int) = 2) ∨ (x0.toInt = 8 ∧ (1 : Int) = 3) ∨ ((1 : Int) = 1 ∧ x0.toInt ≠ 0 ∧ x0.toInt ≠ 1 ∧ x0.toInt ≠ 15 ∧ x0.toInt ≠ 3 ∧ x0.toInt ≠ 9 ∧ x0.toInt ≠ 14 ∧ x0.toInt ≠ 16 ∧ x0.toInt ≠ 8) from by omega)
  have f21 : x0.toInt ≠ (6 : Int) := xne h19
  refine And.intro (fun h22 => ?_) (fun h22 => ?_)
  · have f23 : x0.toInt = (7 : Int) := xeq h22
    exact k (1 : Int32) (show ((x0.toInt = 0 ∨ x0.toInt = 1 ∨ x0.toInt = 15) ∧ (1 : Int) = 0) ∨ ((x0.toInt = 3 ∨ x0.toInt = 9 ∨ x0.toInt = 14 ∨ x0.toInt = 16) ∧ (1 : Int) = 2) ∨ (x0.toInt = 8 ∧ (1 : Int) = 3) ∨ ((1 : Int) = 1 ∧ x0.toInt ≠ 0 ∧ x0.toInt ≠ 1 ∧ x0.toInt ≠ 15 ∧ x0.toInt ≠ 3 ∧ x0.toInt ≠ 9 ∧ x0.toInt ≠ 14 ∧ x0.toInt ≠ 16 ∧ x0.toInt ≠ 8) from by omega)
  have f24 : x0.toInt ≠ (7 : Int) := xne h22
  refine And.intro (fun h25 => ?_) (fun h25 => ?_)
  · have f26 : x0.toInt = (8 : Int) := xeq h25
    exact k (3 : Int32) (show ((x0.toInt = 0 ∨ x0.toInt = 1 ∨ x0.toInt = 15) ∧ (3 : Int) = 0) ∨ ((x0.toInt = 3 ∨ x0.toInt = 9 ∨ x0.toInt = 14 ∨ x0.toInt = 16) ∧ (3 : Int) = 2) ∨ (x0.toInt = 8 ∧ (3 : Int) = 3) ∨ ((3 : Int) = 1 ∧ x0.toInt ≠ 0 ∧ x0.toInt ≠ 1 ∧ x0.toInt ≠ 15 ∧ x0.toInt ≠ 3 ∧ x0.toInt ≠ 9 ∧ x0.toInt ≠ 14 ∧ x0.toInt ≠ 16 ∧ x0.toInt ≠ 8) from by omega)
  have f27 : x0.toInt ≠ (8 : Int) := xne h25
  refine And.intro (fun h28 => ?_) (fun h28 => ?_)
  · have f29 : x0.toInt = (9 : Int) := xeq h28
    exact k (2 : Int32) (show ((x0.toInt = 0 ∨ x0.toInt = 1 ∨ x0.toInt = 15) ∧ (2 : Int) = 0) ∨ ((x0.toInt = 3 ∨ x0.toInt = 9 ∨ x0.toInt = 14 ∨ x0.toInt = 16) ∧ (2 : Int) = 2) ∨ (x0.toInt = 8 ∧ (2 : Int) = 3) ∨ ((2 : Int) = 1 ∧ x0.toInt ≠ 0 ∧ x0.toInt ≠ 1 ∧ x0.toInt ≠ 15 ∧ x0.toInt ≠ 3 ∧ x0.toInt ≠ 9 ∧ x0.toInt ≠ 14 ∧ x0.toInt ≠ 16 ∧ x0.toInt ≠ 8) from by omega)
  have f30 : x0.toInt ≠ (9 : Int) := xne h28
  refine And.intro (fun h31 => ?_) (fun h31 => ?_)
  · have f32 : x0.toInt = (10 : Int) := xeq h31
    exact k (1 : Int32) (show ((x0.toInt = 0 ∨ x0.toInt = 1 ∨ x0.toInt = 15) ∧ (1 : Int) = 0) ∨ ((x0.toInt = 3 ∨ x0.toInt = 9 ∨ x0.toInt = 14 ∨ x0.toInt = 16) ∧ (1 : Int) = 2) ∨ (x0.toInt = 8 ∧ (1 : Int) = 3) ∨ ((1 : Int) = 1 ∧ x0.toInt ≠ 0 ∧ x0.toInt ≠ 1 ∧ x0.toInt ≠ 15 ∧ x0.toInt ≠ 3 ∧ x0.toInt ≠ 9 ∧ x0.toInt ≠ 14 ∧ x0.toInt ≠ 16 ∧ x0.toInt ≠ 8) from by omega)
  have f33 : x0.toInt ≠ (10 : Int) := xne h31
  refine And.intro (fun h34 => ?_) (fun h34 => ?_)
  · have f35 : x0.toInt = (11 : Int) := xeq h34
    exact k (1 : Int32) (show ((x0.toInt = 0 ∨ x0.toInt = 1 ∨ x0.toInt = 15) ∧ (1 : Int) = 0) ∨ ((x0.toInt = 3 ∨ x0.toInt = 9 ∨ x0.toInt = 14 ∨ x0.toInt = 16) ∧ (1 : Int) = 2) ∨ (x0.toInt = 8 ∧ (1 : Int) = 3) ∨ ((1 : Int) = 1 ∧ x0.toInt ≠ 0 ∧ x0.toInt ≠ 1 ∧ x0.toInt ≠ 15 ∧ x0.toInt ≠ 3 ∧ x0.toInt ≠ 9 ∧ x0.toInt ≠ 14 ∧ x0.toInt ≠ 16 ∧ x0.toInt ≠ 8) from by omega)
  have f36 : x0.toInt ≠ (11 : Int) := xne h34
  refine And.intro (fun h37 => ?_) (fun h37 => ?_)
  · have f38 : x0.toInt = (12 : Int) := xeq h37
    exact k (1 : Int32) (show ((x0.toInt = 0 ∨ x0.toInt = 1 ∨ x0.toInt = 15) ∧ (1 : Int) = 0) ∨ ((x0.toInt = 3 ∨ x0.toInt = 9 ∨ x0.toInt = 14 ∨ x0.toInt = 16) ∧ (1 : Int) = 2) ∨ (x0.toInt = 8 ∧ (1 : Int) = 3) ∨ ((1 : Int) = 1 ∧ x0.toInt ≠ 0 ∧ x0.toInt ≠ 1 ∧ x0.toInt ≠ 15 ∧ x0.toInt ≠ 3 ∧ x0.toInt ≠ 9 ∧ x0.toInt ≠ 14 ∧ x0.toInt ≠ 16 ∧ x0.toInt ≠ 8) from by omega)
  have f39 : x0.toInt ≠ (12 : Int) := xne h37
  refine And.intro (fun h40 => ?_) (fun h40 => ?_)
  · have f41 : x0.toInt = (13 : Int) := xeq h40
    exact k (1 : Int32) (show ((x0.toInt = 0 ∨ x0.toInt = 1 ∨ x0.toInt = 15) ∧ (1 : Int) = 0) ∨ ((x0.toInt = 3 ∨ x0.toInt = 9 ∨ x0.toInt = 14 ∨ x0.toInt = 16) ∧ (1 : Int) = 2) ∨ (x0.toInt = 8 ∧ (1 : Int) = 3) ∨ ((1 : Int) = 1 ∧ x0.toInt ≠ 0 ∧ x0.toInt ≠ 1 ∧ x0.toInt ≠ 15 ∧ x0.toInt ≠ 3 ∧ x0.toInt ≠ 9 ∧ x0.toInt ≠ 14 ∧ x0.toInt ≠ 16 ∧ x0.toInt ≠ 8) from by omega)
  have f42 : x0.toInt ≠ (13 : Int) := xne h40
  refine And.intro (fun h43 => ?_) (fun h43 => ?_)
  · have f44 : x0.toInt = (14 : Int) := xeq h43
    exact k (2 : Int32) (show ((x0.toInt = 0 ∨ x0.toInt = 1 ∨ x0.toInt = 15) ∧ (2 : Int) = 0) ∨ ((x0.toInt = 3 ∨ x0.toInt = 9 ∨ x0.toInt = 14 ∨ x0.toInt = 16) ∧ (2 : Int) = 2) ∨ (x0.toInt = 8 ∧ (2 : Int) = 3) ∨ ((2 : Int) = 1 ∧ x0.toInt ≠ 0 ∧ x0.toInt ≠ 1 ∧ x0.toInt ≠ 15 ∧ x0.toInt ≠ 3 ∧ x0.toInt ≠ 9 ∧ x0.toInt ≠ 14 ∧ x0.toInt ≠ 16 ∧ x0.toInt ≠ 8) from by omega)
  have f45 : x0.toInt ≠ (14 : Int) := xne h43
  refine And.intro (fun h46 => ?_) (fun h46 => ?_)
  · have f47 : x0.toInt = (15 : Int) := xeq h46
    exact k (0 : Int32) (show ((x0.toInt = 0 ∨ x0.toInt = 1 ∨ x0.toInt = 15) ∧ (0 : Int) = 0) ∨ ((x0.toInt = 3 ∨ x0.toInt = 9 ∨ x0.toInt = 14 ∨ x0.toInt = 16) ∧ (0 : Int) = 2) ∨ (x0.toInt = 8 ∧ (0 : Int) = 3) ∨ ((0 : Int) = 1 ∧ x0.toInt ≠ 0 ∧ x0.toInt ≠ 1 ∧ x0.toInt ≠ 15 ∧ x0.toInt ≠ 3 ∧ x0.toInt ≠ 9 ∧ x0.toInt ≠ 14 ∧ x0.toInt ≠ 16 ∧ x0.toInt ≠ 8) from by omega)
  have f48 : x0.toInt ≠ (15 : Int) := xne h46
  refine And.intro (fun h49 => ?_) (fun h49 => ?_)
  · have f50 : x0.toInt = (16 : Int) := xeq h49
    exact k (2 : Int32) (show ((x0.toInt = 0 ∨ x0.toInt = 1 ∨ x0.toInt = 15) ∧ (2 : Int) = 0) ∨ ((x0.toInt = 3 ∨ x0.toInt = 9 ∨ x0.toInt = 14 ∨ x0.toInt = 16) ∧ (2 : Int) = 2) ∨ (x0.toInt = 8 ∧ (2 : Int) = 3) ∨ ((2 : Int) = 1 ∧ x0.toInt ≠ 0 ∧ x0.toInt ≠ 1 ∧ x0.toInt ≠ 15 ∧ x0.toInt ≠ 3 ∧ x0.toInt ≠ 9 ∧ x0.toInt ≠ 14 ∧ x0.toInt ≠ 16 ∧ x0.toInt ≠ 8) from by omega)
  have f51 : x0.toInt ≠ (16 : Int) := xne h49
  exact k (1 : Int32) (show ((x0.toInt = 0 ∨ x0.toInt = 1 ∨ x0.toInt = 15) ∧ (1 : Int) = 0) ∨ ((x0.toInt = 3 ∨ x0.toInt = 9 ∨ x0.toInt = 14 ∨ x0.toInt = 16) ∧ (1 : Int) = 2) ∨ (x0.toInt = 8 ∧ (1 : Int) = 3) ∨ ((1 : Int) = 1 ∧ x0.toInt ≠ 0 ∧ x0.toInt ≠ 1 ∧ x0.toInt ≠ 15 ∧ x0.toInt ≠ 3 ∧ x0.toInt ≠ 9 ∧ x0.toInt ≠ 14 ∧ x0.toInt ≠ 16 ∧ x0.toInt ≠ 8) from by omega)

-- ProofBenchModel.hasTerm(I)Z
theorem pg_235_0 {d : Nat} {x0 : Int32} {s : ps_S} {Q : Option Value → ps_S → Prop} (h :
  (x0 = 12 →
    Q (some (.int 1)) s) ∧
  (x0 ≠ 12 →
    (x0 = 13 →
      Q (some (.int 1)) s) ∧
    (x0 ≠ 13 →
      (x0 ≠ 15 →
        Q (some (.int 0)) s) ∧
      (x0 = 15 →
        Q (some (.int 1)) s)))) : ps_At d 235 0 [(0, .int x0)] [] s Q :=
  ps_wp_at (stops := []) (n := 22) h rfl

theorem ms_235 {x : Nat → Nat → Nat} {t : Int32} {s : ps_S} {d : Nat} {x0 : Int32} {f : Int32 → ps_S → Prop} (J : mJ x t s) (k : ∀ (v : Int32), ((v.toInt = 1 ∧ (x0.toInt = 12 ∨ x0.toInt = 13 ∨ x0.toInt = 15)) ∨ (v.toInt = 0 ∧ x0.toInt ≠ 12 ∧ x0.toInt ≠ 13 ∧ x0.toInt ≠ 15)) → v &&& 1 = v → f v s) : ps_Cl d 235 [.int x0] s (ps_rI f) := by
  refine pg_235_0 ?_
  refine And.intro (fun h1 => ?_) (fun h1 => ?_)
  · have f2 : x0.toInt = (12 : Int) := xeq h1
    exact k (1 : Int32) (show ((1 : Int) = 1 ∧ (x0.toInt = 12 ∨ x0.toInt = 13 ∨ x0.toInt = 15)) ∨ ((1 : Int) = 0 ∧ x0.toInt ≠ 12 ∧ x0.toInt ≠ 13 ∧ x0.toInt ≠ 15) from by omega) (by decide)
  · have f3 : x0.toInt ≠ (12 : Int) := xne h1
    refine And.intro (fun h4 => ?_) (fun h4 => ?_)
    · have f5 : x0.toInt = (13 : Int) := xeq h4
      exact k (1 : Int32) (show ((1 : Int) = 1 ∧ (x0.toInt = 12 ∨ x0.toInt = 13 ∨ x0.toInt = 15)) ∨ ((1 : Int) = 0 ∧ x0.toInt ≠ 12 ∧ x0.toInt ≠ 13 ∧ x0.toInt ≠ 15) from by omega) (by decide)
    · have f6 : x0.toInt ≠ (13 : Int) := xne h4
      refine And.intro (fun h7 => ?_) (fun h7 => ?_)
      · have f8 : x0.toInt ≠ (15 : Int) := xne h7
        exact k (0 : Int32) (show ((0 : Int) = 1 ∧ (x0.toInt = 12 ∨ x0.toInt = 13 ∨ x0.toInt = 15)) ∨ ((0 : Int) = 0 ∧ x0.toInt ≠ 12 ∧ x0.toInt ≠ 13 ∧ x0.toInt ≠ 15) from by omega) (by decide)
      · have f9 : x0.toInt = (15 : Int) := xeq h7
        exact k (1 : Int32) (show ((1 : Int) = 1 ∧ (x0.toInt = 12 ∨ x0.toInt = 13 ∨ x0.toInt = 15)) ∨ ((1 : Int) = 0 ∧ x0.toInt ≠ 12 ∧ x0.toInt ≠ 13 ∧ x0.toInt ≠ 15) from by omega) (by decide)

-- ProofBenchModel.hasFormula(I)Z
theorem pg_236_0 {d : Nat} {x0 : Int32} {s : ps_S} {Q : Option Value → ps_S → Prop} (h :
  (x0 = 0 →
    Q (some (.int 1)) s) ∧
  (x0 ≠ 0 →
    (x0 = 6 →
      Q (some (.int 1)) s) ∧
    (x0 ≠ 6 →
      (x0 = 7 →
        Q (some (.int 1)) s) ∧
      (x0 ≠ 7 →
        (x0 = 10 →
          Q (some (.int 1)) s) ∧
        (x0 ≠ 10 →
          (x0 = 13 →
            Q (some (.int 1)) s) ∧
          (x0 ≠ 13 →
            (x0 < 16 →
              Q (some (.int 0)) s) ∧
            (16 ≤ x0 →
              Q (some (.int 1)) s))))))) : ps_At d 236 0 [(0, .int x0)] [] s Q :=
  ps_wp_at (stops := []) (n := 39) h rfl

theorem ms_236 {x : Nat → Nat → Nat} {t : Int32} {s : ps_S} {d : Nat} {x0 : Int32} {f : Int32 → ps_S → Prop} (J : mJ x t s) (k : ∀ (v : Int32), ((v.toInt = 1 ∧ (x0.toInt = 0 ∨ x0.toInt = 6 ∨ x0.toInt = 7 ∨ x0.toInt = 10 ∨ x0.toInt = 13 ∨ 16 ≤ x0.toInt)) ∨ (v.toInt = 0 ∧ x0.toInt ≠ 0 ∧ x0.toInt ≠ 6 ∧ x0.toInt ≠ 7 ∧ x0.toInt ≠ 10 ∧ x0.toInt ≠ 13 ∧ x0.toInt < 16)) → v &&& 1 = v → f v s) : ps_Cl d 236 [.int x0] s (ps_rI f) := by
  refine pg_236_0 ?_
  refine And.intro (fun h1 => ?_) (fun h1 => ?_)
  · have f2 : x0.toInt = (0 : Int) := xeq h1
    exact k (1 : Int32) (show ((1 : Int) = 1 ∧ (x0.toInt = 0 ∨ x0.toInt = 6 ∨ x0.toInt = 7 ∨ x0.toInt = 10 ∨ x0.toInt = 13 ∨ 16 ≤ x0.toInt)) ∨ ((1 : Int) = 0 ∧ x0.toInt ≠ 0 ∧ x0.toInt ≠ 6 ∧ x0.toInt ≠ 7 ∧ x0.toInt ≠ 10 ∧ x0.toInt ≠ 13 ∧ x0.toInt < 16) from by omega) (by decide)
  · have f3 : x0.toInt ≠ (0 : Int) := xne h1
    refine And.intro (fun h4 => ?_) (fun h4 => ?_)
    · have f5 : x0.toInt = (6 : Int) := xeq h4
      exact k (1 : Int32) (show ((1 : Int) = 1 ∧ (x0.toInt = 0 ∨ x0.toInt = 6 ∨ x0.toInt = 7 ∨ x0.toInt = 10 ∨ x0.toInt = 13 ∨ 16 ≤ x0.toInt)) ∨ ((1 : Int) = 0 ∧ x0.toInt ≠ 0 ∧ x0.toInt ≠ 6 ∧ x0.toInt ≠ 7 ∧ x0.toInt ≠ 10 ∧ x0.toInt ≠ 13 ∧ x0.toInt < 16) from by omega) (by decide)
    · have f6 : x0.toInt ≠ (6 : Int) := xne h4
      refine And.intro (fun h7 => ?_) (fun h7 => ?_)
      · have f8 : x0.toInt = (7 : Int) := xeq h7
        exact k (1 : Int32) (show ((1 : Int) = 1 ∧ (x0.toInt = 0 ∨ x0.toInt = 6 ∨ x0.toInt = 7 ∨ x0.toInt = 10 ∨ x0.toInt = 13 ∨ 16 ≤ x0.toInt)) ∨ ((1 : Int) = 0 ∧ x0.toInt ≠ 0 ∧ x0.toInt ≠ 6 ∧ x0.toInt ≠ 7 ∧ x0.toInt ≠ 10 ∧ x0.toInt ≠ 13 ∧ x0.toInt < 16) from by omega) (by decide)
      · have f9 : x0.toInt ≠ (7 : Int) := xne h7
        refine And.intro (fun h10 => ?_) (fun h10 => ?_)
        · have f11 : x0.toInt = (10 : Int) := xeq h10
          exact k (1 : Int32) (show ((1 : Int) = 1 ∧ (x0.toInt = 0 ∨ x0.toInt = 6 ∨ x0.toInt = 7 ∨ x0.toInt = 10 ∨ x0.toInt = 13 ∨ 16 ≤ x0.toInt)) ∨ ((1 : Int) = 0 ∧ x0.toInt ≠ 0 ∧ x0.toInt ≠ 6 ∧ x0.toInt ≠ 7 ∧ x0.toInt ≠ 10 ∧ x0.toInt ≠ 13 ∧ x0.toInt < 16) from by omega) (by decide)
        · have f12 : x0.toInt ≠ (10 : Int) := xne h10
          refine And.intro (fun h13 => ?_) (fun h13 => ?_)
          · have f14 : x0.toInt = (13 : Int) := xeq h13
            exact k (1 : Int32) (show ((1 : Int) = 1 ∧ (x0.toInt = 0 ∨ x0.toInt = 6 ∨ x0.toInt = 7 ∨ x0.toInt = 10 ∨ x0.toInt = 13 ∨ 16 ≤ x0.toInt)) ∨ ((1 : Int) = 0 ∧ x0.toInt ≠ 0 ∧ x0.toInt ≠ 6 ∧ x0.toInt ≠ 7 ∧ x0.toInt ≠ 10 ∧ x0.toInt ≠ 13 ∧ x0.toInt < 16) from by omega) (by decide)
          · have f15 : x0.toInt ≠ (13 : Int) := xne h13
            refine And.intro (fun h16 => ?_) (fun h16 => ?_)
            · have f17 : x0.toInt < (16 : Int) := xlt h16
              exact k (0 : Int32) (show ((0 : Int) = 1 ∧ (x0.toInt = 0 ∨ x0.toInt = 6 ∨ x0.toInt = 7 ∨ x0.toInt = 10 ∨ x0.toInt = 13 ∨ 16 ≤ x0.toInt)) ∨ ((0 : Int) = 0 ∧ x0.toInt ≠ 0 ∧ x0.toInt ≠ 6 ∧ x0.toInt ≠ 7 ∧ x0.toInt ≠ 10 ∧ x0.toInt ≠ 13 ∧ x0.toInt < 16) from by omega) (by decide)
            · have f18 : (16 : Int) ≤ x0.toInt := xle h16
              exact k (1 : Int32) (show ((1 : Int) = 1 ∧ (x0.toInt = 0 ∨ x0.toInt = 6 ∨ x0.toInt = 7 ∨ x0.toInt = 10 ∨ x0.toInt = 13 ∨ 16 ≤ x0.toInt)) ∨ ((1 : Int) = 0 ∧ x0.toInt ≠ 0 ∧ x0.toInt ≠ 6 ∧ x0.toInt ≠ 7 ∧ x0.toInt ≠ 10 ∧ x0.toInt ≠ 13 ∧ x0.toInt < 16) from by omega) (by decide)

-- ProofBenchModel.anyNumber()I
theorem pg_237_0 {d : Nat} {s : ps_S} {Q : Option Value → ps_S → Prop} (h :
  ps_Cl d 192 [.ref 1131] s (ps_rI (fun v1 s1 =>
    (v1 ≠ 0 →
      ((ps_i s1 1131 9) ≠ 4 →
        ps_Cl d 197 [.ref 1131, .int 0] s1 (ps_rV (fun s2 =>
          Q (some (.int (ps_i s1 1131 10))) s2))) ∧
      ((ps_i s1 1131 9) = 4 →
        ps_Cl d 197 [.ref 1131, .int 1] s1 (ps_rV (fun s3 =>
          Q (some (.int (ps_i s1 1131 10))) s3)))) ∧
    (v1 = 0 →
      Q (some (.int 0)) s1)))) : ps_At (d + 1) 237 0 [(0, .ref 1131)] [] s Q :=
  ps_wp_at (stops := []) (n := 24) h rfl

theorem ms_237 {x : Nat → Nat → Nat} {t : Int32} {s : ps_S} {d : Nat} {f : Int32 → ps_S → Prop} (J : mJ x t s) (q0 : (ps_i s 1131 8).toInt ≤ (ps_i s 1131 4).toInt) (k : ∀ (v : Int32) (s' : ps_S), mJ x t s' → kp [] [5, 6, 7, 8, 9, 10, 11] s s' → ((ps_i s' 1131 8).toInt ≤ (ps_i s' 1131 4).toInt) → (0 ≤ v.toInt) → (v.toInt ≤ 9999) → (1 ≤ (ps_i s 1131 5).toInt → 1 ≤ (ps_i s' 1131 5).toInt) → f v s') : ps_Cl (d + 3) 237 [.ref 1131] s (ps_rI f) := by
  have r1 := mf_8 J
  have r2 := mf_4 J
  have K : kp [] [5, 6, 7, 8, 9, 10, 11] s s := kp_refl
  refine pg_237_0 (d := d + 2) ?_
  refine ms_192 J  (fun v3 p3_0 b3 => ?_)
  have p3_0' : (v3.toInt = 0 ∧ 1 ≤ (ps_i s 1131 5).toInt) ∨ (v3.toInt = 1 ∧ (ps_i s 1131 5).toInt = 0) := p3_0
  have r4 := mf_5 J
  refine And.intro (fun h5 => ?_) (fun h5 => ?_)
  · have f6 : v3.toInt ≠ (0 : Int) := xne h5
    have r7 := mf_10 J
    have r8 := mf_9 J
    refine And.intro (fun h9 => ?_) (fun h9 => ?_)
    · have f10 : (ps_i s 1131 9).toInt ≠ (4 : Int) := xne h9
      refine ms_197 J (show (ps_i s 1131 8).toInt ≤ (ps_i s 1131 4).toInt from by omega) (fun s11 J11 K11 p11_0 p11_1 p11_2 => ?_)
      have K12 := kpt K K11 rfl rfl
      have p11_0' : (ps_i s11 1131 8).toInt ≤ (ps_i s11 1131 4).toInt := p11_0
      have r13 := mf_8 J11
      have r14 := mf_4 J11
      have u15 : (ps_i s11 1131 4).toInt = (ps_i s 1131 4).toInt := xeq (kp_i K11 4 rfl)
      have p11_1' : 1 ≤ (ps_i s 1131 5).toInt → 1 ≤ (ps_i s11 1131 5).toInt := p11_1
      have r16 := mf_5 J11
      have p11_2' : (0 : Int) = 0 → 1 ≤ (ps_i s11 1131 5).toInt := p11_2
      exact k (ps_i s 1131 10) _ J11 K12 (show (ps_i s11 1131 8).toInt ≤ (ps_i s11 1131 4).toInt from by omega) (show 0 ≤ (ps_i s 1131 10).toInt from by omega) (show (ps_i s 1131 10).toInt ≤ 9999 from by omega) (show 1 ≤ (ps_i s 1131 5).toInt → 1 ≤ (ps_i s11 1131 5).toInt from by omega)
    · have f17 : (ps_i s 1131 9).toInt = (4 : Int) := xeq h9
      refine ms_197 J (show (ps_i s 1131 8).toInt ≤ (ps_i s 1131 4).toInt from by omega) (fun s18 J18 K18 p18_0 p18_1 p18_2 => ?_)
      have K19 := kpt K K18 rfl rfl
      have p18_0' : (ps_i s18 1131 8).toInt ≤ (ps_i s18 1131 4).toInt := p18_0
      have r20 := mf_8 J18
      have r21 := mf_4 J18
      have u22 : (ps_i s18 1131 4).toInt = (ps_i s 1131 4).toInt := xeq (kp_i K18 4 rfl)
      have p18_1' : 1 ≤ (ps_i s 1131 5).toInt → 1 ≤ (ps_i s18 1131 5).toInt := p18_1
      have r23 := mf_5 J18
      have p18_2' : (1 : Int) = 0 → 1 ≤ (ps_i s18 1131 5).toInt := p18_2
      exact k (ps_i s 1131 10) _ J18 K19 (show (ps_i s18 1131 8).toInt ≤ (ps_i s18 1131 4).toInt from by omega) (show 0 ≤ (ps_i s 1131 10).toInt from by omega) (show (ps_i s 1131 10).toInt ≤ 9999 from by omega) (show 1 ≤ (ps_i s 1131 5).toInt → 1 ≤ (ps_i s18 1131 5).toInt from by omega)
  · have f24 : v3.toInt = (0 : Int) := xeq h5
    exact k (0 : Int32) _ J K (show (ps_i s 1131 8).toInt ≤ (ps_i s 1131 4).toInt from by omega) (show 0 ≤ (0 : Int) from by omega) (show (0 : Int) ≤ 9999 from by omega) (show 1 ≤ (ps_i s 1131 5).toInt → 1 ≤ (ps_i s 1131 5).toInt from by omega)

-- ProofBenchModel.because(I)V
theorem pg_241_0 {d : Nat} {x1 : Int32} {s : ps_S} {Q : Option Value → ps_S → Prop} (h :
  ((ps_i s 1131 50) = 0 →
    Q none (ps_ui s 1131 50 x1)) ∧
  ((ps_i s 1131 50) ≠ 0 →
    ((ps_i s 1131 50) ≤ x1 →
      Q none s) ∧
    (x1 < (ps_i s 1131 50) →
      Q none (ps_ui s 1131 50 x1)))) : ps_At d 241 0 [(0, .ref 1131), (1, .int x1)] [] s Q :=
  ps_wp_at (stops := []) (n := 18) h rfl

theorem ms_241 {x : Nat → Nat → Nat} {t : Int32} {s : ps_S} {d : Nat} {x1 : Int32} {f : ps_S → Prop} (J : mJ x t s) (q0 : 1 ≤ x1.toInt) (q1 : x1.toInt ≤ 5) (k : ∀ (s' : ps_S), mJ x t s' → kp [] [50] s s' → (1 ≤ (ps_i s' 1131 50).toInt) → f s') : ps_Cl d 241 [.ref 1131, .int x1] s (ps_rV f) := by
  have K : kp [] [50] s s := kp_refl
  refine pg_241_0 ?_
  have r1 := mf_50 J
  refine And.intro (fun h2 => ?_) (fun h2 => ?_)
  · have f3 : (ps_i s 1131 50).toInt = (0 : Int) := xeq h2
    have J4 := mwi_50 (v := x1) J (show 0 ≤ x1.toInt from by omega) (show x1.toInt ≤ 5 from by omega)
    have K5 := kpi K (q := 50) (v := x1) rfl
    exact k _ J4 K5 (show 1 ≤ x1.toInt from by omega)
  · have f6 : (ps_i s 1131 50).toInt ≠ (0 : Int) := xne h2
    refine And.intro (fun h7 => ?_) (fun h7 => ?_)
    · have f8 : (ps_i s 1131 50).toInt ≤ x1.toInt := xle h7
      exact k _ J K (show 1 ≤ (ps_i s 1131 50).toInt from by omega)
    · have f9 : x1.toInt < (ps_i s 1131 50).toInt := xlt h7
      have J10 := mwi_50 (v := x1) J (show 0 ≤ x1.toInt from by omega) (show x1.toInt ≤ 5 from by omega)
      have K11 := kpi K (q := 50) (v := x1) rfl
      exact k _ J10 K11 (show 1 ≤ x1.toInt from by omega)

-- ProofBenchModel.stepRow(I)I
theorem pg_242_0 {d : Nat} {x0 : Int32} {s : ps_S} {Q : Option Value → ps_S → Prop} (h :
  Q (some (.int ((0 : Int32) + ((41 : Int32) * x0)))) s) : ps_At d 242 0 [(0, .int x0)] [] s Q :=
  ps_wp_at (stops := []) (n := 8) h rfl

-- ProofBenchModel.assumedRow(II)I
theorem pg_243_0 {d : Nat} {x0 : Int32} {x1 : Int32} {s : ps_S} {Q : Option Value → ps_S → Prop} (h :
  Q (some (.int ((1640 : Int32) + ((41 : Int32) * (((12 : Int32) * x0) + x1))))) s) : ps_At d 243 0 [(0, .int x0), (1, .int x1)] [] s Q :=
  ps_wp_at (stops := []) (n := 12) h rfl

-- ProofBenchModel.first(I)I
theorem pg_244_0 {d : Nat} {x1 : Int32} {s : ps_S} {Q : Option Value → ps_S → Prop} (h :
  ps_nd (pm_in x1 40) (ps_Cl d 242 [.int (ps_a s 1153 (Int32.toNatClampNeg x1))] s (ps_rI (fun v1 s1 =>
    Q (some (.int v1)) s1)))) : ps_At (d + 1) 244 0 [(0, .ref 1131), (1, .int x1)] [] s Q :=
  ps_wp_at (stops := []) (n := 8) h rfl

-- ProofBenchModel.second(I)I
theorem pg_245_0 {d : Nat} {x1 : Int32} {s : ps_S} {Q : Option Value → ps_S → Prop} (h :
  ps_nd (pm_in x1 40) (ps_Cl d 242 [.int (ps_a s 1154 (Int32.toNatClampNeg x1))] s (ps_rI (fun v1 s1 =>
    Q (some (.int v1)) s1)))) : ps_At (d + 1) 245 0 [(0, .ref 1131), (1, .int x1)] [] s Q :=
  ps_wp_at (stops := []) (n := 8) h rfl

-- ProofBenchModel.third(I)I
theorem pg_246_0 {d : Nat} {x1 : Int32} {s : ps_S} {Q : Option Value → ps_S → Prop} (h :
  ps_nd (pm_in x1 40) (ps_Cl d 242 [.int (ps_a s 1155 (Int32.toNatClampNeg x1))] s (ps_rI (fun v1 s1 =>
    Q (some (.int v1)) s1)))) : ps_At (d + 1) 246 0 [(0, .ref 1131), (1, .int x1)] [] s Q :=
  ps_wp_at (stops := []) (n := 8) h rfl

-- ProofBenchModel.headOf(I)I
theorem pg_247_0 {d : Nat} {x1 : Int32} {s : ps_S} {Q : Option Value → ps_S → Prop} (h :
  ps_Cl d 220 [.ref 1131, .int x1, .int 0] s (ps_rI (fun v1 s1 =>
    Q (some (.int v1)) s1))) : ps_At (d + 1) 247 0 [(0, .ref 1131), (1, .int x1)] [] s Q :=
  ps_wp_at (stops := []) (n := 7) h rfl

-- ProofBenchModel.havePremises(I)Z
theorem pg_250_0 {d : Nat} {x1 : Int32} {s : ps_S} {Q : Option Value → ps_S → Prop} (h :
  ps_nd (pm_in x1 40) (ps_Cl d 234 [.int (ps_a s 1152 (Int32.toNatClampNeg x1))] s (ps_rI (fun v1 s1 =>
    ps_nd (pm_in x1 40) (((ps_a s1 1152 (Int32.toNatClampNeg x1)) ≠ 2 →
      (v1 < 1 →
        ps_At (d + 1) 250 54 [(0, .ref 1131), (1, .int x1), (2, .int v1)] [] s1 Q) ∧
      (1 ≤ v1 →
        ps_nd (pm_in x1 40) ((x1 ≤ (ps_a s1 1153 (Int32.toNatClampNeg x1)) →
          Q (some (.int 0)) s1) ∧
        ((ps_a s1 1153 (Int32.toNatClampNeg x1)) < x1 →
          ps_At (d + 1) 250 54 [(0, .ref 1131), (1, .int x1), (2, .int v1)] [] s1 Q)))) ∧
    ((ps_a s1 1152 (Int32.toNatClampNeg x1)) = 2 →
      ps_nd (pm_in x1 40) (((ps_i s1 1131 54) ≤ (ps_a s1 1153 (Int32.toNatClampNeg x1)) →
        Q (some (.int 0)) s1) ∧
      ((ps_a s1 1153 (Int32.toNatClampNeg x1)) < (ps_i s1 1131 54) →
        Q (some (.int 1)) s1)))))))) : ps_At (d + 1) 250 0 [(0, .ref 1131), (1, .int x1)] [] s Q :=
  ps_wp_at (stops := [(54, [0, 1, 2]), (69, [0, 1, 2])]) (n := 37) h rfl

theorem pg_250_54 {d : Nat} {x1 : Int32} {x2 : Int32} {s : ps_S} {Q : Option Value → ps_S → Prop} (h :
  (x2 < 2 →
    ps_At (d + 1) 250 69 [(0, .ref 1131), (1, .int x1), (2, .int x2)] [] s Q) ∧
  (2 ≤ x2 →
    ps_nd (pm_in x1 40) ((x1 ≤ (ps_a s 1154 (Int32.toNatClampNeg x1)) →
      Q (some (.int 0)) s) ∧
    ((ps_a s 1154 (Int32.toNatClampNeg x1)) < x1 →
      ps_At (d + 1) 250 69 [(0, .ref 1131), (1, .int x1), (2, .int x2)] [] s Q)))) : ps_At (d + 1) 250 54 [(0, .ref 1131), (1, .int x1), (2, .int x2)] [] s Q :=
  ps_wp_at (stops := [(54, [0, 1, 2]), (69, [0, 1, 2])]) (n := 13) h rfl

theorem pg_250_69 {d : Nat} {x1 : Int32} {x2 : Int32} {s : ps_S} {Q : Option Value → ps_S → Prop} (h :
  (x2 < 3 →
    Q (some (.int 1)) s) ∧
  (3 ≤ x2 →
    ps_nd (pm_in x1 40) ((x1 ≤ (ps_a s 1155 (Int32.toNatClampNeg x1)) →
      Q (some (.int 0)) s) ∧
    ((ps_a s 1155 (Int32.toNatClampNeg x1)) < x1 →
      Q (some (.int 1)) s)))) : ps_At (d + 1) 250 69 [(0, .ref 1131), (1, .int x1), (2, .int x2)] [] s Q :=
  ps_wp_at (stops := [(54, [0, 1, 2]), (69, [0, 1, 2])]) (n := 19) h rfl

theorem ms_250_69 {x : Nat → Nat → Nat} {t : Int32} {d : Nat} {s : ps_S} {x1 : Int32} {Q : Option Value → ps_S → Prop} (k : ∀ (v : Int32), (v.toInt = 0 ∨ (ps_a s 1152 (Int32.toNatClampNeg x1)).toInt ≠ 2 ∨ (ps_a s 1153 (Int32.toNatClampNeg x1)).toInt < (ps_i s 1131 54).toInt) → (v.toInt = 0 ∨ (ps_a s 1152 (Int32.toNatClampNeg x1)).toInt = 0 ∨ (ps_a s 1152 (Int32.toNatClampNeg x1)).toInt = 1 ∨ (ps_a s 1152 (Int32.toNatClampNeg x1)).toInt = 2 ∨ (ps_a s 1152 (Int32.toNatClampNeg x1)).toInt = 15 ∨ (ps_a s 1153 (Int32.toNatClampNeg x1)).toInt < x1.toInt) → (v.toInt = 0 ∨ ((ps_a s 1152 (Int32.toNatClampNeg x1)).toInt ≠ 3 ∧ (ps_a s 1152 (Int32.toNatClampNeg x1)).toInt ≠ 9 ∧ (ps_a s 1152 (Int32.toNatClampNeg x1)).toInt ≠ 14 ∧ (ps_a s 1152 (Int32.toNatClampNeg x1)).toInt ≠ 16 ∧ (ps_a s 1152 (Int32.toNatClampNeg x1)).toInt ≠ 8) ∨ (ps_a s 1154 (Int32.toNatClampNeg x1)).toInt < x1.toInt) → (v.toInt = 0 ∨ (ps_a s 1152 (Int32.toNatClampNeg x1)).toInt ≠ 8 ∨ (ps_a s 1155 (Int32.toNatClampNeg x1)).toInt < x1.toInt) → v &&& 1 = v → Q (some (.int v)) s) (x2 : Int32) (J : mJ x t s) (i0 : 0 ≤ x1.toInt) (i1 : x1.toInt < 40) (i2 : (((ps_a s 1152 (Int32.toNatClampNeg x1)).toInt = 0 ∨ (ps_a s 1152 (Int32.toNatClampNeg x1)).toInt = 1 ∨ (ps_a s 1152 (Int32.toNatClampNeg x1)).toInt = 15) ∧ x2.toInt = 0) ∨ (((ps_a s 1152 (Int32.toNatClampNeg x1)).toInt = 3 ∨ (ps_a s 1152 (Int32.toNatClampNeg x1)).toInt = 9 ∨ (ps_a s 1152 (Int32.toNatClampNeg x1)).toInt = 14 ∨ (ps_a s 1152 (Int32.toNatClampNeg x1)).toInt = 16) ∧ x2.toInt = 2) ∨ ((ps_a s 1152 (Int32.toNatClampNeg x1)).toInt = 8 ∧ x2.toInt = 3) ∨ (x2.toInt = 1 ∧ (ps_a s 1152 (Int32.toNatClampNeg x1)).toInt ≠ 0 ∧ (ps_a s 1152 (Int32.toNatClampNeg x1)).toInt ≠ 1 ∧ (ps_a s 1152 (Int32.toNatClampNeg x1)).toInt ≠ 15 ∧ (ps_a s 1152 (Int32.toNatClampNeg x1)).toInt ≠ 3 ∧ (ps_a s 1152 (Int32.toNatClampNeg x1)).toInt ≠ 9 ∧ (ps_a s 1152 (Int32.toNatClampNeg x1)).toInt ≠ 14 ∧ (ps_a s 1152 (Int32.toNatClampNeg x1)).toInt ≠ 16 ∧ (ps_a s 1152 (Int32.toNatClampNeg x1)).toInt ≠ 8)) (i3 : (ps_a s 1152 (Int32.toNatClampNeg x1)).toInt ≠ 2) (i4 : x2.toInt < 1 ∨ (ps_a s 1153 (Int32.toNatClampNeg x1)).toInt < x1.toInt) (i5 : x2.toInt < 2 ∨ (ps_a s 1154 (Int32.toNatClampNeg x1)).toInt < x1.toInt) : ps_At (d + 1) 250 69 [(0, .ref 1131), (1, .int x1), (2, .int x2)] [] s Q := by
  have r1 : 0 ≤ (ps_a s 1152 (Int32.toNatClampNeg x1)).toInt ∧ (ps_a s 1152 (Int32.toNatClampNeg x1)).toInt ≤ 18 := ma_1152 (i := x1) J (show 0 ≤ x1.toInt from by omega) (show x1.toInt < 40 from by omega)
  have r2 : -1 ≤ (ps_a s 1153 (Int32.toNatClampNeg x1)).toInt ∧ (ps_a s 1153 (Int32.toNatClampNeg x1)).toInt ≤ 9999 := ma_1153 (i := x1) J (show 0 ≤ x1.toInt from by omega) (show x1.toInt < 40 from by omega)
  have r3 : 0 ≤ (ps_a s 1154 (Int32.toNatClampNeg x1)).toInt ∧ (ps_a s 1154 (Int32.toNatClampNeg x1)).toInt ≤ 9999 := ma_1154 (i := x1) J (show 0 ≤ x1.toInt from by omega) (show x1.toInt < 40 from by omega)
  refine pg_250_69 (d := d) ?_
  refine And.intro (fun h4 => ?_) (fun h4 => ?_)
  · have f5 : x2.toInt < (3 : Int) := xlt h4
    have r6 := mf_54 J
    have r7 : 0 ≤ (ps_a s 1155 (Int32.toNatClampNeg x1)).toInt ∧ (ps_a s 1155 (Int32.toNatClampNeg x1)).toInt ≤ 9999 := ma_1155 (i := x1) J (show 0 ≤ x1.toInt from by omega) (show x1.toInt < 40 from by omega)
    exact k (1 : Int32) (show (1 : Int) = 0 ∨ (ps_a s 1152 (Int32.toNatClampNeg x1)).toInt ≠ 2 ∨ (ps_a s 1153 (Int32.toNatClampNeg x1)).toInt < (ps_i s 1131 54).toInt from by omega) (show (1 : Int) = 0 ∨ (ps_a s 1152 (Int32.toNatClampNeg x1)).toInt = 0 ∨ (ps_a s 1152 (Int32.toNatClampNeg x1)).toInt = 1 ∨ (ps_a s 1152 (Int32.toNatClampNeg x1)).toInt = 2 ∨ (ps_a s 1152 (Int32.toNatClampNeg x1)).toInt = 15 ∨ (ps_a s 1153 (Int32.toNatClampNeg x1)).toInt < x1.toInt from by omega) (show (1 : Int) = 0 ∨ ((ps_a s 1152 (Int32.toNatClampNeg x1)).toInt ≠ 3 ∧ (ps_a s 1152 (Int32.toNatClampNeg x1)).toInt ≠ 9 ∧ (ps_a s 1152 (Int32.toNatClampNeg x1)).toInt ≠ 14 ∧ (ps_a s 1152 (Int32.toNatClampNeg x1)).toInt ≠ 16 ∧ (ps_a s 1152 (Int32.toNatClampNeg x1)).toInt ≠ 8) ∨ (ps_a s 1154 (Int32.toNatClampNeg x1)).toInt < x1.toInt from by omega) (show (1 : Int) = 0 ∨ (ps_a s 1152 (Int32.toNatClampNeg x1)).toInt ≠ 8 ∨ (ps_a s 1155 (Int32.toNatClampNeg x1)).toInt < x1.toInt from by omega) (by decide)
  · have f8 : (3 : Int) ≤ x2.toInt := xle h4
    refine ps_nd_i (show pm_in x1 40 = true from xgi (show 0 ≤ x1.toInt from by omega) (show x1.toInt < 40 from by omega)) ?_
    have r9 : 0 ≤ (ps_a s 1155 (Int32.toNatClampNeg x1)).toInt ∧ (ps_a s 1155 (Int32.toNatClampNeg x1)).toInt ≤ 9999 := ma_1155 (i := x1) J (show 0 ≤ x1.toInt from by omega) (show x1.toInt < 40 from by omega)
    refine And.intro (fun h10 => ?_) (fun h10 => ?_)
    · have f11 : x1.toInt ≤ (ps_a s 1155 (Int32.toNatClampNeg x1)).toInt := xle h10
      have r12 := mf_54 J
      exact k (0 : Int32) (show (0 : Int) = 0 ∨ (ps_a s 1152 (Int32.toNatClampNeg x1)).toInt ≠ 2 ∨ (ps_a s 1153 (Int32.toNatClampNeg x1)).toInt < (ps_i s 1131 54).toInt from by omega) (show (0 : Int) = 0 ∨ (ps_a s 1152 (Int32.toNatClampNeg x1)).toInt = 0 ∨ (ps_a s 1152 (Int32.toNatClampNeg x1)).toInt = 1 ∨ (ps_a s 1152 (Int32.toNatClampNeg x1)).toInt = 2 ∨ (ps_a s 1152 (Int32.toNatClampNeg x1)).toInt = 15 ∨ (ps_a s 1153 (Int32.toNatClampNeg x1)).toInt < x1.toInt from by omega) (show (0 : Int) = 0 ∨ ((ps_a s 1152 (Int32.toNatClampNeg x1)).toInt ≠ 3 ∧ (ps_a s 1152 (Int32.toNatClampNeg x1)).toInt ≠ 9 ∧ (ps_a s 1152 (Int32.toNatClampNeg x1)).toInt ≠ 14 ∧ (ps_a s 1152 (Int32.toNatClampNeg x1)).toInt ≠ 16 ∧ (ps_a s 1152 (Int32.toNatClampNeg x1)).toInt ≠ 8) ∨ (ps_a s 1154 (Int32.toNatClampNeg x1)).toInt < x1.toInt from by omega) (show (0 : Int) = 0 ∨ (ps_a s 1152 (Int32.toNatClampNeg x1)).toInt ≠ 8 ∨ (ps_a s 1155 (Int32.toNatClampNeg x1)).toInt < x1.toInt from by omega) (by decide)
    · have f13 : (ps_a s 1155 (Int32.toNatClampNeg x1)).toInt < x1.toInt := xlt h10
      have r14 := mf_54 J
      exact k (1 : Int32) (show (1 : Int) = 0 ∨ (ps_a s 1152 (Int32.toNatClampNeg x1)).toInt ≠ 2 ∨ (ps_a s 1153 (Int32.toNatClampNeg x1)).toInt < (ps_i s 1131 54).toInt from by omega) (show (1 : Int) = 0 ∨ (ps_a s 1152 (Int32.toNatClampNeg x1)).toInt = 0 ∨ (ps_a s 1152 (Int32.toNatClampNeg x1)).toInt = 1 ∨ (ps_a s 1152 (Int32.toNatClampNeg x1)).toInt = 2 ∨ (ps_a s 1152 (Int32.toNatClampNeg x1)).toInt = 15 ∨ (ps_a s 1153 (Int32.toNatClampNeg x1)).toInt < x1.toInt from by omega) (show (1 : Int) = 0 ∨ ((ps_a s 1152 (Int32.toNatClampNeg x1)).toInt ≠ 3 ∧ (ps_a s 1152 (Int32.toNatClampNeg x1)).toInt ≠ 9 ∧ (ps_a s 1152 (Int32.toNatClampNeg x1)).toInt ≠ 14 ∧ (ps_a s 1152 (Int32.toNatClampNeg x1)).toInt ≠ 16 ∧ (ps_a s 1152 (Int32.toNatClampNeg x1)).toInt ≠ 8) ∨ (ps_a s 1154 (Int32.toNatClampNeg x1)).toInt < x1.toInt from by omega) (show (1 : Int) = 0 ∨ (ps_a s 1152 (Int32.toNatClampNeg x1)).toInt ≠ 8 ∨ (ps_a s 1155 (Int32.toNatClampNeg x1)).toInt < x1.toInt from by omega) (by decide)

theorem ms_250_54 {x : Nat → Nat → Nat} {t : Int32} {d : Nat} {s : ps_S} {x1 : Int32} {Q : Option Value → ps_S → Prop} (k : ∀ (v : Int32), (v.toInt = 0 ∨ (ps_a s 1152 (Int32.toNatClampNeg x1)).toInt ≠ 2 ∨ (ps_a s 1153 (Int32.toNatClampNeg x1)).toInt < (ps_i s 1131 54).toInt) → (v.toInt = 0 ∨ (ps_a s 1152 (Int32.toNatClampNeg x1)).toInt = 0 ∨ (ps_a s 1152 (Int32.toNatClampNeg x1)).toInt = 1 ∨ (ps_a s 1152 (Int32.toNatClampNeg x1)).toInt = 2 ∨ (ps_a s 1152 (Int32.toNatClampNeg x1)).toInt = 15 ∨ (ps_a s 1153 (Int32.toNatClampNeg x1)).toInt < x1.toInt) → (v.toInt = 0 ∨ ((ps_a s 1152 (Int32.toNatClampNeg x1)).toInt ≠ 3 ∧ (ps_a s 1152 (Int32.toNatClampNeg x1)).toInt ≠ 9 ∧ (ps_a s 1152 (Int32.toNatClampNeg x1)).toInt ≠ 14 ∧ (ps_a s 1152 (Int32.toNatClampNeg x1)).toInt ≠ 16 ∧ (ps_a s 1152 (Int32.toNatClampNeg x1)).toInt ≠ 8) ∨ (ps_a s 1154 (Int32.toNatClampNeg x1)).toInt < x1.toInt) → (v.toInt = 0 ∨ (ps_a s 1152 (Int32.toNatClampNeg x1)).toInt ≠ 8 ∨ (ps_a s 1155 (Int32.toNatClampNeg x1)).toInt < x1.toInt) → v &&& 1 = v → Q (some (.int v)) s) (x2 : Int32) (J : mJ x t s) (i0 : 0 ≤ x1.toInt) (i1 : x1.toInt < 40) (i2 : (((ps_a s 1152 (Int32.toNatClampNeg x1)).toInt = 0 ∨ (ps_a s 1152 (Int32.toNatClampNeg x1)).toInt = 1 ∨ (ps_a s 1152 (Int32.toNatClampNeg x1)).toInt = 15) ∧ x2.toInt = 0) ∨ (((ps_a s 1152 (Int32.toNatClampNeg x1)).toInt = 3 ∨ (ps_a s 1152 (Int32.toNatClampNeg x1)).toInt = 9 ∨ (ps_a s 1152 (Int32.toNatClampNeg x1)).toInt = 14 ∨ (ps_a s 1152 (Int32.toNatClampNeg x1)).toInt = 16) ∧ x2.toInt = 2) ∨ ((ps_a s 1152 (Int32.toNatClampNeg x1)).toInt = 8 ∧ x2.toInt = 3) ∨ (x2.toInt = 1 ∧ (ps_a s 1152 (Int32.toNatClampNeg x1)).toInt ≠ 0 ∧ (ps_a s 1152 (Int32.toNatClampNeg x1)).toInt ≠ 1 ∧ (ps_a s 1152 (Int32.toNatClampNeg x1)).toInt ≠ 15 ∧ (ps_a s 1152 (Int32.toNatClampNeg x1)).toInt ≠ 3 ∧ (ps_a s 1152 (Int32.toNatClampNeg x1)).toInt ≠ 9 ∧ (ps_a s 1152 (Int32.toNatClampNeg x1)).toInt ≠ 14 ∧ (ps_a s 1152 (Int32.toNatClampNeg x1)).toInt ≠ 16 ∧ (ps_a s 1152 (Int32.toNatClampNeg x1)).toInt ≠ 8)) (i3 : (ps_a s 1152 (Int32.toNatClampNeg x1)).toInt ≠ 2) (i4 : x2.toInt < 1 ∨ (ps_a s 1153 (Int32.toNatClampNeg x1)).toInt < x1.toInt) : ps_At (d + 1) 250 54 [(0, .ref 1131), (1, .int x1), (2, .int x2)] [] s Q := by
  have r1 : 0 ≤ (ps_a s 1152 (Int32.toNatClampNeg x1)).toInt ∧ (ps_a s 1152 (Int32.toNatClampNeg x1)).toInt ≤ 18 := ma_1152 (i := x1) J (show 0 ≤ x1.toInt from by omega) (show x1.toInt < 40 from by omega)
  have r2 : -1 ≤ (ps_a s 1153 (Int32.toNatClampNeg x1)).toInt ∧ (ps_a s 1153 (Int32.toNatClampNeg x1)).toInt ≤ 9999 := ma_1153 (i := x1) J (show 0 ≤ x1.toInt from by omega) (show x1.toInt < 40 from by omega)
  refine pg_250_54 (d := d) ?_
  refine And.intro (fun h3 => ?_) (fun h3 => ?_)
  · have f4 : x2.toInt < (2 : Int) := xlt h3
    have r5 : 0 ≤ (ps_a s 1154 (Int32.toNatClampNeg x1)).toInt ∧ (ps_a s 1154 (Int32.toNatClampNeg x1)).toInt ≤ 9999 := ma_1154 (i := x1) J (show 0 ≤ x1.toInt from by omega) (show x1.toInt < 40 from by omega)
    exact ms_250_69 (x1 := x1) k  x2 J (show 0 ≤ x1.toInt from by omega) (show x1.toInt < 40 from by omega) (show (((ps_a s 1152 (Int32.toNatClampNeg x1)).toInt = 0 ∨ (ps_a s 1152 (Int32.toNatClampNeg x1)).toInt = 1 ∨ (ps_a s 1152 (Int32.toNatClampNeg x1)).toInt = 15) ∧ x2.toInt = 0) ∨ (((ps_a s 1152 (Int32.toNatClampNeg x1)).toInt = 3 ∨ (ps_a s 1152 (Int32.toNatClampNeg x1)).toInt = 9 ∨ (ps_a s 1152 (Int32.toNatClampNeg x1)).toInt = 14 ∨ (ps_a s 1152 (Int32.toNatClampNeg x1)).toInt = 16) ∧ x2.toInt = 2) ∨ ((ps_a s 1152 (Int32.toNatClampNeg x1)).toInt = 8 ∧ x2.toInt = 3) ∨ (x2.toInt = 1 ∧ (ps_a s 1152 (Int32.toNatClampNeg x1)).toInt ≠ 0 ∧ (ps_a s 1152 (Int32.toNatClampNeg x1)).toInt ≠ 1 ∧ (ps_a s 1152 (Int32.toNatClampNeg x1)).toInt ≠ 15 ∧ (ps_a s 1152 (Int32.toNatClampNeg x1)).toInt ≠ 3 ∧ (ps_a s 1152 (Int32.toNatClampNeg x1)).toInt ≠ 9 ∧ (ps_a s 1152 (Int32.toNatClampNeg x1)).toInt ≠ 14 ∧ (ps_a s 1152 (Int32.toNatClampNeg x1)).toInt ≠ 16 ∧ (ps_a s 1152 (Int32.toNatClampNeg x1)).toInt ≠ 8) from by omega) (show (ps_a s 1152 (Int32.toNatClampNeg x1)).toInt ≠ 2 from by omega) (show x2.toInt < 1 ∨ (ps_a s 1153 (Int32.toNatClampNeg x1)).toInt < x1.toInt from by omega) (show x2.toInt < 2 ∨ (ps_a s 1154 (Int32.toNatClampNeg x1)).toInt < x1.toInt from by omega)
  · have f6 : (2 : Int) ≤ x2.toInt := xle h3
    refine ps_nd_i (show pm_in x1 40 = true from xgi (show 0 ≤ x1.toInt from by omega) (show x1.toInt < 40 from by omega)) ?_
    have r7 : 0 ≤ (ps_a s 1154 (Int32.toNatClampNeg x1)).toInt ∧ (ps_a s 1154 (Int32.toNatClampNeg x1)).toInt ≤ 9999 := ma_1154 (i := x1) J (show 0 ≤ x1.toInt from by omega) (show x1.toInt < 40 from by omega)
    refine And.intro (fun h8 => ?_) (fun h8 => ?_)
    · have f9 : x1.toInt ≤ (ps_a s 1154 (Int32.toNatClampNeg x1)).toInt := xle h8
      have r10 := mf_54 J
      have r11 : 0 ≤ (ps_a s 1155 (Int32.toNatClampNeg x1)).toInt ∧ (ps_a s 1155 (Int32.toNatClampNeg x1)).toInt ≤ 9999 := ma_1155 (i := x1) J (show 0 ≤ x1.toInt from by omega) (show x1.toInt < 40 from by omega)
      exact k (0 : Int32) (show (0 : Int) = 0 ∨ (ps_a s 1152 (Int32.toNatClampNeg x1)).toInt ≠ 2 ∨ (ps_a s 1153 (Int32.toNatClampNeg x1)).toInt < (ps_i s 1131 54).toInt from by omega) (show (0 : Int) = 0 ∨ (ps_a s 1152 (Int32.toNatClampNeg x1)).toInt = 0 ∨ (ps_a s 1152 (Int32.toNatClampNeg x1)).toInt = 1 ∨ (ps_a s 1152 (Int32.toNatClampNeg x1)).toInt = 2 ∨ (ps_a s 1152 (Int32.toNatClampNeg x1)).toInt = 15 ∨ (ps_a s 1153 (Int32.toNatClampNeg x1)).toInt < x1.toInt from by omega) (show (0 : Int) = 0 ∨ ((ps_a s 1152 (Int32.toNatClampNeg x1)).toInt ≠ 3 ∧ (ps_a s 1152 (Int32.toNatClampNeg x1)).toInt ≠ 9 ∧ (ps_a s 1152 (Int32.toNatClampNeg x1)).toInt ≠ 14 ∧ (ps_a s 1152 (Int32.toNatClampNeg x1)).toInt ≠ 16 ∧ (ps_a s 1152 (Int32.toNatClampNeg x1)).toInt ≠ 8) ∨ (ps_a s 1154 (Int32.toNatClampNeg x1)).toInt < x1.toInt from by omega) (show (0 : Int) = 0 ∨ (ps_a s 1152 (Int32.toNatClampNeg x1)).toInt ≠ 8 ∨ (ps_a s 1155 (Int32.toNatClampNeg x1)).toInt < x1.toInt from by omega) (by decide)
    · have f12 : (ps_a s 1154 (Int32.toNatClampNeg x1)).toInt < x1.toInt := xlt h8
      exact ms_250_69 (x1 := x1) k  x2 J (show 0 ≤ x1.toInt from by omega) (show x1.toInt < 40 from by omega) (show (((ps_a s 1152 (Int32.toNatClampNeg x1)).toInt = 0 ∨ (ps_a s 1152 (Int32.toNatClampNeg x1)).toInt = 1 ∨ (ps_a s 1152 (Int32.toNatClampNeg x1)).toInt = 15) ∧ x2.toInt = 0) ∨ (((ps_a s 1152 (Int32.toNatClampNeg x1)).toInt = 3 ∨ (ps_a s 1152 (Int32.toNatClampNeg x1)).toInt = 9 ∨ (ps_a s 1152 (Int32.toNatClampNeg x1)).toInt = 14 ∨ (ps_a s 1152 (Int32.toNatClampNeg x1)).toInt = 16) ∧ x2.toInt = 2) ∨ ((ps_a s 1152 (Int32.toNatClampNeg x1)).toInt = 8 ∧ x2.toInt = 3) ∨ (x2.toInt = 1 ∧ (ps_a s 1152 (Int32.toNatClampNeg x1)).toInt ≠ 0 ∧ (ps_a s 1152 (Int32.toNatClampNeg x1)).toInt ≠ 1 ∧ (ps_a s 1152 (Int32.toNatClampNeg x1)).toInt ≠ 15 ∧ (ps_a s 1152 (Int32.toNatClampNeg x1)).toInt ≠ 3 ∧ (ps_a s 1152 (Int32.toNatClampNeg x1)).toInt ≠ 9 ∧ (ps_a s 1152 (Int32.toNatClampNeg x1)).toInt ≠ 14 ∧ (ps_a s 1152 (Int32.toNatClampNeg x1)).toInt ≠ 16 ∧ (ps_a s 1152 (Int32.toNatClampNeg x1)).toInt ≠ 8) from by omega) (show (ps_a s 1152 (Int32.toNatClampNeg x1)).toInt ≠ 2 from by omega) (show x2.toInt < 1 ∨ (ps_a s 1153 (Int32.toNatClampNeg x1)).toInt < x1.toInt from by omega) (show x2.toInt < 2 ∨ (ps_a s 1154 (Int32.toNatClampNeg x1)).toInt < x1.toInt from by omega)

theorem ms_250 {x : Nat → Nat → Nat} {t : Int32} {s : ps_S} {d : Nat} {x1 : Int32} {f : Int32 → ps_S → Prop} (J : mJ x t s) (q0 : 0 ≤ x1.toInt) (q1 : x1.toInt < 40) (k : ∀ (v : Int32), (v.toInt = 0 ∨ (ps_a s 1152 (Int32.toNatClampNeg x1)).toInt ≠ 2 ∨ (ps_a s 1153 (Int32.toNatClampNeg x1)).toInt < (ps_i s 1131 54).toInt) → (v.toInt = 0 ∨ (ps_a s 1152 (Int32.toNatClampNeg x1)).toInt = 0 ∨ (ps_a s 1152 (Int32.toNatClampNeg x1)).toInt = 1 ∨ (ps_a s 1152 (Int32.toNatClampNeg x1)).toInt = 2 ∨ (ps_a s 1152 (Int32.toNatClampNeg x1)).toInt = 15 ∨ (ps_a s 1153 (Int32.toNatClampNeg x1)).toInt < x1.toInt) → (v.toInt = 0 ∨ ((ps_a s 1152 (Int32.toNatClampNeg x1)).toInt ≠ 3 ∧ (ps_a s 1152 (Int32.toNatClampNeg x1)).toInt ≠ 9 ∧ (ps_a s 1152 (Int32.toNatClampNeg x1)).toInt ≠ 14 ∧ (ps_a s 1152 (Int32.toNatClampNeg x1)).toInt ≠ 16 ∧ (ps_a s 1152 (Int32.toNatClampNeg x1)).toInt ≠ 8) ∨ (ps_a s 1154 (Int32.toNatClampNeg x1)).toInt < x1.toInt) → (v.toInt = 0 ∨ (ps_a s 1152 (Int32.toNatClampNeg x1)).toInt ≠ 8 ∨ (ps_a s 1155 (Int32.toNatClampNeg x1)).toInt < x1.toInt) → v &&& 1 = v → f v s) : ps_Cl (d + 1) 250 [.ref 1131, .int x1] s (ps_rI f) := by
  refine pg_250_0 (d := d) ?_
  refine ps_nd_i (show pm_in x1 40 = true from xgi (show 0 ≤ x1.toInt from by omega) (show x1.toInt < 40 from by omega)) ?_
  have r1 : 0 ≤ (ps_a s 1152 (Int32.toNatClampNeg x1)).toInt ∧ (ps_a s 1152 (Int32.toNatClampNeg x1)).toInt ≤ 18 := ma_1152 (i := x1) J (show 0 ≤ x1.toInt from by omega) (show x1.toInt < 40 from by omega)
  refine ms_234 J  (fun v2 p2_0 => ?_)
  have p2_0' : (((ps_a s 1152 (Int32.toNatClampNeg x1)).toInt = 0 ∨ (ps_a s 1152 (Int32.toNatClampNeg x1)).toInt = 1 ∨ (ps_a s 1152 (Int32.toNatClampNeg x1)).toInt = 15) ∧ v2.toInt = 0) ∨ (((ps_a s 1152 (Int32.toNatClampNeg x1)).toInt = 3 ∨ (ps_a s 1152 (Int32.toNatClampNeg x1)).toInt = 9 ∨ (ps_a s 1152 (Int32.toNatClampNeg x1)).toInt = 14 ∨ (ps_a s 1152 (Int32.toNatClampNeg x1)).toInt = 16) ∧ v2.toInt = 2) ∨ ((ps_a s 1152 (Int32.toNatClampNeg x1)).toInt = 8 ∧ v2.toInt = 3) ∨ (v2.toInt = 1 ∧ (ps_a s 1152 (Int32.toNatClampNeg x1)).toInt ≠ 0 ∧ (ps_a s 1152 (Int32.toNatClampNeg x1)).toInt ≠ 1 ∧ (ps_a s 1152 (Int32.toNatClampNeg x1)).toInt ≠ 15 ∧ (ps_a s 1152 (Int32.toNatClampNeg x1)).toInt ≠ 3 ∧ (ps_a s 1152 (Int32.toNatClampNeg x1)).toInt ≠ 9 ∧ (ps_a s 1152 (Int32.toNatClampNeg x1)).toInt ≠ 14 ∧ (ps_a s 1152 (Int32.toNatClampNeg x1)).toInt ≠ 16 ∧ (ps_a s 1152 (Int32.toNatClampNeg x1)).toInt ≠ 8) := p2_0
  refine ps_nd_i (show pm_in x1 40 = true from xgi (show 0 ≤ x1.toInt from by omega) (show x1.toInt < 40 from by omega)) ?_
  refine And.intro (fun h3 => ?_) (fun h3 => ?_)
  · have f4 : (ps_a s 1152 (Int32.toNatClampNeg x1)).toInt ≠ (2 : Int) := xne h3
    refine And.intro (fun h5 => ?_) (fun h5 => ?_)
    · have f6 : v2.toInt < (1 : Int) := xlt h5
      have r7 : -1 ≤ (ps_a s 1153 (Int32.toNatClampNeg x1)).toInt ∧ (ps_a s 1153 (Int32.toNatClampNeg x1)).toInt ≤ 9999 := ma_1153 (i := x1) J (show 0 ≤ x1.toInt from by omega) (show x1.toInt < 40 from by omega)
      exact ms_250_54 (x1 := x1) k  v2 J (show 0 ≤ x1.toInt from by omega) (show x1.toInt < 40 from by omega) (show (((ps_a s 1152 (Int32.toNatClampNeg x1)).toInt = 0 ∨ (ps_a s 1152 (Int32.toNatClampNeg x1)).toInt = 1 ∨ (ps_a s 1152 (Int32.toNatClampNeg x1)).toInt = 15) ∧ v2.toInt = 0) ∨ (((ps_a s 1152 (Int32.toNatClampNeg x1)).toInt = 3 ∨ (ps_a s 1152 (Int32.toNatClampNeg x1)).toInt = 9 ∨ (ps_a s 1152 (Int32.toNatClampNeg x1)).toInt = 14 ∨ (ps_a s 1152 (Int32.toNatClampNeg x1)).toInt = 16) ∧ v2.toInt = 2) ∨ ((ps_a s 1152 (Int32.toNatClampNeg x1)).toInt = 8 ∧ v2.toInt = 3) ∨ (v2.toInt = 1 ∧ (ps_a s 1152 (Int32.toNatClampNeg x1)).toInt ≠ 0 ∧ (ps_a s 1152 (Int32.toNatClampNeg x1)).toInt ≠ 1 ∧ (ps_a s 1152 (Int32.toNatClampNeg x1)).toInt ≠ 15 ∧ (ps_a s 1152 (Int32.toNatClampNeg x1)).toInt ≠ 3 ∧ (ps_a s 1152 (Int32.toNatClampNeg x1)).toInt ≠ 9 ∧ (ps_a s 1152 (Int32.toNatClampNeg x1)).toInt ≠ 14 ∧ (ps_a s 1152 (Int32.toNatClampNeg x1)).toInt ≠ 16 ∧ (ps_a s 1152 (Int32.toNatClampNeg x1)).toInt ≠ 8) from by omega) (show (ps_a s 1152 (Int32.toNatClampNeg x1)).toInt ≠ 2 from by omega) (show v2.toInt < 1 ∨ (ps_a s 1153 (Int32.toNatClampNeg x1)).toInt < x1.toInt from by omega)
    · have f8 : (1 : Int) ≤ v2.toInt := xle h5
      refine ps_nd_i (show pm_in x1 40 = true from xgi (show 0 ≤ x1.toInt from by omega) (show x1.toInt < 40 from by omega)) ?_
      have r9 : -1 ≤ (ps_a s 1153 (Int32.toNatClampNeg x1)).toInt ∧ (ps_a s 1153 (Int32.toNatClampNeg x1)).toInt ≤ 9999 := ma_1153 (i := x1) J (show 0 ≤ x1.toInt from by omega) (show x1.toInt < 40 from by omega)
      refine And.intro (fun h10 => ?_) (fun h10 => ?_)
      · have f11 : x1.toInt ≤ (ps_a s 1153 (Int32.toNatClampNeg x1)).toInt := xle h10
        have r12 := mf_54 J
        have r13 : 0 ≤ (ps_a s 1154 (Int32.toNatClampNeg x1)).toInt ∧ (ps_a s 1154 (Int32.toNatClampNeg x1)).toInt ≤ 9999 := ma_1154 (i := x1) J (show 0 ≤ x1.toInt from by omega) (show x1.toInt < 40 from by omega)
        have r14 : 0 ≤ (ps_a s 1155 (Int32.toNatClampNeg x1)).toInt ∧ (ps_a s 1155 (Int32.toNatClampNeg x1)).toInt ≤ 9999 := ma_1155 (i := x1) J (show 0 ≤ x1.toInt from by omega) (show x1.toInt < 40 from by omega)
        exact k (0 : Int32) (show (0 : Int) = 0 ∨ (ps_a s 1152 (Int32.toNatClampNeg x1)).toInt ≠ 2 ∨ (ps_a s 1153 (Int32.toNatClampNeg x1)).toInt < (ps_i s 1131 54).toInt from by omega) (show (0 : Int) = 0 ∨ (ps_a s 1152 (Int32.toNatClampNeg x1)).toInt = 0 ∨ (ps_a s 1152 (Int32.toNatClampNeg x1)).toInt = 1 ∨ (ps_a s 1152 (Int32.toNatClampNeg x1)).toInt = 2 ∨ (ps_a s 1152 (Int32.toNatClampNeg x1)).toInt = 15 ∨ (ps_a s 1153 (Int32.toNatClampNeg x1)).toInt < x1.toInt from by omega) (show (0 : Int) = 0 ∨ ((ps_a s 1152 (Int32.toNatClampNeg x1)).toInt ≠ 3 ∧ (ps_a s 1152 (Int32.toNatClampNeg x1)).toInt ≠ 9 ∧ (ps_a s 1152 (Int32.toNatClampNeg x1)).toInt ≠ 14 ∧ (ps_a s 1152 (Int32.toNatClampNeg x1)).toInt ≠ 16 ∧ (ps_a s 1152 (Int32.toNatClampNeg x1)).toInt ≠ 8) ∨ (ps_a s 1154 (Int32.toNatClampNeg x1)).toInt < x1.toInt from by omega) (show (0 : Int) = 0 ∨ (ps_a s 1152 (Int32.toNatClampNeg x1)).toInt ≠ 8 ∨ (ps_a s 1155 (Int32.toNatClampNeg x1)).toInt < x1.toInt from by omega) (by decide)
      · have f15 : (ps_a s 1153 (Int32.toNatClampNeg x1)).toInt < x1.toInt := xlt h10
        exact ms_250_54 (x1 := x1) k  v2 J (show 0 ≤ x1.toInt from by omega) (show x1.toInt < 40 from by omega) (show (((ps_a s 1152 (Int32.toNatClampNeg x1)).toInt = 0 ∨ (ps_a s 1152 (Int32.toNatClampNeg x1)).toInt = 1 ∨ (ps_a s 1152 (Int32.toNatClampNeg x1)).toInt = 15) ∧ v2.toInt = 0) ∨ (((ps_a s 1152 (Int32.toNatClampNeg x1)).toInt = 3 ∨ (ps_a s 1152 (Int32.toNatClampNeg x1)).toInt = 9 ∨ (ps_a s 1152 (Int32.toNatClampNeg x1)).toInt = 14 ∨ (ps_a s 1152 (Int32.toNatClampNeg x1)).toInt = 16) ∧ v2.toInt = 2) ∨ ((ps_a s 1152 (Int32.toNatClampNeg x1)).toInt = 8 ∧ v2.toInt = 3) ∨ (v2.toInt = 1 ∧ (ps_a s 1152 (Int32.toNatClampNeg x1)).toInt ≠ 0 ∧ (ps_a s 1152 (Int32.toNatClampNeg x1)).toInt ≠ 1 ∧ (ps_a s 1152 (Int32.toNatClampNeg x1)).toInt ≠ 15 ∧ (ps_a s 1152 (Int32.toNatClampNeg x1)).toInt ≠ 3 ∧ (ps_a s 1152 (Int32.toNatClampNeg x1)).toInt ≠ 9 ∧ (ps_a s 1152 (Int32.toNatClampNeg x1)).toInt ≠ 14 ∧ (ps_a s 1152 (Int32.toNatClampNeg x1)).toInt ≠ 16 ∧ (ps_a s 1152 (Int32.toNatClampNeg x1)).toInt ≠ 8) from by omega) (show (ps_a s 1152 (Int32.toNatClampNeg x1)).toInt ≠ 2 from by omega) (show v2.toInt < 1 ∨ (ps_a s 1153 (Int32.toNatClampNeg x1)).toInt < x1.toInt from by omega)
  · have f16 : (ps_a s 1152 (Int32.toNatClampNeg x1)).toInt = (2 : Int) := xeq h3
    refine ps_nd_i (show pm_in x1 40 = true from xgi (show 0 ≤ x1.toInt from by omega) (show x1.toInt < 40 from by omega)) ?_
    have r17 : -1 ≤ (ps_a s 1153 (Int32.toNatClampNeg x1)).toInt ∧ (ps_a s 1153 (Int32.toNatClampNeg x1)).toInt ≤ 9999 := ma_1153 (i := x1) J (show 0 ≤ x1.toInt from by omega) (show x1.toInt < 40 from by omega)
    have r18 := mf_54 J
    refine And.intro (fun h19 => ?_) (fun h19 => ?_)
    · have f20 : (ps_i s 1131 54).toInt ≤ (ps_a s 1153 (Int32.toNatClampNeg x1)).toInt := xle h19
      have r21 : 0 ≤ (ps_a s 1154 (Int32.toNatClampNeg x1)).toInt ∧ (ps_a s 1154 (Int32.toNatClampNeg x1)).toInt ≤ 9999 := ma_1154 (i := x1) J (show 0 ≤ x1.toInt from by omega) (show x1.toInt < 40 from by omega)
      have r22 : 0 ≤ (ps_a s 1155 (Int32.toNatClampNeg x1)).toInt ∧ (ps_a s 1155 (Int32.toNatClampNeg x1)).toInt ≤ 9999 := ma_1155 (i := x1) J (show 0 ≤ x1.toInt from by omega) (show x1.toInt < 40 from by omega)
      exact k (0 : Int32) (show (0 : Int) = 0 ∨ (ps_a s 1152 (Int32.toNatClampNeg x1)).toInt ≠ 2 ∨ (ps_a s 1153 (Int32.toNatClampNeg x1)).toInt < (ps_i s 1131 54).toInt from by omega) (show (0 : Int) = 0 ∨ (ps_a s 1152 (Int32.toNatClampNeg x1)).toInt = 0 ∨ (ps_a s 1152 (Int32.toNatClampNeg x1)).toInt = 1 ∨ (ps_a s 1152 (Int32.toNatClampNeg x1)).toInt = 2 ∨ (ps_a s 1152 (Int32.toNatClampNeg x1)).toInt = 15 ∨ (ps_a s 1153 (Int32.toNatClampNeg x1)).toInt < x1.toInt from by omega) (show (0 : Int) = 0 ∨ ((ps_a s 1152 (Int32.toNatClampNeg x1)).toInt ≠ 3 ∧ (ps_a s 1152 (Int32.toNatClampNeg x1)).toInt ≠ 9 ∧ (ps_a s 1152 (Int32.toNatClampNeg x1)).toInt ≠ 14 ∧ (ps_a s 1152 (Int32.toNatClampNeg x1)).toInt ≠ 16 ∧ (ps_a s 1152 (Int32.toNatClampNeg x1)).toInt ≠ 8) ∨ (ps_a s 1154 (Int32.toNatClampNeg x1)).toInt < x1.toInt from by omega) (show (0 : Int) = 0 ∨ (ps_a s 1152 (Int32.toNatClampNeg x1)).toInt ≠ 8 ∨ (ps_a s 1155 (Int32.toNatClampNeg x1)).toInt < x1.toInt from by omega) (by decide)
    · have f23 : (ps_a s 1153 (Int32.toNatClampNeg x1)).toInt < (ps_i s 1131 54).toInt := xlt h19
      have r24 : 0 ≤ (ps_a s 1154 (Int32.toNatClampNeg x1)).toInt ∧ (ps_a s 1154 (Int32.toNatClampNeg x1)).toInt ≤ 9999 := ma_1154 (i := x1) J (show 0 ≤ x1.toInt from by omega) (show x1.toInt < 40 from by omega)
      have r25 : 0 ≤ (ps_a s 1155 (Int32.toNatClampNeg x1)).toInt ∧ (ps_a s 1155 (Int32.toNatClampNeg x1)).toInt ≤ 9999 := ma_1155 (i := x1) J (show 0 ≤ x1.toInt from by omega) (show x1.toInt < 40 from by omega)
      exact k (1 : Int32) (show (1 : Int) = 0 ∨ (ps_a s 1152 (Int32.toNatClampNeg x1)).toInt ≠ 2 ∨ (ps_a s 1153 (Int32.toNatClampNeg x1)).toInt < (ps_i s 1131 54).toInt from by omega) (show (1 : Int) = 0 ∨ (ps_a s 1152 (Int32.toNatClampNeg x1)).toInt = 0 ∨ (ps_a s 1152 (Int32.toNatClampNeg x1)).toInt = 1 ∨ (ps_a s 1152 (Int32.toNatClampNeg x1)).toInt = 2 ∨ (ps_a s 1152 (Int32.toNatClampNeg x1)).toInt = 15 ∨ (ps_a s 1153 (Int32.toNatClampNeg x1)).toInt < x1.toInt from by omega) (show (1 : Int) = 0 ∨ ((ps_a s 1152 (Int32.toNatClampNeg x1)).toInt ≠ 3 ∧ (ps_a s 1152 (Int32.toNatClampNeg x1)).toInt ≠ 9 ∧ (ps_a s 1152 (Int32.toNatClampNeg x1)).toInt ≠ 14 ∧ (ps_a s 1152 (Int32.toNatClampNeg x1)).toInt ≠ 16 ∧ (ps_a s 1152 (Int32.toNatClampNeg x1)).toInt ≠ 8) ∨ (ps_a s 1154 (Int32.toNatClampNeg x1)).toInt < x1.toInt from by omega) (show (1 : Int) = 0 ∨ (ps_a s 1152 (Int32.toNatClampNeg x1)).toInt ≠ 8 ∨ (ps_a s 1155 (Int32.toNatClampNeg x1)).toInt < x1.toInt from by omega) (by decide)

-- ProofBenchModel.leanOn(II)V
theorem pg_251_0 {d : Nat} {x1 : Int32} {x2 : Int32} {s : ps_S} {Q : Option Value → ps_S → Prop} (h :
  ps_nd (pm_in x1 40) (ps_nd (pm_in x2 40) (ps_nd (pm_in x1 40) (ps_nd (pm_in x1 40) (ps_nd (pm_in x2 40) (ps_nd (pm_in x1 40) (ps_nd (pm_in x1 40) (ps_nd (pm_in x2 40) (ps_nd (pm_in x1 40) (Q none (ps_ub (ps_ua (ps_ua s 1158 (Int32.toNatClampNeg x1) ((ps_a s 1158 (Int32.toNatClampNeg x1)) ||| (ps_a s 1158 (Int32.toNatClampNeg x2)))) 1159 (Int32.toNatClampNeg x1) ((ps_a (ps_ua s 1158 (Int32.toNatClampNeg x1) ((ps_a s 1158 (Int32.toNatClampNeg x1)) ||| (ps_a s 1158 (Int32.toNatClampNeg x2)))) 1159 (Int32.toNatClampNeg x1)) ||| (ps_a (ps_ua s 1158 (Int32.toNatClampNeg x1) ((ps_a s 1158 (Int32.toNatClampNeg x1)) ||| (ps_a s 1158 (Int32.toNatClampNeg x2)))) 1159 (Int32.toNatClampNeg x2)))) 1160 (Int32.toNatClampNeg x1) ((ps_b (ps_ua (ps_ua s 1158 (Int32.toNatClampNeg x1) ((ps_a s 1158 (Int32.toNatClampNeg x1)) ||| (ps_a s 1158 (Int32.toNatClampNeg x2)))) 1159 (Int32.toNatClampNeg x1) ((ps_a (ps_ua s 1158 (Int32.toNatClampNeg x1) ((ps_a s 1158 (Int32.toNatClampNeg x1)) ||| (ps_a s 1158 (Int32.toNatClampNeg x2)))) 1159 (Int32.toNatClampNeg x1)) ||| (ps_a (ps_ua s 1158 (Int32.toNatClampNeg x1) ((ps_a s 1158 (Int32.toNatClampNeg x1)) ||| (ps_a s 1158 (Int32.toNatClampNeg x2)))) 1159 (Int32.toNatClampNeg x2)))) 1160 (Int32.toNatClampNeg x1)) ||| (ps_b (ps_ua (ps_ua s 1158 (Int32.toNatClampNeg x1) ((ps_a s 1158 (Int32.toNatClampNeg x1)) ||| (ps_a s 1158 (Int32.toNatClampNeg x2)))) 1159 (Int32.toNatClampNeg x1) ((ps_a (ps_ua s 1158 (Int32.toNatClampNeg x1) ((ps_a s 1158 (Int32.toNatClampNeg x1)) ||| (ps_a s 1158 (Int32.toNatClampNeg x2)))) 1159 (Int32.toNatClampNeg x1)) ||| (ps_a (ps_ua s 1158 (Int32.toNatClampNeg x1) ((ps_a s 1158 (Int32.toNatClampNeg x1)) ||| (ps_a s 1158 (Int32.toNatClampNeg x2)))) 1159 (Int32.toNatClampNeg x2)))) 1160 (Int32.toNatClampNeg x2)))))))))))))) : ps_At d 251 0 [(0, .ref 1131), (1, .int x1), (2, .int x2)] [] s Q :=
  ps_wp_at (stops := []) (n := 36) h rfl

theorem ms_251 {x : Nat → Nat → Nat} {t : Int32} {s : ps_S} {d : Nat} {x1 : Int32} {x2 : Int32} {f : ps_S → Prop} (J : mJ x t s) (q0 : 0 ≤ x1.toInt) (q1 : x1.toInt < 40) (q2 : 0 ≤ x2.toInt) (q3 : x2.toInt < 40) (k : ∀ (s' : ps_S), mJ x t s' → kp [1158, 1159, 1160] [] s s' → f s') : ps_Cl d 251 [.ref 1131, .int x1, .int x2] s (ps_rV f) := by
  have K : kp [1158, 1159, 1160] [] s s := kp_refl
  refine pg_251_0 ?_
  refine ps_nd_i (show pm_in x1 40 = true from xgi (show 0 ≤ x1.toInt from by omega) (show x1.toInt < 40 from by omega)) ?_
  refine ps_nd_i (show pm_in x2 40 = true from xgi (show 0 ≤ x2.toInt from by omega) (show x2.toInt < 40 from by omega)) ?_
  refine ps_nd_i (show pm_in x1 40 = true from xgi (show 0 ≤ x1.toInt from by omega) (show x1.toInt < 40 from by omega)) ?_
  have J1 := mwa_n 1158 (i := (Int32.toNatClampNeg x1)) (v := ((ps_a s 1158 (Int32.toNatClampNeg x1)) ||| (ps_a s 1158 (Int32.toNatClampNeg x2)))) J rfl (by decide)
  have K2 := kpa' K (r := 1158) (i := (Int32.toNatClampNeg x1)) (v := ((ps_a s 1158 (Int32.toNatClampNeg x1)) ||| (ps_a s 1158 (Int32.toNatClampNeg x2)))) rfl
  refine ps_nd_i (show pm_in x1 40 = true from xgi (show 0 ≤ x1.toInt from by omega) (show x1.toInt < 40 from by omega)) ?_
  refine ps_nd_i (show pm_in x2 40 = true from xgi (show 0 ≤ x2.toInt from by omega) (show x2.toInt < 40 from by omega)) ?_
  refine ps_nd_i (show pm_in x1 40 = true from xgi (show 0 ≤ x1.toInt from by omega) (show x1.toInt < 40 from by omega)) ?_
  have J3 := mwa_n 1159 (i := (Int32.toNatClampNeg x1)) (v := ((ps_a s 1159 (Int32.toNatClampNeg x1)) ||| (ps_a s 1159 (Int32.toNatClampNeg x2)))) J1 rfl (by decide)
  have K4 := kpa' K2 (r := 1159) (i := (Int32.toNatClampNeg x1)) (v := ((ps_a s 1159 (Int32.toNatClampNeg x1)) ||| (ps_a s 1159 (Int32.toNatClampNeg x2)))) rfl
  refine ps_nd_i (show pm_in x1 40 = true from xgi (show 0 ≤ x1.toInt from by omega) (show x1.toInt < 40 from by omega)) ?_
  refine ps_nd_i (show pm_in x2 40 = true from xgi (show 0 ≤ x2.toInt from by omega) (show x2.toInt < 40 from by omega)) ?_
  refine ps_nd_i (show pm_in x1 40 = true from xgi (show 0 ≤ x1.toInt from by omega) (show x1.toInt < 40 from by omega)) ?_
  have J5 := mw_b (r := 1160) (i := (Int32.toNatClampNeg x1)) (v := ((ps_b s 1160 (Int32.toNatClampNeg x1)) ||| (ps_b s 1160 (Int32.toNatClampNeg x2)))) J3
  have K6 := kpb' K4 (r := 1160) (i := (Int32.toNatClampNeg x1)) (v := ((ps_b s 1160 (Int32.toNatClampNeg x1)) ||| (ps_b s 1160 (Int32.toNatClampNeg x2)))) rfl
  exact k _ J5 K6

-- ProofBenchModel.axiomRow(II)I
theorem pg_283_0 {d : Nat} {x0 : Int32} {x1 : Int32} {s : ps_S} {Q : Option Value → ps_S → Prop} (h :
  Q (some (.int ((21812 : Int32) + ((41 : Int32) * (((8 : Int32) * x0) + x1))))) s) : ps_At d 283 0 [(0, .int x0), (1, .int x1)] [] s Q :=
  ps_wp_at (stops := []) (n := 12) h rfl
end
