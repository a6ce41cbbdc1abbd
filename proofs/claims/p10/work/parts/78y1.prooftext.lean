set_option maxRecDepth 100000
/-! the text of a proof: a machine of steps; the class reads it -/
-- ProofBench$Reader.takeProof([BILProofBench$Theory;LProofBench$Proof;)Z
theorem pl_59_0 {n : Nat} {r1 : Nat} {x2 : Int32} {r3 : Nat} {r4 : Nat} {s : ps_S} {Q : Option Value → ps_S → Prop} (h :
  pl_Cl n 31 [.ref r4] s (ps_rV (fun s1 =>
    pl_Cl n 61 [.ref 902, .ref r1, .int x2, .ref r3] s1 (ps_rV (fun s2 =>
      pl_At n 59 15 [(0, .ref 902), (4, .ref r4), (5, .int 0)] [] s2 Q))))) : pl_At (n + 1) 59 0 [(0, .ref 902), (1, .ref r1), (2, .int x2), (3, .ref r3), (4, .ref r4)] [] s Q :=
  pl_wp_at (stops := [(15, [0, 4, 5])]) (f := 11) h rfl

theorem pl_59_15 {n : Nat} {r4 : Nat} {x5 : Int32} {s : ps_S} {Q : Option Value → ps_S → Prop} (h :
  (40 < x5 →
    Q (some (.int 1)) s) ∧
  (x5 ≤ 40 →
    ((ps_i s 903 4) = 0 →
      Q (some (.int 1)) s) ∧
    ((ps_i s 903 4) ≠ 0 →
      (x5 ≠ 40 →
        pl_Cl n 33 [.ref r4, .int x5] s (ps_rA (fun v1 s1 =>
          pl_Cl n 66 [.ref 902, .ref v1] s1 (ps_rI (fun v2 s2 =>
            (v2 ≠ 0 →
              pl_nk (ps_is r4 2) (pl_At n 59 15 [(0, .ref 902), (4, .ref r4), (5, .int (x5 + 1))] [] (ps_ui s2 r4 7 (x5 + 1)) Q)) ∧
            (v2 = 0 →
              Q (some (.int 0)) s2)))))) ∧
      (x5 = 40 →
        pl_Cl n 62 [.ref 902, .int 2] s (ps_rI (fun v3 s3 =>
          pl_nk (decide (v3 &&& 1 = v3)) (Q (some (.int v3)) s3))))))) : pl_At (n + 1) 59 15 [(0, .ref 902), (4, .ref r4), (5, .int x5)] [] s Q :=
  pl_wp_at (stops := [(15, [0, 4, 5])]) (f := 35) h rfl

-- ProofBench$Reader.takeStep(LProofBench$Step;)Z
theorem pl_66_0 {n : Nat} {r1 : Nat} {s : ps_S} {Q : Option Value → ps_S → Prop} (h :
  pl_Cl n 114 [.int (ps_i s 903 6)] s (ps_rI (fun v1 s1 =>
    (v1 ≠ 0 →
      pl_Cl n 120 [.ref r1, .int (ps_i s 903 6)] s1 (ps_rV (fun s2 =>
        pl_Cl n 140 [.ref 903] s2 (ps_rV (fun s3 =>
          pl_At n 66 35 [(0, .ref 902), (1, .ref r1), (2, .int (ps_i s 903 6)), (3, .int 0)] [] s3 Q))))) ∧
    (v1 = 0 →
      pl_Cl n 62 [.ref 902, .int 2] s1 (ps_rI (fun v4 s4 =>
        pl_nk (decide (v4 &&& 1 = v4)) (Q (some (.int v4)) s4))))))) : pl_At (n + 1) 66 0 [(0, .ref 902), (1, .ref r1)] [] s Q :=
  pl_wp_at (stops := [(35, [0, 1, 2, 3]), (102, [0, 1, 2]), (119, [0, 1, 2]), (140, [0, 1, 2]), (161, [0])]) (f := 21) h rfl

theorem pl_66_35 {n : Nat} {r1 : Nat} {x2 : Int32} {x3 : Int32} {s : ps_S} {Q : Option Value → ps_S → Prop} (h :
  pl_Cl n 115 [.int x2] s (ps_rI (fun v1 s1 =>
    (v1 ≤ x3 →
      (x2 ≠ 10 →
        pl_At n 66 102 [(0, .ref 902), (1, .ref r1), (2, .int x2)] [] s1 Q) ∧
      (x2 = 10 →
        pl_Cl n 67 [.ref 902, .ref r1] s1 (ps_rI (fun v2 s2 =>
          (v2 = 0 →
            Q (some (.int 0)) s2) ∧
          (v2 ≠ 0 →
            pl_At n 66 102 [(0, .ref 902), (1, .ref r1), (2, .int x2)] [] s2 Q))))) ∧
    (x3 < v1 →
      ((ps_i s1 903 4) = 4 →
        pl_nk (ps_is r1 8) (pl_Cl n 183 [.ref (ps_c0 r1 1), .int x3, .int (ps_i s1 903 7)] s1 (ps_rV (fun s3 =>
          pl_Cl n 140 [.ref 903] s3 (ps_rV (fun s4 =>
            pl_At n 66 35 [(0, .ref 902), (1, .ref r1), (2, .int x2), (3, .int (x3 + 1))] [] s4 Q)))))) ∧
      ((ps_i s1 903 4) ≠ 4 →
        pl_Cl n 62 [.ref 902, .int 2] s1 (ps_rI (fun v5 s5 =>
          pl_nk (decide (v5 &&& 1 = v5)) (Q (some (.int v5)) s5)))))))) : pl_At (n + 1) 66 35 [(0, .ref 902), (1, .ref r1), (2, .int x2), (3, .int x3)] [] s Q :=
  pl_wp_at (stops := [(35, [0, 1, 2, 3]), (102, [0, 1, 2]), (119, [0, 1, 2]), (140, [0, 1, 2]), (161, [0])]) (f := 36) h rfl

theorem pl_66_102 {n : Nat} {r1 : Nat} {x2 : Int32} {s : ps_S} {Q : Option Value → ps_S → Prop} (h :
  pl_Cl n 117 [.int x2] s (ps_rI (fun v1 s1 =>
    (v1 = 0 →
      pl_At n 66 119 [(0, .ref 902), (1, .ref r1), (2, .int x2)] [] s1 Q) ∧
    (v1 ≠ 0 →
      pl_Cl n 68 [.ref 902, .ref r1] s1 (ps_rI (fun v2 s2 =>
        (v2 ≠ 0 →
          pl_At n 66 119 [(0, .ref 902), (1, .ref r1), (2, .int x2)] [] s2 Q) ∧
        (v2 = 0 →
          Q (some (.int 0)) s2))))))) : pl_At (n + 1) 66 102 [(0, .ref 902), (1, .ref r1), (2, .int x2)] [] s Q :=
  pl_wp_at (stops := [(35, [0, 1, 2, 3]), (102, [0, 1, 2]), (119, [0, 1, 2]), (140, [0, 1, 2]), (161, [0])]) (f := 11) h rfl

theorem pl_66_119 {n : Nat} {r1 : Nat} {x2 : Int32} {s : ps_S} {Q : Option Value → ps_S → Prop} (h :
  pl_Cl n 118 [.int x2] s (ps_rI (fun v1 s1 =>
    (v1 = 0 →
      pl_At n 66 140 [(0, .ref 902), (1, .ref r1), (2, .int x2)] [] s1 Q) ∧
    (v1 ≠ 0 →
      pl_nk (ps_is r1 8) (pl_Cl n 69 [.ref 902, .ref (ps_c0 r1 4), .int 1] s1 (ps_rI (fun v2 s2 =>
        (v2 ≠ 0 →
          pl_At n 66 140 [(0, .ref 902), (1, .ref r1), (2, .int x2)] [] s2 Q) ∧
        (v2 = 0 →
          Q (some (.int 0)) s2)))))))) : pl_At (n + 1) 66 119 [(0, .ref 902), (1, .ref r1), (2, .int x2)] [] s Q :=
  pl_wp_at (stops := [(35, [0, 1, 2, 3]), (102, [0, 1, 2]), (119, [0, 1, 2]), (140, [0, 1, 2]), (161, [0])]) (f := 13) h rfl

theorem pl_66_140 {n : Nat} {r1 : Nat} {x2 : Int32} {s : ps_S} {Q : Option Value → ps_S → Prop} (h :
  pl_Cl n 119 [.int x2] s (ps_rI (fun v1 s1 =>
    (v1 = 0 →
      pl_At n 66 161 [(0, .ref 902)] [] s1 Q) ∧
    (v1 ≠ 0 →
      pl_nk (ps_is r1 8) (pl_Cl n 69 [.ref 902, .ref (ps_c0 r1 5), .int 0] s1 (ps_rI (fun v2 s2 =>
        (v2 ≠ 0 →
          pl_At n 66 161 [(0, .ref 902)] [] s2 Q) ∧
        (v2 = 0 →
          Q (some (.int 0)) s2)))))))) : pl_At (n + 1) 66 140 [(0, .ref 902), (1, .ref r1), (2, .int x2)] [] s Q :=
  pl_wp_at (stops := [(35, [0, 1, 2, 3]), (102, [0, 1, 2]), (119, [0, 1, 2]), (140, [0, 1, 2]), (161, [0])]) (f := 13) h rfl

theorem pl_66_161 {n : Nat} {s : ps_S} {Q : Option Value → ps_S → Prop} (h :
  pl_Cl n 65 [.ref 902] s (ps_rI (fun v1 s1 =>
    pl_nk (decide (v1 &&& 1 = v1)) (Q (some (.int v1)) s1)))) : pl_At (n + 1) 66 161 [(0, .ref 902)] [] s Q :=
  pl_wp_at (stops := [(35, [0, 1, 2, 3]), (102, [0, 1, 2]), (119, [0, 1, 2]), (140, [0, 1, 2]), (161, [0])]) (f := 5) h rfl

-- ProofBench$Reader.takeAxiomName(LProofBench$Step;)Z
theorem pl_67_0 {n : Nat} {r1 : Nat} {s : ps_S} {Q : Option Value → ps_S → Prop} (h :
  ((ps_i s 903 4) = 2 →
    pl_Cl n 129 [.ref (ps_r s 902 5), .long (ps_j s 903 8)] s (ps_rI (fun v1 s1 =>
      pl_nk (ps_is r1 8) (pl_nk (ps_is r1 8) (((ps_i (ps_ui s1 r1 2 v1) r1 2) ≠ (-1) →
        pl_Cl n 140 [.ref 903] (ps_ui s1 r1 2 v1) (ps_rV (fun s2 =>
          Q (some (.int 1)) s2))) ∧
      ((ps_i (ps_ui s1 r1 2 v1) r1 2) = (-1) →
        pl_Cl n 62 [.ref 902, .int 6] (ps_ui s1 r1 2 v1) (ps_rI (fun v3 s3 =>
          pl_nk (decide (v3 &&& 1 = v3)) (Q (some (.int v3)) s3))))))))) ∧
  ((ps_i s 903 4) ≠ 2 →
    pl_Cl n 62 [.ref 902, .int 2] s (ps_rI (fun v4 s4 =>
      pl_nk (decide (v4 &&& 1 = v4)) (Q (some (.int v4)) s4))))) : pl_At (n + 1) 67 0 [(0, .ref 902), (1, .ref r1)] [] s Q :=
  pl_wp_at (stops := []) (f := 32) h rfl

-- ProofBench$Reader.takeX(LProofBench$Step;)Z
theorem pl_68_0 {n : Nat} {r1 : Nat} {s : ps_S} {Q : Option Value → ps_S → Prop} (h :
  pl_Cl n 77 [.ref 902] s (ps_rI (fun v1 s1 =>
    (v1 ≠ 0 →
      pl_Cl n 79 [.ref 902] s1 (ps_rI (fun v2 s2 =>
        pl_nk (ps_is r1 8) (pl_nk (ps_is r1 8) (((ps_i (ps_ui s2 r1 3 v2) r1 3) ≠ (-1) →
          pl_Cl n 140 [.ref 903] (ps_ui s2 r1 3 v2) (ps_rV (fun s3 =>
            Q (some (.int 1)) s3))) ∧
        ((ps_i (ps_ui s2 r1 3 v2) r1 3) = (-1) →
          pl_Cl n 62 [.ref 902, .int 2] (ps_ui s2 r1 3 v2) (ps_rI (fun v4 s4 =>
            pl_nk (decide (v4 &&& 1 = v4)) (Q (some (.int v4)) s4))))))))) ∧
    (v1 = 0 →
      pl_Cl n 62 [.ref 902, .int 2] s1 (ps_rI (fun v5 s5 =>
        pl_nk (decide (v5 &&& 1 = v5)) (Q (some (.int v5)) s5))))))) : pl_At (n + 1) 68 0 [(0, .ref 902), (1, .ref r1)] [] s Q :=
  pl_wp_at (stops := []) (f := 26) h rfl

-- ProofBench$Step.isRule(I)Z
theorem pl_114_0 {n : Nat} {x0 : Int32} {s : ps_S} {Q : Option Value → ps_S → Prop} (h :
  (x0 = 6 →
    Q (some (.int 1)) s) ∧
  (x0 ≠ 6 →
    (x0 < 10 →
      Q (some (.int 0)) s) ∧
    (10 ≤ x0 →
      (27 < x0 →
        Q (some (.int 0)) s) ∧
      (x0 ≤ 27 →
        Q (some (.int 1)) s)))) : pl_At (n + 1) 114 0 [(0, .int x0)] [] s Q :=
  pl_wp_at (stops := []) (f := 21) h rfl

-- ProofBench$Step.hasX(I)Z
theorem pl_117_0 {n : Nat} {x0 : Int32} {s : ps_S} {Q : Option Value → ps_S → Prop} (h :
  (x0 = 21 →
    Q (some (.int 1)) s) ∧
  (x0 ≠ 21 →
    (x0 ≠ 24 →
      Q (some (.int 0)) s) ∧
    (x0 = 24 →
      Q (some (.int 1)) s))) : pl_At (n + 1) 117 0 [(0, .int x0)] [] s Q :=
  pl_wp_at (stops := []) (f := 16) h rfl

-- ProofBench$Step.hasTerm(I)Z
theorem pl_118_0 {n : Nat} {x0 : Int32} {s : ps_S} {Q : Option Value → ps_S → Prop} (h :
  (x0 = 22 →
    Q (some (.int 1)) s) ∧
  (x0 ≠ 22 →
    (x0 = 23 →
      Q (some (.int 1)) s) ∧
    (x0 ≠ 23 →
      (x0 ≠ 6 →
        Q (some (.int 0)) s) ∧
      (x0 = 6 →
        Q (some (.int 1)) s)))) : pl_At (n + 1) 118 0 [(0, .int x0)] [] s Q :=
  pl_wp_at (stops := []) (f := 22) h rfl

-- ProofBench$Step.hasFormula(I)Z
theorem pl_119_0 {n : Nat} {x0 : Int32} {s : ps_S} {Q : Option Value → ps_S → Prop} (h :
  (x0 = 11 →
    Q (some (.int 1)) s) ∧
  (x0 ≠ 11 →
    (x0 = 12 →
    Q (some (.int 0)) s) ∧
  (x0 ≠ 12 →
    (x0 = 13 →
    Q (some (.int 0)) s) ∧
  (x0 ≠ 13 →
    (x0 = 14 →
    Q (some (.int 0)) s) ∧
  (x0 ≠ 14 →
    (x0 = 15 →
    Q (some (.int 0)) s) ∧
  (x0 ≠ 15 →
    (x0 = 16 →
    Q (some (.int 1)) s) ∧
  (x0 ≠ 16 →
    (x0 = 17 →
    Q (some (.int 1)) s) ∧
  (x0 ≠ 17 →
    (x0 = 18 →
    Q (some (.int 0)) s) ∧
  (x0 ≠ 18 →
    (x0 = 19 →
    Q (some (.int 0)) s) ∧
  (x0 ≠ 19 →
    (x0 = 20 →
    Q (some (.int 1)) s) ∧
  (x0 ≠ 20 →
    (x0 = 21 →
    Q (some (.int 0)) s) ∧
  (x0 ≠ 21 →
    (x0 = 22 →
    Q (some (.int 0)) s) ∧
  (x0 ≠ 22 →
    (x0 = 23 →
    Q (some (.int 1)) s) ∧
  (x0 ≠ 23 →
    (x0 = 24 →
    Q (some (.int 0)) s) ∧
  (x0 ≠ 24 →
    (x0 = 25 →
    Q (some (.int 1)) s) ∧
  (x0 ≠ 25 →
    (x0 = 26 →
    Q (some (.int 1)) s) ∧
  (x0 ≠ 26 →
    (x0 = 27 →
    Q (some (.int 1)) s) ∧
  (x0 ≠ 27 →
    Q (some (.int 0)) s)))))))))))))))))) : pl_At (n + 1) 119 0 [(0, .int x0)] [] s Q :=
  pl_wp_at (stops := []) (f := 40) h rfl

-- ProofBench$Step.begin(I)V
theorem pl_120_0 {n : Nat} {r0 : Nat} {x1 : Int32} {s : ps_S} {Q : Option Value → ps_S → Prop} (h :
  pl_nk (ps_is r0 8) (pl_nk (ps_is r0 8) (pl_nk (ps_is r0 8) (pl_nk (ps_is r0 8) (pl_Cl n 91 [.ref (ps_c0 r0 4)] (ps_ui (ps_ui (ps_ui s r0 0 x1) r0 2 (-1)) r0 3 (-1)) (ps_rV (fun s1 =>
    pl_nk (ps_is r0 8) (pl_Cl n 91 [.ref (ps_c0 r0 5)] s1 (ps_rV (fun s2 =>
      pl_nk (ps_is r0 8) (pl_Cl n 91 [.ref (ps_c0 r0 6)] s2 (ps_rV (fun s3 =>
        pl_nk (ps_is r0 8) (pl_nk (ps_is r0 8) (pl_nk (ps_is r0 8) (pl_nk (ps_is r0 8) (pl_nk (ps_is r0 8) (Q none (ps_uj (ps_ui (ps_ui (ps_ui (ps_ui s3 r0 8 0) r0 9 0) r0 10 0) r0 11 0) r0 12 0))))))))))))))))))) : pl_At (n + 1) 120 0 [(0, .ref r0), (1, .int x1)] [] s Q :=
  pl_wp_at (stops := []) (f := 36) h rfl

/-- phase (0 a step begins, 5 to 7 its numbers, 8 an axiom's name or an X, 9 its term, 10 its formula, 11 its sign, 3 done, 4 a fault), steps so far and the one at hand, free names, place, the fault's kind -/
abbrev pv_C : Type := Nat × (List tp_P × tp_P) × List (List Nat) × Nat × Nat
def pv_set (c : tp_P) (j v : Nat) : tp_P := if j = 0 then ((c.1.1, v, c.1.2.2.1, c.1.2.2.2), c.2) else if j = 1 then ((c.1.1, c.1.2.1, v, c.1.2.2.2), c.2) else ((c.1.1, c.1.2.1, c.1.2.2.1, v), c.2)
section PVM
variable (T : Nat → Nat) (N : Nat) (h : tx_H)
def pv_0 (P : List tp_P) (c : tp_P) (fr : List (List Nat)) (p : Nat) : pv_C :=
  if (tx_tok T N p).1 = 0 then (3, (P, c), fr, p, 0)
  else if (tx_tok T N p).1 = 3 ∧ tp_ok (tx_tok T N p).2.2.2.2 ∧ P.length < 40 then (5, (P, (((tx_tok T N p).2.2.2.2, 0, 0, 0), (0, 0), [], [])), fr, (tx_tok T N p).2.2.1, 0)
  else (4, (P, c), fr, (tx_tok T N p).2.1, tx_bk (tx_tok T N p))
def pv_5 (j : Nat) (P : List tp_P) (c : tp_P) (fr : List (List Nat)) (p : Nat) : pv_C :=
  if j < tp_nn c.1.1 then (if (tx_tok T N p).1 = 4 then (6 + j, (P, pv_set c j (tx_tok T N p).2.2.2.2), fr, (tx_tok T N p).2.2.1, 0) else (4, (P, c), fr, (tx_tok T N p).2.1, tx_bk (tx_tok T N p)))
  else (8, (P, c), fr, p, 0)
def pv_8 (P : List tp_P) (c : tp_P) (fr : List (List Nat)) (p : Nat) : pv_C :=
  if c.1.1 = 10 then (if (tx_tok T N p).1 = 2 then (match tx_at (tx_A h) (tx_tok T N p).2.2.2.1 with
      | some a => (9, (P, (c.1, (a, c.2.1.2), c.2.2)), fr, (tx_tok T N p).2.2.1, 0)
      | none => (4, (P, c), fr, (tx_tok T N p).2.1, 6)) else (4, (P, c), fr, (tx_tok T N p).2.1, tx_bk (tx_tok T N p)))
  else if tp_hx c.1.1 then (if (tx_tok T N p).1 = 2 ∧ tx_at (h.1.1.map Prod.fst) (tx_tok T N p).2.2.2.1 = none ∧ tx_at (h.1.2.map Prod.fst) (tx_tok T N p).2.2.2.1 = none then (match tx_fi fr (tx_tok T N p).2.2.2.1 with
      | some q => (9, (P, (c.1, (c.2.1.1, q.1), c.2.2)), q.2, (tx_tok T N p).2.2.1, 0)
      | none => (4, (P, c), fr, (tx_tok T N p).2.1, 2)) else (4, (P, c), fr, (tx_tok T N p).2.1, tx_bk (tx_tok T N p)))
  else (9, (P, c), fr, p, 0)
noncomputable def pv_9 (P : List tp_P) (c : tp_P) (fr : List (List Nat)) (p : Nat) : pv_C :=
  if tp_ht c.1.1 then (match gt_end (tx_st T N (h.1, false)) (0, [], p, [], fr, 0) with
      | (4, _, q, _, _, k) => (4, (P, c), fr, q, k)
      | (_, _, q, l, fr2, _) => (10, (P, (c.1, c.2.1, l, c.2.2.2)), fr2, q, 0))
  else (10, (P, c), fr, p, 0)
noncomputable def pv_10 (P : List tp_P) (c : tp_P) (fr : List (List Nat)) (p : Nat) : pv_C :=
  if tp_hf c.1.1 then (match gt_end (tx_st T N (h.1, false)) (1, [], p, [], fr, 0) with
      | (4, _, q, _, _, k) => (4, (P, c), fr, q, k)
      | (_, _, q, l, fr2, _) => (11, (P, (c.1, c.2.1, c.2.2.1, l)), fr2, q, 0))
  else (11, (P, c), fr, p, 0)
def pv_11 (P : List tp_P) (c : tp_P) (fr : List (List Nat)) (p : Nat) : pv_C :=
  if (tx_tok T N p).1 = 5 then (0, (P ++ [c], c), fr, (tx_tok T N p).2.2.1, 0) else (4, (P, c), fr, (tx_tok T N p).2.1, tx_bk (tx_tok T N p))
noncomputable def pv_st (x : pv_C) : pv_C :=
  if x.1 = 0 then pv_0 T N x.2.1.1 x.2.1.2 x.2.2.1 x.2.2.2.1
  else if x.1 = 5 then pv_5 T N 0 x.2.1.1 x.2.1.2 x.2.2.1 x.2.2.2.1
  else if x.1 = 6 then pv_5 T N 1 x.2.1.1 x.2.1.2 x.2.2.1 x.2.2.2.1
  else if x.1 = 7 then pv_5 T N 2 x.2.1.1 x.2.1.2 x.2.2.1 x.2.2.2.1
  else if x.1 = 8 then pv_8 T N h x.2.1.1 x.2.1.2 x.2.2.1 x.2.2.2.1
  else if x.1 = 9 then pv_9 T N h x.2.1.1 x.2.1.2 x.2.2.1 x.2.2.2.1
  else if x.1 = 10 then pv_10 T N h x.2.1.1 x.2.1.2 x.2.2.1 x.2.2.2.1
  else if x.1 = 11 then pv_11 T N x.2.1.1 x.2.1.2 x.2.2.1 x.2.2.2.1
  else x
end PVM
section PVS
variable {T : Nat → Nat} {N : Nat} {h : tx_H} {P : List tp_P} {c : tp_P} {fr : List (List Nat)} {p k : Nat}
theorem pv_st_0 : pv_st T N h (0, (P, c), fr, p, k) = pv_0 T N P c fr p := rfl
theorem pv_st_5 : pv_st T N h (5, (P, c), fr, p, k) = pv_5 T N 0 P c fr p := rfl
theorem pv_st_6 : pv_st T N h (6, (P, c), fr, p, k) = pv_5 T N 1 P c fr p := rfl
theorem pv_st_7 : pv_st T N h (7, (P, c), fr, p, k) = pv_5 T N 2 P c fr p := rfl
theorem pv_st_8 : pv_st T N h (8, (P, c), fr, p, k) = pv_8 T N h P c fr p := rfl
theorem pv_st_9 : pv_st T N h (9, (P, c), fr, p, k) = pv_9 T N h P c fr p := rfl
theorem pv_st_10 : pv_st T N h (10, (P, c), fr, p, k) = pv_10 T N h P c fr p := rfl
theorem pv_st_11 : pv_st T N h (11, (P, c), fr, p, k) = pv_11 T N P c fr p := rfl
theorem pv_st_3 : pv_st T N h (3, (P, c), fr, p, k) = (3, (P, c), fr, p, k) := rfl
theorem pv_st_4 : pv_st T N h (4, (P, c), fr, p, k) = (4, (P, c), fr, p, k) := rfl
theorem pv_st_j {j : Nat} (hj : j < 3) : pv_st T N h (5 + j, (P, c), fr, p, k) = pv_5 T N j P c fr p := by
  rcases (show j = 0 ∨ j = 1 ∨ j = 2 by omega) with rfl | rfl | rfl
  · exact pv_st_5
  · exact pv_st_6
  · exact pv_st_7
theorem pv_to8 {j : Nat} (hj : j ≤ 3) (e : j = tp_nn c.1.1) : gt_go (pv_st T N h) (5 + j, (P, c), fr, p, 0) (8, (P, c), fr, p, 0) := by
  by_cases h3 : j = 3
  · rw [h3]
    exact gt_refl
  · refine gt_one ?_
    rw [pv_st_j (by omega)]
    unfold pv_5
    rw [if_neg (by omega)]
theorem pv_num {j : Nat} (hj : j < tp_nn c.1.1) (h3 : j < 3) (e : (tx_tok T N p).1 = 4) : gt_go (pv_st T N h) (5 + j, (P, c), fr, p, 0) (5 + (j + 1), (P, pv_set c j (tx_tok T N p).2.2.2.2), fr, (tx_tok T N p).2.2.1, 0) := by
  refine gt_one ?_
  rw [pv_st_j h3]
  unfold pv_5
  rw [if_pos hj, if_pos e, show 6 + j = 5 + (j + 1) by omega]
theorem pv_nno {j : Nat} (hj : j < tp_nn c.1.1) (h3 : j < 3) (e : (tx_tok T N p).1 ≠ 4) : gt_go (pv_st T N h) (5 + j, (P, c), fr, p, 0) (4, (P, c), fr, (tx_tok T N p).2.1, tx_bk (tx_tok T N p)) := by
  refine gt_one ?_
  rw [pv_st_j h3]
  unfold pv_5
  rw [if_pos hj, if_neg e]
end PVS
theorem pv_set_r {c : tp_P} {j v : Nat} : (pv_set c j v).1.1 = c.1.1 ∧ (pv_set c j v).2 = c.2 := by
  unfold pv_set
  split
  · exact ⟨rfl, rfl⟩
  · split
    · exact ⟨rfl, rfl⟩
    · exact ⟨rfl, rfl⟩
theorem pv_set_k {c : tp_P} {j v m : Nat} (hj : j < 3) (hm : m < 3) : pr_k (pv_set c j v) m = if m = j then v else pr_k c m := by
  rcases (show j = 0 ∨ j = 1 ∨ j = 2 by omega) with rfl | rfl | rfl <;> rcases (show m = 0 ∨ m = 1 ∨ m = 2 by omega) with rfl | rfl | rfl <;> rfl
theorem tp_nn_3 {r : Nat} : tp_nn r ≤ 3 := by
  unfold tp_nn
  split
  · omega
  · split
    · omega
    · split <;> omega
/-! the class between two tokens -/
def pv_L (s : ps_S) (th : Nat) (T : Nat → Nat) (N : Nat) (fr : List (List Nat)) (q : Nat) : Prop := ps_r s 902 5 = th ∧ cv_T s T N ∧ q ≤ N ∧ cv_K s (tx_tok T N q) ∧ cv_P s fr ∧ (ps_i s 902 4).toInt = 0 ∧ (ps_i s 902 8).toInt = 0 ∧ (ps_i s 902 9).toInt = 0 ∧ (ps_i s 902 10).toInt = -1
theorem pv_L_adv {s s' : ps_S} {th : Nat} {T : Nat → Nat} {N p q : Nat} {fr : List (List Nat)} (L : pv_L s th T N fr p) (hq : q ≤ N) (A : cv_A T N q s s') : pv_L s' th T N fr q := by
  obtain ⟨l1, l2, -, -, l5, l6, l7, l8, l9⟩ := L
  have F := cfr_fl A.1
  have e := F 902 (by decide)
  refine ⟨by rw [e.2.2.1]; exact l1, cv_T_fl l2 A.1, hq, A.2, ?_, by rw [e.1]; exact l6, by rw [e.1]; exact l7, by rw [e.1]; exact l8, by rw [e.1]; exact l9⟩
  unfold cv_P at *
  rw [e.1, (F 906 (by decide)).2.2.2.2]
  exact l5
theorem pv_L_cfr {C : Nat → Prop} {s s' : ps_S} {th : Nat} {T : Nat → Nat} {N q : Nat} {fr : List (List Nat)} (L : pv_L s th T N fr q) (F : cfr C s s') (h1 : ¬ C 1) (h2 : ¬ C 902) (h3 : ¬ C 903) (h4 : ¬ C 904) (h6 : ¬ C 906) : pv_L s' th T N fr q := by
  obtain ⟨l1, l2, l3, l4, l5, l6, l7, l8, l9⟩ := L
  have e := F 902 h2
  have e3 := F 903 h3
  refine ⟨by rw [e.2.2.1]; exact l1, cv_T_cfr l2 F (e3.2.2.1 1) (e3.1 2) h1 h4, l3, ?_, ?_, by rw [e.1]; exact l6, by rw [e.1]; exact l7, by rw [e.1]; exact l8, by rw [e.1]; exact l9⟩
  · unfold cv_K at *
    rw [e3.1, e3.1, e3.1, e3.1, e3.1, e3.2.1]
    exact l4
  · unfold cv_P at *
    rw [e.1, (F 906 h6).2.2.2.2]
    exact l5
/-- nothing is assumed yet -/
def cpZ (s : ps_S) (t : Nat) : Prop := (ps_i s t 8).toInt = 0 ∧ ps_i s t 9 = 0 ∧ ps_i s t 10 = 0 ∧ ps_i s t 11 = 0
theorem cpZ_eq {s s' : ps_S} {t : Nat} (Z : cpZ s t) (e : ∀ f, 8 ≤ f → ps_i s' t f = ps_i s t f) : cpZ s' t := by
  obtain ⟨z1, z2, z3, z4⟩ := Z
  exact ⟨by rw [e 8 (by decide)]; exact z1, by rw [e 9 (by decide)]; exact z2, by rw [e 10 (by decide)]; exact z3, by rw [e 11 (by decide)]; exact z4⟩
theorem cpZ_cfr {C : Nat → Prop} {s s' : ps_S} {t : Nat} (Z : cpZ s t) (F : cfr C s s') (h : ¬ C t) : cpZ s' t := cpZ_eq Z (fun f _ => (F t h).1 f)
def pv_g6 (h : tx_H) (c : tp_P) : Prop := (tp_ok c.1.1 ∧ c.1.2.1 < 10000 ∧ c.1.2.2.1 < 10000 ∧ c.1.2.2.2 < 10000) ∧ (tp_hx c.1.1 → c.2.1.2 < 12) ∧ (c.1.1 = 10 → c.2.1.1 < h.2.length)
def cq5 (h : tx_H) (s : ps_S) (t : Nat) (c : tp_P) : Prop := (cpN s t c ∧ cpZ s t) ∧ tp_ok c.1.1 ∧ c.1.2.1 < 10000 ∧ c.1.2.2.1 < 10000 ∧ c.1.2.2.2 < 10000
def cq6 (h : tx_H) (s : ps_S) (t : Nat) (c : tp_P) : Prop := (cpN s t c ∧ cpZ s t ∧ (c.1.1 = 10 → (ps_i s t 2).toInt = c.2.1.1) ∧ (tp_hx c.1.1 → (ps_i s t 3).toInt = (60 + c.2.1.2 : Nat))) ∧ pv_g6 h c
def cq7 (h : tx_H) (s : ps_S) (t : Nat) (c : tp_P) : Prop := cq6 h s t c ∧ (tp_ht c.1.1 → cv_W s (t + 2) c.2.2.1 ∧ ws (sg h.1) c.2.2.1 [false] ∧ c.2.2.1.length ≤ 40)
def cq8 (h : tx_H) (s : ps_S) (t : Nat) (c : tp_P) : Prop := cq7 h s t c ∧ (tp_hf c.1.1 → cv_W s (t + 4) c.2.2.2 ∧ ws (sg h.1) c.2.2.2 [true] ∧ c.2.2.2.length ≤ 40)
theorem cpN_cfr {C : Nat → Prop} {s s' : ps_S} {t : Nat} {c : tp_P} (M : cpN s t c) (F : cfr C s s') (h0 : ¬ C t) (h1 : ¬ C (t + 1)) : cpN s' t c := cpN_eq M ((F t h0).1 0) (F (t + 1) h1).2.2.2.1
theorem cq6_cfr {C : Nat → Prop} {h : tx_H} {s s' : ps_S} {t : Nat} {c : tp_P} (M : cq6 h s t c) (F : cfr C s s') (h0 : ¬ C t) (h1 : ¬ C (t + 1)) : cq6 h s' t c := by
  obtain ⟨⟨m1, mz, m2, m3⟩, m4⟩ := M
  exact ⟨⟨cpN_cfr m1 F h0 h1, cpZ_cfr mz F h0, fun z => by rw [(F t h0).1]; exact m2 z, fun z => by rw [(F t h0).1]; exact m3 z⟩, m4⟩
theorem cq7_cfr {C : Nat → Prop} {h : tx_H} {s s' : ps_S} {t : Nat} {c : tp_P} (M : cq7 h s t c) (F : cfr C s s') (h0 : ¬ C t) (h1 : ¬ C (t + 1)) (h2 : ¬ C (t + 2)) (h3 : ¬ C (t + 2 + 1)) : cq7 h s' t c :=
  ⟨cq6_cfr M.1 F h0 h1, fun z => ⟨cv_W_cfr (M.2 z).1 F h2 h3, (M.2 z).2⟩⟩
theorem cq8_T {h : tx_H} {s : ps_S} {t : Nat} {c : tp_P} (M : cq8 h s t c) : cpT s t c ∧ tp_G h.1 h.2.length c ∧ cpZ s t := by
  obtain ⟨⟨⟨⟨⟨n0, n1, n2, n3⟩, mz, m2, m3⟩, ⟨g0, g1, g2, g3⟩, g4, g5⟩, m7⟩, m8⟩ := M
  exact ⟨⟨n0, n1, n2, n3, m2, m3, fun z => (m7 z).1, fun z => (m8 z).1⟩, ⟨g0, fun z => (m7 z).2, fun z => (m8 z).2, g4, g5, g1, g2, g3⟩, mz⟩
/-- cells that reading the i-th step may change -/
def CTS (p i q : Nat) : Prop := (stc p i ≤ q ∧ q ≤ stc p i + 8) ∨ q = 902 ∨ q = 903 ∨ q = 906 ∨ q = 907
theorem CTS_50 {p i r : Nat} (hp : p = 50 ∨ p = 460) (h : CTS p i r) : 94 ≤ r := by
  unfold CTS stc at h
  omega
/-- the class as it reads a step: C0 is where the step began -/
def pv_X (T : Nat → Nat) (N : Nat) (h : tx_H) (s0 s : ps_S) (p i th : Nat) (P : List tp_P) (c : tp_P) (fr : List (List Nat)) (q ph : Nat) (C0 : pv_C) : Prop := pv_L s th T N fr q ∧ cv_H s th h ∧ gt_go (pv_st T N h) C0 (ph, (P, c), fr, q, 0) ∧ cfr (CTS p i) s0 s
def pv_ok (T : Nat → Nat) (N : Nat) (h : tx_H) (s0 s' : ps_S) (p i th : Nat) (P : List tp_P) (C0 : pv_C) : Prop := ∃ c fr q, pv_X T N h s0 s' p i th (P ++ [c]) c fr q 0 C0 ∧ cpT s' (stc p i) c ∧ tp_G h.1 h.2.length c ∧ cpZ s' (stc p i)
def pv_no (T : Nat → Nat) (N : Nat) (h : tx_H) (s0 s' : ps_S) (p i : Nat) (C0 : pv_C) : Prop := ∃ (X : List tp_P × tp_P) (fr : List (List Nat)) (pl k : Nat), gt_go (pv_st T N h) C0 (4, X, fr, pl, k) ∧ (ps_i s' 902 9).toInt = k ∧ (ps_i s' 902 10).toInt = pl ∧ cfr (CTS p i) s0 s'
section PVR
variable {T : Nat → Nat} {N : Nat} {h : tx_H} {s0 s : ps_S} {p i th : Nat} {P : List tp_P} {c : tp_P} {fr : List (List Nat)} {q : Nat} {C0 : pv_C} {R : Int32 → ps_S → Prop}
theorem pv_X_mv {C : Nat → Prop} {s' : ps_S} {c' : tp_P} {P' : List tp_P} {fr' : List (List Nat)} {q' ph ph' : Nat} (X : pv_X T N h s0 s p i th P c fr q ph C0) (hp : p = 50 ∨ p = 460) (hth : th = 2 ∨ th = 26) (F : cfr C s s') (hC : ∀ r, C r → CTS p i r) (L' : pv_L s' th T N fr' q') (g : gt_go (pv_st T N h) (ph, (P, c), fr, q, 0) (ph', (P', c'), fr', q', 0)) : pv_X T N h s0 s' p i th P' c' fr' q' ph' C0 := by
  obtain ⟨-, H, g0, F0⟩ := X
  have h8 := H.2.2.1
  exact ⟨L', cv_H_cfr H F (fun r a b z => by have := CTS_50 hp (hC r z); omega), gt_trans g0 g, cfr_tr F0 (cfr_mono F hC)⟩
theorem pv_X_no {C : Nat → Prop} {s' : ps_S} {ph k pl : Nat} {Y : List tp_P × tp_P} {fr' : List (List Nat)} (X : pv_X T N h s0 s p i th P c fr q ph C0) (F : cfr C s s') (hC : ∀ r, C r → CTS p i r) (g : gt_go (pv_st T N h) (ph, (P, c), fr, q, 0) (4, Y, fr', pl, k)) (e1 : (ps_i s' 902 9).toInt = k) (e2 : (ps_i s' 902 10).toInt = pl) : pv_no T N h s0 s' p i C0 :=
  ⟨Y, fr', pl, k, gt_trans X.2.2.1 g, e1, e2, cfr_tr X.2.2.2 (cfr_mono F hC)⟩
theorem C902_S (r : Nat) (h : (fun q => q = 902) r) : CTS p i r := Or.inr (Or.inl h)
theorem C903_S (r : Nat) (h : (fun q => q = 903) r) : CTS p i r := Or.inr (Or.inr (Or.inl h))
theorem cWr_S {m : Nat} (hm : m = 2 ∨ m = 4) (r : Nat) (h : cWr (stc p i + m) r) : CTS p i r := by
  unfold cWr at h
  unfold CTS
  omega
theorem cWr_n {m r : Nat} (hp : p = 50 ∨ p = 460) (hi : i < 40) (h1 : r < stc p i + m) (h : stc p i ≤ r) (hm : m ≤ 4) : ¬ cWr (stc p i + m) r := fun z => by
  unfold cWr stc at *
  omega
theorem pv_62 {n ph : Nat} (X : pv_X T N h s0 s p i th P c fr q ph C0) (g : gt_go (pv_st T N h) (ph, (P, c), fr, q, 0) (4, (P, c), fr, (tx_tok T N q).2.1, tx_bk (tx_tok T N q))) (k0 : ∀ s', pv_no T N h s0 s' p i C0 → R 0 s') : pl_Cl n 62 [.ref 902, .int 2] s (ps_rI (fun v s' => pl_nk (decide (v &&& 1 = v)) (R v s'))) :=
  fs_62g (K := 2) X.1.2.2.2.1 rfl (fun s1 q1 => pl_nk_i (fun _ => k0 _ (pv_X_no (Y := (P, c)) (fr' := fr) X q1.2.2 C902_S g q1.1 q1.2.1)))
theorem fs_66_161 {n : Nat} (hp : p = 50 ∨ p = 460) (hi : i < 40) (hth : th = 2 ∨ th = 26) (X : pv_X T N h s0 s p i th P c fr q 11 C0) (M : cq8 h s (stc p i) c) (k1 : ∀ s', pv_ok T N h s0 s' p i th P C0 → R 1 s') (k0 : ∀ s', pv_no T N h s0 s' p i C0 → R 0 s') : pl_At n 66 161 [(0, .ref 902)] [] s (ps_rI R) := by
  cases n with
  | zero => exact pl_At_0
  | succ n =>
  have L := X.1
  have hlt := stc_lt hp hi
  refine pl_66_161 (fs_65 L.2.1 L.2.2.1 L.2.2.2.1 (fun s1 q1 => pl_nk_i (fun _ => ?_)) (fun s1 q1 => pl_nk_i (fun _ => ?_)))
  · have F := cfr_fl q1.2.1
    have hb := (tx_tok_ok (T := T) L.2.2.1).2.1
    obtain ⟨mT, mG, mZ⟩ := cq8_T M
    refine k1 _ ⟨c, fr, _, pv_X_mv X hp hth F C903_S (pv_L_adv L hb q1.2) (gt_one ?_), cpT_cfr mT F (fun r a b => by omega), mG, cpZ_cfr mZ F (by omega)⟩
    rw [pv_st_11]
    unfold pv_11
    rw [if_pos q1.1]
  · refine k0 _ (pv_X_no (Y := (P, c)) (fr' := fr) X q1.2.2.2 C902_S (gt_one ?_) q1.2.1 q1.2.2.1)
    rw [pv_st_11]
    unfold pv_11
    rw [if_neg q1.1]
theorem fs_119 {n r : Nat} {x0 : Int32} {s : ps_S} {R : Int32 → ps_S → Prop} (hx : x0.toInt = r) (k1 : tp_hf r → R 1 s) (k0 : ¬ tp_hf r → R 0 s) : pl_Cl n 119 [.int x0] s (ps_rI R) := by
  cases n with
  | zero => exact pl_At_0
  | succ n =>
  show pl_At (n + 1) 119 0 [(0, .int x0)] [] s (ps_rI R)
  have cc : ∀ m : Nat, m < 100 → (Int32.ofNat m).toInt = m := fun m hm => Int32.toInt_ofNat_of_lt (by omega)
  refine pl_119_0 ?_
  refine ⟨fun w => ?_, fun w => ?_⟩
  · have w : x0.toInt = 11 := xeq w
    exact k1 (by unfold tp_hf; omega)
  · have w : x0.toInt ≠ 11 := xne w
    refine ⟨fun w => ?_, fun w => ?_⟩
    · have w : x0.toInt = 12 := xeq w
      exact k0 (by unfold tp_hf; omega)
    · have w : x0.toInt ≠ 12 := xne w
      refine ⟨fun w => ?_, fun w => ?_⟩
      · have w : x0.toInt = 13 := xeq w
        exact k0 (by unfold tp_hf; omega)
      · have w : x0.toInt ≠ 13 := xne w
        refine ⟨fun w => ?_, fun w => ?_⟩
        · have w : x0.toInt = 14 := xeq w
          exact k0 (by unfold tp_hf; omega)
        · have w : x0.toInt ≠ 14 := xne w
          refine ⟨fun w => ?_, fun w => ?_⟩
          · have w : x0.toInt = 15 := xeq w
            exact k0 (by unfold tp_hf; omega)
          · have w : x0.toInt ≠ 15 := xne w
            refine ⟨fun w => ?_, fun w => ?_⟩
            · have w : x0.toInt = 16 := xeq w
              exact k1 (by unfold tp_hf; omega)
            · have w : x0.toInt ≠ 16 := xne w
              refine ⟨fun w => ?_, fun w => ?_⟩
              · have w : x0.toInt = 17 := xeq w
                exact k1 (by unfold tp_hf; omega)
              · have w : x0.toInt ≠ 17 := xne w
                refine ⟨fun w => ?_, fun w => ?_⟩
                · have w : x0.toInt = 18 := xeq w
                  exact k0 (by unfold tp_hf; omega)
                · have w : x0.toInt ≠ 18 := xne w
                  refine ⟨fun w => ?_, fun w => ?_⟩
                  · have w : x0.toInt = 19 := xeq w
                    exact k0 (by unfold tp_hf; omega)
                  · have w : x0.toInt ≠ 19 := xne w
                    refine ⟨fun w => ?_, fun w => ?_⟩
                    · have w : x0.toInt = 20 := xeq w
                      exact k1 (by unfold tp_hf; omega)
                    · have w : x0.toInt ≠ 20 := xne w
                      refine ⟨fun w => ?_, fun w => ?_⟩
                      · have w : x0.toInt = 21 := xeq w
                        exact k0 (by unfold tp_hf; omega)
                      · have w : x0.toInt ≠ 21 := xne w
                        refine ⟨fun w => ?_, fun w => ?_⟩
                        · have w : x0.toInt = 22 := xeq w
                          exact k0 (by unfold tp_hf; omega)
                        · have w : x0.toInt ≠ 22 := xne w
                          refine ⟨fun w => ?_, fun w => ?_⟩
                          · have w : x0.toInt = 23 := xeq w
                            exact k1 (by unfold tp_hf; omega)
                          · have w : x0.toInt ≠ 23 := xne w
                            refine ⟨fun w => ?_, fun w => ?_⟩
                            · have w : x0.toInt = 24 := xeq w
                              exact k0 (by unfold tp_hf; omega)
                            · have w : x0.toInt ≠ 24 := xne w
                              refine ⟨fun w => ?_, fun w => ?_⟩
                              · have w : x0.toInt = 25 := xeq w
                                exact k1 (by unfold tp_hf; omega)
                              · have w : x0.toInt ≠ 25 := xne w
                                refine ⟨fun w => ?_, fun w => ?_⟩
                                · have w : x0.toInt = 26 := xeq w
                                  exact k1 (by unfold tp_hf; omega)
                                · have w : x0.toInt ≠ 26 := xne w
                                  refine ⟨fun w => ?_, fun w => ?_⟩
                                  · have w : x0.toInt = 27 := xeq w
                                    exact k1 (by unfold tp_hf; omega)
                                  · have w : x0.toInt ≠ 27 := xne w
                                    exact k0 (by unfold tp_hf; omega)

theorem fs_118 {n r : Nat} {x0 : Int32} {s : ps_S} {R : Int32 → ps_S → Prop} (hx : x0.toInt = r) (k1 : tp_ht r → R 1 s) (k0 : ¬ tp_ht r → R 0 s) : pl_Cl n 118 [.int x0] s (ps_rI R) := by
  cases n with
  | zero => exact pl_At_0
  | succ n =>
  show pl_At (n + 1) 118 0 [(0, .int x0)] [] s (ps_rI R)
  refine pl_118_0 ⟨fun w => ?_, fun w => ⟨fun w1 => ?_, fun w1 => ⟨fun w2 => ?_, fun w2 => ?_⟩⟩⟩
  · have w : x0.toInt = 22 := xeq w
    exact k1 (by unfold tp_ht; omega)
  · have w1 : x0.toInt = 23 := xeq w1
    exact k1 (by unfold tp_ht; omega)
  · have w : x0.toInt ≠ 22 := xne w
    have w1 : x0.toInt ≠ 23 := xne w1
    have w2 : x0.toInt ≠ 6 := xne w2
    exact k0 (by unfold tp_ht; omega)
  · have w2 : x0.toInt = 6 := xeq w2
    exact k1 (by unfold tp_ht; omega)
theorem fs_117 {n r : Nat} {x0 : Int32} {s : ps_S} {R : Int32 → ps_S → Prop} (hx : x0.toInt = r) (k1 : tp_hx r → R 1 s) (k0 : ¬ tp_hx r → R 0 s) : pl_Cl n 117 [.int x0] s (ps_rI R) := by
  cases n with
  | zero => exact pl_At_0
  | succ n =>
  show pl_At (n + 1) 117 0 [(0, .int x0)] [] s (ps_rI R)
  refine pl_117_0 ⟨fun w => ?_, fun w => ⟨fun w1 => ?_, fun w1 => ?_⟩⟩
  · have w : x0.toInt = 21 := xeq w
    exact k1 (by unfold tp_hx; omega)
  · have w : x0.toInt ≠ 21 := xne w
    have w1 : x0.toInt ≠ 24 := xne w1
    exact k0 (by unfold tp_hx; omega)
  · have w1 : x0.toInt = 24 := xeq w1
    exact k1 (by unfold tp_hx; omega)
theorem fs_114 {n : Nat} {x0 : Int32} {s : ps_S} {R : Int32 → ps_S → Prop} (k1 : (x0.toInt = 6 ∨ (10 ≤ x0.toInt ∧ x0.toInt ≤ 27)) → R 1 s) (k0 : ¬ (x0.toInt = 6 ∨ (10 ≤ x0.toInt ∧ x0.toInt ≤ 27)) → R 0 s) : pl_Cl n 114 [.int x0] s (ps_rI R) := by
  cases n with
  | zero => exact pl_At_0
  | succ n =>
  show pl_At (n + 1) 114 0 [(0, .int x0)] [] s (ps_rI R)
  refine pl_114_0 ⟨fun w => ?_, fun w => ⟨fun w1 => ?_, fun w1 => ⟨fun w2 => ?_, fun w2 => ?_⟩⟩⟩
  · have w : x0.toInt = 6 := xeq w
    exact k1 (by omega)
  · have w : x0.toInt ≠ 6 := xne w
    have w1 : x0.toInt < 10 := xlt w1
    exact k0 (by omega)
  · have w : x0.toInt ≠ 6 := xne w
    have w2 : 27 < x0.toInt := xlt w2
    exact k0 (by omega)
  · have w1 : 10 ≤ x0.toInt := xle w1
    have w2 : x0.toInt ≤ 27 := xle w2
    exact k1 (by omega)
/-- a term, a formula read into a row of the step -/
theorem pv_L_69 {r : Nat} {s1 : ps_S} {fr' : List (List Nat)} {p' : Nat} {l' : List Nat} (g2 : cv_S th r s1 T N (h.1, false)) (g3 : cv_C r s1 T N [] p' l' fr') : pv_L s1 th T N fr' p' :=
  ⟨g2.2.2.1, g2.2.2.2.2.2.1, g3.1, g3.2.2.1, g3.2.2.2.2.1, g3.2.2.2.2.2.1.1, g2.2.2.2.2.1, g3.2.2.2.2.2.2.2.1, g3.2.2.2.2.2.2.2.2⟩
theorem gt_end_2 {E : tx_E} {ph : Nat} {p' : Nat} {l' : List Nat} {fr' : List (List Nat)} (g1 : gt_go (tx_st T N E) (ph, [], q, [], fr, 0) (2, [], p', l', fr', 0)) : gt_end (tx_st T N E) (ph, [], q, [], fr, 0) = (3, [], p', l', fr', 0) :=
  gt_end_is (gt_trans g1 (gt_one rfl)) rfl
theorem fs_66_140 {n : Nat} {x2 : Int32} (hp : p = 50 ∨ p = 460) (hi : i < 40) (hth : th = 2 ∨ th = 26) (hF : h.1.2.length ≤ 4) (hx2 : x2.toInt = c.1.1) (X : pv_X T N h s0 s p i th P c fr q 10 C0) (M : cq7 h s (stc p i) c) (k1 : ∀ s', pv_ok T N h s0 s' p i th P C0 → R 1 s') (k0 : ∀ s', pv_no T N h s0 s' p i C0 → R 0 s') : pl_At n 66 140 [(0, .ref 902), (1, .ref (stc p i)), (2, .int x2)] [] s (ps_rI R) := by
  cases n with
  | zero => exact pl_At_0
  | succ n =>
  have hlt := stc_lt hp hi
  refine pl_66_140 (fs_119 hx2 (fun hf => ⟨fun w => absurd w (by decide), fun _ => pl_nk_i (fun _ => ?_)⟩) (fun hf => ⟨fun _ => ?_, fun w => absurd rfl w⟩))
  · obtain ⟨l1, l2, l3, l4, l5, l6, l7, l8, l9⟩ := X.1
    rw [(stc_c hp hi).2.2.1]
    refine fs_69 (th := th) (r := stc p i + 4) (ph := 1) (E := (h.1, false)) (p := q) (fr := fr) (Or.inl ⟨rfl, rfl⟩) hth (stc_row hp hi).2.1 l1 l7 l2 X.2.1.1 l3 l4 l5 l6 ⟨l8, l9⟩ (fun s1 q1 => ⟨fun _ => ?_, fun w => absurd w (by decide)⟩) (fun s1 q1 => ⟨fun w => absurd rfl w, fun _ => ?_⟩)
    · obtain ⟨p', l', fr', g1, g2, g3, F⟩ := q1
      have hw := (tx_WQ_end (g := h.1) hF (Or.inr rfl) l5.2.1 g1).1
      have hW := g3.2.2.2.1
      have F' : ∀ r, cWr (stc p i + 4) r → CTS p i r := cWr_S (Or.inr rfl)
      have M' := cq7_cfr M F (cWr_n hp hi (by omega) (by omega) (by decide)) (cWr_n hp hi (by omega) (by omega) (by decide)) (cWr_n hp hi (by omega) (by omega) (by decide)) (cWr_n hp hi (by omega) (by omega) (by decide))
      refine fs_66_161 hp hi hth (pv_X_mv (c' := (c.1, c.2.1, c.2.2.1, l')) X hp hth F F' (pv_L_69 g2 g3) (gt_one ?_)) ⟨M', fun _ => ⟨hW, hw, hW.2.2.1⟩⟩ k1 k0
      rw [pv_st_10]
      unfold pv_10
      rw [if_pos hf, gt_end_2 g1]
      try rfl
    · obtain ⟨S', pl, l', fr', k, g1, e1, e2, F⟩ := q1
      refine k0 _ (pv_X_no (Y := (P, c)) (fr' := fr) X F (cWr_S (Or.inr rfl)) (gt_one ?_) e1 e2)
      rw [pv_st_10]
      unfold pv_10
      rw [if_pos hf, gt_end_is g1 rfl]
      try rfl
  · refine fs_66_161 hp hi hth (pv_X_mv X hp hth (cfr_refl (C := fun _ => False)) (fun r z => z.elim) X.1 (gt_one ?_)) ⟨M, fun z => absurd z hf⟩ k1 k0
    rw [pv_st_10]
    unfold pv_10
    rw [if_neg hf]
theorem fs_66_119 {n : Nat} {x2 : Int32} (hp : p = 50 ∨ p = 460) (hi : i < 40) (hth : th = 2 ∨ th = 26) (hF : h.1.2.length ≤ 4) (hx2 : x2.toInt = c.1.1) (X : pv_X T N h s0 s p i th P c fr q 9 C0) (M : cq6 h s (stc p i) c) (k1 : ∀ s', pv_ok T N h s0 s' p i th P C0 → R 1 s') (k0 : ∀ s', pv_no T N h s0 s' p i C0 → R 0 s') : pl_At n 66 119 [(0, .ref 902), (1, .ref (stc p i)), (2, .int x2)] [] s (ps_rI R) := by
  cases n with
  | zero => exact pl_At_0
  | succ n =>
  have hlt := stc_lt hp hi
  refine pl_66_119 (fs_118 hx2 (fun hf => ⟨fun w => absurd w (by decide), fun _ => pl_nk_i (fun _ => ?_)⟩) (fun hf => ⟨fun _ => ?_, fun w => absurd rfl w⟩))
  · obtain ⟨l1, l2, l3, l4, l5, l6, l7, l8, l9⟩ := X.1
    rw [(stc_c hp hi).2.1]
    refine fs_69 (th := th) (r := stc p i + 2) (ph := 0) (E := (h.1, false)) (p := q) (fr := fr) (Or.inr ⟨by decide, rfl⟩) hth (stc_row hp hi).1 l1 l7 l2 X.2.1.1 l3 l4 l5 l6 ⟨l8, l9⟩ (fun s1 q1 => ⟨fun _ => ?_, fun w => absurd w (by decide)⟩) (fun s1 q1 => ⟨fun w => absurd rfl w, fun _ => ?_⟩)
    · obtain ⟨p', l', fr', g1, g2, g3, F⟩ := q1
      have hw := (tx_WQ_end (g := h.1) hF (Or.inl rfl) l5.2.1 g1).1
      have hW := g3.2.2.2.1
      have F' : ∀ r, cWr (stc p i + 2) r → CTS p i r := cWr_S (Or.inl rfl)
      have M' := cq6_cfr M F (cWr_n hp hi (by omega) (by omega) (by decide)) (cWr_n hp hi (by omega) (by omega) (by decide))
      refine fs_66_140 (c := (c.1, c.2.1, l', c.2.2.2)) hp hi hth hF hx2 (pv_X_mv (c' := (c.1, c.2.1, l', c.2.2.2)) X hp hth F F' (pv_L_69 g2 g3) (gt_one ?_)) ⟨M', fun _ => ⟨hW, hw, hW.2.2.1⟩⟩ k1 k0
      rw [pv_st_9]
      unfold pv_9
      rw [if_pos hf, gt_end_2 g1]
      try rfl
    · obtain ⟨S', pl, l', fr', k, g1, e1, e2, F⟩ := q1
      refine k0 _ (pv_X_no (Y := (P, c)) (fr' := fr) X F (cWr_S (Or.inl rfl)) (gt_one ?_) e1 e2)
      rw [pv_st_9]
      unfold pv_9
      rw [if_pos hf, gt_end_is g1 rfl]
      try rfl
  · refine fs_66_140 hp hi hth hF hx2 (pv_X_mv X hp hth (cfr_refl (C := fun _ => False)) (fun r z => z.elim) X.1 (gt_one ?_)) ⟨M, fun z => absurd z hf⟩ k1 k0
    rw [pv_st_9]
    unfold pv_9
    rw [if_neg hf]

end PVR
