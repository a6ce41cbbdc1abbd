set_option maxRecDepth 100000
/-! the class's reader: formulas, terms, parts, nots, what is bound: each by runs that are shorter -/
-- ProofBench$Reader.takeFormula(I)Z
theorem pl_70_0 {n : Nat} {x1 : Int32} {s : ps_S} {Q : Option Value → ps_S → Prop} (h :
  ((ps_i s 903 6) ≠ 7 →
    pl_Cl n 72 [.ref 902] s (ps_rI (fun v1 s1 =>
      pl_Cl n 184 [.int v1] s1 (ps_rI (fun v2 s2 =>
        (v2 = 0 →
          pl_At n 70 42 [(0, .ref 902), (1, .int x1), (2, .int v1)] [] s2 Q) ∧
        (v2 ≠ 0 →
          ((ps_i s2 902 4) < 5 →
            pl_At n 70 42 [(0, .ref 902), (1, .int x1), (2, .int v1)] [] s2 Q) ∧
          (5 ≤ (ps_i s2 902 4) →
            (v1 = (-1) →
              pl_At n 70 62 [(0, .ref 902)] [] s2 Q) ∧
            (v1 ≠ (-1) →
              ((1 : Int32) ≠ 0 →
                pl_At n 70 62 [(0, .ref 902)] [] s2 Q) ∧
              ((1 : Int32) = 0 →
                pl_Cl n 73 [.ref 902, .int x1, .int 1] s2 (ps_rI (fun v3 s3 =>
                  (v3 ≠ 0 →
                    pl_Cl n 93 [.ref (ps_r s3 902 6), .int v1] s3 (ps_rV (fun s4 =>
                      pl_Cl n 140 [.ref 903] s4 (ps_rV (fun s5 =>
                        pl_Cl n 184 [.int v1] s5 (ps_rI (fun v6 s6 =>
                          (v6 = 0 →
                            pl_Cl n 71 [.ref 902, .int v1, .int (x1 + 1)] s6 (ps_rI (fun v7 s7 =>
                              pl_nk (decide (v7 &&& 1 = v7)) (Q (some (.int v7)) s7)))) ∧
                          (v6 ≠ 0 →
                            pl_Cl n 75 [.ref 902, .int x1] s6 (ps_rI (fun v8 s8 =>
                              pl_nk (decide (v8 &&& 1 = v8)) (Q (some (.int v8)) s8))))))))))) ∧
                  (v3 = 0 →
                    pl_At n 70 62 [(0, .ref 902)] [] s3 Q)))))))))))) ∧
  ((ps_i s 903 6) = 7 →
    pl_Cl n 74 [.ref 902, .int x1] s (ps_rI (fun v9 s9 =>
      pl_nk (decide (v9 &&& 1 = v9)) (Q (some (.int v9)) s9))))) : pl_At (n + 1) 70 0 [(0, .ref 902), (1, .int x1)] [] s Q :=
  pl_wp_at (stops := [(42, [0, 1, 2]), (62, [0])]) (f := 55) h rfl

theorem pl_70_42 {n : Nat} {x1 : Int32} {x2 : Int32} {s : ps_S} {Q : Option Value → ps_S → Prop} (h :
  (x2 = (-1) →
    pl_At n 70 62 [(0, .ref 902)] [] s Q) ∧
  (x2 ≠ (-1) →
    ((0 : Int32) ≠ 0 →
      pl_At n 70 62 [(0, .ref 902)] [] s Q) ∧
    ((0 : Int32) = 0 →
      pl_Cl n 73 [.ref 902, .int x1, .int 1] s (ps_rI (fun v1 s1 =>
        (v1 ≠ 0 →
          pl_Cl n 93 [.ref (ps_r s1 902 6), .int x2] s1 (ps_rV (fun s2 =>
            pl_Cl n 140 [.ref 903] s2 (ps_rV (fun s3 =>
              pl_Cl n 184 [.int x2] s3 (ps_rI (fun v4 s4 =>
                (v4 = 0 →
                  pl_Cl n 71 [.ref 902, .int x2, .int (x1 + 1)] s4 (ps_rI (fun v5 s5 =>
                    pl_nk (decide (v5 &&& 1 = v5)) (Q (some (.int v5)) s5)))) ∧
                (v4 ≠ 0 →
                  pl_Cl n 75 [.ref 902, .int x1] s4 (ps_rI (fun v6 s6 =>
                    pl_nk (decide (v6 &&& 1 = v6)) (Q (some (.int v6)) s6))))))))))) ∧
        (v1 = 0 →
          pl_At n 70 62 [(0, .ref 902)] [] s1 Q)))))) : pl_At (n + 1) 70 42 [(0, .ref 902), (1, .int x1), (2, .int x2)] [] s Q :=
  pl_wp_at (stops := [(42, [0, 1, 2]), (62, [0])]) (f := 35) h rfl

theorem pl_70_62 {n : Nat} {s : ps_S} {Q : Option Value → ps_S → Prop} (h :
  pl_Cl n 62 [.ref 902, .int 2] s (ps_rI (fun v1 s1 =>
    pl_nk (decide (v1 &&& 1 = v1)) (Q (some (.int v1)) s1)))) : pl_At (n + 1) 70 62 [(0, .ref 902)] [] s Q :=
  pl_wp_at (stops := [(42, [0, 1, 2]), (62, [0])]) (f := 6) h rfl

-- ProofBench$Reader.takeParts(II)Z
theorem pl_71_0 {n : Nat} {x1 : Int32} {x2 : Int32} {s : ps_S} {Q : Option Value → ps_S → Prop} (h :
  pl_Cl n 136 [.ref (ps_r s 902 5), .int x1] s (ps_rI (fun v1 s1 =>
    pl_At n 71 9 [(0, .ref 902), (1, .int x1), (2, .int x2), (3, .int v1)] [] s1 Q))) : pl_At (n + 1) 71 0 [(0, .ref 902), (1, .int x1), (2, .int x2)] [] s Q :=
  pl_wp_at (stops := [(9, [0, 1, 2, 3])]) (f := 7) h rfl

theorem pl_71_9 {n : Nat} {x1 : Int32} {x2 : Int32} {x3 : Int32} {s : ps_S} {Q : Option Value → ps_S → Prop} (h :
  (x3 ≤ 0 →
    Q (some (.int 1)) s) ∧
  (0 < x3 →
    (x1 < 6 →
      pl_Cl n 70 [.ref 902, .int x2] s (ps_rI (fun v1 s1 =>
        (v1 ≠ 0 →
          pl_At n 71 9 [(0, .ref 902), (1, .int x1), (2, .int x2), (3, .int (x3 + (-1)))] [] s1 Q) ∧
        (v1 = 0 →
          Q (some (.int 0)) s1)))) ∧
    (6 ≤ x1 →
      pl_Cl n 76 [.ref 902, .int x2] s (ps_rI (fun v2 s2 =>
        (v2 = 0 →
          Q (some (.int 0)) s2) ∧
        (v2 ≠ 0 →
          pl_At n 71 9 [(0, .ref 902), (1, .int x1), (2, .int x2), (3, .int (x3 + (-1)))] [] s2 Q)))))) : pl_At (n + 1) 71 9 [(0, .ref 902), (1, .int x1), (2, .int x2), (3, .int x3)] [] s Q :=
  pl_wp_at (stops := [(9, [0, 1, 2, 3])]) (f := 26) h rfl

-- ProofBench$Reader.takeNot(I)Z
theorem pl_74_0 {n : Nat} {x1 : Int32} {s : ps_S} {Q : Option Value → ps_S → Prop} (h :
  pl_Cl n 73 [.ref 902, .int (x1 + 1), .int 2] s (ps_rI (fun v1 s1 =>
    (v1 ≠ 0 →
      pl_Cl n 93 [.ref (ps_r s1 902 6), .int 3] s1 (ps_rV (fun s2 =>
        pl_Cl n 140 [.ref 903] s2 (ps_rV (fun s3 =>
          pl_Cl n 70 [.ref 902, .int (x1 + 1)] (ps_ui s3 902 7 ((ps_i s3 902 7) + 1)) (ps_rI (fun v4 s4 =>
            (v4 ≠ 0 →
              pl_Cl n 93 [.ref (ps_r (ps_ui s4 902 7 ((ps_i s4 902 7) - 1)) 902 6), .int 0] (ps_ui s4 902 7 ((ps_i s4 902 7) - 1)) (ps_rV (fun s5 =>
                Q (some (.int 1)) s5))) ∧
            (v4 = 0 →
              Q (some (.int 0)) s4)))))))) ∧
    (v1 = 0 →
      pl_Cl n 62 [.ref 902, .int 2] s1 (ps_rI (fun v6 s6 =>
        pl_nk (decide (v6 &&& 1 = v6)) (Q (some (.int v6)) s6))))))) : pl_At (n + 1) 74 0 [(0, .ref 902), (1, .int x1)] [] s Q :=
  pl_wp_at (stops := []) (f := 46) h rfl

-- ProofBench$Reader.takeBound(I)Z
theorem pl_75_0 {n : Nat} {x1 : Int32} {s : ps_S} {Q : Option Value → ps_S → Prop} (h :
  pl_Cl n 77 [.ref 902] s (ps_rI (fun v1 s1 =>
    (v1 ≠ 0 →
      ((ps_i s1 902 4) < 0 →
        pl_At n 75 58 [(0, .ref 902), (1, .int x1)] [] s1 Q) ∧
      (0 ≤ (ps_i s1 902 4) →
        ((nI 5) ≤ (ps_i s1 902 4) →
          pl_At n 75 58 [(0, .ref 902), (1, .int x1)] [] s1 Q) ∧
        ((ps_i s1 902 4) < (nI 5) →
          (pm_in (ps_i s1 902 4) 5 = true →
            pl_At n 75 58 [(0, .ref 902), (1, .int x1)] [] (ps_ui (ps_ub s1 907 (Int32.toNatClampNeg (ps_i s1 902 4)) (ps_j s1 903 8)) 902 4 ((ps_i (ps_ub s1 907 (Int32.toNatClampNeg (ps_i s1 902 4)) (ps_j s1 903 8)) 902 4) + 1)) Q)))) ∧
    (v1 = 0 →
      pl_Cl n 62 [.ref 902, .int 2] s1 (ps_rI (fun v2 s2 =>
        pl_nk (decide (v2 &&& 1 = v2)) (Q (some (.int v2)) s2))))))) : pl_At (n + 1) 75 0 [(0, .ref 902), (1, .int x1)] [] s Q :=
  pl_wp_at (stops := [(58, [0, 1])]) (f := 32) h rfl

theorem pl_75_58 {n : Nat} {x1 : Int32} {s : ps_S} {Q : Option Value → ps_S → Prop} (h :
  pl_Cl n 140 [.ref 903] s (ps_rV (fun s1 =>
    pl_Cl n 70 [.ref 902, .int (x1 + 1)] s1 (ps_rI (fun v2 s2 =>
      pl_nk (decide (v2 &&& 1 = v2)) (Q (some (.int v2)) (ps_ui s2 902 4 ((ps_i s2 902 4) - 1)))))))) : pl_At (n + 1) 75 58 [(0, .ref 902), (1, .int x1)] [] s Q :=
  pl_wp_at (stops := [(58, [0, 1])]) (f := 19) h rfl

-- ProofBench$Reader.takeTerm(I)Z
theorem pl_76_0 {n : Nat} {x1 : Int32} {s : ps_S} {Q : Option Value → ps_S → Prop} (h :
  ((ps_i s 903 4) ≠ 2 →
    pl_At n 76 20 [(0, .ref 902)] [] s Q) ∧
  ((ps_i s 903 4) = 2 →
    pl_Cl n 73 [.ref 902, .int x1, .int 1] s (ps_rI (fun v1 s1 =>
      (v1 ≠ 0 →
        pl_Cl n 128 [.ref (ps_r s1 902 5), .long (ps_j s1 903 8)] s1 (ps_rI (fun v2 s2 =>
          (v2 ≠ (-1) →
            pl_At n 76 59 [(0, .ref 902), (1, .int x1), (2, .int v2)] [] s2 Q) ∧
          (v2 = (-1) →
            pl_Cl n 77 [.ref 902] s2 (ps_rI (fun v3 s3 =>
              (v3 ≠ 0 →
                pl_At n 76 59 [(0, .ref 902), (1, .int x1), (2, .int v2)] [] s3 Q) ∧
              (v3 = 0 →
                pl_Cl n 62 [.ref 902, .int 2] s3 (ps_rI (fun v4 s4 =>
                  pl_nk (decide (v4 &&& 1 = v4)) (Q (some (.int v4)) s4)))))))))) ∧
      (v1 = 0 →
        pl_At n 76 20 [(0, .ref 902)] [] s1 Q))))) : pl_At (n + 1) 76 0 [(0, .ref 902), (1, .int x1)] [] s Q :=
  pl_wp_at (stops := [(20, [0]), (59, [0, 1, 2])]) (f := 29) h rfl

theorem pl_76_20 {n : Nat} {s : ps_S} {Q : Option Value → ps_S → Prop} (h :
  pl_Cl n 62 [.ref 902, .int 2] s (ps_rI (fun v1 s1 =>
    pl_nk (decide (v1 &&& 1 = v1)) (Q (some (.int v1)) s1)))) : pl_At (n + 1) 76 20 [(0, .ref 902)] [] s Q :=
  pl_wp_at (stops := [(20, [0]), (59, [0, 1, 2])]) (f := 6) h rfl

theorem pl_76_59 {n : Nat} {x1 : Int32} {x2 : Int32} {s : ps_S} {Q : Option Value → ps_S → Prop} (h :
  (x2 ≠ (-1) →
    (((20 : Int32) + x2) ≠ (-1) →
      pl_Cl n 93 [.ref (ps_r s 902 6), .int ((20 : Int32) + x2)] s (ps_rV (fun s1 =>
        pl_Cl n 140 [.ref 903] s1 (ps_rV (fun s2 =>
          pl_Cl n 71 [.ref 902, .int ((20 : Int32) + x2), .int (x1 + 1)] s2 (ps_rI (fun v3 s3 =>
            pl_nk (decide (v3 &&& 1 = v3)) (Q (some (.int v3)) s3)))))))) ∧
    (((20 : Int32) + x2) = (-1) →
      ((ps_i s 902 8) = 0 →
        pl_Cl n 62 [.ref 902, .int 2] s (ps_rI (fun v4 s4 =>
          pl_nk (decide (v4 &&& 1 = v4)) (Q (some (.int v4)) s4)))) ∧
      ((ps_i s 902 8) ≠ 0 →
        pl_Cl n 62 [.ref 902, .int 5] s (ps_rI (fun v5 s5 =>
          pl_nk (decide (v5 &&& 1 = v5)) (Q (some (.int v5)) s5)))))) ∧
  (x2 = (-1) →
    pl_Cl n 78 [.ref 902] s (ps_rI (fun v6 s6 =>
      (v6 ≠ (-1) →
        pl_Cl n 93 [.ref (ps_r s6 902 6), .int v6] s6 (ps_rV (fun s7 =>
          pl_Cl n 140 [.ref 903] s7 (ps_rV (fun s8 =>
            pl_Cl n 71 [.ref 902, .int v6, .int (x1 + 1)] s8 (ps_rI (fun v9 s9 =>
              pl_nk (decide (v9 &&& 1 = v9)) (Q (some (.int v9)) s9)))))))) ∧
      (v6 = (-1) →
        ((ps_i s6 902 8) = 0 →
          pl_Cl n 62 [.ref 902, .int 2] s6 (ps_rI (fun v10 s10 =>
            pl_nk (decide (v10 &&& 1 = v10)) (Q (some (.int v10)) s10)))) ∧
        ((ps_i s6 902 8) ≠ 0 →
          pl_Cl n 62 [.ref 902, .int 5] s6 (ps_rI (fun v11 s11 =>
            pl_nk (decide (v11 &&& 1 = v11)) (Q (some (.int v11)) s11))))))))) : pl_At (n + 1) 76 59 [(0, .ref 902), (1, .int x1), (2, .int x2)] [] s Q :=
  pl_wp_at (stops := [(20, [0]), (59, [0, 1, 2])]) (f := 69) h rfl

/-- formulas (ph 1, method 70) and terms (ph 0, method 76) -/
def cv_sF (T : Nat → Nat) (N : Nat) (E : tx_E) (ph y n : Nat) : Prop := ∀ (th r : Nat) (s : ps_S) (S : List tx_F) (p : Nat) (l : List Nat) (fr : List (List Nat)) (R : Int32 → ps_S → Prop) (x1 : Int32), cv_S th r s T N E → cv_C r s T N S p l fr → x1.toInt = S.length → (∀ s', cv_ok r s s' T N E S (ph, S, p, l, fr, 0) → R 1 s') → (∀ s', cv_bad r s s' T N E (ph, S, p, l, fr, 0) → R 0 s') → pl_Cl n y [.ref 902, .int x1] s (ps_rI R)
/-- parts of the piece c: m of them -/
def cv_sP (T : Nat → Nat) (N : Nat) (E : tx_E) (n : Nat) : Prop := ∀ (th r : Nat) (s : ps_S) (S : List tx_F) (p : Nat) (l : List Nat) (fr : List (List Nat)) (R : Int32 → ps_S → Prop) (x1 x2 : Int32) (c m : Nat), cv_S th r s T N E → cv_C r s T N S p l fr → S.length ≤ 12 → x1.toInt = c → x2.toInt = (S.length + 1 : Nat) → (if c < 40 then (ps_a s (th + 4) c).toInt else 0) = m → (∀ s', cv_ok r s s' T N E S (2, (m, decide (c < 6), false, none) :: S, p, l, fr, 0) → R 1 s') → (∀ s', cv_bad r s s' T N E (2, (m, decide (c < 6), false, none) :: S, p, l, fr, 0) → R 0 s') → pl_Cl n 71 [.ref 902, .int x1, .int x2] s (ps_rI R)
def cv_sN (T : Nat → Nat) (N : Nat) (E : tx_E) (n : Nat) : Prop := ∀ (th r : Nat) (s : ps_S) (S : List tx_F) (p : Nat) (l : List Nat) (fr : List (List Nat)) (R : Int32 → ps_S → Prop) (x1 : Int32), cv_S th r s T N E → cv_C r s T N S p l fr → x1.toInt = S.length → ((tx_tok T N p).1 = 3 ∧ (tx_tok T N p).2.2.2.2 = 7) → (∀ s', cv_ok r s s' T N E S (1, S, p, l, fr, 0) → R 1 s') → (∀ s', cv_bad r s s' T N E (1, S, p, l, fr, 0) → R 0 s') → pl_Cl n 74 [.ref 902, .int x1] s (ps_rI R)
def cv_sB (T : Nat → Nat) (N : Nat) (E : tx_E) (n : Nat) : Prop := ∀ (th r : Nat) (s : ps_S) (S : List tx_F) (p : Nat) (l : List Nat) (fr : List (List Nat)) (R : Int32 → ps_S → Prop) (x1 : Int32) (c0 : tx_C), cv_S th r s T N E → cv_C r s T N S p l fr → S.length ≤ 12 → (tx_bs S).length ≤ 4 → x1.toInt = S.length → (tx_isX E (tx_tok T N p) → gt_go (tx_st T N E) c0 (2, (1, true, false, some (tx_tok T N p).2.2.2.1) :: S, (tx_tok T N p).2.2.1, l, fr, 0)) → (¬ tx_isX E (tx_tok T N p) → gt_go (tx_st T N E) c0 (4, S, (tx_tok T N p).2.1, l, fr, tx_bk (tx_tok T N p))) → (∀ s', cv_ok r s s' T N E S c0 → R 1 s') → (∀ s', cv_bad r s s' T N E c0 → R 0 s') → pl_Cl n 75 [.ref 902, .int x1] s (ps_rI R)
def cv_all (T : Nat → Nat) (N : Nat) (E : tx_E) (n : Nat) : Prop := cv_sF T N E 1 70 n ∧ cv_sF T N E 0 76 n ∧ cv_sP T N E n ∧ cv_sN T N E n ∧ cv_sB T N E n
theorem cv_ok_up {r : Nat} {s s' : ps_S} {T : Nat → Nat} {N : Nat} {E : tx_E} {S : List tx_F} {c0 : tx_C} {k : Nat} {b : Bool} (h : cv_ok r s s' T N E ((k, b, false, none) :: S) c0) : ∃ p' l' fr', gt_go (tx_st T N E) c0 (2, (k, b, false, none) :: S, p', l', fr', 0) ∧ cv_C r s' T N S p' l' fr' ∧ cv_fr r s s' := by
  obtain ⟨p', l', fr', h1, h2, h3⟩ := h
  exact ⟨p', l', fr', h1, cv_C_down h2, h3⟩
/-- what stands behind a formula's piece -/
theorem cv_ar {s : ps_S} {th : Nat} {E : tx_E} (h : cv_E s th E.1) {tk : tx_K} {c : Nat} (hc : tx_pc E tk = some c) : c < 20 ∧ (if c < 40 then (ps_a s (th + 4) c).toInt else 0) = (tx_ar E c : Nat) := by
  obtain ⟨e1, e2, e3, e4, e5, e6, ⟨a0, a1, a2, a3, a4, a5, a6⟩, e8⟩ := h
  unfold tx_pc at hc
  split at hc
  · split at hc
    · next hk =>
      cases hc
      generalize tk.2.2.2.2 = c at hk ⊢
      refine ⟨by omega, ?_⟩
      rw [if_pos (by omega)]
      rcases (show c = 0 ∨ c = 1 ∨ c = 2 ∨ c = 3 ∨ c = 4 ∨ c = 5 ∨ c = 6 from by omega) with rfl | rfl | rfl | rfl | rfl | rfl | rfl
      · exact a0
      · exact a1
      · exact a2
      · exact a3
      · exact a4
      · exact a5
      · exact a6
    · cases hc
  · split at hc
    · split at hc
      · next q hq =>
        cases hc
        obtain ⟨-, z2, z3, -⟩ := tx_ix_some hq
        rw [Nat.sub_zero] at z3
        unfold tx_R at z2 z3
        rw [List.length_map] at z2
        rw [List.getElem?_map] at z3
        obtain ⟨a, h1, h2⟩ := Option.map_eq_some_iff.mp z3
        obtain ⟨-, -, -, w4⟩ := e5 q a.1 a.2 h1
        refine ⟨by omega, ?_⟩
        rw [if_pos (by omega), w4]
        unfold tx_ar tx_ra
        rw [if_neg (by omega), if_neg (by omega), if_neg (by omega), if_neg (by omega), show 10 + q - 10 = q from by omega, List.getD_eq_getElem?_getD, h1]
        rfl
      · cases hc
    · cases hc

theorem cv_70_62 {T : Nat → Nat} {N : Nat} {E : tx_E} {n : Nat} {th r : Nat} {s : ps_S} {S : List tx_F} {p : Nat} {l : List Nat} {fr : List (List Nat)} {R : Int32 → ps_S → Prop} (HC : cv_C r s T N S p l fr) (hs : tx_st T N E (1, S, p, l, fr, 0) = (4, S, (tx_tok T N p).2.1, l, fr, tx_bk (tx_tok T N p))) (k0 : ∀ s', cv_bad r s s' T N E (1, S, p, l, fr, 0) → R 0 s') : pl_At n 70 62 [(0, .ref 902)] [] s (ps_rI R) := by
  cases n with
  | zero => exact pl_At_0
  | succ n =>
  refine pl_70_62 ?_
  refine fs_62 (K := 2) (r := r) (E := E) HC.2.2.1 cv_fr_refl rfl (gt_one hs) (fun s' hb => ?_)
  refine pl_nk_i (fun z67 => ?_)
  exact k0 s' hb

theorem cv_arF {s s' : ps_S} {th r c : Nat} (hth : th = 2 ∨ th = 26) (hr : ps_is r 5 = true) (F : cv_fr r s s') : (if c < 40 then (ps_a s' (th + 4) c).toInt else 0) = (if c < 40 then (ps_a s (th + 4) c).toInt else 0) := by
  have t := cv_th5 hth
  rw [F.2.2.2.2.1 (th + 4) (fun z => cv_ne hr t.2.1 (by omega))]

theorem cv_70_42 {T : Nat → Nat} {N : Nat} {E : tx_E} {n : Nat} (IH : ∀ m, m < n → cv_all T N E m) {th r : Nat} {s : ps_S} {S : List tx_F} {p : Nat} {l : List Nat} {fr : List (List Nat)} {R : Int32 → ps_S → Prop} {x1 x2 : Int32} (HS : cv_S th r s T N E) (HC : cv_C r s T N S p l fr) (hx : x1.toInt = S.length) (hn : ¬ ((tx_tok T N p).1 = 3 ∧ (tx_tok T N p).2.2.2.2 = 7)) (hv : tx_opt (tx_pc E (tx_tok T N p)) x2) (hq : ∀ c, tx_pc E (tx_tok T N p) = some c → (c = 4 ∨ c = 5) → (tx_bs S).length ≤ 4) (k1 : ∀ s', cv_ok r s s' T N E S (1, S, p, l, fr, 0) → R 1 s') (k0 : ∀ s', cv_bad r s s' T N E (1, S, p, l, fr, 0) → R 0 s') : pl_At n 70 42 [(0, .ref 902), (1, .int x1), (2, .int x2)] [] s (ps_rI R) := by
  cases n with
  | zero => exact pl_At_0
  | succ n =>
  obtain ⟨-, -, -, hN, hB⟩ := IH n (Nat.lt_succ_self n)
  obtain ⟨-, -, hP, -, -⟩ := IH n (Nat.lt_succ_self n)
  refine pl_70_42 ?_
  refine ⟨fun h46 => ?_, fun h46 => ?_⟩
  · have h46 : x2.toInt = (-1 : Int) := xeq h46
    exact cv_70_62 (th := th) HC (tx_s_none rfl hn ((tx_opt_m hv).mp h46)) k0
  · have h46 : x2.toInt ≠ (-1 : Int) := xne h46
    refine ⟨fun h50 => ?_, fun h50 => ?_⟩
    · exact absurd h50 (by decide)
    · obtain ⟨c, hc⟩ : ∃ c, tx_pc E (tx_tok T N p) = some c := by
        cases e : tx_pc E (tx_tok T N p) with
        | none => exact (h46 (hv.2 e)).elim
        | some c => exact ⟨c, rfl⟩
      have hx2 := hv.1 c hc
      obtain ⟨hc20, har⟩ := cv_ar HS.2.2.2.2.2.2 hc
      refine fs_73 (d := S.length) (m := 1) HS HC hx rfl (by decide) (fun q56 => ?_) (fun q56 => ?_)
      · refine ⟨fun h59 => ?_, fun h59 => ?_⟩
        · obtain ⟨q56, q57⟩ := q56
          refine fs_add HS HC hx2 (by omega) (fun s73 q73 => ?_)
          obtain ⟨HS1, HC1, F1⟩ := q73
          refine fs_adv HS1 HC1 (fun s80 q80 => ?_)
          obtain ⟨HS2, HC2, F2⟩ := q80
          have F12 := cv_fr_tr F1 F2
          refine fs_184 (fun q84 => ?_) (fun q84 => ?_)
          · have hc45 : c = 4 ∨ c = 5 := by omega
            refine ⟨fun h87 => ?_, fun h87 => ?_⟩
            · exact absurd h87 (by decide)
            · refine hB th r s80 S _ _ fr _ _ (1, S, p, l, fr, 0) HS2 HC2 q56 (hq c hc hc45) hx (fun hX => gt_one (tx_s_q rfl hn hc q56 q57 hc45 (hq c hc hc45) rfl hX)) (fun hX => gt_one (tx_s_qb rfl hn hc q56 q57 hc45 (hq c hc hc45) rfl hX)) (fun s92 q92 => ?_) (fun s92 q92 => ?_)
              · refine pl_nk_i (fun z95 => ?_)
                exact k1 _ (cv_ok_tr gt_refl F12 q92)
              · refine pl_nk_i (fun z95 => ?_)
                exact k0 _ (cv_bad_tr gt_refl F12 q92)
          · have hc45 : ¬ (c = 4 ∨ c = 5) := by omega
            have hst := tx_s_piece (T := T) (n := N) (E := E) (fr := fr) rfl hn hc q56 q57 hc45
            refine ⟨fun h87 => ?_, fun h87 => ?_⟩
            · refine hP th r s80 S _ _ fr _ _ _ c (tx_ar E c) HS2 HC2 q56 hx2 (xj1 hx (by omega)) (by rw [cv_arF HS.1 HS.2.1 F12]; exact har) (fun s101 q101 => ?_) (fun s101 q101 => ?_)
              · refine pl_nk_i (fun z104 => ?_)
                exact k1 _ (cv_ok_tr (gt_one hst) F12 q101)
              · refine pl_nk_i (fun z104 => ?_)
                exact k0 _ (cv_bad_tr (gt_one hst) F12 q101)
            · exact absurd h87 (by decide)
        · exact absurd h59 (by decide)
      · refine ⟨fun h59 => ?_, fun h59 => ?_⟩
        · exact absurd h59 (by decide)
        · exact cv_70_62 (th := th) HC (tx_s_full rfl hn hc (fun z => q56 ⟨z.1, z.2.1⟩)) k0

theorem cv_70 {T : Nat → Nat} {N : Nat} {E : tx_E} (n : Nat) (IH : ∀ m, m < n → cv_all T N E m) : cv_sF T N E 1 70 n := by
  intro th r s S p l fr R x1 HS HC hx k1 k0
  cases n with
  | zero => exact pl_At_0
  | succ n =>
  obtain ⟨-, -, -, hN, -⟩ := IH n (Nat.lt_succ_self n)
  show pl_At (n + 1) 70 0 [(0, .ref 902), (1, .int x1)] [] s (ps_rI R)
  have h6 := HC.2.2.1.2.2.2.2.1
  have f1 := HC.2.2.2.2.2.1.1
  refine pl_70_0 ?_
  refine ⟨fun h9 => ?_, fun h9 => ?_⟩
  · have h9 : (ps_i s 903 6).toInt ≠ (7 : Int) := xne h9
    have hn : ¬ ((tx_tok T N p).1 = 3 ∧ (tx_tok T N p).2.2.2.2 = 7) := fun z => by
      rw [if_pos z.1] at h6
      omega
    refine fs_72 HS HC (fun v19 q19 => ?_)
    refine fs_184 (fun q24 => ?_) (fun q24 => ?_)
    · refine ⟨fun h27 => ?_, fun h27 => ?_⟩
      · exact absurd h27 (by decide)
      · refine ⟨fun h35 => ?_, fun h35 => ?_⟩
        · have h35 : (ps_i s 902 4).toInt < (5 : Int) := xlt h35
          exact cv_70_42 (fun m hm => IH m (by omega)) HS HC hx hn q19 (fun c hc h45 => by omega) k1 k0
        · have h35 : (5 : Int) ≤ (ps_i s 902 4).toInt := xle h35
          refine ⟨fun h46 => ?_, fun h46 => ?_⟩
          · have h46 : v19.toInt = (-1 : Int) := xeq h46
            exact cv_70_62 (th := th) HC (tx_s_none rfl hn ((tx_opt_m q19).mp h46)) k0
          · have h46 : v19.toInt ≠ (-1 : Int) := xne h46
            refine ⟨fun h50 => ?_, fun h50 => ?_⟩
            · obtain ⟨c, hc⟩ : ∃ c, tx_pc E (tx_tok T N p) = some c := by
                cases e : tx_pc E (tx_tok T N p) with
                | none => exact (h46 (q19.2 e)).elim
                | some c => exact ⟨c, rfl⟩
              have hx2 := q19.1 c hc
              exact cv_70_62 (th := th) HC (tx_s_full rfl hn hc (fun z => by have := z.2.2 (by omega); omega)) k0
            · exact absurd h50 (by decide)
    · refine ⟨fun h27 => ?_, fun h27 => ?_⟩
      · exact cv_70_42 (fun m hm => IH m (by omega)) HS HC hx hn q19 (fun c hc h45 => (q24 (by rw [q19.1 c hc]; omega)).elim) k1 k0
      · exact absurd h27 (by decide)
  · have h9 : (ps_i s 903 6).toInt = (7 : Int) := xeq h9
    have hn : (tx_tok T N p).1 = 3 ∧ (tx_tok T N p).2.2.2.2 = 7 := by
      by_cases z : (tx_tok T N p).1 = 3
      · rw [if_pos z] at h6
        exact ⟨z, by omega⟩
      · rw [if_neg z] at h6
        omega
    refine hN th r s S p l fr _ _ HS HC hx hn (fun s14 q14 => ?_) (fun s14 q14 => ?_)
    · refine pl_nk_i (fun z17 => ?_)
      exact k1 _ q14
    · refine pl_nk_i (fun z17 => ?_)
      exact k0 _ q14

theorem cv_71_9 {T : Nat → Nat} {N : Nat} {E : tx_E} {th r c : Nat} {s0 : ps_S} {S : List tx_F} {R : Int32 → ps_S → Prop} {x1 x2 : Int32} {c0 : tx_C} (hS : S.length ≤ 12) (hx1 : x1.toInt = c) (hx2 : x2.toInt = (S.length + 1 : Nat)) (k1 : ∀ s', cv_ok r s0 s' T N E S c0 → R 1 s') (k0 : ∀ s', cv_bad r s0 s' T N E c0 → R 0 s') : ∀ (n : Nat), (∀ m, m < n → cv_all T N E m) → ∀ {s : ps_S} {x3 : Int32} {m p : Nat} {l : List Nat} {fr : List (List Nat)}, cv_S th r s T N E → cv_C r s T N S p l fr → cv_fr r s0 s → x3.toInt = m → gt_go (tx_st T N E) c0 (2, (m, decide (c < 6), false, none) :: S, p, l, fr, 0) → pl_At n 71 9 [(0, .ref 902), (1, .int x1), (2, .int x2), (3, .int x3)] [] s (ps_rI R)
  | 0, _, _, _, _, _, _, _, _, _, _, _, _ => pl_At_0
  | n + 1, IH, s, x3, m, p, l, fr, HS, HC, F, hx3, hg => by
    obtain ⟨hF, hT, -, -, -⟩ := IH n (Nat.lt_succ_self n)
    have IH' : ∀ m, m < n → cv_all T N E m := fun m hm => IH m (by omega)
    have nxt : ∀ k, m = k + 1 → (x3 + (-1)).toInt = k := fun k z => by
      have h1 : (-1 : Int32).toInt = -1 := by decide
      have h3 := xR x3
      rw [xIa (by omega) (by omega)]
      omega
    refine pl_71_9 ?_
    refine ⟨fun h10 => ?_, fun h10 => ?_⟩
    · have h10 : x3.toInt ≤ (0 : Int) := xle h10
      have e : m = 0 := by omega
      rw [e] at hg
      exact k1 _ ⟨p, l, fr, gt_trans hg (gt_one tx_s_0), HC, F⟩
    · have h10 : (0 : Int) < x3.toInt := xlt h10
      obtain ⟨k, hk⟩ : ∃ k, m = k + 1 := ⟨m - 1, by omega⟩
      rw [hk] at hg
      refine ⟨fun h16 => ?_, fun h16 => ?_⟩
      · have h16 : x1.toInt < (6 : Int) := xlt h16
        have hc6 : c < 6 := by omega
        rw [decide_eq_true hc6] at hg
        have hg2 := gt_trans hg (gt_one tx_s_k)
        refine hF th r s ((k, true, false, none) :: S) p l fr _ _ HS (cv_C_up HC hS k true) hx2 (fun s32 q32 => ?_) (fun s32 q32 => ?_)
        · refine ⟨fun h35 => ?_, fun h35 => ?_⟩
          · obtain ⟨p', l', fr', g1, g2, g3⟩ := cv_ok_up q32
            exact cv_71_9 hS hx1 hx2 k1 k0 n IH' (cv_S_fr HS g3) g2 (cv_fr_tr F g3) (nxt k hk) (by rw [decide_eq_true hc6]; exact gt_trans hg2 g1)
          · exact absurd h35 (by decide)
        · refine ⟨fun h35 => ?_, fun h35 => ?_⟩
          · exact absurd h35 (by decide)
          · exact k0 _ (cv_bad_tr hg2 F q32)
      · have h16 : (6 : Int) ≤ x1.toInt := xle h16
        have hc6 : ¬ c < 6 := by omega
        rw [decide_eq_false hc6] at hg
        have hg2 := gt_trans hg (gt_one tx_s_k)
        refine hT th r s ((k, false, false, none) :: S) p l fr _ _ HS (cv_C_up HC hS k false) hx2 (fun s21 q21 => ?_) (fun s21 q21 => ?_)
        · refine ⟨fun h24 => ?_, fun h24 => ?_⟩
          · exact absurd h24 (by decide)
          · obtain ⟨p', l', fr', g1, g2, g3⟩ := cv_ok_up q21
            exact cv_71_9 hS hx1 hx2 k1 k0 n IH' (cv_S_fr HS g3) g2 (cv_fr_tr F g3) (nxt k hk) (by rw [decide_eq_false hc6]; exact gt_trans hg2 g1)
        · refine ⟨fun h24 => ?_, fun h24 => ?_⟩
          · exact k0 _ (cv_bad_tr hg2 F q21)
          · exact absurd h24 (by decide)

theorem cv_71 {T : Nat → Nat} {N : Nat} {E : tx_E} (n : Nat) (IH : ∀ m, m < n → cv_all T N E m) : cv_sP T N E n := by
  intro th r s S p l fr R x1 x2 c m HS HC hS hx1 hx2 ham k1 k0
  cases n with
  | zero => exact pl_At_0
  | succ n =>
  show pl_At (n + 1) 71 0 [(0, .ref 902), (1, .int x1), (2, .int x2)] [] s (ps_rI R)
  refine pl_71_0 ?_
  rw [HS.2.2.1]
  refine fs_136 HS.1 hx1 (fun v5 q5 => ?_)
  exact cv_71_9 hS hx1 hx2 k1 k0 n (fun m hm => IH m (by omega)) HS HC cv_fr_refl (by rw [q5]; exact ham) gt_refl

theorem cv_74 {T : Nat → Nat} {N : Nat} {E : tx_E} (n : Nat) (IH : ∀ m, m < n → cv_all T N E m) : cv_sN T N E n := by
  intro th r s S p l fr R x1 HS HC hx hn k1 k0
  cases n with
  | zero => exact pl_At_0
  | succ n =>
  obtain ⟨hF, -, -, -, -⟩ := IH n (Nat.lt_succ_self n)
  show pl_At (n + 1) 74 0 [(0, .ref 902), (1, .int x1)] [] s (ps_rI R)
  have hS13 := HC.2.1
  have hr := HS.2.1
  have hx1 : (x1 + 1).toInt = (S.length + 1 : Nat) := xj1 hx (by omega)
  refine pl_74_0 ?_
  refine fs_73 (d := S.length + 1) (m := 2) HS HC hx1 rfl (by decide) (fun q5 => ?_) (fun q5 => ?_)
  · refine ⟨fun h8 => ?_, fun h8 => ?_⟩
    · have hst := tx_s_not (T := T) (n := N) (E := E) (S := S) (p := p) (l := l) (fr := fr) rfl hn q5.1 q5.2
      refine fs_add HS HC (c := 3) rfl (by omega) (fun s22 q22 => ?_)
      obtain ⟨HS1, HC1, F1⟩ := q22
      refine fs_adv HS1 HC1 (fun s29 q29 => ?_)
      obtain ⟨HS2, HC2, F2⟩ := q29
      have F3 : cv_fr r s (ps_ui s29 902 7 (ps_i s29 902 7 + 1)) := cv_fr_i (cv_fr_tr F1 F2) (by decide)
      refine hF th r _ ((0, true, true, none) :: S) _ _ fr _ _ (cv_S_fr HS F3) (cv_C_not hr HC2 (by omega) (by rw [List.length_append]; show l.length + 1 + tx_due S + 1 ≤ 40; omega)) hx1 (fun s46 q46 => ?_) (fun s46 q46 => ?_)
      · refine ⟨fun h49 => ?_, fun h49 => ?_⟩
        · obtain ⟨p', l', fr', g1, g2, g3⟩ := q46
          have F4 : cv_fr r s46 (ps_ui s46 902 7 (ps_i s46 902 7 - 1)) := cv_fr_i cv_fr_refl (by decide)
          have HS4 := cv_S_fr HS (cv_fr_tr F3 (cv_fr_tr g3 F4))
          have HC4 := cv_C_ton hr g2
          have h40 : l'.length + tx_due S + 1 ≤ 40 := by
            have h7 : l'.length + (1 + tx_due S) ≤ 40 := g2.2.1.2
            omega
          refine fs_add HS4 HC4 (c := 0) rfl h40 (fun s69 q69 => ?_)
          obtain ⟨HS5, HC5, F5⟩ := q69
          exact k1 _ ⟨p', _, fr', gt_trans (gt_one hst) (gt_trans (gt_one tx_s_k) (gt_trans g1 (gt_one tx_s_0))), HC5, cv_fr_tr F3 (cv_fr_tr g3 (cv_fr_tr F4 F5))⟩
        · exact absurd h49 (by decide)
      · refine ⟨fun h49 => ?_, fun h49 => ?_⟩
        · exact absurd h49 (by decide)
        · exact k0 _ (cv_bad_tr (gt_trans (gt_one hst) (gt_one tx_s_k)) F3 q46)
    · exact absurd h8 (by decide)
  · refine ⟨fun h8 => ?_, fun h8 => ?_⟩
    · exact absurd h8 (by decide)
    · refine fs_62 (K := 2) (r := r) (E := E) (c0 := (1, S, p, l, fr, 0)) HC.2.2.1 cv_fr_refl rfl (gt_one (tx_s_notb rfl hn q5)) (fun s13 q13 => ?_)
      refine pl_nk_i (fun z16 => ?_)
      exact k0 _ q13

theorem cv_75_58 {T : Nat → Nat} {N : Nat} {E : tx_E} {n : Nat} (IH : ∀ m, m < n → cv_all T N E m) {th r : Nat} {s0 s : ps_S} {S : List tx_F} {p : Nat} {w l : List Nat} {fr : List (List Nat)} {R : Int32 → ps_S → Prop} {x1 : Int32} {c0 : tx_C} (HS : cv_S th r s T N E) (HC : cv_C r s T N ((0, true, false, some w) :: S) p l fr) (F : cv_fr r s0 s) (hx : x1.toInt = S.length) (hg : gt_go (tx_st T N E) c0 (2, (1, true, false, some w) :: S, (tx_tok T N p).2.2.1, l, fr, 0)) (k1 : ∀ s', cv_ok r s0 s' T N E S c0 → R 1 s') (k0 : ∀ s', cv_bad r s0 s' T N E c0 → R 0 s') : pl_At n 75 58 [(0, .ref 902), (1, .int x1)] [] s (ps_rI R) := by
  cases n with
  | zero => exact pl_At_0
  | succ n =>
  obtain ⟨hF, -, -, -, -⟩ := IH n (Nat.lt_succ_self n)
  have hr := HS.2.1
  have hS13 : S.length + 1 ≤ 13 := HC.2.1.1
  have hx1 : (x1 + 1).toInt = (S.length + 1 : Nat) := xj1 hx (by omega)
  have hg2 := gt_trans hg (gt_one tx_s_k)
  refine pl_75_58 ?_
  refine fs_adv HS HC (fun s62 q62 => ?_)
  obtain ⟨HS1, HC1, F1⟩ := q62
  refine hF th r s62 ((0, true, false, some w) :: S) _ l fr _ _ HS1 HC1 hx1 (fun s69 q69 => ?_) (fun s69 q69 => ?_)
  · refine pl_nk_i (fun z84 => ?_)
    obtain ⟨p', l', fr', g1, g2, g3⟩ := q69
    exact k1 _ ⟨p', l', fr', gt_trans hg2 (gt_trans g1 (gt_one tx_s_0)), cv_C_pop hr g2, cv_fr_i (cv_fr_tr (cv_fr_tr F F1) g3) (by decide)⟩
  · refine pl_nk_i (fun z84 => ?_)
    obtain ⟨S', pl, l', fr', kk, g1, g2, g3, g4⟩ := q69
    exact k0 _ ⟨S', pl, l', fr', kk, gt_trans hg2 g1, g2, g3, cv_fr_i (cv_fr_tr (cv_fr_tr F F1) g4) (by decide)⟩
theorem cv_75 {T : Nat → Nat} {N : Nat} {E : tx_E} (n : Nat) (IH : ∀ m, m < n → cv_all T N E m) : cv_sB T N E n := by
  intro th r s S p l fr R x1 c0 HS HC hS hb hx hg1 hg2 k1 k0
  cases n with
  | zero => exact pl_At_0
  | succ n =>
  show pl_At (n + 1) 75 0 [(0, .ref 902), (1, .int x1)] [] s (ps_rI R)
  have hr := HS.2.1
  obtain ⟨f1, f2, f3⟩ := HC.2.2.2.2.2.1
  have HK := HC.2.2.1
  refine pl_75_0 ?_
  refine fs_77 HS HC (fun q1 => ?_) (fun q1 => ?_)
  · refine ⟨fun h4 => ?_, fun h4 => ?_⟩
    · refine ⟨fun h17 => ?_, fun h17 => ?_⟩
      · have h17 : (ps_i s 902 4).toInt < (0 : Int) := xlt h17
        exfalso; omega
      · have h17 : (0 : Int) ≤ (ps_i s 902 4).toInt := xle h17
        refine ⟨fun h29 => ?_, fun h29 => ?_⟩
        · have h29 : (5 : Int) ≤ (ps_i s 902 4).toInt := xle h29
          exfalso; omega
        · have h29 : (ps_i s 902 4).toInt < (5 : Int) := xlt h29
          intro b47
          obtain ⟨b47, c47⟩ := pl_in b47
          rw [xtn f1]
          have F : cv_fr r s (ps_ui (ps_ub s 907 (tx_bs S).length (ps_j s 903 8)) 902 4 (ps_i s 902 4 + 1)) := cv_fr_i (cv_fr_b cv_fr_refl (Or.inr rfl)) (by decide)
          exact cv_75_58 (fun m hm => IH m (by omega)) (cv_S_fr HS F) (cv_C_push hr HC hS hb ((tx_tok_ok (T := T) HC.1).2.2.2.1 q1.1) (HK.2.2.2.1 q1.1)) F hx (hg1 q1) k1 k0
    · exact absurd h4 (by decide)
  · refine ⟨fun h4 => ?_, fun h4 => ?_⟩
    · exact absurd h4 (by decide)
    · refine fs_62 (K := 2) (r := r) (E := E) HK cv_fr_refl rfl (hg2 q1) (fun s9 q9 => ?_)
      refine pl_nk_i (fun z12 => ?_)
      exact k0 _ q9

theorem cv_N_some {r : Nat} {s s' : ps_S} {T : Nat → Nat} {N : Nat} {E : tx_E} {S : List tx_F} {p : Nat} {l : List Nat} {o : Option (Nat × List (List Nat))} {v : Int32} (h : cv_N r s T N E S p l o v s') (hv : v.toInt ≠ -1) : ∃ c fr2, o = some (c, fr2) ∧ v.toInt = (c : Nat) ∧ cv_C r s' T N S p l fr2 ∧ cv_fr r s s' := by
  unfold cv_N at h
  split at h
  · next c fr2 => exact ⟨c, fr2, rfl, h⟩
  · exact (hv h.1).elim
theorem cv_N_none {r : Nat} {s s' : ps_S} {T : Nat → Nat} {N : Nat} {E : tx_E} {S : List tx_F} {p : Nat} {l : List Nat} {o : Option (Nat × List (List Nat))} {v : Int32} (h : cv_N r s T N E S p l o v s') (hv : v.toInt = -1) : o = none ∧ s' = s := by
  unfold cv_N at h
  split at h
  · have := h.1
    omega
  · exact ⟨rfl, h.2⟩
theorem tx_nm_ge {E : tx_E} {S : List tx_F} {fr fr2 : List (List Nat)} {w : List Nat} {c : Nat} (h : tx_nm E S fr w = some (c, fr2)) : 40 ≤ c := by
  unfold tx_nm at h
  split at h
  · cases h; omega
  · split at h
    · cases h
    · split at h
      · cases h; omega
      · split at h
        · cases h; omega
        · cases h

theorem cv_76_20 {T : Nat → Nat} {N : Nat} {E : tx_E} {n : Nat} {r : Nat} {s : ps_S} {S : List tx_F} {p : Nat} {l : List Nat} {fr : List (List Nat)} {R : Int32 → ps_S → Prop} (HC : cv_C r s T N S p l fr) (hs : tx_st T N E (0, S, p, l, fr, 0) = (4, S, (tx_tok T N p).2.1, l, fr, tx_bk (tx_tok T N p))) (k0 : ∀ s', cv_bad r s s' T N E (0, S, p, l, fr, 0) → R 0 s') : pl_At n 76 20 [(0, .ref 902)] [] s (ps_rI R) := by
  cases n with
  | zero => exact pl_At_0
  | succ n =>
  refine pl_76_20 ?_
  refine fs_62 (K := 2) (r := r) (E := E) HC.2.2.1 cv_fr_refl rfl (gt_one hs) (fun s22 q22 => ?_)
  refine pl_nk_i (fun z25 => ?_)
  exact k0 _ q22
/-- a function's parts -/
theorem cv_arf {s : ps_S} {th : Nat} {E : tx_E} (h : cv_E s th E.1) {w : List Nat} {g : Nat} (hg : tx_at (tx_G E) w = some g) : g < 4 ∧ (if 20 + g < 40 then (ps_a s (th + 4) (20 + g)).toInt else 0) = (tx_fa E g : Nat) := by
  obtain ⟨e1, e2, e3, e4, e5, e6, -, e8⟩ := h
  obtain ⟨-, z2, z3, -⟩ := tx_ix_some hg
  rw [Nat.sub_zero] at z3
  unfold tx_G at z2 z3
  rw [List.length_map] at z2
  rw [List.getElem?_map] at z3
  obtain ⟨a, h1, h2⟩ := Option.map_eq_some_iff.mp z3
  obtain ⟨-, -, -, w4⟩ := e6 g a.1 a.2 h1
  refine ⟨by omega, ?_⟩
  rw [if_pos (by omega), w4]
  unfold tx_fa
  rw [List.getD_eq_getElem?_getD, h1]
  rfl
theorem cv_dis {s : ps_S} {th : Nat} {E : tx_E} (h : cv_E s th E.1) {w : List Nat} {g : Nat} (hg : tx_at (tx_G E) w = some g) : tx_at (tx_R E) w = none := by
  cases e : tx_at (tx_R E) w with
  | none => rfl
  | some q =>
    exfalso
    obtain ⟨-, -, z3, -⟩ := tx_ix_some hg
    obtain ⟨-, -, y3, -⟩ := tx_ix_some e
    exact h.2.2.2.2.2.2.2 w (List.mem_of_getElem? y3) (List.mem_of_getElem? z3)
theorem cv_76_59 {T : Nat → Nat} {N : Nat} {E : tx_E} {n : Nat} (IH : ∀ m, m < n → cv_all T N E m) {th r : Nat} {s : ps_S} {S : List tx_F} {p : Nat} {l : List Nat} {fr : List (List Nat)} {R : Int32 → ps_S → Prop} {x1 x2 : Int32} (HS : cv_S th r s T N E) (HC : cv_C r s T N S p l fr) (hx : x1.toInt = S.length) (hh : (tx_tok T N p).1 = 2 ∧ tx_at (tx_R E) (tx_tok T N p).2.2.2.1 = none ∧ S.length ≤ 12 ∧ l.length + tx_due S + 1 ≤ 40) (hv : tx_opt (tx_at (tx_G E) (tx_tok T N p).2.2.2.1) x2) (k1 : ∀ s', cv_ok r s s' T N E S (0, S, p, l, fr, 0) → R 1 s') (k0 : ∀ s', cv_bad r s s' T N E (0, S, p, l, fr, 0) → R 0 s') : pl_At n 76 59 [(0, .ref 902), (1, .int x1), (2, .int x2)] [] s (ps_rI R) := by
  cases n with
  | zero => exact pl_At_0
  | succ n =>
  obtain ⟨-, -, hP, -, -⟩ := IH n (Nat.lt_succ_self n)
  have hcl := HS.2.2.2.2.1
  have h20 : (20 : Int32).toInt = 20 := by decide
  refine pl_76_59 ?_
  refine ⟨fun h61 => ?_, fun h61 => ?_⟩
  · have h61 : x2.toInt ≠ (-1 : Int) := xne h61
    obtain ⟨g, hg⟩ : ∃ g, tx_at (tx_G E) (tx_tok T N p).2.2.2.1 = some g := by
      cases e : tx_at (tx_G E) (tx_tok T N p).2.2.2.1 with
      | none => exact (h61 (hv.2 e)).elim
      | some g => exact ⟨g, rfl⟩
    have hx2 := hv.1 g hg
    obtain ⟨hg4, har⟩ := cv_arf HS.2.2.2.2.2.2 hg
    have e20 : ((20 : Int32) + x2).toInt = (20 + g : Nat) := by rw [xIa (by omega) (by omega)]; omega
    refine ⟨fun h78 => ?_, fun h78 => ?_⟩
    · have h78 : ((20 : Int32) + x2).toInt ≠ (-1 : Int) := xne h78
      have hst := tx_s_fun (T := T) (n := N) (E := E) (S := S) (p := p) (l := l) (fr := fr) rfl hh hg
      refine fs_add HS HC e20 hh.2.2.2 (fun s103 q103 => ?_)
      obtain ⟨HS1, HC1, F1⟩ := q103
      refine fs_adv HS1 HC1 (fun s110 q110 => ?_)
      obtain ⟨HS2, HC2, F2⟩ := q110
      have F12 := cv_fr_tr F1 F2
      refine hP th r s110 S _ _ fr _ _ _ (20 + g) (tx_fa E g) HS2 HC2 hh.2.2.1 e20 (xj1 hx (by omega)) (by rw [cv_arF HS.1 HS.2.1 F12]; exact har) (fun s118 q118 => ?_) (fun s118 q118 => ?_)
      · refine pl_nk_i (fun z121 => ?_)
        rw [decide_eq_false (show ¬ 20 + g < 6 by omega)] at q118
        exact k1 _ (cv_ok_tr (gt_one hst) F12 q118)
      · refine pl_nk_i (fun z121 => ?_)
        rw [decide_eq_false (show ¬ 20 + g < 6 by omega)] at q118
        exact k0 _ (cv_bad_tr (gt_one hst) F12 q118)
    · have h78 : ((20 : Int32) + x2).toInt = (-1 : Int) := xeq h78
      refine ⟨fun h86 => ?_, fun h86 => ?_⟩
      · have h86 : (ps_i s 902 8).toInt = (0 : Int) := xeq h86
        exfalso; omega
      · have h86 : (ps_i s 902 8).toInt ≠ (0 : Int) := xne h86
        exfalso; omega
  · have h61 : x2.toInt = (-1 : Int) := xeq h61
    have hg := (tx_opt_m hv).mp h61
    refine fs_78 HS HC hh.1 (fun v65 s65 q65 => ?_)
    refine ⟨fun h78 => ?_, fun h78 => ?_⟩
    · have h78 : v65.toInt ≠ (-1 : Int) := xne h78
      obtain ⟨c, fr2, hm, hv65, HC65, F65⟩ := cv_N_some q65 h78
      have hc40 := tx_nm_ge hm
      have hst := tx_s_name (T := T) (n := N) (E := E) (S := S) (p := p) (l := l) (fr := fr) rfl hh hg hm
      refine fs_add (cv_S_fr HS F65) HC65 hv65 hh.2.2.2 (fun s103 q103 => ?_)
      obtain ⟨HS1, HC1, F1⟩ := q103
      refine fs_adv HS1 HC1 (fun s110 q110 => ?_)
      obtain ⟨HS2, HC2, F2⟩ := q110
      have F12 := cv_fr_tr F65 (cv_fr_tr F1 F2)
      refine hP th r s110 S _ _ fr2 _ _ _ c 0 HS2 HC2 hh.2.2.1 hv65 (xj1 hx (by omega)) (by rw [if_neg (by omega)]; rfl) (fun s118 q118 => ?_) (fun s118 q118 => ?_)
      · refine pl_nk_i (fun z121 => ?_)
        rw [decide_eq_false (show ¬ c < 6 by omega)] at q118
        exact k1 _ (cv_ok_tr (gt_one hst) F12 q118)
      · refine pl_nk_i (fun z121 => ?_)
        rw [decide_eq_false (show ¬ c < 6 by omega)] at q118
        exact k0 _ (cv_bad_tr (gt_one hst) F12 q118)
    · have h78 : v65.toInt = (-1 : Int) := xeq h78
      refine ⟨fun h86 => ?_, fun h86 => ?_⟩
      · have h86 : (ps_i s65 902 8).toInt = (0 : Int) := xeq h86
        obtain ⟨hm, e65⟩ := cv_N_none q65 h78
        rw [e65] at h86
        rw [e65]
        have hE : ¬ E.2 = true := fun z => by
          rw [if_pos z] at hcl
          omega
        refine fs_62 (K := 2) (r := r) (E := E) (c0 := (0, S, p, l, fr, 0)) (S' := S) (l' := l) (fr' := fr) HC.2.2.1 cv_fr_refl rfl (gt_one (by rw [tx_s_nameb rfl hh hg hm, if_neg hE, if_neg (by omega)])) (fun s94 q94 => ?_)
        refine pl_nk_i (fun z97 => ?_)
        exact k0 _ q94
      · have h86 : (ps_i s65 902 8).toInt ≠ (0 : Int) := xne h86
        obtain ⟨hm, e65⟩ := cv_N_none q65 h78
        rw [e65] at h86
        rw [e65]
        have hE : E.2 = true := Decidable.byContradiction (fun z => by
          rw [if_neg z] at hcl
          omega)
        refine fs_62 (K := 5) (r := r) (E := E) (c0 := (0, S, p, l, fr, 0)) (S' := S) (l' := l) (fr' := fr) HC.2.2.1 cv_fr_refl rfl (gt_one (by rw [tx_s_nameb rfl hh hg hm, if_pos hE, if_neg (by omega)])) (fun s94 q94 => ?_)
        refine pl_nk_i (fun z97 => ?_)
        exact k0 _ q94
theorem cv_76 {T : Nat → Nat} {N : Nat} {E : tx_E} (n : Nat) (IH : ∀ m, m < n → cv_all T N E m) : cv_sF T N E 0 76 n := by
  intro th r s S p l fr R x1 HS HC hx k1 k0
  cases n with
  | zero => exact pl_At_0
  | succ n =>
  show pl_At (n + 1) 76 0 [(0, .ref 902), (1, .int x1)] [] s (ps_rI R)
  have HK := HC.2.2.1
  have h4 := HK.1
  refine pl_76_0 ?_
  refine ⟨fun h8 => ?_, fun h8 => ?_⟩
  · have h8 : (ps_i s 903 4).toInt ≠ (2 : Int) := xne h8
    exact cv_76_20 HC (tx_s_tb rfl (fun z => by omega)) k0
  · have h8 : (ps_i s 903 4).toInt = (2 : Int) := xeq h8
    refine fs_73 (d := S.length) (m := 1) HS HC hx rfl (by decide) (fun q14 => ?_) (fun q14 => ?_)
    · refine ⟨fun h17 => ?_, fun h17 => ?_⟩
      · have h2 : (tx_tok T N p).1 = 2 := by omega
        rw [HS.2.2.1]
        refine fs_128 HS.1 HS.2.2.2.2.2.2 ((tx_tok_ok (T := T) HC.1).2.2.2.1 h2) (HK.2.2.2.1 h2) (fun v37 q37 => ?_)
        refine ⟨fun h43 => ?_, fun h43 => ?_⟩
        · have h43 : v37.toInt ≠ (-1 : Int) := xne h43
          have hrel : tx_at (tx_R E) (tx_tok T N p).2.2.2.1 = none := by
            cases e : tx_at (tx_G E) (tx_tok T N p).2.2.2.1 with
            | none => exact (h43 (q37.2 e)).elim
            | some g => exact cv_dis HS.2.2.2.2.2.2 e
          exact cv_76_59 (fun m hm => IH m (by omega)) HS HC hx ⟨h2, hrel, q14⟩ q37 k1 k0
        · have h43 : v37.toInt = (-1 : Int) := xeq h43
          refine fs_77 HS HC (fun q47 => ?_) (fun q47 => ?_)
          · refine ⟨fun h50 => ?_, fun h50 => ?_⟩
            · exact cv_76_59 (fun m hm => IH m (by omega)) HS HC hx ⟨h2, q47.2.1, q14⟩ q37 k1 k0
            · exact absurd h50 (by decide)
          · refine ⟨fun h50 => ?_, fun h50 => ?_⟩
            · exact absurd h50 (by decide)
            · refine fs_62 (K := 2) (r := r) (E := E) (c0 := (0, S, p, l, fr, 0)) HK cv_fr_refl rfl (gt_one (tx_s_tb rfl (fun z => q47 ⟨h2, z.2.1, (tx_opt_m q37).mp h43⟩))) (fun s55 q55 => ?_)
              refine pl_nk_i (fun z58 => ?_)
              exact k0 _ q55
      · exact absurd h17 (by decide)
    · refine ⟨fun h17 => ?_, fun h17 => ?_⟩
      · exact absurd h17 (by decide)
      · exact cv_76_20 HC (tx_s_tb rfl (fun z => q14 z.2.2)) k0
theorem cv_every (T : Nat → Nat) (N : Nat) (E : tx_E) : ∀ n, cv_all T N E n := xstr (fun n IH => ⟨cv_70 n IH, cv_76 n IH, cv_71 n IH, cv_74 n IH, cv_75 n IH⟩)

