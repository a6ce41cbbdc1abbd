set_option maxRecDepth 100000
/-! the reference's reader: what begins -/
/-- moving, with so many counted -/
def mv_D (to : Nat) (s : ps_S) (T : Nat → Nat) (N : Nat) (S : List tx_F) (p : Nat) (l : List Nat) (fr : List (List Nat)) (m : Nat) : Prop := p ≤ N ∧ mv_K s (tx_tok T N p) ∧ mv_B s S ∧ (ps_i s 1131 30).toInt = (tx_bs S).length ∧ (ps_i s 1131 31).toInt = m ∧ mv_W s to l ∧ mv_P s fr ∧ mv_G s
/-- a piece counted, emitted, and the next token -/
theorem mv_eg {n to rb c q : Nat} {s : ps_S} {T : Nat → Nat} {N : Nat} {E : tx_E} {S : List tx_F} {p : Nat} {l : List Nat} {fr : List (List Nat)} {x1 x2 x5 : Int32} {R : ps_S → Prop} (HS : mv_S rb s T N E) (HC : mv_C to s T N S p l fr) (hx : x1.toInt = to) (hc : x2.toInt = c) (h5 : x5.toInt = q) (hq : 1 ≤ q ∧ q ≤ 2) (hl : l.length + tx_due S + q ≤ 40) (k : ∀ s2, mv_S rb s2 T N E ∧ mv_D to s2 T N S (tx_tok T N p).2.2.1 (l ++ [c]) fr (l.length + tx_due S + q) ∧ mv_fr to s s2 → R s2) : pl_Cl n 210 [.ref 1131, .int x1, .int x2] (ps_ui s 1131 31 (ps_i s 1131 31 + x5)) (ps_rV (fun s1 => pl_Cl n 194 [.ref 1131] s1 (ps_rV R))) := by
  obtain ⟨c1, c2, c3, c4, c5, c6, c7, c8, c9⟩ := HC
  have K0 : kq [] [31] s (ps_ui s 1131 31 (ps_i s 1131 31 + x5)) := kqi kq_refl rfl
  refine fm_210 (l := l) hx hc (mv_W_kq c7 K0 (by decide)) (by omega) (fun s1 q1 => ?_)
  obtain ⟨W1, K1, P1⟩ := q1
  have K01 : kq [1134] [31] s s1 := kqt (kqt kq_refl K0 (by decide) (by decide)) K1 (by decide) (by decide)
  have hok := tx_tok_ok (T := T) c1
  refine fs_194 (T := T) (N := N) (p := (tx_tok T N p).2.2.1) (mv_T_kq HS.2.2.2.1 K01 (by decide) (by decide)) (mv_K_kq c3 K01 (by decide)).2.2.1 hok.2.1 (fun s2 A => ?_)
  obtain ⟨K2, k2⟩ := A
  have F : mv_fr to s s2 := mv_fr_tr (mv_fr_tr (mv_fr_kq K0 (by decide) (by decide)) ⟨kqt kq_refl K1 (by decide) (by decide), P1⟩) (mv_fr_kq K2 (by decide) (by decide))
  refine k s2 ⟨mv_S_fr HS F, ⟨hok.2.1, k2, mv_B_kq (mv_B_kq c4 K01 (by decide) (by decide)) K2 (by decide) (by decide), ?_, ?_, mv_W_kq W1 K2 (by decide), mv_P_kq (mv_P_kq c8 K01 (by decide) (by decide)) K2 (by decide) (by decide), mv_G_kq (mv_G_kq c9 K01 (by decide) (by decide)) K2 (by decide) (by decide)⟩, F⟩
  · rw [kq_i K2 30 (by decide), kq_i K01 30 (by decide)]
    exact c5
  · rw [kq_i K2 31 (by decide), kq_i K1 31 (by decide), ps_i_ui, if_pos ⟨rfl, rfl⟩, xIa (by omega) (by omega)]
    omega
theorem mv_B_not {s : ps_S} {m : Nat} {b nt : Bool} {S : List tx_F} {x3 : Int32} {i : Nat} (h : mv_B s ((m, b, false, none) :: S)) (hi : i = S.length) (hx : x3.toInt = (if nt = true then 1 else 0)) : mv_B (ps_ua s 1146 i (x3 &&& 1)) ((m, b, nt, none) :: S) := by
  subst hi
  obtain ⟨b1, b2⟩ := h
  have hx2 : (x3 &&& 1).toInt = (if nt = true then 1 else 0) := by
    cases nt with
    | true => rw [show x3 = 1 from Int32.toInt_inj.mp hx]; decide
    | false => rw [show x3 = 0 from Int32.toInt_inj.mp hx]; decide
  refine ⟨b1, fun j f hj => ?_⟩
  show mv_f _ (S.length + 1 - 1 - j) f
  cases j with
  | zero =>
    have hj : some (m, b, nt, none) = some f := hj
    cases hj
    have g := b2 0 _ rfl
    rw [List.length_cons] at g
    rw [show S.length + 1 - 1 - 0 = S.length from by omega] at g ⊢
    obtain ⟨g1, g2, g3, g4⟩ := g
    refine ⟨g1, g2, ?_, g4⟩
    rw [ps_a_ua, if_pos ⟨rfl, rfl⟩]
    exact hx2
  | succ j =>
    have hj : S[j]? = some f := hj
    have hl := (List.getElem?_eq_some_iff.mp hj).1
    have g := b2 (j + 1) f hj
    rw [List.length_cons] at g
    obtain ⟨g1, g2, g3, g4⟩ := g
    refine ⟨g1, g2, ?_, g4⟩
    rw [ps_a_ua, if_neg (by omega)]
    exact g3
theorem mv_B_bind {s : ps_S} {m : Nat} {b nt : Bool} {S : List tx_F} {w : List Nat} {v : Int64} {i : Nat} (h : mv_B s ((m, b, nt, none) :: S)) (hi : i = S.length) (hw : tx_w w) (hv : v = tx_m w) : mv_B (ps_ub (ps_ua s 1147 i ((1 : Int32) &&& 1)) 1148 i v) ((m, b, nt, some w) :: S) := by
  subst hi
  obtain ⟨b1, b2⟩ := h
  refine ⟨b1, fun j f hj => ?_⟩
  show mv_f _ (S.length + 1 - 1 - j) f
  cases j with
  | zero =>
    have hj : some (m, b, nt, some w) = some f := hj
    cases hj
    have g := b2 0 _ rfl
    rw [List.length_cons] at g
    rw [show S.length + 1 - 1 - 0 = S.length from by omega] at g ⊢
    obtain ⟨g1, g2, g3, g4⟩ := g
    refine ⟨g1, g2, g3, Or.inr ⟨w, rfl, ?_, hw, ?_⟩⟩
    · show (ps_a (ps_ua s 1147 S.length ((1 : Int32) &&& 1)) 1147 S.length).toInt = 1
      rw [ps_a_ua, if_pos ⟨rfl, rfl⟩]
      decide
    · rw [ps_b_ub, if_pos ⟨rfl, rfl⟩]
      exact hv
  | succ j =>
    have hj : S[j]? = some f := hj
    have hl := (List.getElem?_eq_some_iff.mp hj).1
    have g := b2 (j + 1) f hj
    rw [List.length_cons] at g
    obtain ⟨g1, g2, g3, g4⟩ := g
    refine ⟨g1, g2, g3, ?_⟩
    rw [ps_b_ub, if_neg (by omega)]
    show _ ∨ ∃ x, _ ∧ (ps_a (ps_ua s 1147 S.length ((1 : Int32) &&& 1)) 1147 _).toInt = 1 ∧ _
    rcases g4 with ⟨z1, z2⟩ | ⟨x, z1, z2, z3, z4⟩
    · refine Or.inl ⟨z1, ?_⟩
      show (ps_a (ps_ua s 1147 S.length ((1 : Int32) &&& 1)) 1147 _).toInt = 0
      rw [ps_a_ua, if_neg (by omega)]
      exact z2
    · refine Or.inr ⟨x, z1, ?_, z3, z4⟩
      rw [ps_a_ua, if_neg (by omega)]
      exact z2
/-- what beginning a piece comes to -/
def mv_res (to : Nat) (s s' : ps_S) (T : Nat → Nat) (N : Nat) (E : tx_E) (c0 : tx_C) : Prop := (∃ S' p' l' fr', tx_st T N E c0 = (2, S', p', l', fr', 0) ∧ mv_C to s' T N S' p' l' fr' ∧ mv_fr to s s') ∨ ∃ (S' : List tx_F) (pl : Nat) (l' : List Nat) (fr' : List (List Nat)) (k : Nat), tx_st T N E c0 = (4, S', pl, l', fr', k) ∧ mv_bad to s s' k pl
theorem mv_bad_tr {to k pl : Nat} {s s1 s' : ps_S} (F : mv_fr to s s1) (h : mv_bad to s1 s' k pl) : mv_bad to s s' k pl := ⟨h.1, h.2.1, h.2.2.1, mv_fr_tr F h.2.2.2⟩
/-- a frame is pushed, nothing bound -/
theorem mv_D_push {to : Nat} {s s' : ps_S} {T : Nat → Nat} {N : Nat} {S : List tx_F} {p : Nat} {l : List Nat} {fr : List (List Nat)} {m q : Nat} {b nt : Bool} {x3 : Int32} {i : Nat} (D : mv_D to s T N S p l fr m) (hS : S.length ≤ 12) (hB : mv_B s' ((q, b, false, none) :: S)) (K : kq [1144, 1145, 1146, 1147] [29] s s') (hi : i = S.length) (hx : x3.toInt = (if nt = true then 1 else 0)) (hm : m = l.length + ((if nt = true then 1 else 0) + tx_due S)) (h40 : m ≤ 40) : mv_C to (ps_ua s' 1146 i (x3 &&& 1)) T N ((q, b, nt, none) :: S) p l fr := by
  obtain ⟨d1, d2, d3, d4, d5, d6, d7, d8⟩ := D
  have K2 : kq [1144, 1145, 1146, 1147] [29] s (ps_ua s' 1146 i (x3 &&& 1)) := kqa K rfl
  refine ⟨d1, ⟨by rw [List.length_cons]; omega, by show l.length + ((if nt = true then 1 else 0) + tx_due S) ≤ 40; omega⟩, mv_K_kq d2 K2 (by decide), mv_B_not hB hi hx, by rw [kq_i K2 30 (by decide)]; exact d4, ?_, mv_W_kq d6 K2 (by decide), mv_P_kq d7 K2 (by decide) (by decide), mv_G_kq d8 K2 (by decide) (by decide)⟩
  rw [kq_i K2 31 (by decide), d5, hm]
  rfl

-- ProofBenchModel.beginsFormula(I)V
theorem pl_214_0 {n : Nat} {x1 : Int32} {s : ps_S} {Q : Option Value → ps_S → Prop} (h :
  pl_Cl n 213 [.ref 1131] s (ps_rI (fun v1 s1 =>
    pl_Cl n 195 [.ref 1131, .long (7237492 : Int64)] s1 (ps_rI (fun v2 s2 =>
      (v1 = 4 →
        pl_At n 214 23 [(0, .ref 1131), (1, .int x1), (2, .int v1), (3, .int v2)] [] s2 Q) ∧
      (v1 ≠ 4 →
        (v1 ≠ 5 →
          (v2 = 0 →
            (v1 < 0 →
              pl_At n 214 84 [(0, .ref 1131), (1, .int x1), (2, .int v1), (3, .int v2), (4, .int 0), (5, .int 1)] [] s2 Q) ∧
            (0 ≤ v1 →
              (40 < ((ps_i s2 1131 31) + 1) →
                pl_At n 214 84 [(0, .ref 1131), (1, .int x1), (2, .int v1), (3, .int v2), (4, .int 0), (5, .int 1)] [] s2 Q) ∧
              (((ps_i s2 1131 31) + 1) ≤ 40 →
                (12 < (((ps_i s2 1131 29) + 1) - 1) →
                  pl_At n 214 84 [(0, .ref 1131), (1, .int x1), (2, .int v1), (3, .int v2), (4, .int 0), (5, .int 1)] [] s2 Q) ∧
                ((((ps_i s2 1131 29) + 1) - 1) ≤ 12 →
                  ((0 : Int32) = 0 →
                    pl_At n 214 88 [(0, .ref 1131), (1, .int x1), (2, .int v1), (3, .int v2), (4, .int 0), (5, .int 1)] [] s2 Q) ∧
                  ((0 : Int32) ≠ 0 →
                    ((ps_i s2 1131 30) ≤ 4 →
                      pl_At n 214 88 [(0, .ref 1131), (1, .int x1), (2, .int v1), (3, .int v2), (4, .int 0), (5, .int 1)] [] s2 Q) ∧
                    (4 < (ps_i s2 1131 30) →
                      pl_At n 214 84 [(0, .ref 1131), (1, .int x1), (2, .int v1), (3, .int v2), (4, .int 0), (5, .int 1)] [] s2 Q)))))) ∧
          (v2 ≠ 0 →
            (v1 < 0 →
              pl_At n 214 84 [(0, .ref 1131), (1, .int x1), (2, .int v1), (3, .int v2), (4, .int 0), (5, .int 2)] [] s2 Q) ∧
            (0 ≤ v1 →
              (40 < ((ps_i s2 1131 31) + 2) →
                pl_At n 214 84 [(0, .ref 1131), (1, .int x1), (2, .int v1), (3, .int v2), (4, .int 0), (5, .int 2)] [] s2 Q) ∧
              (((ps_i s2 1131 31) + 2) ≤ 40 →
                (12 < (((ps_i s2 1131 29) + 2) - 1) →
                  pl_At n 214 84 [(0, .ref 1131), (1, .int x1), (2, .int v1), (3, .int v2), (4, .int 0), (5, .int 2)] [] s2 Q) ∧
                ((((ps_i s2 1131 29) + 2) - 1) ≤ 12 →
                  ((0 : Int32) = 0 →
                    pl_At n 214 88 [(0, .ref 1131), (1, .int x1), (2, .int v1), (3, .int v2), (4, .int 0), (5, .int 2)] [] s2 Q) ∧
                  ((0 : Int32) ≠ 0 →
                    ((ps_i s2 1131 30) ≤ 4 →
                      pl_At n 214 88 [(0, .ref 1131), (1, .int x1), (2, .int v1), (3, .int v2), (4, .int 0), (5, .int 2)] [] s2 Q) ∧
                    (4 < (ps_i s2 1131 30) →
                      pl_At n 214 84 [(0, .ref 1131), (1, .int x1), (2, .int v1), (3, .int v2), (4, .int 0), (5, .int 2)] [] s2 Q))))))) ∧
        (v1 = 5 →
          pl_At n 214 23 [(0, .ref 1131), (1, .int x1), (2, .int v1), (3, .int v2)] [] s2 Q))))))) : pl_At (n + 1) 214 0 [(0, .ref 1131), (1, .int x1)] [] s Q :=
  pl_wp_at (stops := [(23, [0, 1, 2, 3]), (84, [0, 1, 2, 3, 4, 5]), (88, [0, 1, 2, 3, 4, 5]), (133, [0])]) (f := 68) h rfl

theorem pl_214_23 {n : Nat} {x1 : Int32} {x2 : Int32} {x3 : Int32} {s : ps_S} {Q : Option Value → ps_S → Prop} (h :
  (x3 = 0 →
    (x2 < 0 →
      pl_At n 214 84 [(0, .ref 1131), (1, .int x1), (2, .int x2), (3, .int x3), (4, .int 1), (5, .int 1)] [] s Q) ∧
    (0 ≤ x2 →
      (40 < ((ps_i s 1131 31) + 1) →
        pl_At n 214 84 [(0, .ref 1131), (1, .int x1), (2, .int x2), (3, .int x3), (4, .int 1), (5, .int 1)] [] s Q) ∧
      (((ps_i s 1131 31) + 1) ≤ 40 →
        (12 < (((ps_i s 1131 29) + 1) - 1) →
          pl_At n 214 84 [(0, .ref 1131), (1, .int x1), (2, .int x2), (3, .int x3), (4, .int 1), (5, .int 1)] [] s Q) ∧
        ((((ps_i s 1131 29) + 1) - 1) ≤ 12 →
          ((1 : Int32) = 0 →
            pl_At n 214 88 [(0, .ref 1131), (1, .int x1), (2, .int x2), (3, .int x3), (4, .int 1), (5, .int 1)] [] s Q) ∧
          ((1 : Int32) ≠ 0 →
            ((ps_i s 1131 30) ≤ 4 →
              pl_At n 214 88 [(0, .ref 1131), (1, .int x1), (2, .int x2), (3, .int x3), (4, .int 1), (5, .int 1)] [] s Q) ∧
            (4 < (ps_i s 1131 30) →
              pl_At n 214 84 [(0, .ref 1131), (1, .int x1), (2, .int x2), (3, .int x3), (4, .int 1), (5, .int 1)] [] s Q)))))) ∧
  (x3 ≠ 0 →
    (x2 < 0 →
      pl_At n 214 84 [(0, .ref 1131), (1, .int x1), (2, .int x2), (3, .int x3), (4, .int 1), (5, .int 2)] [] s Q) ∧
    (0 ≤ x2 →
      (40 < ((ps_i s 1131 31) + 2) →
        pl_At n 214 84 [(0, .ref 1131), (1, .int x1), (2, .int x2), (3, .int x3), (4, .int 1), (5, .int 2)] [] s Q) ∧
      (((ps_i s 1131 31) + 2) ≤ 40 →
        (12 < (((ps_i s 1131 29) + 2) - 1) →
          pl_At n 214 84 [(0, .ref 1131), (1, .int x1), (2, .int x2), (3, .int x3), (4, .int 1), (5, .int 2)] [] s Q) ∧
        ((((ps_i s 1131 29) + 2) - 1) ≤ 12 →
          ((1 : Int32) = 0 →
            pl_At n 214 88 [(0, .ref 1131), (1, .int x1), (2, .int x2), (3, .int x3), (4, .int 1), (5, .int 2)] [] s Q) ∧
          ((1 : Int32) ≠ 0 →
            ((ps_i s 1131 30) ≤ 4 →
              pl_At n 214 88 [(0, .ref 1131), (1, .int x1), (2, .int x2), (3, .int x3), (4, .int 1), (5, .int 2)] [] s Q) ∧
            (4 < (ps_i s 1131 30) →
              pl_At n 214 84 [(0, .ref 1131), (1, .int x1), (2, .int x2), (3, .int x3), (4, .int 1), (5, .int 2)] [] s Q))))))) : pl_At (n + 1) 214 23 [(0, .ref 1131), (1, .int x1), (2, .int x2), (3, .int x3)] [] s Q :=
  pl_wp_at (stops := [(23, [0, 1, 2, 3]), (84, [0, 1, 2, 3, 4, 5]), (88, [0, 1, 2, 3, 4, 5]), (133, [0])]) (f := 56) h rfl

theorem pl_214_84 {n : Nat} {x1 : Int32} {x2 : Int32} {x3 : Int32} {x4 : Int32} {x5 : Int32} {s : ps_S} {Q : Option Value → ps_S → Prop} (h :
  pl_Cl n 196 [.ref 1131] s (ps_rV (fun s1 =>
    pl_At n 214 88 [(0, .ref 1131), (1, .int x1), (2, .int x2), (3, .int x3), (4, .int x4), (5, .int x5)] [] s1 Q))) : pl_At (n + 1) 214 84 [(0, .ref 1131), (1, .int x1), (2, .int x2), (3, .int x3), (4, .int x4), (5, .int x5)] [] s Q :=
  pl_wp_at (stops := [(23, [0, 1, 2, 3]), (84, [0, 1, 2, 3, 4, 5]), (88, [0, 1, 2, 3, 4, 5]), (133, [0])]) (f := 4) h rfl

theorem pl_214_88 {n : Nat} {x1 : Int32} {x2 : Int32} {x3 : Int32} {x4 : Int32} {x5 : Int32} {s : ps_S} {Q : Option Value → ps_S → Prop} (h :
  pl_Cl n 192 [.ref 1131] s (ps_rI (fun v1 s1 =>
    (v1 ≠ 0 →
      pl_Cl n 210 [.ref 1131, .int x1, .int x2] (ps_ui s1 1131 31 ((ps_i s1 1131 31) + x5)) (ps_rV (fun s2 =>
        pl_Cl n 194 [.ref 1131] s2 (ps_rV (fun s3 =>
          (x4 = 0 →
            (x3 = 0 →
              (x2 ≠ 0 →
                (10 ≤ x2 →
                  (pm_in ((((6 : Int32) * (ps_i s3 1131 22)) + x2) - 10) 12 = true →
                    (x2 < 6 →
                      pl_Cl n 211 [.ref 1131, .int (ps_a s3 1138 (Int32.toNatClampNeg ((((6 : Int32) * (ps_i s3 1131 22)) + x2) - 10))), .int 0] s3 (ps_rV (fun s4 =>
                        (pm_in ((ps_i s4 1131 29) - 1) 16 = true →
                          Q none (ps_ua s4 1146 (Int32.toNatClampNeg ((ps_i s4 1131 29) - 1)) (x3 &&& 1)))))) ∧
                    (6 ≤ x2 →
                      pl_Cl n 211 [.ref 1131, .int (ps_a s3 1138 (Int32.toNatClampNeg ((((6 : Int32) * (ps_i s3 1131 22)) + x2) - 10))), .int 1] s3 (ps_rV (fun s5 =>
                        (pm_in ((ps_i s5 1131 29) - 1) 16 = true →
                          Q none (ps_ua s5 1146 (Int32.toNatClampNeg ((ps_i s5 1131 29) - 1)) (x3 &&& 1)))))))) ∧
                (x2 < 10 →
                  (x2 < 6 →
                    pl_Cl n 211 [.ref 1131, .int 2, .int 0] s3 (ps_rV (fun s6 =>
                      (pm_in ((ps_i s6 1131 29) - 1) 16 = true →
                        Q none (ps_ua s6 1146 (Int32.toNatClampNeg ((ps_i s6 1131 29) - 1)) (x3 &&& 1)))))) ∧
                  (6 ≤ x2 →
                    pl_Cl n 211 [.ref 1131, .int 2, .int 1] s3 (ps_rV (fun s7 =>
                      (pm_in ((ps_i s7 1131 29) - 1) 16 = true →
                        Q none (ps_ua s7 1146 (Int32.toNatClampNeg ((ps_i s7 1131 29) - 1)) (x3 &&& 1)))))))) ∧
              (x2 = 0 →
                (x2 < 6 →
                  pl_Cl n 211 [.ref 1131, .int 0, .int 0] s3 (ps_rV (fun s8 =>
                    (pm_in ((ps_i s8 1131 29) - 1) 16 = true →
                      Q none (ps_ua s8 1146 (Int32.toNatClampNeg ((ps_i s8 1131 29) - 1)) (x3 &&& 1)))))) ∧
                (6 ≤ x2 →
                  pl_Cl n 211 [.ref 1131, .int 0, .int 1] s3 (ps_rV (fun s9 =>
                    (pm_in ((ps_i s9 1131 29) - 1) 16 = true →
                      Q none (ps_ua s9 1146 (Int32.toNatClampNeg ((ps_i s9 1131 29) - 1)) (x3 &&& 1)))))))) ∧
            (x3 ≠ 0 →
              (x2 < 6 →
                pl_Cl n 211 [.ref 1131, .int 1, .int 0] s3 (ps_rV (fun s10 =>
                  (pm_in ((ps_i s10 1131 29) - 1) 16 = true →
                    Q none (ps_ua s10 1146 (Int32.toNatClampNeg ((ps_i s10 1131 29) - 1)) (x3 &&& 1)))))) ∧
              (6 ≤ x2 →
                pl_Cl n 211 [.ref 1131, .int 1, .int 1] s3 (ps_rV (fun s11 =>
                  (pm_in ((ps_i s11 1131 29) - 1) 16 = true →
                    Q none (ps_ua s11 1146 (Int32.toNatClampNeg ((ps_i s11 1131 29) - 1)) (x3 &&& 1)))))))) ∧
          (x4 ≠ 0 →
            pl_Cl n 208 [.ref 1131] s3 (ps_rI (fun v12 s12 =>
              (v12 ≠ 0 →
                pl_At n 214 133 [(0, .ref 1131)] [] s12 Q) ∧
              (v12 = 0 →
                pl_Cl n 196 [.ref 1131] s12 (ps_rV (fun s13 =>
                  pl_At n 214 133 [(0, .ref 1131)] [] s13 Q))))))))))) ∧
    (v1 = 0 →
      Q none s1)))) : pl_At (n + 1) 214 88 [(0, .ref 1131), (1, .int x1), (2, .int x2), (3, .int x3), (4, .int x4), (5, .int x5)] [] s Q :=
  pl_wp_at (stops := [(23, [0, 1, 2, 3]), (84, [0, 1, 2, 3, 4, 5]), (88, [0, 1, 2, 3, 4, 5]), (133, [0])]) (f := 154) h rfl

theorem pl_214_133 {n : Nat} {s : ps_S} {Q : Option Value → ps_S → Prop} (h :
  pl_Cl n 192 [.ref 1131] s (ps_rI (fun v1 s1 =>
    (v1 ≠ 0 →
      pl_Cl n 211 [.ref 1131, .int 1, .int 0] s1 (ps_rV (fun s2 =>
        (pm_in ((ps_i s2 1131 29) - 1) 16 = true →
          (pm_in ((ps_i (ps_ua s2 1147 (Int32.toNatClampNeg ((ps_i s2 1131 29) - 1)) ((1 : Int32) &&& 1)) 1131 29) - 1) 16 = true →
            pl_Cl n 194 [.ref 1131] (ps_ui (ps_ub (ps_ua s2 1147 (Int32.toNatClampNeg ((ps_i s2 1131 29) - 1)) ((1 : Int32) &&& 1)) 1148 (Int32.toNatClampNeg ((ps_i (ps_ua s2 1147 (Int32.toNatClampNeg ((ps_i s2 1131 29) - 1)) ((1 : Int32) &&& 1)) 1131 29) - 1)) (ps_j (ps_ua s2 1147 (Int32.toNatClampNeg ((ps_i s2 1131 29) - 1)) ((1 : Int32) &&& 1)) 1131 11)) 1131 30 ((ps_i (ps_ub (ps_ua s2 1147 (Int32.toNatClampNeg ((ps_i s2 1131 29) - 1)) ((1 : Int32) &&& 1)) 1148 (Int32.toNatClampNeg ((ps_i (ps_ua s2 1147 (Int32.toNatClampNeg ((ps_i s2 1131 29) - 1)) ((1 : Int32) &&& 1)) 1131 29) - 1)) (ps_j (ps_ua s2 1147 (Int32.toNatClampNeg ((ps_i s2 1131 29) - 1)) ((1 : Int32) &&& 1)) 1131 11)) 1131 30) + 1)) (ps_rV (fun s3 =>
              Q none s3))))))) ∧
    (v1 = 0 →
      Q none s1)))) : pl_At (n + 1) 214 133 [(0, .ref 1131)] [] s Q :=
  pl_wp_at (stops := [(23, [0, 1, 2, 3]), (84, [0, 1, 2, 3, 4, 5]), (88, [0, 1, 2, 3, 4, 5]), (133, [0])]) (f := 37) h rfl

theorem fm_214_88b {n to : Nat} {s0 s : ps_S} {T : Nat → Nat} {N : Nat} {E : tx_E} {c0 : tx_C} {S' : List tx_F} {pl : Nat} {l' : List Nat} {fr' : List (List Nat)} {kd : Nat} {x1 x2 x3 x4 x5 : Int32} {R : ps_S → Prop} (hs : tx_st T N E c0 = (4, S', pl, l', fr', kd)) (hb : mv_bad to s0 s kd pl) (k : ∀ s', mv_res to s0 s' T N E c0 → R s') : pl_At n 214 88 [(0, .ref 1131), (1, .int x1), (2, .int x2), (3, .int x3), (4, .int x4), (5, .int x5)] [] s (ps_rV R) := by
  cases n with
  | zero => exact pl_At_0
  | succ n =>
  refine pl_214_88 ?_
  refine fm_192 (fun z => ?_) (fun z => ?_)
  · exfalso
    have := hb.1
    have := hb.2.1
    omega
  · exact ⟨fun h => absurd rfl h, fun _ => k _ (Or.inr ⟨S', pl, l', fr', kd, hs, hb⟩)⟩
theorem fm_214_84 {n : Nat} {rb to : Nat} {s : ps_S} {T : Nat → Nat} {N : Nat} {E : tx_E} {S : List tx_F} {p : Nat} {l : List Nat} {fr : List (List Nat)} {x1 x2 x3 x4 x5 : Int32} {R : ps_S → Prop} (HC : mv_C to s T N S p l fr) (hs : tx_st T N E (1, S, p, l, fr, 0) = (4, S, (tx_tok T N p).2.1, l, fr, tx_bk (tx_tok T N p))) (k : ∀ s', mv_res to s s' T N E (1, S, p, l, fr, 0) → R s') : pl_At n 214 84 [(0, .ref 1131), (1, .int x1), (2, .int x2), (3, .int x3), (4, .int x4), (5, .int x5)] [] s (ps_rV R) := by
  cases n with
  | zero => exact pl_At_0
  | succ n =>
  refine pl_214_84 ?_
  refine fm_196 HC.2.2.2.2.2.2.2.2.1 HC.2.2.1 (fun s1 q1 => ?_)
  exact fm_214_88b hs (mv_bad_mis q1.1 q1.2.1 q1.2.2) k
theorem fm_214_133b {n to : Nat} {s0 s : ps_S} {T : Nat → Nat} {N : Nat} {E : tx_E} {c0 : tx_C} {S' : List tx_F} {pl : Nat} {l' : List Nat} {fr' : List (List Nat)} {kd : Nat} {R : ps_S → Prop} (hs : tx_st T N E c0 = (4, S', pl, l', fr', kd)) (hb : mv_bad to s0 s kd pl) (k : ∀ s', mv_res to s0 s' T N E c0 → R s') : pl_At n 214 133 [(0, .ref 1131)] [] s (ps_rV R) := by
  cases n with
  | zero => exact pl_At_0
  | succ n =>
  refine pl_214_133 ?_
  refine fm_192 (fun z => ?_) (fun z => ?_)
  · exfalso
    have := hb.1
    have := hb.2.1
    omega
  · exact ⟨fun h => absurd rfl h, fun _ => k _ (Or.inr ⟨S', pl, l', fr', kd, hs, hb⟩)⟩

