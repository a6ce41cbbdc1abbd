section
set_option maxRecDepth 100000
/-! the class's tokens -/
-- ProofBench$Tokens.byteAt(I)I
theorem pl_143_0 {n : Nat} {x1 : Int32} {s : ps_S} {Q : Option Value → ps_S → Prop} (h :
  (x1 < 0 →
    Q (some (.int (-1))) s) ∧
  (0 ≤ x1 →
    ((ps_i s 903 2) ≤ x1 →
      Q (some (.int (-1))) s) ∧
    (x1 < (ps_i s 903 2) →
      pl_nk (Nat.beq (ps_K (ps_r s 903 1)).1 0) (((nI (ps_ln (ps_r s 903 1))) ≤ x1 →
        Q (some (.int (-1))) s) ∧
      (x1 < (nI (ps_ln (ps_r s 903 1))) →
        pl_nk (ps_ar (ps_r s 903 1) 1 || ps_ar (ps_r s 903 1) 2) ((pm_in x1 (ps_ln (ps_r s 903 1)) = true →
          Q (some (.int ((ps_a s (ps_r s 903 1) (Int32.toNatClampNeg x1)) &&& 255))) s))))))) : pl_At (n + 1) 143 0 [(0, .ref 903), (1, .int x1)] [] s Q :=
  pl_wp_at (stops := []) (f := 27) h rfl

-- ProofBench$Tokens.isBlank(I)Z
theorem pl_145_0 {n : Nat} {x0 : Int32} {s : ps_S} {Q : Option Value → ps_S → Prop} (h :
  (x0 = 32 →
    Q (some (.int 1)) s) ∧
  (x0 ≠ 32 →
    (x0 ≠ 10 →
      Q (some (.int 0)) s) ∧
    (x0 = 10 →
      Q (some (.int 1)) s))) : pl_At (n + 1) 145 0 [(0, .int x0)] [] s Q :=
  pl_wp_at (stops := []) (f := 16) h rfl

-- ProofBench$Tokens.isLetter(I)Z
theorem pl_146_0 {n : Nat} {x0 : Int32} {s : ps_S} {Q : Option Value → ps_S → Prop} (h :
  (x0 < 97 →
    Q (some (.int 0)) s) ∧
  (97 ≤ x0 →
    (122 < x0 →
      Q (some (.int 0)) s) ∧
    (x0 ≤ 122 →
      Q (some (.int 1)) s))) : pl_At (n + 1) 146 0 [(0, .int x0)] [] s Q :=
  pl_wp_at (stops := []) (f := 15) h rfl

-- ProofBench$Tokens.isDigit(I)Z
theorem pl_147_0 {n : Nat} {x0 : Int32} {s : ps_S} {Q : Option Value → ps_S → Prop} (h :
  (x0 < 48 →
    Q (some (.int 0)) s) ∧
  (48 ≤ x0 →
    (57 < x0 →
      Q (some (.int 0)) s) ∧
    (x0 ≤ 57 →
      Q (some (.int 1)) s))) : pl_At (n + 1) 147 0 [(0, .int x0)] [] s Q :=
  pl_wp_at (stops := []) (f := 15) h rfl

-- ProofBench$Tokens.withLetter(JI)J
theorem pl_144_0 {n : Nat} {l0 : Int64} {x2 : Int32} {s : ps_S} {Q : Option Value → ps_S → Prop} (h :
  Q (some (.long ((((l0 * (32 : Int64)) + (Int32.toInt64 x2)) - (97 : Int64)) + 1))) s) : pl_At (n + 1) 144 0 [(0, .long l0), (2, .int x2)] [] s Q :=
  pl_wp_at (stops := []) (f := 13) h rfl

theorem fs_143 {n : Nat} {x1 : Int32} {s : ps_S} {R : Int32 → ps_S → Prop} {T : Nat → Nat} {N a : Nat} (H : cv_T s T N) (hx : x1.toInt = a) (k : ∀ v : Int32, v.toInt = (if a < N then (T a : Int) else -1) → R v s) : pl_Cl n 143 [.ref 903, .int x1] s (ps_rI R) := by
  cases n with
  | zero => exact pl_At_0
  | succ n =>
  obtain ⟨H1, H2, H3, H4, H5⟩ := H
  have t16 : (nI (ps_ln (ps_r s 903 1))).toInt = 1600 := by
    rw [H1, ps_ln1]
    decide
  show pl_At (n + 1) 143 0 [(0, .ref 903), (1, .int x1)] [] s (ps_rI R)
  refine pl_143_0 ?_
  refine ⟨fun h1 => ?_, fun h1 => ?_⟩
  · have h1 : x1.toInt < (0 : Int) := xlt h1
    refine k _ ?_
    rw [if_neg (by omega)]
    rfl
  · have h1 : (0 : Int) ≤ x1.toInt := xle h1
    refine ⟨fun h9 => ?_, fun h9 => ?_⟩
    · have h9 : (ps_i s 903 2).toInt ≤ x1.toInt := xle h9
      refine k _ ?_
      rw [if_neg (by omega)]
      rfl
    · have h9 : x1.toInt < (ps_i s 903 2).toInt := xlt h9
      refine pl_nk_i (fun k17 => ?_)
      refine ⟨fun h18 => ?_, fun h18 => ?_⟩
      · have h18 : (nI (ps_ln (ps_r s 903 1))).toInt ≤ x1.toInt := xle h18
        refine k _ ?_
        rw [if_neg (by omega)]
        rfl
      · have h18 : x1.toInt < (nI (ps_ln (ps_r s 903 1))).toInt := xlt h18
        refine pl_nk_i (fun k26 => ?_)
        intro b26
        obtain ⟨b26, c26⟩ := pl_in b26
        rw [H1, xtn hx]
        refine k _ ?_
        rw [if_pos (by omega), H4 a (by omega)]

theorem fs_145 {n : Nat} {x1 : Int32} {s : ps_S} {R : Int32 → ps_S → Prop} (k1 : (x1.toInt = 32 ∨ x1.toInt = 10) → R 1 s) (k0 : ¬((x1.toInt = 32 ∨ x1.toInt = 10)) → R 0 s) : pl_Cl n 145 [.int x1] s (ps_rI R) := by
  cases n with
  | zero => exact pl_At_0
  | succ n =>
  show pl_At (n + 1) 145 0 [(0, .int x1)] [] s (ps_rI R)
  refine pl_145_0 ?_
  refine ⟨fun h3 => ?_, fun h3 => ?_⟩
  · have h3 : x1.toInt = (32 : Int) := xeq h3
    exact k1 (by omega)
  · have h3 : x1.toInt ≠ (32 : Int) := xne h3
    refine ⟨fun h9 => ?_, fun h9 => ?_⟩
    · have h9 : x1.toInt ≠ (10 : Int) := xne h9
      exact k0 (by omega)
    · have h9 : x1.toInt = (10 : Int) := xeq h9
      exact k1 (by omega)

theorem fs_146 {n : Nat} {x1 : Int32} {s : ps_S} {R : Int32 → ps_S → Prop} (k1 : (97 ≤ x1.toInt ∧ x1.toInt ≤ 122) → R 1 s) (k0 : ¬((97 ≤ x1.toInt ∧ x1.toInt ≤ 122)) → R 0 s) : pl_Cl n 146 [.int x1] s (ps_rI R) := by
  cases n with
  | zero => exact pl_At_0
  | succ n =>
  show pl_At (n + 1) 146 0 [(0, .int x1)] [] s (ps_rI R)
  refine pl_146_0 ?_
  refine ⟨fun h3 => ?_, fun h3 => ?_⟩
  · have h3 : x1.toInt < (97 : Int) := xlt h3
    exact k0 (by omega)
  · have h3 : (97 : Int) ≤ x1.toInt := xle h3
    refine ⟨fun h9 => ?_, fun h9 => ?_⟩
    · have h9 : (122 : Int) < x1.toInt := xlt h9
      exact k0 (by omega)
    · have h9 : x1.toInt ≤ (122 : Int) := xle h9
      exact k1 (by omega)

theorem fs_147 {n : Nat} {x1 : Int32} {s : ps_S} {R : Int32 → ps_S → Prop} (k1 : (48 ≤ x1.toInt ∧ x1.toInt ≤ 57) → R 1 s) (k0 : ¬((48 ≤ x1.toInt ∧ x1.toInt ≤ 57)) → R 0 s) : pl_Cl n 147 [.int x1] s (ps_rI R) := by
  cases n with
  | zero => exact pl_At_0
  | succ n =>
  show pl_At (n + 1) 147 0 [(0, .int x1)] [] s (ps_rI R)
  refine pl_147_0 ?_
  refine ⟨fun h3 => ?_, fun h3 => ?_⟩
  · have h3 : x1.toInt < (48 : Int) := xlt h3
    exact k0 (by omega)
  · have h3 : (48 : Int) ≤ x1.toInt := xle h3
    refine ⟨fun h9 => ?_, fun h9 => ?_⟩
    · have h9 : (57 : Int) < x1.toInt := xlt h9
      exact k0 (by omega)
    · have h9 : x1.toInt ≤ (57 : Int) := xle h9
      exact k1 (by omega)

theorem fs_144 {n : Nat} {l0 : Int64} {x2 : Int32} {s : ps_S} {R : Int64 → ps_S → Prop} (k : R ((((l0 * (32 : Int64)) + (Int32.toInt64 x2)) - (97 : Int64)) + 1) s) : pl_Cl n 144 [.long l0, .int x2] s (ps_rJ R) := by
  cases n with
  | zero => exact pl_At_0
  | succ n =>
  show pl_At (n + 1) 144 0 [(0, .long l0), (2, .int x2)] [] s (ps_rJ R)
  exact pl_144_0 k

-- ProofBench$Tokens.takeDigits()V
theorem pl_142_0 {n : Nat} {s : ps_S} {Q : Option Value → ps_S → Prop} (h :
  pl_At n 142 10 [(0, .ref 903), (1, .int (ps_i s 903 5))] [] (ps_ui s 903 7 0) Q) : pl_At (n + 1) 142 0 [(0, .ref 903)] [] s Q :=
  pl_wp_at (stops := [(10, [0, 1]), (55, [0, 1])]) (f := 8) h rfl

theorem pl_142_10 {n : Nat} {x1 : Int32} {s : ps_S} {Q : Option Value → ps_S → Prop} (h :
  ((ps_i s 903 2) ≤ x1 →
    pl_At n 142 55 [(0, .ref 903), (1, .int x1)] [] s Q) ∧
  (x1 < (ps_i s 903 2) →
    pl_Cl n 143 [.ref 903, .int x1] s (ps_rI (fun v1 s1 =>
      pl_Cl n 147 [.int v1] s1 (ps_rI (fun v2 s2 =>
        (v2 = 0 →
          pl_At n 142 55 [(0, .ref 903), (1, .int x1)] [] s2 Q) ∧
        (v2 ≠ 0 →
          pl_Cl n 143 [.ref 903, .int x1] s2 (ps_rI (fun v3 s3 =>
            pl_At n 142 10 [(0, .ref 903), (1, .int (x1 + 1))] [] (ps_ui s3 903 7 ((((ps_i s2 903 7) * 10) + v3) - 48)) Q))))))))) : pl_At (n + 1) 142 10 [(0, .ref 903), (1, .int x1)] [] s Q :=
  pl_wp_at (stops := [(10, [0, 1]), (55, [0, 1])]) (f := 25) h rfl

theorem pl_142_55 {n : Nat} {x1 : Int32} {s : ps_S} {Q : Option Value → ps_S → Prop} (h :
  (4 < (x1 - (ps_i (ps_ui s 903 3 x1) 903 5)) →
    Q none (ps_ui (ps_ui s 903 3 x1) 903 4 1)) ∧
  ((x1 - (ps_i (ps_ui s 903 3 x1) 903 5)) ≤ 4 →
    pl_Cl n 143 [.ref 903, .int x1] (ps_ui s 903 3 x1) (ps_rI (fun v1 s1 =>
      pl_Cl n 146 [.int v1] s1 (ps_rI (fun v2 s2 =>
        (v2 = 0 →
          Q none (ps_ui s2 903 4 4)) ∧
        (v2 ≠ 0 →
          Q none (ps_ui s2 903 4 1)))))))) : pl_At (n + 1) 142 55 [(0, .ref 903), (1, .int x1)] [] s Q :=
  pl_wp_at (stops := [(10, [0, 1]), (55, [0, 1])]) (f := 28) h rfl

-- ProofBench$Tokens.takeWord()V
theorem pl_141_0 {n : Nat} {s : ps_S} {Q : Option Value → ps_S → Prop} (h :
  pl_At n 141 10 [(0, .ref 903), (1, .int (ps_i s 903 5))] [] (ps_uj s 903 8 0) Q) : pl_At (n + 1) 141 0 [(0, .ref 903)] [] s Q :=
  pl_wp_at (stops := [(10, [0, 1]), (51, [0, 1]), (78, [0, 2])]) (f := 8) h rfl

theorem pl_141_10 {n : Nat} {x1 : Int32} {s : ps_S} {Q : Option Value → ps_S → Prop} (h :
  ((ps_i s 903 2) ≤ x1 →
    pl_At n 141 51 [(0, .ref 903), (1, .int x1)] [] s Q) ∧
  (x1 < (ps_i s 903 2) →
    pl_Cl n 143 [.ref 903, .int x1] s (ps_rI (fun v1 s1 =>
      pl_Cl n 146 [.int v1] s1 (ps_rI (fun v2 s2 =>
        (v2 = 0 →
          pl_At n 141 51 [(0, .ref 903), (1, .int x1)] [] s2 Q) ∧
        (v2 ≠ 0 →
          pl_Cl n 143 [.ref 903, .int x1] s2 (ps_rI (fun v3 s3 =>
            pl_Cl n 144 [.long (ps_j s2 903 8), .int v3] s3 (ps_rJ (fun v4 s4 =>
              pl_At n 141 10 [(0, .ref 903), (1, .int (x1 + 1))] [] (ps_uj s4 903 8 v4) Q))))))))))) : pl_At (n + 1) 141 10 [(0, .ref 903), (1, .int x1)] [] s Q :=
  pl_wp_at (stops := [(10, [0, 1]), (51, [0, 1]), (78, [0, 2])]) (f := 21) h rfl

theorem pl_141_51 {n : Nat} {x1 : Int32} {s : ps_S} {Q : Option Value → ps_S → Prop} (h :
  ((x1 - (ps_i (ps_ui s 903 3 x1) 903 5)) ≤ 8 →
    pl_At n 141 78 [(0, .ref 903), (2, .int 0)] [] (ps_ui (ps_ui s 903 3 x1) 903 4 2) Q) ∧
  (8 < (x1 - (ps_i (ps_ui s 903 3 x1) 903 5)) →
    pl_At n 141 78 [(0, .ref 903), (2, .int 0)] [] (ps_ui (ps_ui s 903 3 x1) 903 4 1) Q)) : pl_At (n + 1) 141 51 [(0, .ref 903), (1, .int x1)] [] s Q :=
  pl_wp_at (stops := [(10, [0, 1]), (51, [0, 1]), (78, [0, 2])]) (f := 21) h rfl

theorem pl_141_78 {n : Nat} {x2 : Int32} {s : ps_S} {Q : Option Value → ps_S → Prop} (h :
  ((nI 28) ≤ x2 →
    Q none s) ∧
  (x2 < (nI 28) →
    ((ps_i s 903 4) ≠ 2 →
      Q none s) ∧
    ((ps_i s 903 4) = 2 →
      (pm_in x2 28 = true →
        ((lg_cmp (ps_b s 904 (Int32.toNatClampNeg x2)) (ps_j s 903 8)) ≠ 0 →
          pl_At n 141 78 [(0, .ref 903), (2, .int (x2 + 1))] [] s Q) ∧
        ((lg_cmp (ps_b s 904 (Int32.toNatClampNeg x2)) (ps_j s 903 8)) = 0 →
          pl_At n 141 78 [(0, .ref 903), (2, .int (x2 + 1))] [] (ps_ui (ps_ui s 903 4 3) 903 6 x2) Q))))) : pl_At (n + 1) 141 78 [(0, .ref 903), (2, .int x2)] [] s Q :=
  pl_wp_at (stops := [(10, [0, 1]), (51, [0, 1]), (78, [0, 2])]) (f := 31) h rfl

-- ProofBench$Tokens.advance()V
theorem pl_140_0 {n : Nat} {s : ps_S} {Q : Option Value → ps_S → Prop} (h :
  pl_At n 140 5 [(0, .ref 903), (1, .int (ps_i s 903 3))] [] s Q) : pl_At (n + 1) 140 0 [(0, .ref 903)] [] s Q :=
  pl_wp_at (stops := [(5, [0, 1]), (30, [0, 1])]) (f := 5) h rfl

theorem pl_140_5 {n : Nat} {x1 : Int32} {s : ps_S} {Q : Option Value → ps_S → Prop} (h :
  ((ps_i s 903 2) ≤ x1 →
    pl_At n 140 30 [(0, .ref 903), (1, .int x1)] [] s Q) ∧
  (x1 < (ps_i s 903 2) →
    pl_Cl n 143 [.ref 903, .int x1] s (ps_rI (fun v1 s1 =>
      pl_Cl n 145 [.int v1] s1 (ps_rI (fun v2 s2 =>
        (v2 = 0 →
          pl_At n 140 30 [(0, .ref 903), (1, .int x1)] [] s2 Q) ∧
        (v2 ≠ 0 →
          pl_At n 140 5 [(0, .ref 903), (1, .int (x1 + 1))] [] s2 Q))))))) : pl_At (n + 1) 140 5 [(0, .ref 903), (1, .int x1)] [] s Q :=
  pl_wp_at (stops := [(5, [0, 1]), (30, [0, 1])]) (f := 13) h rfl

theorem pl_140_30 {n : Nat} {x1 : Int32} {s : ps_S} {Q : Option Value → ps_S → Prop} (h :
  pl_Cl n 143 [.ref 903, .int x1] (ps_ui (ps_ui s 903 5 x1) 903 6 (-1)) (ps_rI (fun v1 s1 =>
    (x1 < (ps_i s1 903 2) →
      pl_Cl n 146 [.int v1] s1 (ps_rI (fun v2 s2 =>
        (v2 = 0 →
          pl_Cl n 147 [.int v1] s2 (ps_rI (fun v3 s3 =>
            (v3 = 0 →
              (v1 ≠ 59 →
                Q none (ps_ui (ps_ui s3 903 4 1) 903 3 (x1 + 1))) ∧
              (v1 = 59 →
                Q none (ps_ui (ps_ui s3 903 4 5) 903 3 (x1 + 1)))) ∧
            (v3 ≠ 0 →
              pl_Cl n 142 [.ref 903] s3 (ps_rV (fun s4 =>
                Q none s4)))))) ∧
        (v2 ≠ 0 →
          pl_Cl n 141 [.ref 903] s2 (ps_rV (fun s5 =>
            Q none s5)))))) ∧
    ((ps_i s1 903 2) ≤ x1 →
      Q none (ps_ui (ps_ui s1 903 4 0) 903 3 x1))))) : pl_At (n + 1) 140 30 [(0, .ref 903), (1, .int x1)] [] s Q :=
  pl_wp_at (stops := [(5, [0, 1]), (30, [0, 1])]) (f := 59) h rfl

/-- behind takeDigits -/
def cv_D (T : Nat → Nat) (N a : Nat) (s0 s' : ps_S) : Prop := cv_fl s0 s' ∧ (ps_i s' 903 5).toInt = a ∧ ps_i s' 903 6 = ps_i s0 903 6 ∧ (ps_i s' 903 3).toInt = (tx_to tx_D T N a : Nat) ∧ (if 4 < tx_to tx_D T N a - a ∨ (tx_to tx_D T N a < N ∧ tx_L (T (tx_to tx_D T N a)) = true) then (ps_i s' 903 4).toInt = 1 else (ps_i s' 903 4).toInt = 4 ∧ (ps_i s' 903 7).toInt = (tx_dec T a (tx_to tx_D T N a - a) : Nat))
theorem fs_142_55 {n : Nat} {x1 : Int32} {s0 s : ps_S} {R : ps_S → Prop} {T : Nat → Nat} {N a b : Nat} (H : cv_T s0 T N) (F : cv_fl s0 s) (hp : (ps_i s 903 5).toInt = a) (h6 : ps_i s 903 6 = ps_i s0 903 6) (hx : x1.toInt = b) (hb : tx_to tx_D T N a = b) (hab : a ≤ b) (hbN : b ≤ N) (hall : ∀ j, a ≤ j → j < b → tx_D (T j) = true) (hnum : ps_i s 903 7 = Int32.ofNat (tx_dec T a (b - a))) (k : ∀ s', cv_D T N a s0 s' → R s') : pl_At n 142 55 [(0, .ref 903), (1, .int x1)] [] s (ps_rV R) := by
  cases n with
  | zero => exact pl_At_0
  | succ n =>
  have HT : cv_T (ps_ui s 903 3 x1) T N := cv_T_fl H (cv_fl_i F (by decide))
  have hN := H.2.2.1
  have e1 : (x1 - (ps_i (ps_ui s 903 3 x1) 903 5)).toInt = (b : Int) - a := by
    show (x1 - ps_i s 903 5).toInt = _
    rw [xIs (by omega) (by omega), hx, hp]
  have done1 : (4 < b - a ∨ (b < N ∧ tx_L (T b) = true)) → cv_D T N a s0 (ps_ui (ps_ui s 903 3 x1) 903 4 1) := fun hc => by
    refine ⟨cv_fl_i (cv_fl_i F (by decide)) (by decide), hp, h6, by rw [hb]; exact hx, ?_⟩
    rw [hb, if_pos hc]
    rfl
  have done4 : ¬ (4 < b - a ∨ (b < N ∧ tx_L (T b) = true)) → cv_D T N a s0 (ps_ui (ps_ui s 903 3 x1) 903 4 4) := fun hc => by
    refine ⟨cv_fl_i (cv_fl_i F (by decide)) (by decide), hp, h6, by rw [hb]; exact hx, ?_⟩
    rw [hb, if_neg hc]
    refine ⟨rfl, ?_⟩
    show (ps_i s 903 7).toInt = _
    rw [hnum]
    have hd := tx_dec_lt (T := T) (a := a) (k := b - a) (fun j hj => hall (a + j) (by omega) (by omega))
    have h4 : 10 ^ (b - a) ≤ 10 ^ 4 := Nat.pow_le_pow_right (by decide) (by omega)
    exact nI_i (show tx_dec T a (b - a) < 2147483648 by omega)
  refine pl_142_55 ?_
  refine ⟨fun h68 => ?_, fun h68 => ?_⟩
  · have h68 : (4 : Int) < (x1 - (ps_i (ps_ui s 903 3 x1) 903 5)).toInt := xlt h68
    exact k _ (done1 (Or.inl (by omega)))
  · have h68 : (x1 - (ps_i (ps_ui s 903 3 x1) 903 5)).toInt ≤ (4 : Int) := xle h68
    refine fs_143 HT (a := b) hx (fun v73 q73 => ?_)
    refine fs_146 (fun q76 => ?_) (fun q76 => ?_)
    · have hbl : b < N := by
        refine Nat.lt_of_not_le (fun z => ?_)
        rw [if_neg (by omega)] at q73
        omega
      refine ⟨fun h79 => ?_, fun h79 => ?_⟩
      · exact absurd h79 (by decide)
      · rw [if_pos hbl] at q73
        exact k _ (done1 (Or.inr ⟨hbl, tx_L_c.mpr (by omega)⟩))
    · refine ⟨fun h79 => ?_, fun h79 => ?_⟩
      · exact k _ (done4 (fun z => by
          rcases z with z | ⟨z1, z2⟩
          · omega
          · have := tx_L_c.mp z2
            rw [if_pos z1] at q73
            omega))
      · exact absurd h79 (by decide)

theorem fs_142_10 {T : Nat → Nat} {N a : Nat} {s0 : ps_S} {R : ps_S → Prop} (H : cv_T s0 T N) (k : ∀ s', cv_D T N a s0 s' → R s') : ∀ (n : Nat) {x1 : Int32} {s : ps_S} {b : Nat}, cv_fl s0 s → (ps_i s 903 5).toInt = a → ps_i s 903 6 = ps_i s0 903 6 → x1.toInt = b → a ≤ b → b ≤ N → (∀ j, a ≤ j → j < b → j < N ∧ tx_D (T j) = true) → ps_i s 903 7 = Int32.ofNat (tx_dec T a (b - a)) → pl_At n 142 10 [(0, .ref 903), (1, .int x1)] [] s (ps_rV R)
  | 0, _, _, _, _, _, _, _, _, _, _, _ => pl_At_0
  | n + 1, x1, s, b, F, hp, h6, hx, hab, hbN, hall, hnum => by
    have HT : cv_T s T N := cv_T_fl H F
    have hN := H.2.2.1
    have hsz : (ps_i s 903 2).toInt = N := HT.2.1
    refine pl_142_10 ?_
    refine ⟨fun h15 => ?_, fun h15 => ?_⟩
    · have h15 : (ps_i s 903 2).toInt ≤ x1.toInt := xle h15
      exact fs_142_55 H F hp h6 hx (tx_to_is hab hall (Or.inl (by omega))) hab hbN (fun j h1 h2 => (hall j h1 h2).2) hnum k
    · have h15 : x1.toInt < (ps_i s 903 2).toInt := xlt h15
      have hbl : b < N := by omega
      refine fs_143 HT (a := b) hx (fun v20 q20 => ?_)
      rw [if_pos hbl] at q20
      refine fs_147 (fun q23 => ?_) (fun q23 => ?_)
      · refine ⟨fun h26 => ?_, fun h26 => ?_⟩
        · exact absurd h26 (by decide)
        · refine fs_143 HT (a := b) hx (fun v39 q39 => ?_)
          rw [if_pos hbl] at q39
          refine fs_142_10 H k n (cv_fl_i F (by decide)) hp h6 (xj1 hx (by omega)) (by omega) (by omega) (fun j h1 h2 => ?_) ?_
          · by_cases e : j = b
            · rw [e]
              exact ⟨by omega, tx_D_c.mpr (by omega)⟩
            · exact hall j h1 (by omega)
          · rw [show b + 1 - a = (b - a) + 1 from by omega]
            show ((ps_i s 903 7) * 10 + v39) - 48 = Int32.ofNat (tx_dec T a (b - a) * 10 + (T (a + (b - a)) - 48))
            rw [show a + (b - a) = b from by omega]
            exact xdg hnum q39 (by omega)
      · refine ⟨fun h26 => ?_, fun h26 => ?_⟩
        · exact fs_142_55 H F hp h6 hx (tx_to_is hab hall (Or.inr (by
            rw [Bool.eq_false_iff]
            intro z
            have := tx_D_c.mp z
            omega))) hab hbN (fun j h1 h2 => (hall j h1 h2).2) hnum k
        · exact absurd h26 (by decide)
theorem fs_142 {n : Nat} {T : Nat → Nat} {N a : Nat} {s : ps_S} {R : ps_S → Prop} (H : cv_T s T N) (hp : (ps_i s 903 5).toInt = a) (ha : a ≤ N) (k : ∀ s', cv_D T N a s s' → R s') : pl_Cl n 142 [.ref 903] s (ps_rV R) := by
  cases n with
  | zero => exact pl_At_0
  | succ n =>
  show pl_At (n + 1) 142 0 [(0, .ref 903)] [] s (ps_rV R)
  refine pl_142_0 ?_
  refine fs_142_10 H k n (cv_fl_i cv_fl_refl (by decide)) hp rfl hp (Nat.le_refl _) ha (fun j h1 h2 => by omega) ?_
  rw [Nat.sub_self]
  rfl

/-- behind takeWord -/
def cv_O (T : Nat → Nat) (N a : Nat) (s0 s' : ps_S) : Prop := cv_fl s0 s' ∧ (ps_i s' 903 5).toInt = a ∧ (ps_i s' 903 3).toInt = (tx_to tx_L T N a : Nat) ∧ (if 8 < tx_to tx_L T N a - a then (ps_i s' 903 4).toInt = 1 ∧ (ps_i s' 903 6).toInt = -1 else match tx_at tx_keys (tx_wd T a (tx_to tx_L T N a - a)) with
  | some k => (ps_i s' 903 4).toInt = 3 ∧ (ps_i s' 903 6).toInt = k
  | none => (ps_i s' 903 4).toInt = 2 ∧ (ps_i s' 903 6).toInt = -1 ∧ ps_j s' 903 8 = tx_x (tx_wd T a (tx_to tx_L T N a - a)))
theorem fs_141_78 {T : Nat → Nat} {N a e : Nat} {s0 : ps_S} {R : ps_S → Prop} (H : cv_T s0 T N) (he : tx_to tx_L T N a = e) (hw : e - a ≤ 8 → tx_w (tx_wd T a (e - a))) (k : ∀ s', cv_O T N a s0 s' → R s') : ∀ (n : Nat) {x2 : Int32} {s : ps_S} {i : Nat}, cv_fl s0 s → (ps_i s 903 5).toInt = a → (ps_i s 903 3).toInt = e → ps_j s 903 8 = tx_x (tx_wd T a (e - a)) → x2.toInt = i → i ≤ 28 →
    ((8 < e - a ∧ (ps_i s 903 4).toInt = 1 ∧ (ps_i s 903 6).toInt = -1) ∨ (e - a ≤ 8 ∧ (ps_i s 903 4).toInt = 2 ∧ (ps_i s 903 6).toInt = -1 ∧ ∀ j, j < i → tx_keys[j]? ≠ some (tx_wd T a (e - a))) ∨ (e - a ≤ 8 ∧ (ps_i s 903 4).toInt = 3 ∧ ∃ q, tx_at tx_keys (tx_wd T a (e - a)) = some q ∧ (ps_i s 903 6).toInt = q)) → pl_At n 141 78 [(0, .ref 903), (2, .int x2)] [] s (ps_rV R)
  | 0, _, _, _, _, _, _, _, _, _, _ => pl_At_0
  | n + 1, x2, s, i, F, hp, h3, h8, hx, hi, hc => by
    have hl : tx_keys.length = 28 := by decide
    have hN := H.2.2.1
    have fin : (i = 28 ∨ (ps_i s 903 4).toInt ≠ 2) → cv_O T N a s0 s := fun z => by
      refine ⟨F, hp, by rw [he]; exact h3, ?_⟩
      rw [he]
      rcases hc with ⟨c1, c2, c3⟩ | ⟨c1, c2, c3, c4⟩ | ⟨c1, c2, q, c3, c4⟩
      · rw [if_pos c1]
        exact ⟨c2, c3⟩
      · rw [if_neg (by omega), tx_at_no (fun j hj => c4 j (by omega))]
        exact ⟨c2, c3, h8⟩
      · rw [if_neg (by omega), c3]
        exact ⟨c2, c4⟩
    refine pl_141_78 ?_
    refine ⟨fun h84 => ?_, fun h84 => ?_⟩
    · have h84 : (28 : Int) ≤ x2.toInt := xle h84
      exact k _ (fin (by omega))
    · have h84 : x2.toInt < (28 : Int) := xlt h84
      refine ⟨fun h92 => ?_, fun h92 => ?_⟩
      · have h92 : (ps_i s 903 4).toInt ≠ (2 : Int) := xne h92
        exact k _ (fin (Or.inr h92))
      · have h92 : (ps_i s 903 4).toInt = (2 : Int) := xeq h92
        intro b100
        obtain ⟨b100, c100⟩ := pl_in b100
        have c1 : e - a ≤ 8 ∧ (ps_i s 903 4).toInt = 2 ∧ (ps_i s 903 6).toInt = -1 ∧ ∀ j, j < i → tx_keys[j]? ≠ some (tx_wd T a (e - a)) := by
          rcases hc with ⟨c1, c2, c3⟩ | c | ⟨c1, c2, q, c3, c4⟩
          · omega
          · exact c
          · omega
        obtain ⟨c1, c2, c3, c4⟩ := c1
        obtain ⟨w0, hg1, hg2⟩ := tx_keys_get (i := i) (by omega)
        have hkey : ps_b s 904 i = tx_x w0 := (cv_T_fl H F).2.2.2.2 i w0 hg1
        refine ⟨fun h106 => ?_, fun h106 => ?_⟩
        · have h106 := lg_nz h106
          refine fs_141_78 H he hw k n F hp h3 h8 (xj1 hx (by omega)) (by omega) (Or.inr (Or.inl ⟨c1, c2, c3, fun j hj => ?_⟩))
          by_cases ej : j = i
          · rw [ej]
            intro z
            rw [hg1] at z
            cases z
            exact h106 (by rw [xtn hx, hkey, h8])
          · exact c4 j (by omega)
        · have h106 := lg_z h106
          refine fs_141_78 H he hw k n (cv_fl_i (cv_fl_i F (by decide)) (by decide)) hp h3 h8 (xj1 hx (by omega)) (by omega) (Or.inr (Or.inr ⟨c1, rfl, i, tx_at_is ?_ c4, hx⟩))
          rw [xtn hx, hkey, h8] at h106
          rw [hg1, tx_x_inj hg2 (hw c1) h106]
theorem fs_141_10 {T : Nat → Nat} {N a : Nat} {s0 : ps_S} {R : ps_S → Prop} (H : cv_T s0 T N) (h0 : (ps_i s0 903 6).toInt = -1) (k : ∀ s', cv_O T N a s0 s' → R s') : ∀ (n : Nat) {x1 : Int32} {s : ps_S} {b : Nat}, cv_fl s0 s → (ps_i s 903 5).toInt = a → (ps_i s 903 6).toInt = -1 → x1.toInt = b → a ≤ b → b ≤ N → (∀ j, a ≤ j → j < b → j < N ∧ tx_L (T j) = true) → ps_j s 903 8 = tx_x (tx_wd T a (b - a)) → pl_At n 141 10 [(0, .ref 903), (1, .int x1)] [] s (ps_rV R)
  | 0, _, _, _, _, _, _, _, _, _, _, _ => pl_At_0
  | n + 1, x1, s, b, F, hp, h6, hx, hab, hbN, hall, hnum => by
    have HT : cv_T s T N := cv_T_fl H F
    have hN := H.2.2.1
    have hsz : (ps_i s 903 2).toInt = N := HT.2.1
    have stop : tx_to tx_L T N a = b → pl_At n 141 51 [(0, .ref 903), (1, .int x1)] [] s (ps_rV R) := fun hb => by
      cases n with
      | zero => exact pl_At_0
      | succ n =>
      have e1 : (x1 - (ps_i (ps_ui s 903 3 x1) 903 5)).toInt = (b : Int) - a := by
        show (x1 - ps_i s 903 5).toInt = _
        rw [xIs (by omega) (by omega), hx, hp]
      have hw : b - a ≤ 8 → tx_w (tx_wd T a (b - a)) := fun z => tx_wd_w (fun j hj => (hall (a + j) (by omega) (by omega)).2) z
      refine pl_141_51 ?_
      refine ⟨fun h65 => ?_, fun h65 => ?_⟩
      · have h65 : (x1 - (ps_i (ps_ui s 903 3 x1) 903 5)).toInt ≤ (8 : Int) := xle h65
        exact fs_141_78 H hb hw k n (i := 0) (cv_fl_i (cv_fl_i F (by decide)) (by decide)) hp hx hnum rfl (by decide) (Or.inr (Or.inl ⟨by omega, rfl, h6, fun j hj => by omega⟩))
      · have h65 : (8 : Int) < (x1 - (ps_i (ps_ui s 903 3 x1) 903 5)).toInt := xlt h65
        exact fs_141_78 H hb hw k n (i := 0) (cv_fl_i (cv_fl_i F (by decide)) (by decide)) hp hx hnum rfl (by decide) (Or.inl ⟨by omega, rfl, h6⟩)
    refine pl_141_10 ?_
    refine ⟨fun h15 => ?_, fun h15 => ?_⟩
    · have h15 : (ps_i s 903 2).toInt ≤ x1.toInt := xle h15
      exact stop (tx_to_is hab hall (Or.inl (by omega)))
    · have h15 : x1.toInt < (ps_i s 903 2).toInt := xlt h15
      have hbl : b < N := by omega
      refine fs_143 HT (a := b) hx (fun v20 q20 => ?_)
      rw [if_pos hbl] at q20
      refine fs_146 (fun q23 => ?_) (fun q23 => ?_)
      · refine ⟨fun h26 => ?_, fun h26 => ?_⟩
        · exact absurd h26 (by decide)
        · refine fs_143 HT (a := b) hx (fun v36 q36 => ?_)
          rw [if_pos hbl] at q36
          refine fs_144 ?_
          refine fs_141_10 H h0 k n (cv_fl_j F) hp h6 (xj1 hx (by omega)) (by omega) (by omega) (fun j h1 h2 => ?_) ?_
          · by_cases e : j = b
            · rw [e]
              exact ⟨by omega, tx_L_c.mpr (by omega)⟩
            · exact hall j h1 (by omega)
          · rw [show b + 1 - a = (b - a) + 1 from by omega]
            show _ = Int64.ofNat (tx_en 32 96 (tx_wd T a (b - a) ++ [T (a + (b - a))]))
            rw [tx_en_snoc, show a + (b - a) = b from by omega]
            exact xwl hnum q36 (by omega)
      · refine ⟨fun h26 => ?_, fun h26 => ?_⟩
        · exact stop (tx_to_is hab hall (Or.inr (by
            rw [Bool.eq_false_iff]
            intro z
            have := tx_L_c.mp z
            omega)))
        · exact absurd h26 (by decide)
theorem fs_141 {n : Nat} {T : Nat → Nat} {N a : Nat} {s : ps_S} {R : ps_S → Prop} (H : cv_T s T N) (hp : (ps_i s 903 5).toInt = a) (h6 : (ps_i s 903 6).toInt = -1) (ha : a ≤ N) (k : ∀ s', cv_O T N a s s' → R s') : pl_Cl n 141 [.ref 903] s (ps_rV R) := by
  cases n with
  | zero => exact pl_At_0
  | succ n =>
  show pl_At (n + 1) 141 0 [(0, .ref 903)] [] s (ps_rV R)
  refine pl_141_0 ?_
  refine fs_141_10 H h6 k n (cv_fl_j cv_fl_refl) hp h6 hp (Nat.le_refl _) ha (fun j h1 h2 => by omega) ?_
  rw [Nat.sub_self]
  rfl

/-- the token at p stands -/
def cv_A (T : Nat → Nat) (N p : Nat) (s s' : ps_S) : Prop := cv_fl s s' ∧ cv_K s' (tx_tok T N p)
theorem fs_140_30 {n : Nat} {T : Nat → Nat} {N p a : Nat} {s : ps_S} {R : ps_S → Prop} {x1 : Int32} (H : cv_T s T N) (hx : x1.toInt = a) (ha : tx_to tx_B T N p = a) (haN : a ≤ N) (k : ∀ s', cv_A T N p s s' → R s') : pl_At n 140 30 [(0, .ref 903), (1, .int x1)] [] s (ps_rV R) := by
  cases n with
  | zero => exact pl_At_0
  | succ n =>
  have HT : cv_T (ps_ui (ps_ui s 903 5 x1) 903 6 (-1)) T N := cv_T_fl H (cv_fl_i (cv_fl_i cv_fl_refl (by decide)) (by decide))
  have F2 : cv_fl s (ps_ui (ps_ui s 903 5 x1) 903 6 (-1)) := cv_fl_i (cv_fl_i cv_fl_refl (by decide)) (by decide)
  have hN := H.2.2.1
  have hsz : (ps_i (ps_ui (ps_ui s 903 5 x1) 903 6 (-1)) 903 2).toInt = N := HT.2.1
  refine pl_140_30 ?_
  refine fs_143 HT (a := a) hx (fun v42 q42 => ?_)
  refine ⟨fun h51 => ?_, fun h51 => ?_⟩
  · have h51 : x1.toInt < (ps_i (ps_ui (ps_ui s 903 5 x1) 903 6 (-1)) 903 2).toInt := xlt h51
    have hbl : a < N := by omega
    rw [if_pos hbl] at q42
    refine fs_146 (fun q68 => ?_) (fun q68 => ?_)
    · have hL : tx_L (T a) = true := tx_L_c.mpr (by omega)
      refine ⟨fun h71 => ?_, fun h71 => ?_⟩
      · exact absurd h71 (by decide)
      · refine fs_141 HT (a := a) hx (by show (-1 : Int32).toInt = -1; decide) haN (fun s75 q75 => ?_)
        refine k _ ⟨cv_fl_tr F2 q75.1, ?_⟩
        obtain ⟨-, o2, o3, o4⟩ := q75
        rw [tx_tok_word ha hbl hL]
        split at o4
        · next c => rw [if_pos c]; exact ⟨o4.1, o2, o3, (fun z => by cases z), o4.2, (fun z => by cases z)⟩
        · next c =>
          rw [if_neg c]
          split at o4
          · next q hq => (try rw [hq]); exact ⟨o4.1, o2, o3, (fun z => by cases z), o4.2, (fun z => by cases z)⟩
          · next hq => (try rw [hq]); exact ⟨o4.1, o2, o3, fun _ => o4.2.2, o4.2.1, (fun z => by cases z)⟩
    · have hL : ¬ tx_L (T a) = true := fun z => by
        have := tx_L_c.mp z
        omega
      refine ⟨fun h71 => ?_, fun h71 => ?_⟩
      · refine fs_147 (fun q82 => ?_) (fun q82 => ?_)
        · have hD : tx_D (T a) = true := tx_D_c.mpr (by omega)
          refine ⟨fun h85 => ?_, fun h85 => ?_⟩
          · exact absurd h85 (by decide)
          · refine fs_142 HT (a := a) hx haN (fun s89 q89 => ?_)
            refine k _ ⟨cv_fl_tr F2 q89.1, ?_⟩
            obtain ⟨-, o2, o3, o4, o5⟩ := q89
            rw [tx_tok_num ha hbl hL hD]
            have o6 : (ps_i s89 903 6).toInt = -1 := by rw [o3]; show (-1 : Int32).toInt = -1; decide
            split at o5
            · next c => rw [if_pos c]; exact ⟨o5, o2, o4, (fun z => by cases z), o6, (fun z => by cases z)⟩
            · next c => rw [if_neg c]; exact ⟨o5.1, o2, o4, (fun z => by cases z), o6, fun _ => o5.2⟩
        · have hD : ¬ tx_D (T a) = true := fun z => by
            have := tx_D_c.mp z
            omega
          refine ⟨fun h85 => ?_, fun h85 => ?_⟩
          · refine ⟨fun h99 => ?_, fun h99 => ?_⟩
            · have h99 : v42.toInt ≠ (59 : Int) := xne h99
              refine k _ ⟨cv_fl_i (cv_fl_i F2 (by decide)) (by decide), ?_⟩
              rw [tx_tok_sign ha hbl hL hD, if_neg (by omega)]
              exact ⟨rfl, hx, xj1 hx (by omega), (fun z => by cases z), rfl, (fun z => by cases z)⟩
            · have h99 : v42.toInt = (59 : Int) := xeq h99
              refine k _ ⟨cv_fl_i (cv_fl_i F2 (by decide)) (by decide), ?_⟩
              rw [tx_tok_sign ha hbl hL hD, if_pos (by omega)]
              exact ⟨rfl, hx, xj1 hx (by omega), (fun z => by cases z), rfl, (fun z => by cases z)⟩
          · exact absurd h85 (by decide)
      · exact absurd h71 (by decide)
  · have h51 : (ps_i (ps_ui (ps_ui s 903 5 x1) 903 6 (-1)) 903 2).toInt ≤ x1.toInt := xle h51
    refine k _ ⟨cv_fl_i (cv_fl_i F2 (by decide)) (by decide), ?_⟩
    rw [tx_tok_end ha (by omega)]
    exact ⟨rfl, hx, hx, (fun z => by cases z), rfl, (fun z => by cases z)⟩
theorem fs_140_5 {T : Nat → Nat} {N p : Nat} {s : ps_S} {R : ps_S → Prop} (H : cv_T s T N) (k : ∀ s', cv_A T N p s s' → R s') : ∀ (n : Nat) {x1 : Int32} {b : Nat}, x1.toInt = b → p ≤ b → b ≤ N → (∀ j, p ≤ j → j < b → j < N ∧ tx_B (T j) = true) → pl_At n 140 5 [(0, .ref 903), (1, .int x1)] [] s (ps_rV R)
  | 0, _, _, _, _, _, _ => pl_At_0
  | n + 1, x1, b, hx, hab, hbN, hall => by
    have HT := H
    have hN := H.2.2.1
    have hsz : (ps_i s 903 2).toInt = N := HT.2.1
    refine pl_140_5 ?_
    refine ⟨fun h10 => ?_, fun h10 => ?_⟩
    · have h10 : (ps_i s 903 2).toInt ≤ x1.toInt := xle h10
      exact fs_140_30 H hx (tx_to_is hab hall (Or.inl (by omega))) hbN k
    · have h10 : x1.toInt < (ps_i s 903 2).toInt := xlt h10
      have hbl : b < N := by omega
      refine fs_143 HT (a := b) hx (fun v15 q15 => ?_)
      rw [if_pos hbl] at q15
      refine fs_145 (fun q18 => ?_) (fun q18 => ?_)
      · refine ⟨fun h21 => ?_, fun h21 => ?_⟩
        · exact absurd h21 (by decide)
        · refine fs_140_5 H k n (xj1 hx (by omega)) (by omega) (by omega) (fun j h1 h2 => ?_)
          by_cases e : j = b
          · rw [e]
            exact ⟨by omega, tx_B_c.mpr (by omega)⟩
          · exact hall j h1 (by omega)
      · refine ⟨fun h21 => ?_, fun h21 => ?_⟩
        · exact fs_140_30 H hx (tx_to_is hab hall (Or.inr (by
            rw [Bool.eq_false_iff]
            intro z
            have := tx_B_c.mp z
            omega))) hbN k
        · exact absurd h21 (by decide)
theorem fs_140 {n : Nat} {T : Nat → Nat} {N p : Nat} {s : ps_S} {R : ps_S → Prop} (H : cv_T s T N) (hp : (ps_i s 903 3).toInt = p) (hpN : p ≤ N) (k : ∀ s', cv_A T N p s s' → R s') : pl_Cl n 140 [.ref 903] s (ps_rV R) := by
  cases n with
  | zero => exact pl_At_0
  | succ n =>
  show pl_At (n + 1) 140 0 [(0, .ref 903)] [] s (ps_rV R)
  refine pl_140_0 ?_
  exact fs_140_5 H k n hp (Nat.le_refl _) hpN (fun j h1 h2 => by omega)
end
section
/-! the steps of the machine, case by case -/
section TXS
variable {T : Nat → Nat} {n : Nat} {E : tx_E} {S : List tx_F} {p : Nat} {l : List Nat} {fr : List (List Nat)} {tk : tx_K}
theorem tx_s_not (e : tx_tok T n p = tk) (h : tk.1 = 3 ∧ tk.2.2.2.2 = 7) (h1 : S.length + 1 ≤ 12) (h2 : l.length + tx_due S + 2 ≤ 40) : tx_st T n E (1, S, p, l, fr, 0) = (2, (1, true, true, none) :: S, tk.2.2.1, l ++ [3], fr, 0) := by
  subst e
  show tx_bf T n E S p l fr = _
  unfold tx_bf
  dsimp only
  rw [if_pos h, if_pos ⟨h1, h2⟩]
theorem tx_s_notb (e : tx_tok T n p = tk) (h : tk.1 = 3 ∧ tk.2.2.2.2 = 7) (h1 : ¬ (S.length + 1 ≤ 12 ∧ l.length + tx_due S + 2 ≤ 40)) : tx_st T n E (1, S, p, l, fr, 0) = (4, S, tk.2.1, l, fr, tx_bk tk) := by
  subst e
  show tx_bf T n E S p l fr = _
  unfold tx_bf
  dsimp only
  rw [if_pos h, if_neg h1]
theorem tx_s_none (e : tx_tok T n p = tk) (h : ¬ (tk.1 = 3 ∧ tk.2.2.2.2 = 7)) (hc : tx_pc E tk = none) : tx_st T n E (1, S, p, l, fr, 0) = (4, S, tk.2.1, l, fr, tx_bk tk) := by
  subst e
  show tx_bf T n E S p l fr = _
  unfold tx_bf
  dsimp only
  rw [if_neg h, hc]
theorem tx_s_full {c : Nat} (e : tx_tok T n p = tk) (h : ¬ (tk.1 = 3 ∧ tk.2.2.2.2 = 7)) (hc : tx_pc E tk = some c) (h1 : ¬ (S.length ≤ 12 ∧ l.length + tx_due S + 1 ≤ 40 ∧ ((c = 4 ∨ c = 5) → (tx_bs S).length ≤ 4))) : tx_st T n E (1, S, p, l, fr, 0) = (4, S, tk.2.1, l, fr, tx_bk tk) := by
  subst e
  show tx_bf T n E S p l fr = _
  unfold tx_bf
  dsimp only
  rw [if_neg h, hc]
  dsimp only
  rw [if_neg h1]
theorem tx_s_piece {c : Nat} (e : tx_tok T n p = tk) (h : ¬ (tk.1 = 3 ∧ tk.2.2.2.2 = 7)) (hc : tx_pc E tk = some c) (h1 : S.length ≤ 12) (h2 : l.length + tx_due S + 1 ≤ 40) (h3 : ¬ (c = 4 ∨ c = 5)) : tx_st T n E (1, S, p, l, fr, 0) = (2, (tx_ar E c, decide (c < 6), false, none) :: S, tk.2.2.1, l ++ [c], fr, 0) := by
  subst e
  show tx_bf T n E S p l fr = _
  unfold tx_bf
  dsimp only
  rw [if_neg h, hc]
  dsimp only
  rw [if_pos ⟨h1, h2, fun z => (h3 z).elim⟩, if_neg h3]
theorem tx_s_q {c : Nat} {t2 : tx_K} (e : tx_tok T n p = tk) (h : ¬ (tk.1 = 3 ∧ tk.2.2.2.2 = 7)) (hc : tx_pc E tk = some c) (h1 : S.length ≤ 12) (h2 : l.length + tx_due S + 1 ≤ 40) (h3 : c = 4 ∨ c = 5) (h4 : (tx_bs S).length ≤ 4) (e2 : tx_tok T n tk.2.2.1 = t2) (hx : tx_isX E t2) : tx_st T n E (1, S, p, l, fr, 0) = (2, (1, true, false, some t2.2.2.2.1) :: S, t2.2.2.1, l ++ [c], fr, 0) := by
  subst e
  subst e2
  unfold tx_isX at hx
  show tx_bf T n E S p l fr = _
  unfold tx_bf
  dsimp only
  rw [if_neg h, hc]
  dsimp only
  rw [if_pos ⟨h1, h2, fun _ => h4⟩, if_pos h3, if_pos hx]
theorem tx_s_qb {c : Nat} {t2 : tx_K} (e : tx_tok T n p = tk) (h : ¬ (tk.1 = 3 ∧ tk.2.2.2.2 = 7)) (hc : tx_pc E tk = some c) (h1 : S.length ≤ 12) (h2 : l.length + tx_due S + 1 ≤ 40) (h3 : c = 4 ∨ c = 5) (h4 : (tx_bs S).length ≤ 4) (e2 : tx_tok T n tk.2.2.1 = t2) (hx : ¬ tx_isX E t2) : tx_st T n E (1, S, p, l, fr, 0) = (4, S, t2.2.1, l ++ [c], fr, tx_bk t2) := by
  subst e
  subst e2
  unfold tx_isX at hx
  show tx_bf T n E S p l fr = _
  unfold tx_bf
  dsimp only
  rw [if_neg h, hc]
  dsimp only
  rw [if_pos ⟨h1, h2, fun _ => h4⟩, if_pos h3, if_neg hx]
theorem tx_s_tb (e : tx_tok T n p = tk) (h : ¬ (tk.1 = 2 ∧ tx_at (tx_R E) tk.2.2.2.1 = none ∧ S.length ≤ 12 ∧ l.length + tx_due S + 1 ≤ 40)) : tx_st T n E (0, S, p, l, fr, 0) = (4, S, tk.2.1, l, fr, tx_bk tk) := by
  subst e
  show tx_bt T n E S p l fr = _
  unfold tx_bt
  dsimp only
  rw [if_neg h]
theorem tx_s_fun {g : Nat} (e : tx_tok T n p = tk) (h : tk.1 = 2 ∧ tx_at (tx_R E) tk.2.2.2.1 = none ∧ S.length ≤ 12 ∧ l.length + tx_due S + 1 ≤ 40) (hg : tx_at (tx_G E) tk.2.2.2.1 = some g) : tx_st T n E (0, S, p, l, fr, 0) = (2, (tx_fa E g, false, false, none) :: S, tk.2.2.1, l ++ [20 + g], fr, 0) := by
  subst e
  show tx_bt T n E S p l fr = _
  unfold tx_bt
  dsimp only
  rw [if_pos h, hg]
theorem tx_s_name {c : Nat} {fr2 : List (List Nat)} (e : tx_tok T n p = tk) (h : tk.1 = 2 ∧ tx_at (tx_R E) tk.2.2.2.1 = none ∧ S.length ≤ 12 ∧ l.length + tx_due S + 1 ≤ 40) (hg : tx_at (tx_G E) tk.2.2.2.1 = none) (hm : tx_nm E S fr tk.2.2.2.1 = some (c, fr2)) : tx_st T n E (0, S, p, l, fr, 0) = (2, (0, false, false, none) :: S, tk.2.2.1, l ++ [c], fr2, 0) := by
  subst e
  show tx_bt T n E S p l fr = _
  unfold tx_bt
  dsimp only
  rw [if_pos h, hg]
  dsimp only
  rw [hm]
theorem tx_s_nameb (e : tx_tok T n p = tk) (h : tk.1 = 2 ∧ tx_at (tx_R E) tk.2.2.2.1 = none ∧ S.length ≤ 12 ∧ l.length + tx_due S + 1 ≤ 40) (hg : tx_at (tx_G E) tk.2.2.2.1 = none) (hm : tx_nm E S fr tk.2.2.2.1 = none) : tx_st T n E (0, S, p, l, fr, 0) = (4, S, tk.2.1, l, fr, if E.2 = true then 5 else 2) := by
  subst e
  show tx_bt T n E S p l fr = _
  unfold tx_bt
  dsimp only
  rw [if_pos h, hg]
  dsimp only
  rw [hm]
theorem tx_s_0 {b nt : Bool} {w : Option (List Nat)} : tx_st T n E (2, (0, b, nt, w) :: S, p, l, fr, 0) = (2, S, p, if nt then l ++ [0] else l, fr, 0) := rfl
theorem tx_s_k {k : Nat} {b nt : Bool} {w : Option (List Nat)} : tx_st T n E (2, (k + 1, b, nt, w) :: S, p, l, fr, 0) = (if b then 1 else 0, (k, b, nt, w) :: S, p, l, fr, 0) := rfl
theorem tx_due_le : ∀ {S : List tx_F}, tx_due S ≤ S.length
  | [] => Nat.le_refl _
  | (_, _, nt, _) :: S => by
    have := tx_due_le (S := S)
    show (if nt then 1 else 0) + tx_due S ≤ S.length + 1
    cases nt
    · show 0 + tx_due S ≤ _; omega
    · show 1 + tx_due S ≤ _; omega
end TXS
/-! the class's rows -/
def cv_rowb (r : Nat) : Bool := !ps_is r 5 || (Nat.beq (ps_c0 r 0) (r + 1) && (Nat.beq (ps_ln (r + 1)) 40 && ps_ar (r + 1) 0))
def cv_rowa (a : Nat) : Nat → Bool
  | 0 => true
  | n + 1 => cv_rowb (a + n) && cv_rowa a n
theorem cv_rowa_ok {a : Nat} : ∀ {n : Nat}, cv_rowa a n = true → ∀ r, a ≤ r → r < a + n → cv_rowb r = true
  | 0, _, r, h1, h2 => by omega
  | n + 1, h, r, h1, h2 => by
    unfold cv_rowa at h
    rw [Bool.and_eq_true] at h
    by_cases e : r = a + n
    · rw [e]; exact h.1
    · exact cv_rowa_ok h.2 r h1 (by omega)
set_option maxRecDepth 1000000
theorem cv_row_0 : cv_rowa 0 200 = true := by decide +kernel
theorem cv_row_1 : cv_rowa 200 200 = true := by decide +kernel
theorem cv_row_2 : cv_rowa 400 200 = true := by decide +kernel
theorem cv_row_3 : cv_rowa 600 200 = true := by decide +kernel
theorem cv_row_4 : cv_rowa 800 200 = true := by decide +kernel
theorem cv_row_5 : cv_rowa 1000 131 = true := by decide +kernel
theorem cv_row {r : Nat} (h : ps_is r 5 = true) : ps_c0 r 0 = r + 1 ∧ ps_ln (r + 1) = 40 ∧ ps_ar (r + 1) 0 = true ∧ r < 1131 := by
  have hr := xis_lt (by decide) h
  have k : cv_rowb r = true := by
    by_cases h0 : r < 200
    · exact cv_rowa_ok cv_row_0 r (by omega) (by omega)
    by_cases h1 : r < 400
    · exact cv_rowa_ok cv_row_1 r (by omega) (by omega)
    by_cases h2 : r < 600
    · exact cv_rowa_ok cv_row_2 r (by omega) (by omega)
    by_cases h3 : r < 800
    · exact cv_rowa_ok cv_row_3 r (by omega) (by omega)
    by_cases h4 : r < 1000
    · exact cv_rowa_ok cv_row_4 r (by omega) (by omega)
    exact cv_rowa_ok cv_row_5 r (by omega) (by omega)
  unfold cv_rowb at k
  rw [h, Bool.not_true, Bool.false_or, Bool.and_eq_true, Bool.and_eq_true] at k
  exact ⟨Nat.eq_of_beq_eq_true k.1, Nat.eq_of_beq_eq_true k.2.1, k.2.2, hr⟩
/-- a cell that is no row isn't the row -/
theorem cv_ne {r c : Nat} (h : ps_is r 5 = true) (hc : ps_is c 5 = false) : r ≠ c := fun e => by
  rw [e, hc] at h
  cases h
end
section
/-! the class's reader: what stands fixed while a formula is read, what moves -/
abbrev tx_g : Type := List (List Nat × Nat) × List (List Nat × Nat)
/-- a theory's tables: names and what they take -/
def cv_E (s : ps_S) (th : Nat) (g : tx_g) : Prop := (ps_i s th 6).toInt = g.1.length ∧ (ps_i s th 7).toInt = g.2.length ∧ g.1.length ≤ 6 ∧ g.2.length ≤ 4 ∧ (∀ (k : Nat) (w : List Nat) (a : Nat), g.1[k]? = some (w, a) → tx_w w ∧ a ≤ 2 ∧ ps_b s (th + 1) k = tx_x w ∧ (ps_a s (th + 4) (10 + k)).toInt = a) ∧ (∀ (k : Nat) (w : List Nat) (a : Nat), g.2[k]? = some (w, a) → tx_w w ∧ a ≤ 2 ∧ ps_b s (th + 2) k = tx_x w ∧ (ps_a s (th + 4) (20 + k)).toInt = a) ∧
  ((ps_a s (th + 4) 0).toInt = 0 ∧ (ps_a s (th + 4) 1).toInt = 2 ∧ (ps_a s (th + 4) 2).toInt = 2 ∧ (ps_a s (th + 4) 3).toInt = 2 ∧ (ps_a s (th + 4) 4).toInt = 1 ∧ (ps_a s (th + 4) 5).toInt = 1 ∧ (ps_a s (th + 4) 6).toInt = 2) ∧ ∀ w, w ∈ g.1.map Prod.fst → w ∈ g.2.map Prod.fst → False
/-- what reading a formula into the row r may change -/
def cv_fr (r : Nat) (s s' : ps_S) : Prop := ps_r s' = ps_r s ∧ (∀ q f, q ≠ 902 → (q ≠ 903 ∨ f = 2) → q ≠ r → ps_i s' q f = ps_i s q f) ∧ ps_i s' 902 8 = ps_i s 902 8 ∧ (∀ q f, q ≠ 903 → ps_j s' q f = ps_j s q f) ∧ (∀ q, q ≠ r + 1 → ps_a s' q = ps_a s q) ∧ ∀ q, q ≠ 906 → q ≠ 907 → ps_b s' q = ps_b s q
theorem cv_fr_refl {r : Nat} {s : ps_S} : cv_fr r s s := ⟨rfl, fun _ _ _ _ _ => rfl, rfl, fun _ _ _ => rfl, fun _ _ => rfl, fun _ _ _ => rfl⟩
theorem cv_fr_tr {r : Nat} {s s1 s2 : ps_S} (h : cv_fr r s s1) (g : cv_fr r s1 s2) : cv_fr r s s2 := ⟨g.1.trans h.1, fun q f a b c => (g.2.1 q f a b c).trans (h.2.1 q f a b c), g.2.2.1.trans h.2.2.1, fun q f a => (g.2.2.2.1 q f a).trans (h.2.2.2.1 q f a), fun q a => (g.2.2.2.2.1 q a).trans (h.2.2.2.2.1 q a), fun q a b => (g.2.2.2.2.2 q a b).trans (h.2.2.2.2.2 q a b)⟩
theorem cv_fr_fl {r : Nat} {s s' : ps_S} (h : cv_fl s s') : cv_fr r s s' := ⟨h.2.2.1, fun q f _ b _ => h.1 q f b, h.1 902 8 (Or.inl (by decide)), h.2.1, fun q _ => by rw [h.2.2.2.1], fun q _ _ => by rw [h.2.2.2.2]⟩
theorem cv_fr_i {r q : Nat} {v : Int32} {s s' : ps_S} (h : cv_fr r s s') (hq : q ≠ 8) : cv_fr r s (ps_ui s' 902 q v) := by
  refine ⟨h.1, fun q' f a b c => ?_, ?_, h.2.2.2.1, h.2.2.2.2.1, h.2.2.2.2.2⟩
  · rw [ps_i_ui, if_neg (by omega)]
    exact h.2.1 q' f a b c
  · rw [ps_i_ui, if_neg (by omega)]
    exact h.2.2.1
theorem cv_fr_w {r q : Nat} {v : Int32} {s s' : ps_S} (h : cv_fr r s s') (hr : r ≠ 902) : cv_fr r s (ps_ui s' r q v) := by
  refine ⟨h.1, fun q' f a b c => ?_, ?_, h.2.2.2.1, h.2.2.2.2.1, h.2.2.2.2.2⟩
  · rw [ps_i_ui, if_neg (fun z => c z.1)]
    exact h.2.1 q' f a b c
  · rw [ps_i_ui, if_neg (fun z => hr z.1.symm)]
    exact h.2.2.1
theorem cv_fr_a {r i : Nat} {v : Int32} {s s' : ps_S} (h : cv_fr r s s') : cv_fr r s (ps_ua s' (r + 1) i v) := by
  refine ⟨h.1, h.2.1, h.2.2.1, h.2.2.2.1, fun q a => ?_, h.2.2.2.2.2⟩
  rw [← h.2.2.2.2.1 q a]
  funext k
  rw [ps_a_ua, if_neg (fun z => a z.1)]
theorem cv_fr_b {r i q : Nat} {v : Int64} {s s' : ps_S} (h : cv_fr r s s') (hq : q = 906 ∨ q = 907) : cv_fr r s (ps_ub s' q i v) := by
  refine ⟨h.1, h.2.1, h.2.2.1, h.2.2.2.1, h.2.2.2.2.1, fun q' a b => ?_⟩
  rw [← h.2.2.2.2.2 q' a b]
  funext k
  rw [ps_b_ub, if_neg (by omega)]
theorem cv_th5 {th : Nat} (h : th = 2 ∨ th = 26) : ps_is th 5 = false ∧ ps_is (th + 3) 5 = false ∧ ps_is th 9 = true ∧ ps_c0 th 0 = th + 1 ∧ ps_c0 th 1 = th + 2 ∧ ps_c0 th 2 = th + 3 ∧ ps_c0 th 3 = th + 4 ∧ ps_ln (th + 1) = 6 ∧ ps_ln (th + 2) = 4 ∧ ps_ln (th + 3) = 8 ∧ ps_ln (th + 4) = 40 := by
  rcases h with rfl | rfl <;> decide +kernel
theorem cv_n5 : ps_is 902 5 = false ∧ ps_is 903 5 = false ∧ ps_is 0 5 = false := by decide +kernel
theorem cv_E_fr {s s' : ps_S} {th r : Nat} {g : tx_g} (hth : th = 2 ∨ th = 26) (hr : ps_is r 5 = true) (h : cv_E s th g) (F : cv_fr r s s') : cv_E s' th g := by
  have t := cv_th5 hth
  have e1 : ∀ f, ps_i s' th f = ps_i s th f := fun f => F.2.1 th f (by omega) (Or.inl (by omega)) (fun z => cv_ne hr t.1 z.symm)
  have e2 : ps_a s' (th + 4) = ps_a s (th + 4) := F.2.2.2.2.1 _ (fun z => cv_ne hr t.2.1 (by omega))
  have e3 : ps_b s' (th + 1) = ps_b s (th + 1) := F.2.2.2.2.2 _ (by omega) (by omega)
  have e4 : ps_b s' (th + 2) = ps_b s (th + 2) := F.2.2.2.2.2 _ (by omega) (by omega)
  unfold cv_E at *
  rw [e1, e1, e2, e3, e4]
  exact h
theorem cv_T_fr {s s' : ps_S} {r : Nat} {T : Nat → Nat} {N : Nat} (hr : ps_is r 5 = true) (h : cv_T s T N) (F : cv_fr r s s') : cv_T s' T N := by
  obtain ⟨h1, h2, h3, h4, h5⟩ := h
  refine ⟨by rw [F.1]; exact h1, ?_, h3, ?_, ?_⟩
  · rw [F.2.1 903 2 (by decide) (Or.inr rfl) (fun z => cv_ne hr cv_n5.2.1 z.symm)]
    exact h2
  · rw [F.2.2.2.2.1 1 (fun z => cv_ne hr cv_n5.2.2 (by omega))]
    exact h4
  · rw [F.2.2.2.2.2 904 (by decide) (by decide)]
    exact h5
/-- fixed: the theory th, the row r, the text, the tables, whether no name may be free -/
def cv_S (th r : Nat) (s : ps_S) (T : Nat → Nat) (N : Nat) (E : tx_E) : Prop := (th = 2 ∨ th = 26) ∧ ps_is r 5 = true ∧ ps_r s 902 5 = th ∧ ps_r s 902 6 = r ∧ (ps_i s 902 8).toInt = (if E.2 = true then 1 else 0) ∧ cv_T s T N ∧ cv_E s th E.1
theorem cv_S_fr {th r : Nat} {s s' : ps_S} {T : Nat → Nat} {N : Nat} {E : tx_E} (h : cv_S th r s T N E) (F : cv_fr r s s') : cv_S th r s' T N E := by
  obtain ⟨h1, h2, h3, h4, h5, h6, h7⟩ := h
  exact ⟨h1, h2, by rw [F.1]; exact h3, by rw [F.1]; exact h4, by rw [F.2.2.1]; exact h5, cv_T_fr h2 h6 F, cv_E_fr h1 h2 h7 F⟩
def cv_W (s : ps_S) (r : Nat) (l : List Nat) : Prop := (ps_i s r 1).toInt = l.length ∧ ps_i s r 2 = 0 ∧ l.length ≤ 40 ∧ ∀ (k c : Nat), l[k]? = some c → (ps_a s (r + 1) k).toInt = c
def cv_P (s : ps_S) (fr : List (List Nat)) : Prop := (ps_i s 902 2).toInt = fr.length ∧ fr.length ≤ 12 ∧ ∀ (k : Nat) (w : List Nat), fr[k]? = some w → tx_w w ∧ ps_b s 906 k = tx_x w
def cv_Q (s : ps_S) (bs : List (List Nat)) : Prop := (ps_i s 902 4).toInt = bs.length ∧ bs.length ≤ 5 ∧ ∀ (k : Nat) (w : List Nat), bs[k]? = some w → tx_w w ∧ ps_b s 907 (bs.length - 1 - k) = tx_x w
/-- moving: frames, place, row, free names -/
def cv_C (r : Nat) (s : ps_S) (T : Nat → Nat) (N : Nat) (S : List tx_F) (p : Nat) (l : List Nat) (fr : List (List Nat)) : Prop := p ≤ N ∧ (S.length ≤ 13 ∧ l.length + tx_due S ≤ 40) ∧ cv_K s (tx_tok T N p) ∧ cv_W s r l ∧ cv_P s fr ∧ cv_Q s (tx_bs S) ∧ ((ps_i s 902 7).toInt = tx_due S ∧ (ps_i s 902 9).toInt = 0 ∧ (ps_i s 902 10).toInt = -1)
def cv_ok (r : Nat) (s s' : ps_S) (T : Nat → Nat) (N : Nat) (E : tx_E) (S : List tx_F) (c0 : tx_C) : Prop := ∃ p' l' fr', gt_go (tx_st T N E) c0 (2, S, p', l', fr', 0) ∧ cv_C r s' T N S p' l' fr' ∧ cv_fr r s s'
def cv_bad (r : Nat) (s s' : ps_S) (T : Nat → Nat) (N : Nat) (E : tx_E) (c0 : tx_C) : Prop := ∃ (S' : List tx_F) (pl : Nat) (l' : List Nat) (fr' : List (List Nat)) (k : Nat), gt_go (tx_st T N E) c0 (4, S', pl, l', fr', k) ∧ (ps_i s' 902 9).toInt = k ∧ (ps_i s' 902 10).toInt = pl ∧ cv_fr r s s'
theorem cv_ok_tr {r : Nat} {s s1 s' : ps_S} {T : Nat → Nat} {N : Nat} {E : tx_E} {S : List tx_F} {c0 c1 : tx_C} (g : gt_go (tx_st T N E) c0 c1) (F : cv_fr r s s1) (h : cv_ok r s1 s' T N E S c1) : cv_ok r s s' T N E S c0 := by
  obtain ⟨p', l', fr', h1, h2, h3⟩ := h
  exact ⟨p', l', fr', gt_trans g h1, h2, cv_fr_tr F h3⟩
theorem cv_bad_tr {r : Nat} {s s1 s' : ps_S} {T : Nat → Nat} {N : Nat} {E : tx_E} {c0 c1 : tx_C} (g : gt_go (tx_st T N E) c0 c1) (F : cv_fr r s s1) (h : cv_bad r s1 s' T N E c1) : cv_bad r s s' T N E c0 := by
  obtain ⟨S', pl, l', fr', k, h1, h2, h3, h4⟩ := h
  exact ⟨S', pl, l', fr', k, gt_trans g h1, h2, h3, cv_fr_tr F h4⟩
/-! what moves, step by step -/
section CVM
variable {r : Nat} {s s' : ps_S} {T : Nat → Nat} {N : Nat} {S : List tx_F} {p : Nat} {l : List Nat} {fr : List (List Nat)}
theorem cv_C_adv (hr : ps_is r 5 = true) (h : cv_C r s T N S p l fr) {q : Nat} (hq : q ≤ N) (A : cv_A T N q s s') : cv_C r s' T N S q l fr := by
  obtain ⟨h1, h2, h3, h4, h5, h6, h7⟩ := h
  obtain ⟨F, K⟩ := A
  have n3 : r ≠ 903 := cv_ne hr cv_n5.2.1
  have ei : ∀ f, ps_i s' 902 f = ps_i s 902 f := fun f => F.1 902 f (Or.inl (by decide))
  have er : ∀ f, ps_i s' r f = ps_i s r f := fun f => F.1 r f (Or.inl n3)
  refine ⟨hq, h2, K, ?_, ?_, ?_, by rw [ei, ei, ei]; exact h7⟩
  · unfold cv_W at *
    rw [er, er, F.2.2.2.1]
    exact h4
  · unfold cv_P at *
    rw [ei, F.2.2.2.2]
    exact h5
  · unfold cv_Q at *
    rw [ei, F.2.2.2.2]
    exact h6
theorem cv_C_add (hr : ps_is r 5 = true) (h : cv_C r s T N S p l fr) {c : Nat} {v : Int32} (hv : v.toInt = c) (hl : l.length + tx_due S + 1 ≤ 40) : cv_C r (ps_ui (ps_ua s (r + 1) l.length v) r 1 (ps_i s r 1 + 1)) T N S p (l ++ [c]) fr := by
  obtain ⟨h1, h2, h3, h4, h5, h6, h7⟩ := h
  have n2 : 902 ≠ r := fun z => cv_ne hr cv_n5.1 z.symm
  have n3 : 903 ≠ r := fun z => cv_ne hr cv_n5.2.1 z.symm
  have e2 : ∀ f, ps_i (ps_ui (ps_ua s (r + 1) l.length v) r 1 (ps_i s r 1 + 1)) 902 f = ps_i s 902 f := fun f => if_neg (fun z => n2 z.1)
  have e3 : ∀ f, ps_i (ps_ui (ps_ua s (r + 1) l.length v) r 1 (ps_i s r 1 + 1)) 903 f = ps_i s 903 f := fun f => if_neg (fun z => n3 z.1)
  obtain ⟨w1, w2, w3, w4⟩ := h4
  refine ⟨h1, ⟨h2.1, by rw [List.length_append]; show l.length + 1 + tx_due S ≤ 40; omega⟩, ?_, ⟨?_, ?_, ?_, fun k c' hk => ?_⟩, ?_, ?_, by rw [e2, e2, e2]; exact h7⟩
  · unfold cv_K at *
    rw [e3, e3, e3, e3, e3]
    exact h3
  · rw [ps_i_ui, if_pos ⟨rfl, rfl⟩, List.length_append]
    exact xj1 w1 (by omega)
  · rw [ps_i_ui, if_neg (by omega)]
    exact w2
  · rw [List.length_append]
    show l.length + 1 ≤ 40
    omega
  · show (ps_a (ps_ua s (r + 1) l.length v) (r + 1) k).toInt = c'
    rw [ps_a_ua]
    by_cases e : k = l.length
    · rw [if_pos ⟨rfl, e⟩]
      rw [e, List.getElem?_append_right (Nat.le_refl _), Nat.sub_self] at hk
      cases hk
      exact hv
    · rw [if_neg (fun z => e z.2)]
      have hk2 : k < l.length := by
        have := (List.getElem?_eq_some_iff.mp hk).1
        rw [List.length_append] at this
        have : k < l.length + 1 := this
        omega
      rw [List.getElem?_append_left hk2] at hk
      exact w4 k c' hk
  · unfold cv_P at *
    rw [e2]
    exact h5
  · unfold cv_Q at *
    rw [e2]
    exact h6
theorem cv_C_up (h : cv_C r s T N S p l fr) (hS : S.length ≤ 12) (k : Nat) (b : Bool) : cv_C r s T N ((k, b, false, none) :: S) p l fr := by
  obtain ⟨h1, h2, h3, h4, h5, h6, h7⟩ := h
  refine ⟨h1, ⟨by rw [List.length_cons]; omega, by show l.length + (0 + tx_due S) ≤ 40; omega⟩, h3, h4, h5, h6, ?_⟩
  refine ⟨?_, h7.2⟩
  show _ = ((0 + tx_due S : Nat) : Int)
  rw [Nat.zero_add]
  exact h7.1
theorem cv_C_down {k : Nat} {b : Bool} (h : cv_C r s T N ((k, b, false, none) :: S) p l fr) : cv_C r s T N S p l fr := by
  obtain ⟨h1, h2, h3, h4, h5, h6, h7⟩ := h
  have h2b : l.length + (0 + tx_due S) ≤ 40 := h2.2
  have h2a : S.length + 1 ≤ 13 := h2.1
  refine ⟨h1, ⟨by omega, by omega⟩, h3, h4, h5, h6, ?_⟩
  have h7a : _ = ((0 + tx_due S : Nat) : Int) := h7.1
  rw [Nat.zero_add] at h7a
  exact ⟨h7a, h7.2⟩
theorem cv_C_i {q : Nat} {v : Int32} {S' : List tx_F} (hr : ps_is r 5 = true) (h : cv_C r s T N S p l fr) (hS : S'.length ≤ 13 ∧ l.length + tx_due S' ≤ 40) (h2 : q ≠ 2) (h4 : q ≠ 4) (h9 : q ≠ 9) (h10 : q ≠ 10) (hb : tx_bs S' = tx_bs S) (h7 : (ps_i (ps_ui s 902 q v) 902 7).toInt = tx_due S') : cv_C r (ps_ui s 902 q v) T N S' p l fr := by
  obtain ⟨g1, g2, g3, g4, g5, g6, g7⟩ := h
  have nr : r ≠ 902 := cv_ne hr cv_n5.1
  have er : ∀ f, ps_i (ps_ui s 902 q v) r f = ps_i s r f := fun f => if_neg (fun z => nr z.1)
  have e2 : ∀ f, f ≠ q → ps_i (ps_ui s 902 q v) 902 f = ps_i s 902 f := fun f hf => if_neg (fun z => hf z.2)
  refine ⟨g1, hS, g3, ?_, ?_, ?_, h7, by rw [e2 9 (by omega)]; exact g7.2.1, by rw [e2 10 (by omega)]; exact g7.2.2⟩
  · unfold cv_W at *
    rw [er, er]
    exact g4
  · unfold cv_P at *
    rw [e2 2 (by omega)]
    exact g5
  · unfold cv_Q at *
    rw [e2 4 (by omega), hb]
    exact g6
theorem cv_C_not (hr : ps_is r 5 = true) (h : cv_C r s T N S p l fr) (hS : S.length ≤ 12) (hl : l.length + tx_due S + 1 ≤ 40) : cv_C r (ps_ui s 902 7 (ps_i s 902 7 + 1)) T N ((0, true, true, none) :: S) p l fr := by
  refine cv_C_i hr h ⟨by rw [List.length_cons]; omega, by show l.length + (1 + tx_due S) ≤ 40; omega⟩ (by decide) (by decide) (by decide) (by decide) rfl ?_
  rw [ps_i_ui, if_pos ⟨rfl, rfl⟩]
  have h7 := h.2.2.2.2.2.2.1
  have := tx_due_le (S := S)
  rw [xj1 h7 (by omega)]
  show ((tx_due S + 1 : Nat) : Int) = ((1 + tx_due S : Nat) : Int)
  omega
theorem cv_C_ton (hr : ps_is r 5 = true) (h : cv_C r s T N ((0, true, true, none) :: S) p l fr) : cv_C r (ps_ui s 902 7 (ps_i s 902 7 - 1)) T N S p l fr := by
  have h2 : S.length + 1 ≤ 13 := h.2.1.1
  have h2b : l.length + (1 + tx_due S) ≤ 40 := h.2.1.2
  refine cv_C_i hr h ⟨by omega, by omega⟩ (by decide) (by decide) (by decide) (by decide) rfl ?_
  rw [ps_i_ui, if_pos ⟨rfl, rfl⟩]
  have h7 : _ = ((1 + tx_due S : Nat) : Int) := h.2.2.2.2.2.2.1
  have := tx_due_le (S := S)
  have h1 : (1 : Int32).toInt = 1 := by decide
  rw [xIs (by omega) (by omega)]
  omega
theorem cv_C_push (hr : ps_is r 5 = true) (h : cv_C r s T N S p l fr) (hS : S.length ≤ 12) (hb : (tx_bs S).length ≤ 4) {w : List Nat} (hw : tx_w w) {v : Int64} (hv : v = tx_x w) : cv_C r (ps_ui (ps_ub s 907 (tx_bs S).length v) 902 4 (ps_i s 902 4 + 1)) T N ((0, true, false, some w) :: S) p l fr := by
  obtain ⟨g1, g2, g3, g4, g5, g6, g7⟩ := h
  have nr : r ≠ 902 := cv_ne hr cv_n5.1
  have er : ∀ f, ps_i (ps_ui (ps_ub s 907 (tx_bs S).length v) 902 4 (ps_i s 902 4 + 1)) r f = ps_i s r f := fun f => if_neg (fun z => nr z.1)
  obtain ⟨q1, q2, q3⟩ := g6
  refine ⟨g1, ⟨by rw [List.length_cons]; omega, by show l.length + (0 + tx_due S) ≤ 40; omega⟩, g3, ?_, ?_, ⟨?_, ?_, fun k w' hk => ?_⟩, ?_⟩
  · unfold cv_W at *
    rw [er, er]
    exact g4
  · obtain ⟨f1, f2, f3⟩ := g5
    refine ⟨f1, f2, fun k w' hk => ?_⟩
    obtain ⟨z1, z2⟩ := f3 k w' hk
    refine ⟨z1, ?_⟩
    show ps_b (ps_ub s 907 (tx_bs S).length v) 906 k = _
    rw [ps_b_ub, if_neg (by omega)]
    exact z2
  · rw [ps_i_ui, if_pos ⟨rfl, rfl⟩]
    exact xj1 q1 (by omega)
  · show (tx_bs S).length + 1 ≤ 5
    omega
  · show tx_w w' ∧ ps_b (ps_ub s 907 (tx_bs S).length v) 907 ((tx_bs S).length + 1 - 1 - k) = tx_x w'
    cases k with
    | zero =>
      have hk : some w = some w' := hk
      cases hk
      refine ⟨hw, ?_⟩
      rw [ps_b_ub, if_pos ⟨rfl, by omega⟩]
      exact hv
    | succ k =>
      have hk : (tx_bs S)[k]? = some w' := hk
      have hl := (List.getElem?_eq_some_iff.mp hk).1
      obtain ⟨z1, z2⟩ := q3 k w' hk
      refine ⟨z1, ?_⟩
      rw [ps_b_ub, if_neg (by omega), show (tx_bs S).length + 1 - 1 - (k + 1) = (tx_bs S).length - 1 - k from by omega]
      exact z2
  · refine ⟨?_, g7.2⟩
    show (ps_i s 902 7).toInt = ((0 + tx_due S : Nat) : Int)
    rw [Nat.zero_add]
    exact g7.1
theorem cv_C_pop (hr : ps_is r 5 = true) {w : List Nat} (h : cv_C r s T N ((0, true, false, some w) :: S) p l fr) : cv_C r (ps_ui s 902 4 (ps_i s 902 4 - 1)) T N S p l fr := by
  obtain ⟨g1, g2, g3, g4, g5, g6, g7⟩ := h
  have nr : r ≠ 902 := cv_ne hr cv_n5.1
  have er : ∀ f, ps_i (ps_ui s 902 4 (ps_i s 902 4 - 1)) r f = ps_i s r f := fun f => if_neg (fun z => nr z.1)
  obtain ⟨q1, q2, q3⟩ := g6
  have q1 : (ps_i s 902 4).toInt = ((tx_bs S).length + 1 : Nat) := q1
  have q2 : (tx_bs S).length + 1 ≤ 5 := q2
  have g2b : l.length + (0 + tx_due S) ≤ 40 := g2.2
  have g2a : S.length + 1 ≤ 13 := g2.1
  refine ⟨g1, ⟨by omega, by omega⟩, g3, ?_, g5, ⟨?_, by omega, fun k w' hk => ?_⟩, ?_⟩
  · unfold cv_W at *
    rw [er, er]
    exact g4
  · rw [ps_i_ui, if_pos ⟨rfl, rfl⟩]
    have h1 : (1 : Int32).toInt = 1 := by decide
    rw [xIs (by omega) (by omega)]
    omega
  · have hl := (List.getElem?_eq_some_iff.mp hk).1
    obtain ⟨z1, z2⟩ := q3 (k + 1) w' hk
    refine ⟨z1, ?_⟩
    have z2 : ps_b s 907 ((tx_bs S).length + 1 - 1 - (k + 1)) = tx_x w' := z2
    rw [show (tx_bs S).length + 1 - 1 - (k + 1) = (tx_bs S).length - 1 - k from by omega] at z2
    exact z2
  · have g7a : (ps_i s 902 7).toInt = ((0 + tx_due S : Nat) : Int) := g7.1
    rw [Nat.zero_add] at g7a
    exact ⟨g7a, g7.2⟩
theorem cv_C_free (hr : ps_is r 5 = true) (h : cv_C r s T N S p l fr) (hf : fr.length < 12) {w : List Nat} (hw : tx_w w) {v : Int64} (hv : v = tx_x w) : cv_C r (ps_ui (ps_ub s 906 fr.length v) 902 2 (ps_i s 902 2 + 1)) T N S p l (fr ++ [w]) := by
  obtain ⟨g1, g2, g3, g4, g5, g6, g7⟩ := h
  have nr : r ≠ 902 := cv_ne hr cv_n5.1
  have er : ∀ f, ps_i (ps_ui (ps_ub s 906 fr.length v) 902 2 (ps_i s 902 2 + 1)) r f = ps_i s r f := fun f => if_neg (fun z => nr z.1)
  obtain ⟨q1, q2, q3⟩ := g5
  refine ⟨g1, g2, g3, ?_, ⟨?_, ?_, fun k w' hk => ?_⟩, ?_, g7⟩
  · unfold cv_W at *
    rw [er, er]
    exact g4
  · rw [ps_i_ui, if_pos ⟨rfl, rfl⟩, List.length_append]
    exact xj1 q1 (by omega)
  · rw [List.length_append]
    show fr.length + 1 ≤ 12
    omega
  · show tx_w w' ∧ ps_b (ps_ub s 906 fr.length v) 906 k = tx_x w'
    rw [ps_b_ub]
    by_cases e : k = fr.length
    · rw [e, List.getElem?_append_right (Nat.le_refl _), Nat.sub_self] at hk
      cases hk
      rw [if_pos ⟨rfl, e⟩]
      exact ⟨hw, hv⟩
    · have hk2 : k < fr.length := by
        have := (List.getElem?_eq_some_iff.mp hk).1
        rw [List.length_append] at this
        have : k < fr.length + 1 := this
        omega
      rw [List.getElem?_append_left hk2] at hk
      rw [if_neg (fun z => e z.2)]
      exact q3 k w' hk
  · obtain ⟨f1, f2, f3⟩ := g6
    refine ⟨f1, f2, fun k w' hk => ?_⟩
    obtain ⟨z1, z2⟩ := f3 k w' hk
    refine ⟨z1, ?_⟩
    show ps_b (ps_ub s 906 fr.length v) 907 _ = _
    rw [ps_b_ub, if_neg (by omega)]
    exact z2
end CVM
end
section
set_option maxRecDepth 100000
/-! the class's reader: its methods -/
-- ProofBench$Theory.find([JIJ)I
theorem pl_131_0 {n : Nat} {r0 : Nat} {x1 : Int32} {l2 : Int64} {s : ps_S} {Q : Option Value → ps_S → Prop} (h :
  pl_At n 131 3 [(0, .ref r0), (1, .int x1), (2, .long l2), (4, .int 0)] [] s Q) : pl_At (n + 1) 131 0 [(0, .ref r0), (1, .int x1), (2, .long l2)] [] s Q :=
  pl_wp_at (stops := [(3, [0, 1, 2, 4])]) (f := 4) h rfl

theorem pl_131_3 {n : Nat} {r0 : Nat} {x1 : Int32} {l2 : Int64} {x4 : Int32} {s : ps_S} {Q : Option Value → ps_S → Prop} (h :
  (x1 ≤ x4 →
    Q (some (.int (-1))) s) ∧
  (x4 < x1 →
    pl_nk (Nat.beq (ps_K r0).1 0) (((nI (ps_ln r0)) ≤ x4 →
      Q (some (.int (-1))) s) ∧
    (x4 < (nI (ps_ln r0)) →
      pl_nk (ps_ar r0 3) ((pm_in x4 (ps_ln r0) = true →
        ((lg_cmp (ps_b s r0 (Int32.toNatClampNeg x4)) l2) ≠ 0 →
          pl_At n 131 3 [(0, .ref r0), (1, .int x1), (2, .long l2), (4, .int (x4 + 1))] [] s Q) ∧
        ((lg_cmp (ps_b s r0 (Int32.toNatClampNeg x4)) l2) = 0 →
          Q (some (.int x4)) s))))))) : pl_At (n + 1) 131 3 [(0, .ref r0), (1, .int x1), (2, .long l2), (4, .int x4)] [] s Q :=
  pl_wp_at (stops := [(3, [0, 1, 2, 4])]) (f := 23) h rfl

-- ProofBench$Theory.relOf(J)I
theorem pl_127_0 {n : Nat} {r0 : Nat} {l1 : Int64} {s : ps_S} {Q : Option Value → ps_S → Prop} (h :
  pl_nk (ps_is r0 9) (pl_nk (ps_is r0 9) (pl_Cl n 131 [.ref (ps_c0 r0 0), .int (ps_i s r0 6), .long l1] s (ps_rI (fun v1 s1 =>
    Q (some (.int v1)) s1))))) : pl_At (n + 1) 127 0 [(0, .ref r0), (1, .long l1)] [] s Q :=
  pl_wp_at (stops := []) (f := 9) h rfl

-- ProofBench$Theory.funOf(J)I
theorem pl_128_0 {n : Nat} {r0 : Nat} {l1 : Int64} {s : ps_S} {Q : Option Value → ps_S → Prop} (h :
  pl_nk (ps_is r0 9) (pl_nk (ps_is r0 9) (pl_Cl n 131 [.ref (ps_c0 r0 1), .int (ps_i s r0 7), .long l1] s (ps_rI (fun v1 s1 =>
    Q (some (.int v1)) s1))))) : pl_At (n + 1) 128 0 [(0, .ref r0), (1, .long l1)] [] s Q :=
  pl_wp_at (stops := []) (f := 9) h rfl

-- ProofBench$Theory.isSymbol(J)Z
theorem pl_130_0 {n : Nat} {r0 : Nat} {l1 : Int64} {s : ps_S} {Q : Option Value → ps_S → Prop} (h :
  pl_nk (ps_is r0 9) (pl_nk (ps_is r0 9) (pl_Cl n 131 [.ref (ps_c0 r0 0), .int (ps_i s r0 6), .long l1] s (ps_rI (fun v1 s1 =>
    (v1 ≠ (-1) →
      Q (some (.int 1)) s1) ∧
    (v1 = (-1) →
      pl_nk (ps_is r0 9) (pl_nk (ps_is r0 9) (pl_Cl n 131 [.ref (ps_c0 r0 1), .int (ps_i s1 r0 7), .long l1] s1 (ps_rI (fun v2 s2 =>
        (v2 = (-1) →
          Q (some (.int 0)) s2) ∧
        (v2 ≠ (-1) →
          Q (some (.int 1)) s2))))))))))) : pl_At (n + 1) 130 0 [(0, .ref r0), (1, .long l1)] [] s Q :=
  pl_wp_at (stops := []) (f := 26) h rfl

-- ProofBench$Theory.arity(I)I
theorem pl_136_0 {n : Nat} {r0 : Nat} {x1 : Int32} {s : ps_S} {Q : Option Value → ps_S → Prop} (h :
  (x1 < 0 →
    Q (some (.int 0)) s) ∧
  (0 ≤ x1 →
    pl_nk (ps_is r0 9) (pl_nk (Nat.beq (ps_K (ps_c0 r0 3)).1 0) (((nI (ps_ln (ps_c0 r0 3))) ≤ x1 →
      Q (some (.int 0)) s) ∧
    (x1 < (nI (ps_ln (ps_c0 r0 3))) →
      pl_nk (ps_is r0 9) (pl_nk (ps_ar (ps_c0 r0 3) 0) ((pm_in x1 (ps_ln (ps_c0 r0 3)) = true →
        Q (some (.int (ps_a s (ps_c0 r0 3) (Int32.toNatClampNeg x1)))) s)))))))) : pl_At (n + 1) 136 0 [(0, .ref r0), (1, .int x1)] [] s Q :=
  pl_wp_at (stops := []) (f := 19) h rfl

-- ProofBench.isQuantifier(I)Z
theorem pl_184_0 {n : Nat} {x0 : Int32} {s : ps_S} {Q : Option Value → ps_S → Prop} (h :
  (x0 = 4 →
    Q (some (.int 1)) s) ∧
  (x0 ≠ 4 →
    (x0 ≠ 5 →
      Q (some (.int 0)) s) ∧
    (x0 = 5 →
      Q (some (.int 1)) s))) : pl_At (n + 1) 184 0 [(0, .int x0)] [] s Q :=
  pl_wp_at (stops := []) (f := 16) h rfl

-- ProofBench$Row.add(I)V
theorem pl_93_0 {n : Nat} {r0 : Nat} {x1 : Int32} {s : ps_S} {Q : Option Value → ps_S → Prop} (h :
  pl_nk (ps_is r0 5) (((ps_i s r0 1) < 0 →
    pl_nk (ps_is r0 5) (Q none (ps_ui s r0 2 1))) ∧
  (0 ≤ (ps_i s r0 1) →
    pl_nk (ps_is r0 5) (pl_nk (ps_is r0 5) (pl_nk (Nat.beq (ps_K (ps_c0 r0 0)).1 0) (((nI (ps_ln (ps_c0 r0 0))) ≤ (ps_i s r0 1) →
      pl_nk (ps_is r0 5) (Q none (ps_ui s r0 2 1))) ∧
    ((ps_i s r0 1) < (nI (ps_ln (ps_c0 r0 0))) →
      pl_nk (ps_is r0 5) (pl_nk (ps_is r0 5) (pl_nk (ps_ar (ps_c0 r0 0) 0) ((pm_in (ps_i s r0 1) (ps_ln (ps_c0 r0 0)) = true →
        pl_nk (ps_is r0 5) (pl_nk (ps_is r0 5) (Q none (ps_ui (ps_ua s (ps_c0 r0 0) (Int32.toNatClampNeg (ps_i s r0 1)) x1) r0 1 ((ps_i (ps_ua s (ps_c0 r0 0) (Int32.toNatClampNeg (ps_i s r0 1)) x1) r0 1) + 1))))))))))))))) : pl_At (n + 1) 93 0 [(0, .ref r0), (1, .int x1)] [] s Q :=
  pl_wp_at (stops := []) (f := 33) h rfl

-- ProofBench$Reader.refuse(I)Z
theorem pl_62_0 {n : Nat} {x1 : Int32} {s : ps_S} {Q : Option Value → ps_S → Prop} (h :
  ((ps_i s 903 4) ≠ 1 →
    Q (some (.int 0)) (ps_ui (ps_ui s 902 9 x1) 902 10 (ps_i (ps_ui s 902 9 x1) 903 5))) ∧
  ((ps_i s 903 4) = 1 →
    Q (some (.int 0)) (ps_ui (ps_ui s 902 9 1) 902 10 (ps_i (ps_ui s 902 9 1) 903 5)))) : pl_At (n + 1) 62 0 [(0, .ref 902), (1, .int x1)] [] s Q :=
  pl_wp_at (stops := []) (f := 27) h rfl

-- ProofBench$Reader.formulaPiece()I
theorem pl_72_0 {n : Nat} {s : ps_S} {Q : Option Value → ps_S → Prop} (h :
  ((ps_i s 903 6) < 0 →
    pl_At n 72 30 [(0, .ref 902)] [] s Q) ∧
  (0 ≤ (ps_i s 903 6) →
    (6 < (ps_i s 903 6) →
      pl_At n 72 30 [(0, .ref 902)] [] s Q) ∧
    ((ps_i s 903 6) ≤ 6 →
      Q (some (.int (ps_i s 903 6))) s))) : pl_At (n + 1) 72 0 [(0, .ref 902)] [] s Q :=
  pl_wp_at (stops := [(30, [0])]) (f := 15) h rfl

theorem pl_72_30 {n : Nat} {s : ps_S} {Q : Option Value → ps_S → Prop} (h :
  ((ps_i s 903 4) ≠ 2 →
    ((-1 : Int32) ≠ (-1) →
      Q (some (.int ((10 : Int32) + (-1)))) s) ∧
    ((-1 : Int32) = (-1) →
      Q (some (.int (-1))) s)) ∧
  ((ps_i s 903 4) = 2 →
    pl_Cl n 127 [.ref (ps_r s 902 5), .long (ps_j s 903 8)] s (ps_rI (fun v1 s1 =>
      (v1 ≠ (-1) →
        Q (some (.int ((10 : Int32) + v1))) s1) ∧
      (v1 = (-1) →
        Q (some (.int (-1))) s1))))) : pl_At (n + 1) 72 30 [(0, .ref 902)] [] s Q :=
  pl_wp_at (stops := [(30, [0])]) (f := 37) h rfl

-- ProofBench$Reader.hasRoom(II)Z
theorem pl_73_0 {n : Nat} {x1 : Int32} {x2 : Int32} {s : ps_S} {Q : Option Value → ps_S → Prop} (h :
  (12 < x1 →
    Q (some (.int 0)) s) ∧
  (x1 ≤ 12 →
    pl_nk (ps_is (ps_r s 902 6) 5) ((40 < (((ps_i s (ps_r s 902 6) 1) + (ps_i s 902 7)) + x2) →
      Q (some (.int 0)) s) ∧
    ((((ps_i s (ps_r s 902 6) 1) + (ps_i s 902 7)) + x2) ≤ 40 →
      Q (some (.int 1)) s)))) : pl_At (n + 1) 73 0 [(0, .ref 902), (1, .int x1), (2, .int x2)] [] s Q :=
  pl_wp_at (stops := []) (f := 22) h rfl

-- ProofBench$Reader.isX()Z
theorem pl_77_0 {n : Nat} {s : ps_S} {Q : Option Value → ps_S → Prop} (h :
  ((ps_i s 903 4) ≠ 2 →
    Q (some (.int 0)) s) ∧
  ((ps_i s 903 4) = 2 →
    pl_Cl n 130 [.ref (ps_r s 902 5), .long (ps_j s 903 8)] s (ps_rI (fun v1 s1 =>
      (v1 ≠ 0 →
        Q (some (.int 0)) s1) ∧
      (v1 = 0 →
        Q (some (.int 1)) s1))))) : pl_At (n + 1) 77 0 [(0, .ref 902)] [] s Q :=
  pl_wp_at (stops := []) (f := 21) h rfl

-- ProofBench$Reader.freePiece()I
theorem pl_79_0 {n : Nat} {s : ps_S} {Q : Option Value → ps_S → Prop} (h :
  pl_At n 79 2 [(0, .ref 902), (1, .int 0)] [] s Q) : pl_At (n + 1) 79 0 [(0, .ref 902)] [] s Q :=
  pl_wp_at (stops := [(2, [0, 1]), (47, [0])]) (f := 4) h rfl

theorem pl_79_2 {n : Nat} {x1 : Int32} {s : ps_S} {Q : Option Value → ps_S → Prop} (h :
  ((ps_i s 902 2) ≤ x1 →
    pl_At n 79 47 [(0, .ref 902)] [] s Q) ∧
  (x1 < (ps_i s 902 2) →
    ((nI 12) ≤ x1 →
      pl_At n 79 47 [(0, .ref 902)] [] s Q) ∧
    (x1 < (nI 12) →
      (pm_in x1 12 = true →
        ((lg_cmp (ps_b s 906 (Int32.toNatClampNeg x1)) (ps_j s 903 8)) ≠ 0 →
          pl_At n 79 2 [(0, .ref 902), (1, .int (x1 + 1))] [] s Q) ∧
        ((lg_cmp (ps_b s 906 (Int32.toNatClampNeg x1)) (ps_j s 903 8)) = 0 →
          Q (some (.int ((60 : Int32) + x1))) s))))) : pl_At (n + 1) 79 2 [(0, .ref 902), (1, .int x1)] [] s Q :=
  pl_wp_at (stops := [(2, [0, 1]), (47, [0])]) (f := 26) h rfl

theorem pl_79_47 {n : Nat} {s : ps_S} {Q : Option Value → ps_S → Prop} (h :
  ((ps_i s 902 2) < 0 →
    Q (some (.int (-1))) s) ∧
  (0 ≤ (ps_i s 902 2) →
    ((ps_i s 902 2) < (nI 12) →
      (pm_in (ps_i s 902 2) 12 = true →
        Q (some (.int (((60 : Int32) + (ps_i (ps_ui (ps_ub s 906 (Int32.toNatClampNeg (ps_i s 902 2)) (ps_j s 903 8)) 902 2 ((ps_i (ps_ub s 906 (Int32.toNatClampNeg (ps_i s 902 2)) (ps_j s 903 8)) 902 2) + 1)) 902 2)) - 1))) (ps_ui (ps_ub s 906 (Int32.toNatClampNeg (ps_i s 902 2)) (ps_j s 903 8)) 902 2 ((ps_i (ps_ub s 906 (Int32.toNatClampNeg (ps_i s 902 2)) (ps_j s 903 8)) 902 2) + 1)))) ∧
    ((nI 12) ≤ (ps_i s 902 2) →
      Q (some (.int (-1))) s))) : pl_At (n + 1) 79 47 [(0, .ref 902)] [] s Q :=
  pl_wp_at (stops := [(2, [0, 1]), (47, [0])]) (f := 36) h rfl

-- ProofBench$Reader.pieceOfX()I
theorem pl_78_0 {n : Nat} {s : ps_S} {Q : Option Value → ps_S → Prop} (h :
  pl_At n 78 2 [(0, .ref 902), (1, .int 0)] [] s Q) : pl_At (n + 1) 78 0 [(0, .ref 902)] [] s Q :=
  pl_wp_at (stops := [(2, [0, 1])]) (f := 4) h rfl

theorem pl_78_2 {n : Nat} {x1 : Int32} {s : ps_S} {Q : Option Value → ps_S → Prop} (h :
  ((ps_i s 902 4) ≤ x1 →
    ((ps_i s 902 8) = 0 →
      pl_Cl n 79 [.ref 902] s (ps_rI (fun v1 s1 =>
        Q (some (.int v1)) s1))) ∧
    ((ps_i s 902 8) ≠ 0 →
      Q (some (.int (-1))) s)) ∧
  (x1 < (ps_i s 902 4) →
    ((((ps_i s 902 4) - 1) - x1) < 0 →
      pl_At n 78 2 [(0, .ref 902), (1, .int (x1 + 1))] [] s Q) ∧
    (0 ≤ (((ps_i s 902 4) - 1) - x1) →
      ((nI 5) ≤ (((ps_i s 902 4) - 1) - x1) →
        pl_At n 78 2 [(0, .ref 902), (1, .int (x1 + 1))] [] s Q) ∧
      ((((ps_i s 902 4) - 1) - x1) < (nI 5) →
        (pm_in (((ps_i s 902 4) - 1) - x1) 5 = true →
          ((lg_cmp (ps_b s 907 (Int32.toNatClampNeg (((ps_i s 902 4) - 1) - x1))) (ps_j s 903 8)) ≠ 0 →
            pl_At n 78 2 [(0, .ref 902), (1, .int (x1 + 1))] [] s Q) ∧
          ((lg_cmp (ps_b s 907 (Int32.toNatClampNeg (((ps_i s 902 4) - 1) - x1))) (ps_j s 903 8)) = 0 →
            Q (some (.int ((40 : Int32) + x1))) s)))))) : pl_At (n + 1) 78 2 [(0, .ref 902), (1, .int x1)] [] s Q :=
  pl_wp_at (stops := [(2, [0, 1])]) (f := 48) h rfl

/-- a place or none -/
def tx_opt (o : Option Nat) (v : Int32) : Prop := (∀ c, o = some c → v.toInt = c) ∧ (o = none → v.toInt = -1)
theorem fs_131_3 {L : List (List Nat)} {w : List Nat} {r0 : Nat} {x1 : Int32} {l2 : Int64} {s : ps_S} {R : Int32 → ps_S → Prop} (hw : tx_w w) (hl : l2 = tx_x w) (hL : ∀ k w', L[k]? = some w' → tx_w w' ∧ ps_b s r0 k = tx_x w') (hx : x1.toInt = L.length) (hn : L.length ≤ ps_ln r0) (h9 : ps_ln r0 ≤ 40) (k : ∀ v : Int32, tx_opt (tx_at L w) v → R v s) : ∀ (n : Nat) {x4 : Int32} {i : Nat}, x4.toInt = i → i ≤ L.length → (∀ j, j < i → L[j]? ≠ some w) → pl_At n 131 3 [(0, .ref r0), (1, .int x1), (2, .long l2), (4, .int x4)] [] s (ps_rI R)
  | 0, _, _, _, _, _ => pl_At_0
  | n + 1, x4, i, hx4, hi, hj => by
    have no : i = L.length → tx_at L w = none := fun z => tx_at_no (fun j hjl => hj j (by omega))
    have h40 : (nI (ps_ln r0)).toInt = (ps_ln r0 : Nat) := nI_i (by omega)
    refine pl_131_3 ?_
    refine ⟨fun h6 => ?_, fun h6 => ?_⟩
    · have h6 : x1.toInt ≤ x4.toInt := xle h6
      have e := no (by omega)
      exact k _ ⟨(fun c hc => by rw [e] at hc; cases hc), fun _ => rfl⟩
    · have h6 : x4.toInt < x1.toInt := xlt h6
      refine pl_nk_i (fun nk12 => ?_)
      refine ⟨fun h13 => ?_, fun h13 => ?_⟩
      · have h13 : (nI (ps_ln r0)).toInt ≤ x4.toInt := xle h13
        have e := no (by omega)
        exact k _ ⟨(fun c hc => by rw [e] at hc; cases hc), fun _ => rfl⟩
      · have h13 : x4.toInt < (nI (ps_ln r0)).toInt := xlt h13
        refine pl_nk_i (fun nk19 => ?_)
        intro b19
        obtain ⟨b19, c19⟩ := pl_in b19
        obtain ⟨w0, hg1⟩ : ∃ w0, L[i]? = some w0 := ⟨L[i]'(by omega), List.getElem?_eq_getElem _⟩
        obtain ⟨hg2, hg3⟩ := hL i w0 hg1
        refine ⟨fun h22 => ?_, fun h22 => ?_⟩
        · have h22 := lg_nz h22
          refine fs_131_3 hw hl hL hx hn h9 k n (xj1 hx4 (by omega)) (by omega) (fun j hjl => ?_)
          by_cases ej : j = i
          · rw [ej, hg1]
            intro z
            cases z
            exact h22 (by rw [xtn hx4, hg3, hl])
          · exact hj j (by omega)
        · have h22 := lg_z h22
          rw [xtn hx4, hg3] at h22
          have e := tx_at_is (by rw [hg1, tx_x_inj hg2 hw (h22.trans hl)]) hj
          exact k _ ⟨(fun c hc => by rw [e] at hc; cases hc; exact hx4), (fun hc => by rw [e] at hc; cases hc)⟩
theorem fs_131 {n : Nat} {L : List (List Nat)} {w : List Nat} {r0 : Nat} {x1 : Int32} {l2 : Int64} {s : ps_S} {R : Int32 → ps_S → Prop} (hw : tx_w w) (hl : l2 = tx_x w) (hL : ∀ k w', L[k]? = some w' → tx_w w' ∧ ps_b s r0 k = tx_x w') (hx : x1.toInt = L.length) (hn : L.length ≤ ps_ln r0) (h9 : ps_ln r0 ≤ 40) (k : ∀ v : Int32, tx_opt (tx_at L w) v → R v s) : pl_Cl n 131 [.ref r0, .int x1, .long l2] s (ps_rI R) := by
  cases n with
  | zero => exact pl_At_0
  | succ n =>
  show pl_At (n + 1) 131 0 [(0, .ref r0), (1, .int x1), (2, .long l2)] [] s (ps_rI R)
  refine pl_131_0 ?_
  exact fs_131_3 hw hl hL hx hn h9 k n (i := 0) rfl (Nat.zero_le _) (fun j hj => by omega)

theorem cv_E_rel {s : ps_S} {th : Nat} {g : tx_g} (h : cv_E s th g) : ∀ k w, (g.1.map Prod.fst)[k]? = some w → tx_w w ∧ ps_b s (th + 1) k = tx_x w := fun k w e => by
  rw [List.getElem?_map] at e
  obtain ⟨q, h1, rfl⟩ := Option.map_eq_some_iff.mp e
  obtain ⟨z1, z2, z3, z4⟩ := h.2.2.2.2.1 k q.1 q.2 h1
  exact ⟨z1, z3⟩
theorem cv_E_fun {s : ps_S} {th : Nat} {g : tx_g} (h : cv_E s th g) : ∀ k w, (g.2.map Prod.fst)[k]? = some w → tx_w w ∧ ps_b s (th + 2) k = tx_x w := fun k w e => by
  rw [List.getElem?_map] at e
  obtain ⟨q, h1, rfl⟩ := Option.map_eq_some_iff.mp e
  obtain ⟨z1, z2, z3, z4⟩ := h.2.2.2.2.2.1 k q.1 q.2 h1
  exact ⟨z1, z3⟩
theorem fs_127 {n : Nat} {th : Nat} {g : tx_g} {w : List Nat} {l1 : Int64} {s : ps_S} {R : Int32 → ps_S → Prop} (hth : th = 2 ∨ th = 26) (H : cv_E s th g) (hw : tx_w w) (hl : l1 = tx_x w) (k : ∀ v : Int32, tx_opt (tx_at (g.1.map Prod.fst) w) v → R v s) : pl_Cl n 127 [.ref th, .long l1] s (ps_rI R) := by
  cases n with
  | zero => exact pl_At_0
  | succ n =>
  show pl_At (n + 1) 127 0 [(0, .ref th), (1, .long l1)] [] s (ps_rI R)
  have t := cv_th5 hth
  refine pl_127_0 ?_
  refine pl_nk_i (fun nk1 => ?_)
  refine pl_nk_i (fun nk5 => ?_)
  rw [t.2.2.2.1]
  refine fs_131 (L := g.1.map Prod.fst) hw hl (cv_E_rel H) (by rw [List.length_map]; exact H.1) (by rw [List.length_map, t.2.2.2.2.2.2.2.1]; exact H.2.2.1) (by rw [t.2.2.2.2.2.2.2.1]; decide) (fun v9 q9 => ?_)
  exact k _ q9
theorem fs_128 {n : Nat} {th : Nat} {g : tx_g} {w : List Nat} {l1 : Int64} {s : ps_S} {R : Int32 → ps_S → Prop} (hth : th = 2 ∨ th = 26) (H : cv_E s th g) (hw : tx_w w) (hl : l1 = tx_x w) (k : ∀ v : Int32, tx_opt (tx_at (g.2.map Prod.fst) w) v → R v s) : pl_Cl n 128 [.ref th, .long l1] s (ps_rI R) := by
  cases n with
  | zero => exact pl_At_0
  | succ n =>
  show pl_At (n + 1) 128 0 [(0, .ref th), (1, .long l1)] [] s (ps_rI R)
  have t := cv_th5 hth
  refine pl_128_0 ?_
  refine pl_nk_i (fun nk1 => ?_)
  refine pl_nk_i (fun nk5 => ?_)
  rw [t.2.2.2.2.1]
  refine fs_131 (L := g.2.map Prod.fst) hw hl (cv_E_fun H) (by rw [List.length_map]; exact H.2.1) (by rw [List.length_map, t.2.2.2.2.2.2.2.2.1]; exact H.2.2.2.1) (by rw [t.2.2.2.2.2.2.2.2.1]; decide) (fun v9 q9 => ?_)
  exact k _ q9
theorem tx_opt_m {o : Option Nat} {v : Int32} (h : tx_opt o v) : v.toInt = -1 ↔ o = none := by
  constructor
  · intro z
    cases e : o with
    | none => rfl
    | some c =>
      have := h.1 c e
      omega
  · exact h.2
theorem fs_130 {n : Nat} {th : Nat} {g : tx_g} {w : List Nat} {l1 : Int64} {s : ps_S} {R : Int32 → ps_S → Prop} (hth : th = 2 ∨ th = 26) (H : cv_E s th g) (hw : tx_w w) (hl : l1 = tx_x w) (k1 : ¬ (tx_at (g.1.map Prod.fst) w = none ∧ tx_at (g.2.map Prod.fst) w = none) → R 1 s) (k0 : tx_at (g.1.map Prod.fst) w = none ∧ tx_at (g.2.map Prod.fst) w = none → R 0 s) : pl_Cl n 130 [.ref th, .long l1] s (ps_rI R) := by
  cases n with
  | zero => exact pl_At_0
  | succ n =>
  show pl_At (n + 1) 130 0 [(0, .ref th), (1, .long l1)] [] s (ps_rI R)
  have t := cv_th5 hth
  refine pl_130_0 ?_
  refine pl_nk_i (fun nk1 => ?_)
  refine pl_nk_i (fun nk5 => ?_)
  rw [t.2.2.2.1]
  refine fs_131 (L := g.1.map Prod.fst) hw hl (cv_E_rel H) (by rw [List.length_map]; exact H.1) (by rw [List.length_map, t.2.2.2.2.2.2.2.1]; exact H.2.2.1) (by rw [t.2.2.2.2.2.2.2.1]; decide) (fun v9 q9 => ?_)
  refine ⟨fun h13 => ?_, fun h13 => ?_⟩
  · have h13 : v9.toInt ≠ (-1 : Int) := xne h13
    exact k1 (fun z => h13 ((tx_opt_m q9).mpr z.1))
  · have h13 : v9.toInt = (-1 : Int) := xeq h13
    refine pl_nk_i (fun nk17 => ?_)
    refine pl_nk_i (fun nk21 => ?_)
    rw [t.2.2.2.2.1]
    refine fs_131 (L := g.2.map Prod.fst) hw hl (cv_E_fun H) (by rw [List.length_map]; exact H.2.1) (by rw [List.length_map, t.2.2.2.2.2.2.2.2.1]; exact H.2.2.2.1) (by rw [t.2.2.2.2.2.2.2.2.1]; decide) (fun v25 q25 => ?_)
    refine ⟨fun h29 => ?_, fun h29 => ?_⟩
    · have h29 : v25.toInt = (-1 : Int) := xeq h29
      exact k0 ⟨(tx_opt_m q9).mp h13, (tx_opt_m q25).mp h29⟩
    · have h29 : v25.toInt ≠ (-1 : Int) := xne h29
      exact k1 (fun z => h29 ((tx_opt_m q25).mpr z.2))
theorem fs_136 {n : Nat} {th : Nat} {x1 : Int32} {c : Nat} {s : ps_S} {R : Int32 → ps_S → Prop} (hth : th = 2 ∨ th = 26) (hx : x1.toInt = c) (k : ∀ v : Int32, v.toInt = (if c < 40 then (ps_a s (th + 4) c).toInt else 0) → R v s) : pl_Cl n 136 [.ref th, .int x1] s (ps_rI R) := by
  cases n with
  | zero => exact pl_At_0
  | succ n =>
  show pl_At (n + 1) 136 0 [(0, .ref th), (1, .int x1)] [] s (ps_rI R)
  have t := cv_th5 hth
  have t40 : (nI (ps_ln (ps_c0 th 3))).toInt = 40 := by
    rw [t.2.2.2.2.2.2.1, t.2.2.2.2.2.2.2.2.2.2]
    decide
  refine pl_136_0 ?_
  refine ⟨fun h1 => ?_, fun h1 => ?_⟩
  · have h1 : x1.toInt < (0 : Int) := xlt h1
    refine k _ ?_
    rw [if_neg (by omega)]
    rfl
  · have h1 : (0 : Int) ≤ x1.toInt := xle h1
    refine pl_nk_i (fun nk6 => ?_)
    refine pl_nk_i (fun nk9 => ?_)
    refine ⟨fun h10 => ?_, fun h10 => ?_⟩
    · have h10 : (nI (ps_ln (ps_c0 th 3))).toInt ≤ x1.toInt := xle h10
      refine k _ ?_
      rw [if_neg (by omega)]
      rfl
    · have h10 : x1.toInt < (nI (ps_ln (ps_c0 th 3))).toInt := xlt h10
      refine pl_nk_i (fun nk14 => ?_)
      refine pl_nk_i (fun nk18 => ?_)
      intro b18
      obtain ⟨b18, c18⟩ := pl_in b18
      refine k _ ?_
      rw [if_pos (by omega), xtn hx, t.2.2.2.2.2.2.1]
theorem fs_184 {n : Nat} {x1 : Int32} {s : ps_S} {R : Int32 → ps_S → Prop} (k1 : (x1.toInt = 4 ∨ x1.toInt = 5) → R 1 s) (k0 : ¬ (x1.toInt = 4 ∨ x1.toInt = 5) → R 0 s) : pl_Cl n 184 [.int x1] s (ps_rI R) := by
  cases n with
  | zero => exact pl_At_0
  | succ n =>
  show pl_At (n + 1) 184 0 [(0, .int x1)] [] s (ps_rI R)
  refine pl_184_0 ?_
  refine ⟨fun h2 => ?_, fun h2 => ?_⟩
  · have h2 : x1.toInt = (4 : Int) := xeq h2
    exact k1 (by omega)
  · have h2 : x1.toInt ≠ (4 : Int) := xne h2
    refine ⟨fun h7 => ?_, fun h7 => ?_⟩
    · have h7 : x1.toInt ≠ (5 : Int) := xne h7
      exact k0 (by omega)
    · have h7 : x1.toInt = (5 : Int) := xeq h7
      exact k1 (by omega)
theorem fs_93 {n r m : Nat} {x1 : Int32} {s : ps_S} {R : ps_S → Prop} (hr : ps_is r 5 = true) (h1 : (ps_i s r 1).toInt = m) (hm : m < 40) (k : R (ps_ui (ps_ua s (r + 1) m x1) r 1 (ps_i s r 1 + 1))) : pl_Cl n 93 [.ref r, .int x1] s (ps_rV R) := by
  cases n with
  | zero => exact pl_At_0
  | succ n =>
  show pl_At (n + 1) 93 0 [(0, .ref r), (1, .int x1)] [] s (ps_rV R)
  obtain ⟨t1, t2, t3, -⟩ := cv_row hr
  have t40 : (nI (ps_ln (ps_c0 r 0))).toInt = 40 := by
    rw [t1, t2]
    decide
  refine pl_93_0 ?_
  refine pl_nk_i (fun nk1 => ?_)
  refine ⟨fun h4 => ?_, fun h4 => ?_⟩
  · have h4 : (ps_i s r 1).toInt < (0 : Int) := xlt h4
    refine pl_nk_i (fun nk44 => ?_)
    exfalso; omega
  · have h4 : (0 : Int) ≤ (ps_i s r 1).toInt := xle h4
    refine pl_nk_i (fun nk8 => ?_)
    refine pl_nk_i (fun nk12 => ?_)
    refine pl_nk_i (fun nk15 => ?_)
    refine ⟨fun h16 => ?_, fun h16 => ?_⟩
    · have h16 : (nI (ps_ln (ps_c0 r 0))).toInt ≤ (ps_i s r 1).toInt := xle h16
      refine pl_nk_i (fun nk44 => ?_)
      exfalso; omega
    · have h16 : (ps_i s r 1).toInt < (nI (ps_ln (ps_c0 r 0))).toInt := xlt h16
      refine pl_nk_i (fun nk20 => ?_)
      refine pl_nk_i (fun nk24 => ?_)
      refine pl_nk_i (fun nk28 => ?_)
      intro b28
      obtain ⟨b28, c28⟩ := pl_in b28
      refine pl_nk_i (fun nk31 => ?_)
      refine pl_nk_i (fun nk36 => ?_)
      rw [xtn h1, t1]
      exact k

/-- the row is longer by a piece -/
theorem fs_add {n : Nat} {th r : Nat} {s : ps_S} {T : Nat → Nat} {N : Nat} {E : tx_E} {S : List tx_F} {p : Nat} {l : List Nat} {fr : List (List Nat)} {c : Nat} {x1 : Int32} {R : ps_S → Prop} (HS : cv_S th r s T N E) (HC : cv_C r s T N S p l fr) (hx : x1.toInt = c) (hl : l.length + tx_due S + 1 ≤ 40) (k : ∀ s', cv_S th r s' T N E ∧ cv_C r s' T N S p (l ++ [c]) fr ∧ cv_fr r s s' → R s') : pl_Cl n 93 [.ref (ps_r s 902 6), .int x1] s (ps_rV R) := by
  have hr := HS.2.1
  rw [HS.2.2.2.1]
  have F : cv_fr r s (ps_ui (ps_ua s (r + 1) l.length x1) r 1 (ps_i s r 1 + 1)) := cv_fr_w (cv_fr_a cv_fr_refl) (cv_ne hr cv_n5.1)
  exact fs_93 hr HC.2.2.2.1.1 (by omega) (k _ ⟨cv_S_fr HS F, cv_C_add hr HC hx hl, F⟩)
/-- the next token -/
theorem fs_adv {n : Nat} {th r : Nat} {s : ps_S} {T : Nat → Nat} {N : Nat} {E : tx_E} {S : List tx_F} {p : Nat} {l : List Nat} {fr : List (List Nat)} {R : ps_S → Prop} (HS : cv_S th r s T N E) (HC : cv_C r s T N S p l fr) (k : ∀ s', cv_S th r s' T N E ∧ cv_C r s' T N S (tx_tok T N p).2.2.1 l fr ∧ cv_fr r s s' → R s') : pl_Cl n 140 [.ref 903] s (ps_rV R) := by
  have hr := HS.2.1
  have hq := (tx_tok_ok (T := T) HC.1).2.1
  exact fs_140 HS.2.2.2.2.2.1 HC.2.2.1.2.2.1 hq (fun s' A => k s' ⟨cv_S_fr HS (cv_fr_fl A.1), cv_C_adv hr HC hq A, cv_fr_fl A.1⟩)

theorem fs_62 {n : Nat} {r : Nat} {s0 s : ps_S} {T : Nat → Nat} {N : Nat} {E : tx_E} {S' : List tx_F} {l' : List Nat} {fr' : List (List Nat)} {c0 : tx_C} {tk : tx_K} {x1 : Int32} {K : Nat} {R : Int32 → ps_S → Prop} (hK : cv_K s tk) (F : cv_fr r s0 s) (hx : x1.toInt = K) (hg : gt_go (tx_st T N E) c0 (4, S', tk.2.1, l', fr', if tk.1 = 1 then 1 else K)) (k : ∀ s', cv_bad r s0 s' T N E c0 → R 0 s') : pl_Cl n 62 [.ref 902, .int x1] s (ps_rI R) := by
  cases n with
  | zero => exact pl_At_0
  | succ n =>
  show pl_At (n + 1) 62 0 [(0, .ref 902), (1, .int x1)] [] s (ps_rI R)
  have h4 := hK.1
  have h5 := hK.2.1
  refine pl_62_0 ?_
  refine ⟨fun h9 => ?_, fun h9 => ?_⟩
  · have h9 : (ps_i s 903 4).toInt ≠ (1 : Int) := xne h9
    refine k _ ⟨S', _, l', fr', _, hg, ?_, h5, cv_fr_i (cv_fr_i F (by decide)) (by decide)⟩
    rw [if_neg (by omega)]
    exact hx
  · have h9 : (ps_i s 903 4).toInt = (1 : Int) := xeq h9
    refine k _ ⟨S', _, l', fr', _, hg, ?_, h5, cv_fr_i (cv_fr_i F (by decide)) (by decide)⟩
    rw [if_pos (by omega)]
    rfl

theorem fs_72_30 {n : Nat} {th r : Nat} {s : ps_S} {T : Nat → Nat} {N : Nat} {E : tx_E} {S : List tx_F} {p : Nat} {l : List Nat} {fr : List (List Nat)} {R : Int32 → ps_S → Prop} (HS : cv_S th r s T N E) (HC : cv_C r s T N S p l fr) (h6 : ¬ ((tx_tok T N p).1 = 3 ∧ (tx_tok T N p).2.2.2.2 ≤ 6)) (k : ∀ v : Int32, tx_opt (tx_pc E (tx_tok T N p)) v → R v s) : pl_At n 72 30 [(0, .ref 902)] [] s (ps_rI R) := by
  cases n with
  | zero => exact pl_At_0
  | succ n =>
  have HK := HC.2.2.1
  have hw := (tx_tok_ok (T := T) HC.1).2.2.2.1
  have hm : ¬ (tx_tok T N p).1 = 2 → tx_pc E (tx_tok T N p) = none := fun z => by
    unfold tx_pc
    by_cases h3 : (tx_tok T N p).1 = 3
    · rw [if_pos h3, if_neg (fun y => h6 ⟨h3, y⟩)]
    · rw [if_neg h3, if_neg z]
  have h4 := HK.1
  refine pl_72_30 ?_
  refine ⟨fun h38 => ?_, fun h38 => ?_⟩
  · have h38 : (ps_i s 903 4).toInt ≠ (2 : Int) := xne h38
    refine ⟨fun h62 => ?_, fun h62 => ?_⟩
    · exact absurd h62 (by decide)
    · exact k _ ⟨(fun c hc => by rw [hm (by omega)] at hc; cases hc), fun _ => rfl⟩
  · have h38 : (ps_i s 903 4).toInt = (2 : Int) := xeq h38
    have h2 : (tx_tok T N p).1 = 2 := by omega
    have hpc : tx_pc E (tx_tok T N p) = (match tx_at (tx_R E) (tx_tok T N p).2.2.2.1 with
        | some r => some (10 + r)
        | none => none) := by
      unfold tx_pc
      rw [if_neg (by omega), if_pos h2]
      all_goals rfl
    rw [HS.2.2.1]
    refine fs_127 HS.1 HS.2.2.2.2.2.2 (hw h2) (HK.2.2.2.1 h2) (fun v52 q52 => ?_)
    refine ⟨fun h62 => ?_, fun h62 => ?_⟩
    · have h62 : v52.toInt ≠ (-1 : Int) := xne h62
      refine k _ ⟨fun c hc => ?_, fun hc => ?_⟩
      · rw [hpc] at hc
        split at hc
        · next q hq =>
          cases hc
          have := q52.1 q hq
          have z := tx_ix_some hq
          have hlen : (tx_R E).length ≤ 6 := by unfold tx_R; rw [List.length_map]; exact HS.2.2.2.2.2.2.2.2.1
          have h10 : (10 : Int32).toInt = 10 := by decide
          rw [xIa (by omega) (by omega), this, h10]
          omega
        · cases hc
      · rw [hpc] at hc
        split at hc
        · cases hc
        · next hq => exact (h62 (q52.2 hq)).elim
    · have h62 : v52.toInt = (-1 : Int) := xeq h62
      refine k _ ⟨fun c hc => ?_, fun hc => rfl⟩
      rw [hpc, show tx_at (tx_R E) (tx_tok T N p).2.2.2.1 = none from (tx_opt_m q52).mp h62] at hc
      cases hc
theorem fs_72 {n : Nat} {th r : Nat} {s : ps_S} {T : Nat → Nat} {N : Nat} {E : tx_E} {S : List tx_F} {p : Nat} {l : List Nat} {fr : List (List Nat)} {R : Int32 → ps_S → Prop} (HS : cv_S th r s T N E) (HC : cv_C r s T N S p l fr) (k : ∀ v : Int32, tx_opt (tx_pc E (tx_tok T N p)) v → R v s) : pl_Cl n 72 [.ref 902] s (ps_rI R) := by
  cases n with
  | zero => exact pl_At_0
  | succ n =>
  show pl_At (n + 1) 72 0 [(0, .ref 902)] [] s (ps_rI R)
  have h6 := HC.2.2.1.2.2.2.2.1
  refine pl_72_0 ?_
  refine ⟨fun h7 => ?_, fun h7 => ?_⟩
  · have h7 : (ps_i s 903 6).toInt < (0 : Int) := xlt h7
    refine fs_72_30 HS HC (fun z => ?_) k
    rw [if_pos z.1] at h6
    omega
  · have h7 : (0 : Int) ≤ (ps_i s 903 6).toInt := xle h7
    refine ⟨fun h19 => ?_, fun h19 => ?_⟩
    · have h19 : (6 : Int) < (ps_i s 903 6).toInt := xlt h19
      refine fs_72_30 HS HC (fun z => ?_) k
      rw [if_pos z.1] at h6
      omega
    · have h19 : (ps_i s 903 6).toInt ≤ (6 : Int) := xle h19
      by_cases h3 : (tx_tok T N p).1 = 3
      · rw [if_pos h3] at h6
        have hpc : tx_pc E (tx_tok T N p) = some (tx_tok T N p).2.2.2.2 := by
          unfold tx_pc
          rw [if_pos h3, if_pos (by omega)]
        exact k _ ⟨(fun c hc => by rw [hpc] at hc; cases hc; exact h6), (fun hc => by rw [hpc] at hc; cases hc)⟩
      · rw [if_neg h3] at h6
        omega

theorem fs_73 {n : Nat} {th r : Nat} {s : ps_S} {T : Nat → Nat} {N : Nat} {E : tx_E} {S : List tx_F} {p : Nat} {l : List Nat} {fr : List (List Nat)} {x1 x2 : Int32} {d m : Nat} {R : Int32 → ps_S → Prop} (HS : cv_S th r s T N E) (HC : cv_C r s T N S p l fr) (hx : x1.toInt = d) (hm : x2.toInt = m) (hm2 : m ≤ 2) (k1 : d ≤ 12 ∧ l.length + tx_due S + m ≤ 40 → R 1 s) (k0 : ¬ (d ≤ 12 ∧ l.length + tx_due S + m ≤ 40) → R 0 s) : pl_Cl n 73 [.ref 902, .int x1, .int x2] s (ps_rI R) := by
  cases n with
  | zero => exact pl_At_0
  | succ n =>
  show pl_At (n + 1) 73 0 [(0, .ref 902), (1, .int x1), (2, .int x2)] [] s (ps_rI R)
  obtain ⟨c1, c2, -, ⟨c3, -, c4, -⟩, -, -, c5, -⟩ := HC
  have hd := tx_due_le (S := S)
  have hs1 : ((ps_i s r 1) + (ps_i s 902 7)).toInt = (l.length : Int) + tx_due S := by
    rw [xIa (by omega) (by omega), c3, c5]
  have hs2 : (((ps_i s r 1) + (ps_i s 902 7)) + x2).toInt = (l.length : Int) + tx_due S + m := by
    rw [xIa (by omega) (by omega), hs1, hm]
  refine pl_73_0 ?_
  refine ⟨fun h3 => ?_, fun h3 => ?_⟩
  · have h3 : (12 : Int) < x1.toInt := xlt h3
    exact k0 (by omega)
  · have h3 : x1.toInt ≤ (12 : Int) := xle h3
    refine pl_nk_i (fun nk10 => ?_)
    refine ⟨fun h22 => ?_, fun h22 => ?_⟩
    · have h22 : (40 : Int) < (((ps_i s (ps_r s 902 6) 1) + (ps_i s 902 7)) + x2).toInt := xlt h22
      exact k0 (by rw [HS.2.2.2.1] at h22; omega)
    · have h22 : (((ps_i s (ps_r s 902 6) 1) + (ps_i s 902 7)) + x2).toInt ≤ (40 : Int) := xle h22
      exact k1 (by rw [HS.2.2.2.1] at h22; omega)

theorem fs_77 {n : Nat} {th r : Nat} {s : ps_S} {T : Nat → Nat} {N : Nat} {E : tx_E} {S : List tx_F} {p : Nat} {l : List Nat} {fr : List (List Nat)} {R : Int32 → ps_S → Prop} (HS : cv_S th r s T N E) (HC : cv_C r s T N S p l fr) (k1 : tx_isX E (tx_tok T N p) → R 1 s) (k0 : ¬ tx_isX E (tx_tok T N p) → R 0 s) : pl_Cl n 77 [.ref 902] s (ps_rI R) := by
  cases n with
  | zero => exact pl_At_0
  | succ n =>
  show pl_At (n + 1) 77 0 [(0, .ref 902)] [] s (ps_rI R)
  have HK := HC.2.2.1
  have hw := (tx_tok_ok (T := T) HC.1).2.2.2.1
  have h4 := HK.1
  refine pl_77_0 ?_
  refine ⟨fun h8 => ?_, fun h8 => ?_⟩
  · have h8 : (ps_i s 903 4).toInt ≠ (2 : Int) := xne h8
    exact k0 (fun z => by have := z.1; omega)
  · have h8 : (ps_i s 903 4).toInt = (2 : Int) := xeq h8
    have h2 : (tx_tok T N p).1 = 2 := by omega
    rw [HS.2.2.1]
    refine fs_130 HS.1 HS.2.2.2.2.2.2 (hw h2) (HK.2.2.2.1 h2) (fun q22 => ?_) (fun q22 => ?_)
    · refine ⟨fun h25 => ?_, fun h25 => ?_⟩
      · exact k0 (fun z => q22 z.2)
      · exact absurd h25 (by decide)
    · refine ⟨fun h25 => ?_, fun h25 => ?_⟩
      · exact absurd h25 (by decide)
      · exact k1 ⟨h2, q22⟩

/-- what naming a free one comes to -/
def cv_N (r : Nat) (s : ps_S) (T : Nat → Nat) (N : Nat) (E : tx_E) (S : List tx_F) (p : Nat) (l : List Nat) (o : Option (Nat × List (List Nat))) (v : Int32) (s' : ps_S) : Prop := match o with
  | some (c, fr2) => v.toInt = c ∧ cv_C r s' T N S p l fr2 ∧ cv_fr r s s'
  | none => v.toInt = -1 ∧ s' = s
/-- the number of a free name -/
def tx_fn (fr : List (List Nat)) (w : List Nat) : Option (Nat × List (List Nat)) := match tx_at fr w with
  | some i => some (60 + i, fr)
  | none => if fr.length < 12 then some (60 + fr.length, fr ++ [w]) else none
theorem fs_79_47 {n : Nat} {th r : Nat} {s : ps_S} {T : Nat → Nat} {N : Nat} {E : tx_E} {S : List tx_F} {p : Nat} {l : List Nat} {fr : List (List Nat)} {R : Int32 → ps_S → Prop} (HS : cv_S th r s T N E) (HC : cv_C r s T N S p l fr) (h2 : (tx_tok T N p).1 = 2) (hno : tx_at fr (tx_tok T N p).2.2.2.1 = none) (k : ∀ v s', cv_N r s T N E S p l (tx_fn fr (tx_tok T N p).2.2.2.1) v s' → R v s') : pl_At n 79 47 [(0, .ref 902)] [] s (ps_rI R) := by
  cases n with
  | zero => exact pl_At_0
  | succ n =>
  have HK := HC.2.2.1
  have hw := (tx_tok_ok (T := T) HC.1).2.2.2.1 h2
  obtain ⟨f1, f2, f3⟩ := HC.2.2.2.2.1
  have hr := HS.2.1
  refine pl_79_47 ?_
  refine ⟨fun h51 => ?_, fun h51 => ?_⟩
  · have h51 : (ps_i s 902 2).toInt < (0 : Int) := xlt h51
    exfalso; omega
  · have h51 : (0 : Int) ≤ (ps_i s 902 2).toInt := xle h51
    refine ⟨fun h63 => ?_, fun h63 => ?_⟩
    · have h63 : (ps_i s 902 2).toInt < (12 : Int) := xlt h63
      intro b83
      obtain ⟨b83, c83⟩ := pl_in b83
      have e : tx_fn fr (tx_tok T N p).2.2.2.1 = some (60 + fr.length, fr ++ [(tx_tok T N p).2.2.2.1]) := by
        unfold tx_fn
        rw [hno]
        dsimp only
        rw [if_pos (by omega)]
      refine k _ _ ?_
      rw [e, xtn f1]
      refine ⟨?_, cv_C_free hr HC (by omega) hw (HK.2.2.2.1 h2), cv_fr_i (cv_fr_b cv_fr_refl (Or.inl rfl)) (by decide)⟩
      show ((60 + (ps_i s 902 2 + 1)) - 1 : Int32).toInt = _
      have h60 : (60 : Int32).toInt = 60 := by decide
      have h1 : (1 : Int32).toInt = 1 := by decide
      have e1 : (ps_i s 902 2 + 1 : Int32).toInt = fr.length + 1 := by rw [xIa (by omega) (by omega)]; omega
      have e2 : (60 + (ps_i s 902 2 + 1) : Int32).toInt = fr.length + 61 := by rw [xIa (by omega) (by omega)]; omega
      rw [xIs (by omega) (by omega)]
      omega
    · have h63 : (12 : Int) ≤ (ps_i s 902 2).toInt := xle h63
      have e : tx_fn fr (tx_tok T N p).2.2.2.1 = none := by
        unfold tx_fn
        rw [hno]
        dsimp only
        rw [if_neg (by omega)]
      refine k _ _ ?_
      rw [e]
      exact ⟨rfl, rfl⟩
theorem fs_79_2 {th r : Nat} {s : ps_S} {T : Nat → Nat} {N : Nat} {E : tx_E} {S : List tx_F} {p : Nat} {l : List Nat} {fr : List (List Nat)} {R : Int32 → ps_S → Prop} (HS : cv_S th r s T N E) (HC : cv_C r s T N S p l fr) (h2 : (tx_tok T N p).1 = 2) (k : ∀ v s', cv_N r s T N E S p l (tx_fn fr (tx_tok T N p).2.2.2.1) v s' → R v s') : ∀ (n : Nat) {x1 : Int32} {i : Nat}, x1.toInt = i → i ≤ fr.length → (∀ j, j < i → fr[j]? ≠ some (tx_tok T N p).2.2.2.1) → pl_At n 79 2 [(0, .ref 902), (1, .int x1)] [] s (ps_rI R)
  | 0, _, _, _, _, _ => pl_At_0
  | n + 1, x1, i, hx, hi, hj => by
    have HK := HC.2.2.1
    have hw := (tx_tok_ok (T := T) HC.1).2.2.2.1 h2
    have h8 := HK.2.2.2.1 h2
    obtain ⟨f1, f2, f3⟩ := HC.2.2.2.2.1
    refine pl_79_2 ?_
    refine ⟨fun h7 => ?_, fun h7 => ?_⟩
    · have h7 : (ps_i s 902 2).toInt ≤ x1.toInt := xle h7
      exact fs_79_47 HS HC h2 (tx_at_no (fun j hjl => hj j (by omega))) k
    · have h7 : x1.toInt < (ps_i s 902 2).toInt := xlt h7
      refine ⟨fun h16 => ?_, fun h16 => ?_⟩
      · have h16 : (12 : Int) ≤ x1.toInt := xle h16
        exfalso; omega
      · have h16 : x1.toInt < (12 : Int) := xlt h16
        intro b24
        obtain ⟨b24, c24⟩ := pl_in b24
        obtain ⟨w0, hg1⟩ : ∃ w0, fr[i]? = some w0 := ⟨fr[i]'(by omega), List.getElem?_eq_getElem _⟩
        obtain ⟨hg2, hg3⟩ := f3 i w0 hg1
        refine ⟨fun h33 => ?_, fun h33 => ?_⟩
        · have h33 := lg_nz h33
          refine fs_79_2 HS HC h2 k n (xj1 hx (by omega)) (by omega) (fun j hjl => ?_)
          by_cases ej : j = i
          · rw [ej, hg1]
            intro z
            cases z
            exact h33 (by rw [xtn hx, hg3, h8])
          · exact hj j (by omega)
        · have h33 := lg_z h33
          rw [xtn hx, hg3] at h33
          have e : tx_fn fr (tx_tok T N p).2.2.2.1 = some (60 + i, fr) := by
            unfold tx_fn
            rw [tx_at_is (by rw [hg1, tx_x_inj hg2 hw (h33.trans h8)]) hj]
          refine k _ _ ?_
          rw [e]
          refine ⟨?_, HC, cv_fr_refl⟩
          have h60 : (60 : Int32).toInt = 60 := by decide
          rw [xIa (by omega) (by omega)]
          omega
theorem fs_79 {n : Nat} {th r : Nat} {s : ps_S} {T : Nat → Nat} {N : Nat} {E : tx_E} {S : List tx_F} {p : Nat} {l : List Nat} {fr : List (List Nat)} {R : Int32 → ps_S → Prop} (HS : cv_S th r s T N E) (HC : cv_C r s T N S p l fr) (h2 : (tx_tok T N p).1 = 2) (k : ∀ v s', cv_N r s T N E S p l (tx_fn fr (tx_tok T N p).2.2.2.1) v s' → R v s') : pl_Cl n 79 [.ref 902] s (ps_rI R) := by
  cases n with
  | zero => exact pl_At_0
  | succ n =>
  show pl_At (n + 1) 79 0 [(0, .ref 902)] [] s (ps_rI R)
  refine pl_79_0 ?_
  exact fs_79_2 HS HC h2 k n (i := 0) rfl (Nat.zero_le _) (fun j hj => by omega)

theorem fs_78_2 {th r : Nat} {s : ps_S} {T : Nat → Nat} {N : Nat} {E : tx_E} {S : List tx_F} {p : Nat} {l : List Nat} {fr : List (List Nat)} {R : Int32 → ps_S → Prop} (HS : cv_S th r s T N E) (HC : cv_C r s T N S p l fr) (h2 : (tx_tok T N p).1 = 2) (k : ∀ v s', cv_N r s T N E S p l (tx_nm E S fr (tx_tok T N p).2.2.2.1) v s' → R v s') : ∀ (n : Nat) {x1 : Int32} {i : Nat}, x1.toInt = i → i ≤ (tx_bs S).length → (∀ j, j < i → (tx_bs S)[j]? ≠ some (tx_tok T N p).2.2.2.1) → pl_At n 78 2 [(0, .ref 902), (1, .int x1)] [] s (ps_rI R)
  | 0, _, _, _, _, _ => pl_At_0
  | n + 1, x1, i, hx, hi, hj => by
    have HK := HC.2.2.1
    have hw := (tx_tok_ok (T := T) HC.1).2.2.2.1 h2
    have h8 := HK.2.2.2.1 h2
    obtain ⟨f1, f2, f3⟩ := HC.2.2.2.2.2.1
    have hcl := HS.2.2.2.2.1
    have no : i = (tx_bs S).length → tx_at (tx_bs S) (tx_tok T N p).2.2.2.1 = none := fun z => tx_at_no (fun j hjl => hj j (by omega))
    have h1 : (1 : Int32).toInt = 1 := by decide
    have e1 : (ps_i s 902 4 - 1).toInt = ((tx_bs S).length : Int) - 1 := by rw [xIs (by omega) (by omega)]; omega
    have e2 : ((ps_i s 902 4 - 1) - x1).toInt = ((tx_bs S).length : Int) - 1 - i := by rw [xIs (by omega) (by omega)]; omega
    refine pl_78_2 ?_
    refine ⟨fun h7 => ?_, fun h7 => ?_⟩
    · have h7 : (ps_i s 902 4).toInt ≤ x1.toInt := xle h7
      refine ⟨fun h64 => ?_, fun h64 => ?_⟩
      · have h64 : (ps_i s 902 8).toInt = (0 : Int) := xeq h64
        refine fs_79 HS HC h2 (fun v72 s72 q72 => ?_)
        have e : tx_nm E S fr (tx_tok T N p).2.2.2.1 = tx_fn fr (tx_tok T N p).2.2.2.1 := by
          unfold tx_nm
          rw [no (by omega)]
          dsimp only
          rw [if_neg (fun z => by rw [if_pos z] at hcl; omega)]
          rfl
        refine k _ _ ?_
        rw [e]
        exact q72
      · have h64 : (ps_i s 902 8).toInt ≠ (0 : Int) := xne h64
        have e : tx_nm E S fr (tx_tok T N p).2.2.2.1 = none := by
          unfold tx_nm
          rw [no (by omega)]
          dsimp only
          rw [if_pos (Decidable.byContradiction (fun z => by rw [if_neg z] at hcl; omega))]
        refine k _ _ ?_
        rw [e]
        exact ⟨rfl, rfl⟩
    · have h7 : x1.toInt < (ps_i s 902 4).toInt := xlt h7
      refine ⟨fun h20 => ?_, fun h20 => ?_⟩
      · have h20 : (((ps_i s 902 4) - 1) - x1).toInt < (0 : Int) := xlt h20
        exfalso; omega
      · have h20 : (0 : Int) ≤ (((ps_i s 902 4) - 1) - x1).toInt := xle h20
        refine ⟨fun h29 => ?_, fun h29 => ?_⟩
        · have h29 : (5 : Int) ≤ (((ps_i s 902 4) - 1) - x1).toInt := xle h29
          exfalso; omega
        · have h29 : (((ps_i s 902 4) - 1) - x1).toInt < (5 : Int) := xlt h29
          intro b37
          obtain ⟨b37, c37⟩ := pl_in b37
          obtain ⟨w0, hg1⟩ : ∃ w0, (tx_bs S)[i]? = some w0 := ⟨(tx_bs S)[i]'(by omega), List.getElem?_eq_getElem _⟩
          obtain ⟨hg2, hg3⟩ := f3 i w0 hg1
          have hix : Int32.toNatClampNeg ((ps_i s 902 4 - 1) - x1) = (tx_bs S).length - 1 - i := xtn (by rw [e2]; omega)
          refine ⟨fun h46 => ?_, fun h46 => ?_⟩
          · have h46 := lg_nz h46
            refine fs_78_2 HS HC h2 k n (xj1 hx (by omega)) (by omega) (fun j hjl => ?_)
            by_cases ej : j = i
            · rw [ej, hg1]
              intro z
              cases z
              exact h46 (by rw [hix, hg3, h8])
            · exact hj j (by omega)
          · have h46 := lg_z h46
            rw [hix, hg3] at h46
            have e : tx_nm E S fr (tx_tok T N p).2.2.2.1 = some (40 + i, fr) := by
              unfold tx_nm
              rw [tx_at_is (by rw [hg1, tx_x_inj hg2 hw (h46.trans h8)]) hj]
            refine k _ _ ?_
            rw [e]
            refine ⟨?_, HC, cv_fr_refl⟩
            have h40 : (40 : Int32).toInt = 40 := by decide
            rw [xIa (by omega) (by omega)]
            omega
theorem fs_78 {n : Nat} {th r : Nat} {s : ps_S} {T : Nat → Nat} {N : Nat} {E : tx_E} {S : List tx_F} {p : Nat} {l : List Nat} {fr : List (List Nat)} {R : Int32 → ps_S → Prop} (HS : cv_S th r s T N E) (HC : cv_C r s T N S p l fr) (h2 : (tx_tok T N p).1 = 2) (k : ∀ v s', cv_N r s T N E S p l (tx_nm E S fr (tx_tok T N p).2.2.2.1) v s' → R v s') : pl_Cl n 78 [.ref 902] s (ps_rI R) := by
  cases n with
  | zero => exact pl_At_0
  | succ n =>
  show pl_At (n + 1) 78 0 [(0, .ref 902)] [] s (ps_rI R)
  refine pl_78_0 ?_
  exact fs_78_2 HS HC h2 k n (i := 0) rfl (Nat.zero_le _) (fun j hj => by omega)
end
section
set_option maxRecDepth 100000
/-! the class's reader: formulas, terms, parts, nots, what is bound: each by runs that are shorter -/
-- ProofBench$Reader.takeFormula(I)Z
theorem pl_70_0 {n : Nat} {x1 : Int32} {s : ps_S} {Q : Option Value → ps_S → Prop} (h :
  ((ps_i s 903 6) ≠ 7 →
    pl_Cl n 72 [.ref 902] s (ps_rI (fun v1 s1 =>
      pl_Cl n 184 [.int v1] s1 (ps_rI (fun v2 s2 =>
        (v2 = 0 →
          pl_At n 70 42 [(0, .ref 902), (1, .int x1), (2, .int v1)] [] s2 Q) ∧
        (v2 ≠ 0 →
          ((ps_i s2 902 4) < 5 →
            pl_At n 70 42 [(0, .ref 902), (1, .int x1), (2, .int v1)] [] s2 Q) ∧
          (5 ≤ (ps_i s2 902 4) →
            (v1 = (-1) →
              pl_At n 70 62 [(0, .ref 902)] [] s2 Q) ∧
            (v1 ≠ (-1) →
              ((1 : Int32) ≠ 0 →
                pl_At n 70 62 [(0, .ref 902)] [] s2 Q) ∧
              ((1 : Int32) = 0 →
                pl_Cl n 73 [.ref 902, .int x1, .int 1] s2 (ps_rI (fun v3 s3 =>
                  (v3 ≠ 0 →
                    pl_Cl n 93 [.ref (ps_r s3 902 6), .int v1] s3 (ps_rV (fun s4 =>
                      pl_Cl n 140 [.ref 903] s4 (ps_rV (fun s5 =>
                        pl_Cl n 184 [.int v1] s5 (ps_rI (fun v6 s6 =>
                          (v6 = 0 →
                            pl_Cl n 71 [.ref 902, .int v1, .int (x1 + 1)] s6 (ps_rI (fun v7 s7 =>
                              pl_nk (decide (v7 &&& 1 = v7)) (Q (some (.int v7)) s7)))) ∧
                          (v6 ≠ 0 →
                            pl_Cl n 75 [.ref 902, .int x1] s6 (ps_rI (fun v8 s8 =>
                              pl_nk (decide (v8 &&& 1 = v8)) (Q (some (.int v8)) s8))))))))))) ∧
                  (v3 = 0 →
                    pl_At n 70 62 [(0, .ref 902)] [] s3 Q)))))))))))) ∧
  ((ps_i s 903 6) = 7 →
    pl_Cl n 74 [.ref 902, .int x1] s (ps_rI (fun v9 s9 =>
      pl_nk (decide (v9 &&& 1 = v9)) (Q (some (.int v9)) s9))))) : pl_At (n + 1) 70 0 [(0, .ref 902), (1, .int x1)] [] s Q :=
  pl_wp_at (stops := [(42, [0, 1, 2]), (62, [0])]) (f := 55) h rfl

theorem pl_70_42 {n : Nat} {x1 : Int32} {x2 : Int32} {s : ps_S} {Q : Option Value → ps_S → Prop} (h :
  (x2 = (-1) →
    pl_At n 70 62 [(0, .ref 902)] [] s Q) ∧
  (x2 ≠ (-1) →
    ((0 : Int32) ≠ 0 →
      pl_At n 70 62 [(0, .ref 902)] [] s Q) ∧
    ((0 : Int32) = 0 →
      pl_Cl n 73 [.ref 902, .int x1, .int 1] s (ps_rI (fun v1 s1 =>
        (v1 ≠ 0 →
          pl_Cl n 93 [.ref (ps_r s1 902 6), .int x2] s1 (ps_rV (fun s2 =>
            pl_Cl n 140 [.ref 903] s2 (ps_rV (fun s3 =>
              pl_Cl n 184 [.int x2] s3 (ps_rI (fun v4 s4 =>
                (v4 = 0 →
                  pl_Cl n 71 [.ref 902, .int x2, .int (x1 + 1)] s4 (ps_rI (fun v5 s5 =>
                    pl_nk (decide (v5 &&& 1 = v5)) (Q (some (.int v5)) s5)))) ∧
                (v4 ≠ 0 →
                  pl_Cl n 75 [.ref 902, .int x1] s4 (ps_rI (fun v6 s6 =>
                    pl_nk (decide (v6 &&& 1 = v6)) (Q (some (.int v6)) s6))))))))))) ∧
        (v1 = 0 →
          pl_At n 70 62 [(0, .ref 902)] [] s1 Q)))))) : pl_At (n + 1) 70 42 [(0, .ref 902), (1, .int x1), (2, .int x2)] [] s Q :=
  pl_wp_at (stops := [(42, [0, 1, 2]), (62, [0])]) (f := 35) h rfl

theorem pl_70_62 {n : Nat} {s : ps_S} {Q : Option Value → ps_S → Prop} (h :
  pl_Cl n 62 [.ref 902, .int 2] s (ps_rI (fun v1 s1 =>
    pl_nk (decide (v1 &&& 1 = v1)) (Q (some (.int v1)) s1)))) : pl_At (n + 1) 70 62 [(0, .ref 902)] [] s Q :=
  pl_wp_at (stops := [(42, [0, 1, 2]), (62, [0])]) (f := 6) h rfl

-- ProofBench$Reader.takeParts(II)Z
theorem pl_71_0 {n : Nat} {x1 : Int32} {x2 : Int32} {s : ps_S} {Q : Option Value → ps_S → Prop} (h :
  pl_Cl n 136 [.ref (ps_r s 902 5), .int x1] s (ps_rI (fun v1 s1 =>
    pl_At n 71 9 [(0, .ref 902), (1, .int x1), (2, .int x2), (3, .int v1)] [] s1 Q))) : pl_At (n + 1) 71 0 [(0, .ref 902), (1, .int x1), (2, .int x2)] [] s Q :=
  pl_wp_at (stops := [(9, [0, 1, 2, 3])]) (f := 7) h rfl

theorem pl_71_9 {n : Nat} {x1 : Int32} {x2 : Int32} {x3 : Int32} {s : ps_S} {Q : Option Value → ps_S → Prop} (h :
  (x3 ≤ 0 →
    Q (some (.int 1)) s) ∧
  (0 < x3 →
    (x1 < 6 →
      pl_Cl n 70 [.ref 902, .int x2] s (ps_rI (fun v1 s1 =>
        (v1 ≠ 0 →
          pl_At n 71 9 [(0, .ref 902), (1, .int x1), (2, .int x2), (3, .int (x3 + (-1)))] [] s1 Q) ∧
        (v1 = 0 →
          Q (some (.int 0)) s1)))) ∧
    (6 ≤ x1 →
      pl_Cl n 76 [.ref 902, .int x2] s (ps_rI (fun v2 s2 =>
        (v2 = 0 →
          Q (some (.int 0)) s2) ∧
        (v2 ≠ 0 →
          pl_At n 71 9 [(0, .ref 902), (1, .int x1), (2, .int x2), (3, .int (x3 + (-1)))] [] s2 Q)))))) : pl_At (n + 1) 71 9 [(0, .ref 902), (1, .int x1), (2, .int x2), (3, .int x3)] [] s Q :=
  pl_wp_at (stops := [(9, [0, 1, 2, 3])]) (f := 26) h rfl

-- ProofBench$Reader.takeNot(I)Z
theorem pl_74_0 {n : Nat} {x1 : Int32} {s : ps_S} {Q : Option Value → ps_S → Prop} (h :
  pl_Cl n 73 [.ref 902, .int (x1 + 1), .int 2] s (ps_rI (fun v1 s1 =>
    (v1 ≠ 0 →
      pl_Cl n 93 [.ref (ps_r s1 902 6), .int 3] s1 (ps_rV (fun s2 =>
        pl_Cl n 140 [.ref 903] s2 (ps_rV (fun s3 =>
          pl_Cl n 70 [.ref 902, .int (x1 + 1)] (ps_ui s3 902 7 ((ps_i s3 902 7) + 1)) (ps_rI (fun v4 s4 =>
            (v4 ≠ 0 →
              pl_Cl n 93 [.ref (ps_r (ps_ui s4 902 7 ((ps_i s4 902 7) - 1)) 902 6), .int 0] (ps_ui s4 902 7 ((ps_i s4 902 7) - 1)) (ps_rV (fun s5 =>
                Q (some (.int 1)) s5))) ∧
            (v4 = 0 →
              Q (some (.int 0)) s4)))))))) ∧
    (v1 = 0 →
      pl_Cl n 62 [.ref 902, .int 2] s1 (ps_rI (fun v6 s6 =>
        pl_nk (decide (v6 &&& 1 = v6)) (Q (some (.int v6)) s6))))))) : pl_At (n + 1) 74 0 [(0, .ref 902), (1, .int x1)] [] s Q :=
  pl_wp_at (stops := []) (f := 46) h rfl

-- ProofBench$Reader.takeBound(I)Z
theorem pl_75_0 {n : Nat} {x1 : Int32} {s : ps_S} {Q : Option Value → ps_S → Prop} (h :
  pl_Cl n 77 [.ref 902] s (ps_rI (fun v1 s1 =>
    (v1 ≠ 0 →
      ((ps_i s1 902 4) < 0 →
        pl_At n 75 58 [(0, .ref 902), (1, .int x1)] [] s1 Q) ∧
      (0 ≤ (ps_i s1 902 4) →
        ((nI 5) ≤ (ps_i s1 902 4) →
          pl_At n 75 58 [(0, .ref 902), (1, .int x1)] [] s1 Q) ∧
        ((ps_i s1 902 4) < (nI 5) →
          (pm_in (ps_i s1 902 4) 5 = true →
            pl_At n 75 58 [(0, .ref 902), (1, .int x1)] [] (ps_ui (ps_ub s1 907 (Int32.toNatClampNeg (ps_i s1 902 4)) (ps_j s1 903 8)) 902 4 ((ps_i (ps_ub s1 907 (Int32.toNatClampNeg (ps_i s1 902 4)) (ps_j s1 903 8)) 902 4) + 1)) Q)))) ∧
    (v1 = 0 →
      pl_Cl n 62 [.ref 902, .int 2] s1 (ps_rI (fun v2 s2 =>
        pl_nk (decide (v2 &&& 1 = v2)) (Q (some (.int v2)) s2))))))) : pl_At (n + 1) 75 0 [(0, .ref 902), (1, .int x1)] [] s Q :=
  pl_wp_at (stops := [(58, [0, 1])]) (f := 32) h rfl

theorem pl_75_58 {n : Nat} {x1 : Int32} {s : ps_S} {Q : Option Value → ps_S → Prop} (h :
  pl_Cl n 140 [.ref 903] s (ps_rV (fun s1 =>
    pl_Cl n 70 [.ref 902, .int (x1 + 1)] s1 (ps_rI (fun v2 s2 =>
      pl_nk (decide (v2 &&& 1 = v2)) (Q (some (.int v2)) (ps_ui s2 902 4 ((ps_i s2 902 4) - 1)))))))) : pl_At (n + 1) 75 58 [(0, .ref 902), (1, .int x1)] [] s Q :=
  pl_wp_at (stops := [(58, [0, 1])]) (f := 19) h rfl

-- ProofBench$Reader.takeTerm(I)Z
theorem pl_76_0 {n : Nat} {x1 : Int32} {s : ps_S} {Q : Option Value → ps_S → Prop} (h :
  ((ps_i s 903 4) ≠ 2 →
    pl_At n 76 20 [(0, .ref 902)] [] s Q) ∧
  ((ps_i s 903 4) = 2 →
    pl_Cl n 73 [.ref 902, .int x1, .int 1] s (ps_rI (fun v1 s1 =>
      (v1 ≠ 0 →
        pl_Cl n 128 [.ref (ps_r s1 902 5), .long (ps_j s1 903 8)] s1 (ps_rI (fun v2 s2 =>
          (v2 ≠ (-1) →
            pl_At n 76 59 [(0, .ref 902), (1, .int x1), (2, .int v2)] [] s2 Q) ∧
          (v2 = (-1) →
            pl_Cl n 77 [.ref 902] s2 (ps_rI (fun v3 s3 =>
              (v3 ≠ 0 →
                pl_At n 76 59 [(0, .ref 902), (1, .int x1), (2, .int v2)] [] s3 Q) ∧
              (v3 = 0 →
                pl_Cl n 62 [.ref 902, .int 2] s3 (ps_rI (fun v4 s4 =>
                  pl_nk (decide (v4 &&& 1 = v4)) (Q (some (.int v4)) s4)))))))))) ∧
      (v1 = 0 →
        pl_At n 76 20 [(0, .ref 902)] [] s1 Q))))) : pl_At (n + 1) 76 0 [(0, .ref 902), (1, .int x1)] [] s Q :=
  pl_wp_at (stops := [(20, [0]), (59, [0, 1, 2])]) (f := 29) h rfl

theorem pl_76_20 {n : Nat} {s : ps_S} {Q : Option Value → ps_S → Prop} (h :
  pl_Cl n 62 [.ref 902, .int 2] s (ps_rI (fun v1 s1 =>
    pl_nk (decide (v1 &&& 1 = v1)) (Q (some (.int v1)) s1)))) : pl_At (n + 1) 76 20 [(0, .ref 902)] [] s Q :=
  pl_wp_at (stops := [(20, [0]), (59, [0, 1, 2])]) (f := 6) h rfl

theorem pl_76_59 {n : Nat} {x1 : Int32} {x2 : Int32} {s : ps_S} {Q : Option Value → ps_S → Prop} (h :
  (x2 ≠ (-1) →
    (((20 : Int32) + x2) ≠ (-1) →
      pl_Cl n 93 [.ref (ps_r s 902 6), .int ((20 : Int32) + x2)] s (ps_rV (fun s1 =>
        pl_Cl n 140 [.ref 903] s1 (ps_rV (fun s2 =>
          pl_Cl n 71 [.ref 902, .int ((20 : Int32) + x2), .int (x1 + 1)] s2 (ps_rI (fun v3 s3 =>
            pl_nk (decide (v3 &&& 1 = v3)) (Q (some (.int v3)) s3)))))))) ∧
    (((20 : Int32) + x2) = (-1) →
      ((ps_i s 902 8) = 0 →
        pl_Cl n 62 [.ref 902, .int 2] s (ps_rI (fun v4 s4 =>
          pl_nk (decide (v4 &&& 1 = v4)) (Q (some (.int v4)) s4)))) ∧
      ((ps_i s 902 8) ≠ 0 →
        pl_Cl n 62 [.ref 902, .int 5] s (ps_rI (fun v5 s5 =>
          pl_nk (decide (v5 &&& 1 = v5)) (Q (some (.int v5)) s5)))))) ∧
  (x2 = (-1) →
    pl_Cl n 78 [.ref 902] s (ps_rI (fun v6 s6 =>
      (v6 ≠ (-1) →
        pl_Cl n 93 [.ref (ps_r s6 902 6), .int v6] s6 (ps_rV (fun s7 =>
          pl_Cl n 140 [.ref 903] s7 (ps_rV (fun s8 =>
            pl_Cl n 71 [.ref 902, .int v6, .int (x1 + 1)] s8 (ps_rI (fun v9 s9 =>
              pl_nk (decide (v9 &&& 1 = v9)) (Q (some (.int v9)) s9)))))))) ∧
      (v6 = (-1) →
        ((ps_i s6 902 8) = 0 →
          pl_Cl n 62 [.ref 902, .int 2] s6 (ps_rI (fun v10 s10 =>
            pl_nk (decide (v10 &&& 1 = v10)) (Q (some (.int v10)) s10)))) ∧
        ((ps_i s6 902 8) ≠ 0 →
          pl_Cl n 62 [.ref 902, .int 5] s6 (ps_rI (fun v11 s11 =>
            pl_nk (decide (v11 &&& 1 = v11)) (Q (some (.int v11)) s11))))))))) : pl_At (n + 1) 76 59 [(0, .ref 902), (1, .int x1), (2, .int x2)] [] s Q :=
  pl_wp_at (stops := [(20, [0]), (59, [0, 1, 2])]) (f := 69) h rfl

/-- formulas (ph 1, method 70) and terms (ph 0, method 76) -/
def cv_sF (T : Nat → Nat) (N : Nat) (E : tx_E) (ph y n : Nat) : Prop := ∀ (th r : Nat) (s : ps_S) (S : List tx_F) (p : Nat) (l : List Nat) (fr : List (List Nat)) (R : Int32 → ps_S → Prop) (x1 : Int32), cv_S th r s T N E → cv_C r s T N S p l fr → x1.toInt = S.length → (∀ s', cv_ok r s s' T N E S (ph, S, p, l, fr, 0) → R 1 s') → (∀ s', cv_bad r s s' T N E (ph, S, p, l, fr, 0) → R 0 s') → pl_Cl n y [.ref 902, .int x1] s (ps_rI R)
/-- parts of the piece c: m of them -/
def cv_sP (T : Nat → Nat) (N : Nat) (E : tx_E) (n : Nat) : Prop := ∀ (th r : Nat) (s : ps_S) (S : List tx_F) (p : Nat) (l : List Nat) (fr : List (List Nat)) (R : Int32 → ps_S → Prop) (x1 x2 : Int32) (c m : Nat), cv_S th r s T N E → cv_C r s T N S p l fr → S.length ≤ 12 → x1.toInt = c → x2.toInt = (S.length + 1 : Nat) → (if c < 40 then (ps_a s (th + 4) c).toInt else 0) = m → (∀ s', cv_ok r s s' T N E S (2, (m, decide (c < 6), false, none) :: S, p, l, fr, 0) → R 1 s') → (∀ s', cv_bad r s s' T N E (2, (m, decide (c < 6), false, none) :: S, p, l, fr, 0) → R 0 s') → pl_Cl n 71 [.ref 902, .int x1, .int x2] s (ps_rI R)
def cv_sN (T : Nat → Nat) (N : Nat) (E : tx_E) (n : Nat) : Prop := ∀ (th r : Nat) (s : ps_S) (S : List tx_F) (p : Nat) (l : List Nat) (fr : List (List Nat)) (R : Int32 → ps_S → Prop) (x1 : Int32), cv_S th r s T N E → cv_C r s T N S p l fr → x1.toInt = S.length → ((tx_tok T N p).1 = 3 ∧ (tx_tok T N p).2.2.2.2 = 7) → (∀ s', cv_ok r s s' T N E S (1, S, p, l, fr, 0) → R 1 s') → (∀ s', cv_bad r s s' T N E (1, S, p, l, fr, 0) → R 0 s') → pl_Cl n 74 [.ref 902, .int x1] s (ps_rI R)
def cv_sB (T : Nat → Nat) (N : Nat) (E : tx_E) (n : Nat) : Prop := ∀ (th r : Nat) (s : ps_S) (S : List tx_F) (p : Nat) (l : List Nat) (fr : List (List Nat)) (R : Int32 → ps_S → Prop) (x1 : Int32) (c0 : tx_C), cv_S th r s T N E → cv_C r s T N S p l fr → S.length ≤ 12 → (tx_bs S).length ≤ 4 → x1.toInt = S.length → (tx_isX E (tx_tok T N p) → gt_go (tx_st T N E) c0 (2, (1, true, false, some (tx_tok T N p).2.2.2.1) :: S, (tx_tok T N p).2.2.1, l, fr, 0)) → (¬ tx_isX E (tx_tok T N p) → gt_go (tx_st T N E) c0 (4, S, (tx_tok T N p).2.1, l, fr, tx_bk (tx_tok T N p))) → (∀ s', cv_ok r s s' T N E S c0 → R 1 s') → (∀ s', cv_bad r s s' T N E c0 → R 0 s') → pl_Cl n 75 [.ref 902, .int x1] s (ps_rI R)
def cv_all (T : Nat → Nat) (N : Nat) (E : tx_E) (n : Nat) : Prop := cv_sF T N E 1 70 n ∧ cv_sF T N E 0 76 n ∧ cv_sP T N E n ∧ cv_sN T N E n ∧ cv_sB T N E n
theorem cv_ok_up {r : Nat} {s s' : ps_S} {T : Nat → Nat} {N : Nat} {E : tx_E} {S : List tx_F} {c0 : tx_C} {k : Nat} {b : Bool} (h : cv_ok r s s' T N E ((k, b, false, none) :: S) c0) : ∃ p' l' fr', gt_go (tx_st T N E) c0 (2, (k, b, false, none) :: S, p', l', fr', 0) ∧ cv_C r s' T N S p' l' fr' ∧ cv_fr r s s' := by
  obtain ⟨p', l', fr', h1, h2, h3⟩ := h
  exact ⟨p', l', fr', h1, cv_C_down h2, h3⟩
/-- what stands behind a formula's piece -/
theorem cv_ar {s : ps_S} {th : Nat} {E : tx_E} (h : cv_E s th E.1) {tk : tx_K} {c : Nat} (hc : tx_pc E tk = some c) : c < 20 ∧ (if c < 40 then (ps_a s (th + 4) c).toInt else 0) = (tx_ar E c : Nat) := by
  obtain ⟨e1, e2, e3, e4, e5, e6, ⟨a0, a1, a2, a3, a4, a5, a6⟩, e8⟩ := h
  unfold tx_pc at hc
  split at hc
  · split at hc
    · next hk =>
      cases hc
      generalize tk.2.2.2.2 = c at hk ⊢
      refine ⟨by omega, ?_⟩
      rw [if_pos (by omega)]
      rcases (show c = 0 ∨ c = 1 ∨ c = 2 ∨ c = 3 ∨ c = 4 ∨ c = 5 ∨ c = 6 from by omega) with rfl | rfl | rfl | rfl | rfl | rfl | rfl
      · exact a0
      · exact a1
      · exact a2
      · exact a3
      · exact a4
      · exact a5
      · exact a6
    · cases hc
  · split at hc
    · split at hc
      · next q hq =>
        cases hc
        obtain ⟨-, z2, z3, -⟩ := tx_ix_some hq
        rw [Nat.sub_zero] at z3
        unfold tx_R at z2 z3
        rw [List.length_map] at z2
        rw [List.getElem?_map] at z3
        obtain ⟨a, h1, h2⟩ := Option.map_eq_some_iff.mp z3
        obtain ⟨-, -, -, w4⟩ := e5 q a.1 a.2 h1
        refine ⟨by omega, ?_⟩
        rw [if_pos (by omega), w4]
        unfold tx_ar tx_ra
        rw [if_neg (by omega), if_neg (by omega), if_neg (by omega), if_neg (by omega), show 10 + q - 10 = q from by omega, List.getD_eq_getElem?_getD, h1]
        rfl
      · cases hc
    · cases hc

theorem cv_70_62 {T : Nat → Nat} {N : Nat} {E : tx_E} {n : Nat} {th r : Nat} {s : ps_S} {S : List tx_F} {p : Nat} {l : List Nat} {fr : List (List Nat)} {R : Int32 → ps_S → Prop} (HC : cv_C r s T N S p l fr) (hs : tx_st T N E (1, S, p, l, fr, 0) = (4, S, (tx_tok T N p).2.1, l, fr, tx_bk (tx_tok T N p))) (k0 : ∀ s', cv_bad r s s' T N E (1, S, p, l, fr, 0) → R 0 s') : pl_At n 70 62 [(0, .ref 902)] [] s (ps_rI R) := by
  cases n with
  | zero => exact pl_At_0
  | succ n =>
  refine pl_70_62 ?_
  refine fs_62 (K := 2) (r := r) (E := E) HC.2.2.1 cv_fr_refl rfl (gt_one hs) (fun s' hb => ?_)
  refine pl_nk_i (fun z67 => ?_)
  exact k0 s' hb

theorem cv_arF {s s' : ps_S} {th r c : Nat} (hth : th = 2 ∨ th = 26) (hr : ps_is r 5 = true) (F : cv_fr r s s') : (if c < 40 then (ps_a s' (th + 4) c).toInt else 0) = (if c < 40 then (ps_a s (th + 4) c).toInt else 0) := by
  have t := cv_th5 hth
  rw [F.2.2.2.2.1 (th + 4) (fun z => cv_ne hr t.2.1 (by omega))]

theorem cv_70_42 {T : Nat → Nat} {N : Nat} {E : tx_E} {n : Nat} (IH : ∀ m, m < n → cv_all T N E m) {th r : Nat} {s : ps_S} {S : List tx_F} {p : Nat} {l : List Nat} {fr : List (List Nat)} {R : Int32 → ps_S → Prop} {x1 x2 : Int32} (HS : cv_S th r s T N E) (HC : cv_C r s T N S p l fr) (hx : x1.toInt = S.length) (hn : ¬ ((tx_tok T N p).1 = 3 ∧ (tx_tok T N p).2.2.2.2 = 7)) (hv : tx_opt (tx_pc E (tx_tok T N p)) x2) (hq : ∀ c, tx_pc E (tx_tok T N p) = some c → (c = 4 ∨ c = 5) → (tx_bs S).length ≤ 4) (k1 : ∀ s', cv_ok r s s' T N E S (1, S, p, l, fr, 0) → R 1 s') (k0 : ∀ s', cv_bad r s s' T N E (1, S, p, l, fr, 0) → R 0 s') : pl_At n 70 42 [(0, .ref 902), (1, .int x1), (2, .int x2)] [] s (ps_rI R) := by
  cases n with
  | zero => exact pl_At_0
  | succ n =>
  obtain ⟨-, -, -, hN, hB⟩ := IH n (Nat.lt_succ_self n)
  obtain ⟨-, -, hP, -, -⟩ := IH n (Nat.lt_succ_self n)
  refine pl_70_42 ?_
  refine ⟨fun h46 => ?_, fun h46 => ?_⟩
  · have h46 : x2.toInt = (-1 : Int) := xeq h46
    exact cv_70_62 (th := th) HC (tx_s_none rfl hn ((tx_opt_m hv).mp h46)) k0
  · have h46 : x2.toInt ≠ (-1 : Int) := xne h46
    refine ⟨fun h50 => ?_, fun h50 => ?_⟩
    · exact absurd h50 (by decide)
    · obtain ⟨c, hc⟩ : ∃ c, tx_pc E (tx_tok T N p) = some c := by
        cases e : tx_pc E (tx_tok T N p) with
        | none => exact (h46 (hv.2 e)).elim
        | some c => exact ⟨c, rfl⟩
      have hx2 := hv.1 c hc
      obtain ⟨hc20, har⟩ := cv_ar HS.2.2.2.2.2.2 hc
      refine fs_73 (d := S.length) (m := 1) HS HC hx rfl (by decide) (fun q56 => ?_) (fun q56 => ?_)
      · refine ⟨fun h59 => ?_, fun h59 => ?_⟩
        · obtain ⟨q56, q57⟩ := q56
          refine fs_add HS HC hx2 (by omega) (fun s73 q73 => ?_)
          obtain ⟨HS1, HC1, F1⟩ := q73
          refine fs_adv HS1 HC1 (fun s80 q80 => ?_)
          obtain ⟨HS2, HC2, F2⟩ := q80
          have F12 := cv_fr_tr F1 F2
          refine fs_184 (fun q84 => ?_) (fun q84 => ?_)
          · have hc45 : c = 4 ∨ c = 5 := by omega
            refine ⟨fun h87 => ?_, fun h87 => ?_⟩
            · exact absurd h87 (by decide)
            · refine hB th r s80 S _ _ fr _ _ (1, S, p, l, fr, 0) HS2 HC2 q56 (hq c hc hc45) hx (fun hX => gt_one (tx_s_q rfl hn hc q56 q57 hc45 (hq c hc hc45) rfl hX)) (fun hX => gt_one (tx_s_qb rfl hn hc q56 q57 hc45 (hq c hc hc45) rfl hX)) (fun s92 q92 => ?_) (fun s92 q92 => ?_)
              · refine pl_nk_i (fun z95 => ?_)
                exact k1 _ (cv_ok_tr gt_refl F12 q92)
              · refine pl_nk_i (fun z95 => ?_)
                exact k0 _ (cv_bad_tr gt_refl F12 q92)
          · have hc45 : ¬ (c = 4 ∨ c = 5) := by omega
            have hst := tx_s_piece (T := T) (n := N) (E := E) (fr := fr) rfl hn hc q56 q57 hc45
            refine ⟨fun h87 => ?_, fun h87 => ?_⟩
            · refine hP th r s80 S _ _ fr _ _ _ c (tx_ar E c) HS2 HC2 q56 hx2 (xj1 hx (by omega)) (by rw [cv_arF HS.1 HS.2.1 F12]; exact har) (fun s101 q101 => ?_) (fun s101 q101 => ?_)
              · refine pl_nk_i (fun z104 => ?_)
                exact k1 _ (cv_ok_tr (gt_one hst) F12 q101)
              · refine pl_nk_i (fun z104 => ?_)
                exact k0 _ (cv_bad_tr (gt_one hst) F12 q101)
            · exact absurd h87 (by decide)
        · exact absurd h59 (by decide)
      · refine ⟨fun h59 => ?_, fun h59 => ?_⟩
        · exact absurd h59 (by decide)
        · exact cv_70_62 (th := th) HC (tx_s_full rfl hn hc (fun z => q56 ⟨z.1, z.2.1⟩)) k0

theorem cv_70 {T : Nat → Nat} {N : Nat} {E : tx_E} (n : Nat) (IH : ∀ m, m < n → cv_all T N E m) : cv_sF T N E 1 70 n := by
  intro th r s S p l fr R x1 HS HC hx k1 k0
  cases n with
  | zero => exact pl_At_0
  | succ n =>
  obtain ⟨-, -, -, hN, -⟩ := IH n (Nat.lt_succ_self n)
  show pl_At (n + 1) 70 0 [(0, .ref 902), (1, .int x1)] [] s (ps_rI R)
  have h6 := HC.2.2.1.2.2.2.2.1
  have f1 := HC.2.2.2.2.2.1.1
  refine pl_70_0 ?_
  refine ⟨fun h9 => ?_, fun h9 => ?_⟩
  · have h9 : (ps_i s 903 6).toInt ≠ (7 : Int) := xne h9
    have hn : ¬ ((tx_tok T N p).1 = 3 ∧ (tx_tok T N p).2.2.2.2 = 7) := fun z => by
      rw [if_pos z.1] at h6
      omega
    refine fs_72 HS HC (fun v19 q19 => ?_)
    refine fs_184 (fun q24 => ?_) (fun q24 => ?_)
    · refine ⟨fun h27 => ?_, fun h27 => ?_⟩
      · exact absurd h27 (by decide)
      · refine ⟨fun h35 => ?_, fun h35 => ?_⟩
        · have h35 : (ps_i s 902 4).toInt < (5 : Int) := xlt h35
          exact cv_70_42 (fun m hm => IH m (by omega)) HS HC hx hn q19 (fun c hc h45 => by omega) k1 k0
        · have h35 : (5 : Int) ≤ (ps_i s 902 4).toInt := xle h35
          refine ⟨fun h46 => ?_, fun h46 => ?_⟩
          · have h46 : v19.toInt = (-1 : Int) := xeq h46
            exact cv_70_62 (th := th) HC (tx_s_none rfl hn ((tx_opt_m q19).mp h46)) k0
          · have h46 : v19.toInt ≠ (-1 : Int) := xne h46
            refine ⟨fun h50 => ?_, fun h50 => ?_⟩
            · obtain ⟨c, hc⟩ : ∃ c, tx_pc E (tx_tok T N p) = some c := by
                cases e : tx_pc E (tx_tok T N p) with
                | none => exact (h46 (q19.2 e)).elim
                | some c => exact ⟨c, rfl⟩
              have hx2 := q19.1 c hc
              exact cv_70_62 (th := th) HC (tx_s_full rfl hn hc (fun z => by have := z.2.2 (by omega); omega)) k0
            · exact absurd h50 (by decide)
    · refine ⟨fun h27 => ?_, fun h27 => ?_⟩
      · exact cv_70_42 (fun m hm => IH m (by omega)) HS HC hx hn q19 (fun c hc h45 => (q24 (by rw [q19.1 c hc]; omega)).elim) k1 k0
      · exact absurd h27 (by decide)
  · have h9 : (ps_i s 903 6).toInt = (7 : Int) := xeq h9
    have hn : (tx_tok T N p).1 = 3 ∧ (tx_tok T N p).2.2.2.2 = 7 := by
      by_cases z : (tx_tok T N p).1 = 3
      · rw [if_pos z] at h6
        exact ⟨z, by omega⟩
      · rw [if_neg z] at h6
        omega
    refine hN th r s S p l fr _ _ HS HC hx hn (fun s14 q14 => ?_) (fun s14 q14 => ?_)
    · refine pl_nk_i (fun z17 => ?_)
      exact k1 _ q14
    · refine pl_nk_i (fun z17 => ?_)
      exact k0 _ q14

theorem cv_71_9 {T : Nat → Nat} {N : Nat} {E : tx_E} {th r c : Nat} {s0 : ps_S} {S : List tx_F} {R : Int32 → ps_S → Prop} {x1 x2 : Int32} {c0 : tx_C} (hS : S.length ≤ 12) (hx1 : x1.toInt = c) (hx2 : x2.toInt = (S.length + 1 : Nat)) (k1 : ∀ s', cv_ok r s0 s' T N E S c0 → R 1 s') (k0 : ∀ s', cv_bad r s0 s' T N E c0 → R 0 s') : ∀ (n : Nat), (∀ m, m < n → cv_all T N E m) → ∀ {s : ps_S} {x3 : Int32} {m p : Nat} {l : List Nat} {fr : List (List Nat)}, cv_S th r s T N E → cv_C r s T N S p l fr → cv_fr r s0 s → x3.toInt = m → gt_go (tx_st T N E) c0 (2, (m, decide (c < 6), false, none) :: S, p, l, fr, 0) → pl_At n 71 9 [(0, .ref 902), (1, .int x1), (2, .int x2), (3, .int x3)] [] s (ps_rI R)
  | 0, _, _, _, _, _, _, _, _, _, _, _, _ => pl_At_0
  | n + 1, IH, s, x3, m, p, l, fr, HS, HC, F, hx3, hg => by
    obtain ⟨hF, hT, -, -, -⟩ := IH n (Nat.lt_succ_self n)
    have IH' : ∀ m, m < n → cv_all T N E m := fun m hm => IH m (by omega)
    have nxt : ∀ k, m = k + 1 → (x3 + (-1)).toInt = k := fun k z => by
      have h1 : (-1 : Int32).toInt = -1 := by decide
      have h3 := xR x3
      rw [xIa (by omega) (by omega)]
      omega
    refine pl_71_9 ?_
    refine ⟨fun h10 => ?_, fun h10 => ?_⟩
    · have h10 : x3.toInt ≤ (0 : Int) := xle h10
      have e : m = 0 := by omega
      rw [e] at hg
      exact k1 _ ⟨p, l, fr, gt_trans hg (gt_one tx_s_0), HC, F⟩
    · have h10 : (0 : Int) < x3.toInt := xlt h10
      obtain ⟨k, hk⟩ : ∃ k, m = k + 1 := ⟨m - 1, by omega⟩
      rw [hk] at hg
      refine ⟨fun h16 => ?_, fun h16 => ?_⟩
      · have h16 : x1.toInt < (6 : Int) := xlt h16
        have hc6 : c < 6 := by omega
        rw [decide_eq_true hc6] at hg
        have hg2 := gt_trans hg (gt_one tx_s_k)
        refine hF th r s ((k, true, false, none) :: S) p l fr _ _ HS (cv_C_up HC hS k true) hx2 (fun s32 q32 => ?_) (fun s32 q32 => ?_)
        · refine ⟨fun h35 => ?_, fun h35 => ?_⟩
          · obtain ⟨p', l', fr', g1, g2, g3⟩ := cv_ok_up q32
            exact cv_71_9 hS hx1 hx2 k1 k0 n IH' (cv_S_fr HS g3) g2 (cv_fr_tr F g3) (nxt k hk) (by rw [decide_eq_true hc6]; exact gt_trans hg2 g1)
          · exact absurd h35 (by decide)
        · refine ⟨fun h35 => ?_, fun h35 => ?_⟩
          · exact absurd h35 (by decide)
          · exact k0 _ (cv_bad_tr hg2 F q32)
      · have h16 : (6 : Int) ≤ x1.toInt := xle h16
        have hc6 : ¬ c < 6 := by omega
        rw [decide_eq_false hc6] at hg
        have hg2 := gt_trans hg (gt_one tx_s_k)
        refine hT th r s ((k, false, false, none) :: S) p l fr _ _ HS (cv_C_up HC hS k false) hx2 (fun s21 q21 => ?_) (fun s21 q21 => ?_)
        · refine ⟨fun h24 => ?_, fun h24 => ?_⟩
          · exact absurd h24 (by decide)
          · obtain ⟨p', l', fr', g1, g2, g3⟩ := cv_ok_up q21
            exact cv_71_9 hS hx1 hx2 k1 k0 n IH' (cv_S_fr HS g3) g2 (cv_fr_tr F g3) (nxt k hk) (by rw [decide_eq_false hc6]; exact gt_trans hg2 g1)
        · refine ⟨fun h24 => ?_, fun h24 => ?_⟩
          · exact k0 _ (cv_bad_tr hg2 F q21)
          · exact absurd h24 (by decide)

theorem cv_71 {T : Nat → Nat} {N : Nat} {E : tx_E} (n : Nat) (IH : ∀ m, m < n → cv_all T N E m) : cv_sP T N E n := by
  intro th r s S p l fr R x1 x2 c m HS HC hS hx1 hx2 ham k1 k0
  cases n with
  | zero => exact pl_At_0
  | succ n =>
  show pl_At (n + 1) 71 0 [(0, .ref 902), (1, .int x1), (2, .int x2)] [] s (ps_rI R)
  refine pl_71_0 ?_
  rw [HS.2.2.1]
  refine fs_136 HS.1 hx1 (fun v5 q5 => ?_)
  exact cv_71_9 hS hx1 hx2 k1 k0 n (fun m hm => IH m (by omega)) HS HC cv_fr_refl (by rw [q5]; exact ham) gt_refl

theorem cv_74 {T : Nat → Nat} {N : Nat} {E : tx_E} (n : Nat) (IH : ∀ m, m < n → cv_all T N E m) : cv_sN T N E n := by
  intro th r s S p l fr R x1 HS HC hx hn k1 k0
  cases n with
  | zero => exact pl_At_0
  | succ n =>
  obtain ⟨hF, -, -, -, -⟩ := IH n (Nat.lt_succ_self n)
  show pl_At (n + 1) 74 0 [(0, .ref 902), (1, .int x1)] [] s (ps_rI R)
  have hS13 := HC.2.1
  have hr := HS.2.1
  have hx1 : (x1 + 1).toInt = (S.length + 1 : Nat) := xj1 hx (by omega)
  refine pl_74_0 ?_
  refine fs_73 (d := S.length + 1) (m := 2) HS HC hx1 rfl (by decide) (fun q5 => ?_) (fun q5 => ?_)
  · refine ⟨fun h8 => ?_, fun h8 => ?_⟩
    · have hst := tx_s_not (T := T) (n := N) (E := E) (S := S) (p := p) (l := l) (fr := fr) rfl hn q5.1 q5.2
      refine fs_add HS HC (c := 3) rfl (by omega) (fun s22 q22 => ?_)
      obtain ⟨HS1, HC1, F1⟩ := q22
      refine fs_adv HS1 HC1 (fun s29 q29 => ?_)
      obtain ⟨HS2, HC2, F2⟩ := q29
      have F3 : cv_fr r s (ps_ui s29 902 7 (ps_i s29 902 7 + 1)) := cv_fr_i (cv_fr_tr F1 F2) (by decide)
      refine hF th r _ ((0, true, true, none) :: S) _ _ fr _ _ (cv_S_fr HS F3) (cv_C_not hr HC2 (by omega) (by rw [List.length_append]; show l.length + 1 + tx_due S + 1 ≤ 40; omega)) hx1 (fun s46 q46 => ?_) (fun s46 q46 => ?_)
      · refine ⟨fun h49 => ?_, fun h49 => ?_⟩
        · obtain ⟨p', l', fr', g1, g2, g3⟩ := q46
          have F4 : cv_fr r s46 (ps_ui s46 902 7 (ps_i s46 902 7 - 1)) := cv_fr_i cv_fr_refl (by decide)
          have HS4 := cv_S_fr HS (cv_fr_tr F3 (cv_fr_tr g3 F4))
          have HC4 := cv_C_ton hr g2
          have h40 : l'.length + tx_due S + 1 ≤ 40 := by
            have h7 : l'.length + (1 + tx_due S) ≤ 40 := g2.2.1.2
            omega
          refine fs_add HS4 HC4 (c := 0) rfl h40 (fun s69 q69 => ?_)
          obtain ⟨HS5, HC5, F5⟩ := q69
          exact k1 _ ⟨p', _, fr', gt_trans (gt_one hst) (gt_trans (gt_one tx_s_k) (gt_trans g1 (gt_one tx_s_0))), HC5, cv_fr_tr F3 (cv_fr_tr g3 (cv_fr_tr F4 F5))⟩
        · exact absurd h49 (by decide)
      · refine ⟨fun h49 => ?_, fun h49 => ?_⟩
        · exact absurd h49 (by decide)
        · exact k0 _ (cv_bad_tr (gt_trans (gt_one hst) (gt_one tx_s_k)) F3 q46)
    · exact absurd h8 (by decide)
  · refine ⟨fun h8 => ?_, fun h8 => ?_⟩
    · exact absurd h8 (by decide)
    · refine fs_62 (K := 2) (r := r) (E := E) (c0 := (1, S, p, l, fr, 0)) HC.2.2.1 cv_fr_refl rfl (gt_one (tx_s_notb rfl hn q5)) (fun s13 q13 => ?_)
      refine pl_nk_i (fun z16 => ?_)
      exact k0 _ q13

theorem cv_75_58 {T : Nat → Nat} {N : Nat} {E : tx_E} {n : Nat} (IH : ∀ m, m < n → cv_all T N E m) {th r : Nat} {s0 s : ps_S} {S : List tx_F} {p : Nat} {w l : List Nat} {fr : List (List Nat)} {R : Int32 → ps_S → Prop} {x1 : Int32} {c0 : tx_C} (HS : cv_S th r s T N E) (HC : cv_C r s T N ((0, true, false, some w) :: S) p l fr) (F : cv_fr r s0 s) (hx : x1.toInt = S.length) (hg : gt_go (tx_st T N E) c0 (2, (1, true, false, some w) :: S, (tx_tok T N p).2.2.1, l, fr, 0)) (k1 : ∀ s', cv_ok r s0 s' T N E S c0 → R 1 s') (k0 : ∀ s', cv_bad r s0 s' T N E c0 → R 0 s') : pl_At n 75 58 [(0, .ref 902), (1, .int x1)] [] s (ps_rI R) := by
  cases n with
  | zero => exact pl_At_0
  | succ n =>
  obtain ⟨hF, -, -, -, -⟩ := IH n (Nat.lt_succ_self n)
  have hr := HS.2.1
  have hS13 : S.length + 1 ≤ 13 := HC.2.1.1
  have hx1 : (x1 + 1).toInt = (S.length + 1 : Nat) := xj1 hx (by omega)
  have hg2 := gt_trans hg (gt_one tx_s_k)
  refine pl_75_58 ?_
  refine fs_adv HS HC (fun s62 q62 => ?_)
  obtain ⟨HS1, HC1, F1⟩ := q62
  refine hF th r s62 ((0, true, false, some w) :: S) _ l fr _ _ HS1 HC1 hx1 (fun s69 q69 => ?_) (fun s69 q69 => ?_)
  · refine pl_nk_i (fun z84 => ?_)
    obtain ⟨p', l', fr', g1, g2, g3⟩ := q69
    exact k1 _ ⟨p', l', fr', gt_trans hg2 (gt_trans g1 (gt_one tx_s_0)), cv_C_pop hr g2, cv_fr_i (cv_fr_tr (cv_fr_tr F F1) g3) (by decide)⟩
  · refine pl_nk_i (fun z84 => ?_)
    obtain ⟨S', pl, l', fr', kk, g1, g2, g3, g4⟩ := q69
    exact k0 _ ⟨S', pl, l', fr', kk, gt_trans hg2 g1, g2, g3, cv_fr_i (cv_fr_tr (cv_fr_tr F F1) g4) (by decide)⟩
theorem cv_75 {T : Nat → Nat} {N : Nat} {E : tx_E} (n : Nat) (IH : ∀ m, m < n → cv_all T N E m) : cv_sB T N E n := by
  intro th r s S p l fr R x1 c0 HS HC hS hb hx hg1 hg2 k1 k0
  cases n with
  | zero => exact pl_At_0
  | succ n =>
  show pl_At (n + 1) 75 0 [(0, .ref 902), (1, .int x1)] [] s (ps_rI R)
  have hr := HS.2.1
  obtain ⟨f1, f2, f3⟩ := HC.2.2.2.2.2.1
  have HK := HC.2.2.1
  refine pl_75_0 ?_
  refine fs_77 HS HC (fun q1 => ?_) (fun q1 => ?_)
  · refine ⟨fun h4 => ?_, fun h4 => ?_⟩
    · refine ⟨fun h17 => ?_, fun h17 => ?_⟩
      · have h17 : (ps_i s 902 4).toInt < (0 : Int) := xlt h17
        exfalso; omega
      · have h17 : (0 : Int) ≤ (ps_i s 902 4).toInt := xle h17
        refine ⟨fun h29 => ?_, fun h29 => ?_⟩
        · have h29 : (5 : Int) ≤ (ps_i s 902 4).toInt := xle h29
          exfalso; omega
        · have h29 : (ps_i s 902 4).toInt < (5 : Int) := xlt h29
          intro b47
          obtain ⟨b47, c47⟩ := pl_in b47
          rw [xtn f1]
          have F : cv_fr r s (ps_ui (ps_ub s 907 (tx_bs S).length (ps_j s 903 8)) 902 4 (ps_i s 902 4 + 1)) := cv_fr_i (cv_fr_b cv_fr_refl (Or.inr rfl)) (by decide)
          exact cv_75_58 (fun m hm => IH m (by omega)) (cv_S_fr HS F) (cv_C_push hr HC hS hb ((tx_tok_ok (T := T) HC.1).2.2.2.1 q1.1) (HK.2.2.2.1 q1.1)) F hx (hg1 q1) k1 k0
    · exact absurd h4 (by decide)
  · refine ⟨fun h4 => ?_, fun h4 => ?_⟩
    · exact absurd h4 (by decide)
    · refine fs_62 (K := 2) (r := r) (E := E) HK cv_fr_refl rfl (hg2 q1) (fun s9 q9 => ?_)
      refine pl_nk_i (fun z12 => ?_)
      exact k0 _ q9

theorem cv_N_some {r : Nat} {s s' : ps_S} {T : Nat → Nat} {N : Nat} {E : tx_E} {S : List tx_F} {p : Nat} {l : List Nat} {o : Option (Nat × List (List Nat))} {v : Int32} (h : cv_N r s T N E S p l o v s') (hv : v.toInt ≠ -1) : ∃ c fr2, o = some (c, fr2) ∧ v.toInt = (c : Nat) ∧ cv_C r s' T N S p l fr2 ∧ cv_fr r s s' := by
  unfold cv_N at h
  split at h
  · next c fr2 => exact ⟨c, fr2, rfl, h⟩
  · exact (hv h.1).elim
theorem cv_N_none {r : Nat} {s s' : ps_S} {T : Nat → Nat} {N : Nat} {E : tx_E} {S : List tx_F} {p : Nat} {l : List Nat} {o : Option (Nat × List (List Nat))} {v : Int32} (h : cv_N r s T N E S p l o v s') (hv : v.toInt = -1) : o = none ∧ s' = s := by
  unfold cv_N at h
  split at h
  · have := h.1
    omega
  · exact ⟨rfl, h.2⟩
theorem tx_nm_ge {E : tx_E} {S : List tx_F} {fr fr2 : List (List Nat)} {w : List Nat} {c : Nat} (h : tx_nm E S fr w = some (c, fr2)) : 40 ≤ c := by
  unfold tx_nm at h
  split at h
  · cases h; omega
  · split at h
    · cases h
    · split at h
      · cases h; omega
      · split at h
        · cases h; omega
        · cases h

theorem cv_76_20 {T : Nat → Nat} {N : Nat} {E : tx_E} {n : Nat} {r : Nat} {s : ps_S} {S : List tx_F} {p : Nat} {l : List Nat} {fr : List (List Nat)} {R : Int32 → ps_S → Prop} (HC : cv_C r s T N S p l fr) (hs : tx_st T N E (0, S, p, l, fr, 0) = (4, S, (tx_tok T N p).2.1, l, fr, tx_bk (tx_tok T N p))) (k0 : ∀ s', cv_bad r s s' T N E (0, S, p, l, fr, 0) → R 0 s') : pl_At n 76 20 [(0, .ref 902)] [] s (ps_rI R) := by
  cases n with
  | zero => exact pl_At_0
  | succ n =>
  refine pl_76_20 ?_
  refine fs_62 (K := 2) (r := r) (E := E) HC.2.2.1 cv_fr_refl rfl (gt_one hs) (fun s22 q22 => ?_)
  refine pl_nk_i (fun z25 => ?_)
  exact k0 _ q22
/-- a function's parts -/
theorem cv_arf {s : ps_S} {th : Nat} {E : tx_E} (h : cv_E s th E.1) {w : List Nat} {g : Nat} (hg : tx_at (tx_G E) w = some g) : g < 4 ∧ (if 20 + g < 40 then (ps_a s (th + 4) (20 + g)).toInt else 0) = (tx_fa E g : Nat) := by
  obtain ⟨e1, e2, e3, e4, e5, e6, -, e8⟩ := h
  obtain ⟨-, z2, z3, -⟩ := tx_ix_some hg
  rw [Nat.sub_zero] at z3
  unfold tx_G at z2 z3
  rw [List.length_map] at z2
  rw [List.getElem?_map] at z3
  obtain ⟨a, h1, h2⟩ := Option.map_eq_some_iff.mp z3
  obtain ⟨-, -, -, w4⟩ := e6 g a.1 a.2 h1
  refine ⟨by omega, ?_⟩
  rw [if_pos (by omega), w4]
  unfold tx_fa
  rw [List.getD_eq_getElem?_getD, h1]
  rfl
theorem cv_dis {s : ps_S} {th : Nat} {E : tx_E} (h : cv_E s th E.1) {w : List Nat} {g : Nat} (hg : tx_at (tx_G E) w = some g) : tx_at (tx_R E) w = none := by
  cases e : tx_at (tx_R E) w with
  | none => rfl
  | some q =>
    exfalso
    obtain ⟨-, -, z3, -⟩ := tx_ix_some hg
    obtain ⟨-, -, y3, -⟩ := tx_ix_some e
    exact h.2.2.2.2.2.2.2 w (List.mem_of_getElem? y3) (List.mem_of_getElem? z3)
theorem cv_76_59 {T : Nat → Nat} {N : Nat} {E : tx_E} {n : Nat} (IH : ∀ m, m < n → cv_all T N E m) {th r : Nat} {s : ps_S} {S : List tx_F} {p : Nat} {l : List Nat} {fr : List (List Nat)} {R : Int32 → ps_S → Prop} {x1 x2 : Int32} (HS : cv_S th r s T N E) (HC : cv_C r s T N S p l fr) (hx : x1.toInt = S.length) (hh : (tx_tok T N p).1 = 2 ∧ tx_at (tx_R E) (tx_tok T N p).2.2.2.1 = none ∧ S.length ≤ 12 ∧ l.length + tx_due S + 1 ≤ 40) (hv : tx_opt (tx_at (tx_G E) (tx_tok T N p).2.2.2.1) x2) (k1 : ∀ s', cv_ok r s s' T N E S (0, S, p, l, fr, 0) → R 1 s') (k0 : ∀ s', cv_bad r s s' T N E (0, S, p, l, fr, 0) → R 0 s') : pl_At n 76 59 [(0, .ref 902), (1, .int x1), (2, .int x2)] [] s (ps_rI R) := by
  cases n with
  | zero => exact pl_At_0
  | succ n =>
  obtain ⟨-, -, hP, -, -⟩ := IH n (Nat.lt_succ_self n)
  have hcl := HS.2.2.2.2.1
  have h20 : (20 : Int32).toInt = 20 := by decide
  refine pl_76_59 ?_
  refine ⟨fun h61 => ?_, fun h61 => ?_⟩
  · have h61 : x2.toInt ≠ (-1 : Int) := xne h61
    obtain ⟨g, hg⟩ : ∃ g, tx_at (tx_G E) (tx_tok T N p).2.2.2.1 = some g := by
      cases e : tx_at (tx_G E) (tx_tok T N p).2.2.2.1 with
      | none => exact (h61 (hv.2 e)).elim
      | some g => exact ⟨g, rfl⟩
    have hx2 := hv.1 g hg
    obtain ⟨hg4, har⟩ := cv_arf HS.2.2.2.2.2.2 hg
    have e20 : ((20 : Int32) + x2).toInt = (20 + g : Nat) := by rw [xIa (by omega) (by omega)]; omega
    refine ⟨fun h78 => ?_, fun h78 => ?_⟩
    · have h78 : ((20 : Int32) + x2).toInt ≠ (-1 : Int) := xne h78
      have hst := tx_s_fun (T := T) (n := N) (E := E) (S := S) (p := p) (l := l) (fr := fr) rfl hh hg
      refine fs_add HS HC e20 hh.2.2.2 (fun s103 q103 => ?_)
      obtain ⟨HS1, HC1, F1⟩ := q103
      refine fs_adv HS1 HC1 (fun s110 q110 => ?_)
      obtain ⟨HS2, HC2, F2⟩ := q110
      have F12 := cv_fr_tr F1 F2
      refine hP th r s110 S _ _ fr _ _ _ (20 + g) (tx_fa E g) HS2 HC2 hh.2.2.1 e20 (xj1 hx (by omega)) (by rw [cv_arF HS.1 HS.2.1 F12]; exact har) (fun s118 q118 => ?_) (fun s118 q118 => ?_)
      · refine pl_nk_i (fun z121 => ?_)
        rw [decide_eq_false (show ¬ 20 + g < 6 by omega)] at q118
        exact k1 _ (cv_ok_tr (gt_one hst) F12 q118)
      · refine pl_nk_i (fun z121 => ?_)
        rw [decide_eq_false (show ¬ 20 + g < 6 by omega)] at q118
        exact k0 _ (cv_bad_tr (gt_one hst) F12 q118)
    · have h78 : ((20 : Int32) + x2).toInt = (-1 : Int) := xeq h78
      refine ⟨fun h86 => ?_, fun h86 => ?_⟩
      · have h86 : (ps_i s 902 8).toInt = (0 : Int) := xeq h86
        exfalso; omega
      · have h86 : (ps_i s 902 8).toInt ≠ (0 : Int) := xne h86
        exfalso; omega
  · have h61 : x2.toInt = (-1 : Int) := xeq h61
    have hg := (tx_opt_m hv).mp h61
    refine fs_78 HS HC hh.1 (fun v65 s65 q65 => ?_)
    refine ⟨fun h78 => ?_, fun h78 => ?_⟩
    · have h78 : v65.toInt ≠ (-1 : Int) := xne h78
      obtain ⟨c, fr2, hm, hv65, HC65, F65⟩ := cv_N_some q65 h78
      have hc40 := tx_nm_ge hm
      have hst := tx_s_name (T := T) (n := N) (E := E) (S := S) (p := p) (l := l) (fr := fr) rfl hh hg hm
      refine fs_add (cv_S_fr HS F65) HC65 hv65 hh.2.2.2 (fun s103 q103 => ?_)
      obtain ⟨HS1, HC1, F1⟩ := q103
      refine fs_adv HS1 HC1 (fun s110 q110 => ?_)
      obtain ⟨HS2, HC2, F2⟩ := q110
      have F12 := cv_fr_tr F65 (cv_fr_tr F1 F2)
      refine hP th r s110 S _ _ fr2 _ _ _ c 0 HS2 HC2 hh.2.2.1 hv65 (xj1 hx (by omega)) (by rw [if_neg (by omega)]; rfl) (fun s118 q118 => ?_) (fun s118 q118 => ?_)
      · refine pl_nk_i (fun z121 => ?_)
        rw [decide_eq_false (show ¬ c < 6 by omega)] at q118
        exact k1 _ (cv_ok_tr (gt_one hst) F12 q118)
      · refine pl_nk_i (fun z121 => ?_)
        rw [decide_eq_false (show ¬ c < 6 by omega)] at q118
        exact k0 _ (cv_bad_tr (gt_one hst) F12 q118)
    · have h78 : v65.toInt = (-1 : Int) := xeq h78
      refine ⟨fun h86 => ?_, fun h86 => ?_⟩
      · have h86 : (ps_i s65 902 8).toInt = (0 : Int) := xeq h86
        obtain ⟨hm, e65⟩ := cv_N_none q65 h78
        rw [e65] at h86
        rw [e65]
        have hE : ¬ E.2 = true := fun z => by
          rw [if_pos z] at hcl
          omega
        refine fs_62 (K := 2) (r := r) (E := E) (c0 := (0, S, p, l, fr, 0)) (S' := S) (l' := l) (fr' := fr) HC.2.2.1 cv_fr_refl rfl (gt_one (by rw [tx_s_nameb rfl hh hg hm, if_neg hE, if_neg (by omega)])) (fun s94 q94 => ?_)
        refine pl_nk_i (fun z97 => ?_)
        exact k0 _ q94
      · have h86 : (ps_i s65 902 8).toInt ≠ (0 : Int) := xne h86
        obtain ⟨hm, e65⟩ := cv_N_none q65 h78
        rw [e65] at h86
        rw [e65]
        have hE : E.2 = true := Decidable.byContradiction (fun z => by
          rw [if_neg z] at hcl
          omega)
        refine fs_62 (K := 5) (r := r) (E := E) (c0 := (0, S, p, l, fr, 0)) (S' := S) (l' := l) (fr' := fr) HC.2.2.1 cv_fr_refl rfl (gt_one (by rw [tx_s_nameb rfl hh hg hm, if_pos hE, if_neg (by omega)])) (fun s94 q94 => ?_)
        refine pl_nk_i (fun z97 => ?_)
        exact k0 _ q94
theorem cv_76 {T : Nat → Nat} {N : Nat} {E : tx_E} (n : Nat) (IH : ∀ m, m < n → cv_all T N E m) : cv_sF T N E 0 76 n := by
  intro th r s S p l fr R x1 HS HC hx k1 k0
  cases n with
  | zero => exact pl_At_0
  | succ n =>
  show pl_At (n + 1) 76 0 [(0, .ref 902), (1, .int x1)] [] s (ps_rI R)
  have HK := HC.2.2.1
  have h4 := HK.1
  refine pl_76_0 ?_
  refine ⟨fun h8 => ?_, fun h8 => ?_⟩
  · have h8 : (ps_i s 903 4).toInt ≠ (2 : Int) := xne h8
    exact cv_76_20 HC (tx_s_tb rfl (fun z => by omega)) k0
  · have h8 : (ps_i s 903 4).toInt = (2 : Int) := xeq h8
    refine fs_73 (d := S.length) (m := 1) HS HC hx rfl (by decide) (fun q14 => ?_) (fun q14 => ?_)
    · refine ⟨fun h17 => ?_, fun h17 => ?_⟩
      · have h2 : (tx_tok T N p).1 = 2 := by omega
        rw [HS.2.2.1]
        refine fs_128 HS.1 HS.2.2.2.2.2.2 ((tx_tok_ok (T := T) HC.1).2.2.2.1 h2) (HK.2.2.2.1 h2) (fun v37 q37 => ?_)
        refine ⟨fun h43 => ?_, fun h43 => ?_⟩
        · have h43 : v37.toInt ≠ (-1 : Int) := xne h43
          have hrel : tx_at (tx_R E) (tx_tok T N p).2.2.2.1 = none := by
            cases e : tx_at (tx_G E) (tx_tok T N p).2.2.2.1 with
            | none => exact (h43 (q37.2 e)).elim
            | some g => exact cv_dis HS.2.2.2.2.2.2 e
          exact cv_76_59 (fun m hm => IH m (by omega)) HS HC hx ⟨h2, hrel, q14⟩ q37 k1 k0
        · have h43 : v37.toInt = (-1 : Int) := xeq h43
          refine fs_77 HS HC (fun q47 => ?_) (fun q47 => ?_)
          · refine ⟨fun h50 => ?_, fun h50 => ?_⟩
            · exact cv_76_59 (fun m hm => IH m (by omega)) HS HC hx ⟨h2, q47.2.1, q14⟩ q37 k1 k0
            · exact absurd h50 (by decide)
          · refine ⟨fun h50 => ?_, fun h50 => ?_⟩
            · exact absurd h50 (by decide)
            · refine fs_62 (K := 2) (r := r) (E := E) (c0 := (0, S, p, l, fr, 0)) HK cv_fr_refl rfl (gt_one (tx_s_tb rfl (fun z => q47 ⟨h2, z.2.1, (tx_opt_m q37).mp h43⟩))) (fun s55 q55 => ?_)
              refine pl_nk_i (fun z58 => ?_)
              exact k0 _ q55
      · exact absurd h17 (by decide)
    · refine ⟨fun h17 => ?_, fun h17 => ?_⟩
      · exact absurd h17 (by decide)
      · exact cv_76_20 HC (tx_s_tb rfl (fun z => q14 z.2.2)) k0
theorem cv_every (T : Nat → Nat) (N : Nat) (E : tx_E) : ∀ n, cv_all T N E n := xstr (fun n IH => ⟨cv_70 n IH, cv_76 n IH, cv_71 n IH, cv_74 n IH, cv_75 n IH⟩)
end
section
/-! the class's theory while its text is read -/
/-- cells other than those of C are the same -/
def cfr (C : Nat → Prop) (s s' : ps_S) : Prop := ∀ q, ¬ C q → (∀ f, ps_i s' q f = ps_i s q f) ∧ (∀ f, ps_j s' q f = ps_j s q f) ∧ (∀ f, ps_r s' q f = ps_r s q f) ∧ ps_a s' q = ps_a s q ∧ ps_b s' q = ps_b s q
theorem cfr_refl {C : Nat → Prop} {s : ps_S} : cfr C s s := fun _ _ => ⟨fun _ => rfl, fun _ => rfl, fun _ => rfl, rfl, rfl⟩
theorem cfr_tr {C : Nat → Prop} {s s1 s2 : ps_S} (h : cfr C s s1) (g : cfr C s1 s2) : cfr C s s2 := fun q hq => by
  obtain ⟨a1, a2, a3, a4, a5⟩ := h q hq
  obtain ⟨b1, b2, b3, b4, b5⟩ := g q hq
  exact ⟨fun f => (b1 f).trans (a1 f), fun f => (b2 f).trans (a2 f), fun f => (b3 f).trans (a3 f), b4.trans a4, b5.trans a5⟩
theorem cfr_mono {C C' : Nat → Prop} {s s' : ps_S} (h : cfr C s s') (k : ∀ q, C q → C' q) : cfr C' s s' := fun q hq => h q (fun z => hq (k q z))
theorem cfr_i {C : Nat → Prop} {s s' : ps_S} {r f : Nat} {v : Int32} (h : cfr C s s') (hr : C r) : cfr C s (ps_ui s' r f v) := fun q hq => by
  obtain ⟨a1, a2, a3, a4, a5⟩ := h q hq
  refine ⟨fun g => ?_, a2, a3, a4, a5⟩
  rw [ps_i_ui, if_neg (fun z => hq (by rw [z.1]; exact hr))]
  exact a1 g
theorem cfr_j {C : Nat → Prop} {s s' : ps_S} {r f : Nat} {v : Int64} (h : cfr C s s') (hr : C r) : cfr C s (ps_uj s' r f v) := fun q hq => by
  obtain ⟨a1, a2, a3, a4, a5⟩ := h q hq
  refine ⟨a1, fun g => ?_, a3, a4, a5⟩
  rw [ps_j_uj, if_neg (fun z => hq (by rw [z.1]; exact hr))]
  exact a2 g
theorem cfr_r {C : Nat → Prop} {s s' : ps_S} {r f v : Nat} (h : cfr C s s') (hr : C r) : cfr C s (ps_ur s' r f v) := fun q hq => by
  obtain ⟨a1, a2, a3, a4, a5⟩ := h q hq
  refine ⟨a1, a2, fun g => ?_, a4, a5⟩
  rw [ps_r_ur, if_neg (fun z => hq (by rw [z.1]; exact hr))]
  exact a3 g
theorem cfr_a {C : Nat → Prop} {s s' : ps_S} {r i : Nat} {v : Int32} (h : cfr C s s') (hr : C r) : cfr C s (ps_ua s' r i v) := fun q hq => by
  obtain ⟨a1, a2, a3, a4, a5⟩ := h q hq
  refine ⟨a1, a2, a3, ?_, a5⟩
  rw [← a4]
  funext k
  rw [ps_a_ua, if_neg (fun z => hq (by rw [z.1]; exact hr))]
theorem cfr_b {C : Nat → Prop} {s s' : ps_S} {r i : Nat} {v : Int64} (h : cfr C s s') (hr : C r) : cfr C s (ps_ub s' r i v) := fun q hq => by
  obtain ⟨a1, a2, a3, a4, a5⟩ := h q hq
  refine ⟨a1, a2, a3, a4, ?_⟩
  rw [← a5]
  funext k
  rw [ps_b_ub, if_neg (fun z => hq (by rw [z.1]; exact hr))]
theorem cfr_fr {r : Nat} {s s' : ps_S} (h : cv_fr r s s') : cfr (fun q => q = 902 ∨ q = 903 ∨ q = r ∨ q = r + 1 ∨ q = 906 ∨ q = 907) s s' := fun q hq => by
  have hq : ¬ (q = 902 ∨ q = 903 ∨ q = r ∨ q = r + 1 ∨ q = 906 ∨ q = 907) := hq
  exact ⟨fun f => h.2.1 q f (by omega) (Or.inl (by omega)) (by omega), fun f => h.2.2.2.1 q f (by omega), fun f => by rw [h.1], h.2.2.2.2.1 q (by omega), h.2.2.2.2.2 q (by omega) (by omega)⟩
theorem cfr_fl {s s' : ps_S} (h : cv_fl s s') : cfr (fun q => q = 903) s s' := fun q hq => by
  have hq : ¬ q = 903 := hq
  exact ⟨fun f => h.1 q f (Or.inl hq), fun f => h.2.1 q f hq, fun f => by rw [h.2.2.1], by rw [h.2.2.2.1], by rw [h.2.2.2.2]⟩
/-- the cells that reading a theory's text may change -/
def cv_HC (th q : Nat) : Prop := (th ≤ q ∧ q < th + 24) ∨ q = 902 ∨ q = 903 ∨ q = 906 ∨ q = 907
/-- the theory th holds this -/
def cv_H (s : ps_S) (th : Nat) (h : tx_H) : Prop := cv_E s th h.1 ∧ (ps_i s th 8).toInt = h.2.length ∧ h.2.length ≤ 8 ∧ ∀ (k : Nat) (w l : List Nat), h.2[k]? = some (w, l) → tx_w w ∧ ps_b s (th + 3) k = tx_x w ∧ cv_W s (th + 8 + 2 * k) l
theorem cv_E_cfr {C : Nat → Prop} {s s' : ps_S} {th : Nat} {g : tx_g} (h : cv_E s th g) (F : cfr C s s') (h0 : ¬ C th) (h1 : ¬ C (th + 1)) (h2 : ¬ C (th + 2)) (h4 : ¬ C (th + 4)) : cv_E s' th g := by
  unfold cv_E at *
  rw [(F th h0).1, (F th h0).1, (F _ h1).2.2.2.2, (F _ h2).2.2.2.2, (F _ h4).2.2.2.1]
  exact h
theorem cv_W_cfr {C : Nat → Prop} {s s' : ps_S} {r : Nat} {l : List Nat} (h : cv_W s r l) (F : cfr C s s') (h0 : ¬ C r) (h1 : ¬ C (r + 1)) : cv_W s' r l := by
  unfold cv_W at *
  rw [(F r h0).1, (F r h0).1, (F _ h1).2.2.2.1]
  exact h
theorem cv_H_cfr {C : Nat → Prop} {s s' : ps_S} {th : Nat} {h : tx_H} (H : cv_H s th h) (F : cfr C s s') (h0 : ∀ q, th ≤ q → q < th + 8 + 2 * h.2.length → ¬ C q) : cv_H s' th h := by
  obtain ⟨e1, e2, e3, e4⟩ := H
  refine ⟨cv_E_cfr e1 F (h0 _ (by omega) (by omega)) (h0 _ (by omega) (by omega)) (h0 _ (by omega) (by omega)) (h0 _ (by omega) (by omega)), by rw [(F th (h0 _ (by omega) (by omega))).1]; exact e2, e3, fun k w l hk => ?_⟩
  obtain ⟨z1, z2, z3⟩ := e4 k w l hk
  have hl := (List.getElem?_eq_some_iff.mp hk).1
  refine ⟨z1, by rw [(F (th + 3) (h0 _ (by omega) (by omega))).2.2.2.2]; exact z2, cv_W_cfr z3 F (h0 _ (by omega) (by omega)) (h0 _ (by omega) (by omega))⟩
theorem cv_T_cfr {C : Nat → Prop} {s s' : ps_S} {T : Nat → Nat} {N : Nat} (h : cv_T s T N) (F : cfr C s s') (hr : ps_r s' 903 1 = ps_r s 903 1) (hi : ps_i s' 903 2 = ps_i s 903 2) (h1 : ¬ C 1) (h4 : ¬ C 904) : cv_T s' T N := by
  obtain ⟨a1, a2, a3, a4, a5⟩ := h
  exact ⟨by rw [hr]; exact a1, by rw [hi]; exact a2, a3, by rw [(F 1 h1).2.2.2.1]; exact a4, by rw [(F 904 h4).2.2.2.2]; exact a5⟩
/-- at a line of a theory's text -/
def cv_L (s : ps_S) (th : Nat) (T : Nat → Nat) (N : Nat) (h : tx_H) (p : Nat) : Prop := (th = 2 ∨ th = 26) ∧ ps_r s 902 5 = th ∧ cv_T s T N ∧ cv_H s th h ∧ p ≤ N ∧ cv_K s (tx_tok T N p) ∧ (ps_i s 902 4).toInt = 0 ∧ (ps_i s 902 2).toInt = 0 ∧ (ps_i s 902 9).toInt = 0 ∧ (ps_i s 902 10).toInt = -1
theorem cv_L_adv {s s' : ps_S} {th : Nat} {T : Nat → Nat} {N : Nat} {h : tx_H} {p q : Nat} (L : cv_L s th T N h p) (hq : q ≤ N) (A : cv_A T N q s s') : cv_L s' th T N h q := by
  obtain ⟨l1, l2, l3, l4, l5, l6, l7, l8⟩ := L
  have F := cfr_fl A.1
  refine ⟨l1, by rw [A.1.2.2.1]; exact l2, cv_T_fl l3 A.1, cv_H_cfr l4 F (fun q h1 h2 z => ?_), hq, A.2, by rw [(F 902 (by decide)).1]; exact l7, by rw [(F 902 (by decide)).1, (F 902 (by decide)).1, (F 902 (by decide)).1]; exact l8⟩
  have := l4.2.2.1
  have z : q = 903 := z
  omega
def cl_ok (th : Nat) (s s' : ps_S) (T : Nat → Nat) (N : Nat) (d : tx_D4) : Prop := ∃ h' p', d = (0, h', p', 0) ∧ cv_L s' th T N h' p' ∧ cfr (cv_HC th) s s'
def cl_bad (th : Nat) (s s' : ps_S) (d : tx_D4) : Prop := ∃ (h' : tx_H) (pl k : Nat), d = (4, h', pl, k) ∧ (ps_i s' 902 9).toInt = k ∧ (ps_i s' 902 10).toInt = pl ∧ cfr (cv_HC th) s s'
/-- closed formulas take no free names -/
theorem tx_bf_fr {T : Nat → Nat} {n : Nat} {E : tx_E} {S : List tx_F} {p : Nat} {l : List Nat} {fr : List (List Nat)} : (tx_bf T n E S p l fr).2.2.2.2.1 = fr := by
  unfold tx_bf
  dsimp only
  split
  · split <;> rfl
  · split
    · rfl
    · split
      · split
        · split <;> rfl
        · rfl
      · rfl
theorem tx_bt_fr {T : Nat → Nat} {n : Nat} {E : tx_E} {S : List tx_F} {p : Nat} {l : List Nat} {fr : List (List Nat)} (hE : E.2 = true) : (tx_bt T n E S p l fr).2.2.2.2.1 = fr := by
  unfold tx_bt
  dsimp only
  split
  · split
    · rfl
    · split
      · next c fr2 hm =>
        unfold tx_nm at hm
        split at hm
        · cases hm; rfl
        · rw [if_pos hE] at hm
          cases hm
      · rfl
  · rfl
theorem tx_st_fr {T : Nat → Nat} {n : Nat} {E : tx_E} (hE : E.2 = true) (c : tx_C) : (tx_st T n E c).2.2.2.2.1 = c.2.2.2.2.1 := by
  unfold tx_st
  split
  · exact tx_bt_fr hE
  · exact tx_bf_fr
  · rfl
  · rfl
  · rfl
  · rfl
theorem tx_go_fr {T : Nat → Nat} {n : Nat} {E : tx_E} (hE : E.2 = true) {c c' : tx_C} (h : gt_go (tx_st T n E) c c') : c'.2.2.2.2.1 = c.2.2.2.2.1 := by
  obtain ⟨m, h⟩ := h
  induction m generalizing c with
  | zero =>
    have h : c = c' := h
    rw [h]
  | succ m ih =>
    have h : gt_it (tx_st T n E) m (tx_st T n E c) = c' := h
    rw [ih h, tx_st_fr hE]
end
section
set_option maxRecDepth 100000
/-! the class's reader: a theory's text -/
-- ProofBench$Theory.axiomOf(J)I
theorem pl_129_0 {n : Nat} {r0 : Nat} {l1 : Int64} {s : ps_S} {Q : Option Value → ps_S → Prop} (h :
  pl_nk (ps_is r0 9) (pl_nk (ps_is r0 9) (pl_Cl n 131 [.ref (ps_c0 r0 2), .int (ps_i s r0 8), .long l1] s (ps_rI (fun v1 s1 =>
    Q (some (.int v1)) s1))))) : pl_At (n + 1) 129 0 [(0, .ref r0), (1, .long l1)] [] s Q :=
  pl_wp_at (stops := []) (f := 9) h rfl

-- ProofBench$Theory.clear()V
theorem pl_126_0 {n : Nat} {r0 : Nat} {s : ps_S} {Q : Option Value → ps_S → Prop} (h :
  pl_nk (ps_is r0 9) (pl_nk (ps_is r0 9) (pl_nk (ps_is r0 9) (Q none (ps_ui (ps_ui (ps_ui s r0 6 0) r0 7 0) r0 8 0))))) : pl_At (n + 1) 126 0 [(0, .ref r0)] [] s Q :=
  pl_wp_at (stops := []) (f := 12) h rfl

-- ProofBench$Theory.isFull(I)Z
theorem pl_132_0 {n : Nat} {r0 : Nat} {x1 : Int32} {s : ps_S} {Q : Option Value → ps_S → Prop} (h :
  (x1 = 8 →
    pl_nk (ps_is r0 9) (((ps_i s r0 6) < 6 →
      Q (some (.int 0)) s) ∧
    (6 ≤ (ps_i s r0 6) →
      Q (some (.int 1)) s))) ∧
  (x1 ≠ 8 →
    (x1 = 9 →
    pl_nk (ps_is r0 9) (((ps_i s r0 7) < 4 →
      Q (some (.int 0)) s) ∧
    (4 ≤ (ps_i s r0 7) →
      Q (some (.int 1)) s))) ∧
  (x1 ≠ 9 →
    pl_nk (ps_is r0 9) (((ps_i s r0 8) < 8 →
    Q (some (.int 0)) s) ∧
  (8 ≤ (ps_i s r0 8) →
    Q (some (.int 1)) s))))) : pl_At (n + 1) 132 0 [(0, .ref r0), (1, .int x1)] [] s Q :=
  pl_wp_at (stops := []) (f := 31) h rfl

-- ProofBench.putAt([III)V
theorem pl_183_0 {n : Nat} {r0 : Nat} {x1 : Int32} {x2 : Int32} {s : ps_S} {Q : Option Value → ps_S → Prop} (h :
  (x1 < 0 →
    Q none s) ∧
  (0 ≤ x1 →
    pl_nk (Nat.beq (ps_K r0).1 0) (((nI (ps_ln r0)) ≤ x1 →
      Q none s) ∧
    (x1 < (nI (ps_ln r0)) →
      pl_nk (ps_ar r0 0) ((pm_in x1 (ps_ln r0) = true →
        Q none (ps_ua s r0 (Int32.toNatClampNeg x1) x2))))))) : pl_At (n + 1) 183 0 [(0, .ref r0), (1, .int x1), (2, .int x2)] [] s Q :=
  pl_wp_at (stops := []) (f := 15) h rfl

-- ProofBench$Theory.addSymbol(IJI)V
theorem pl_133_0 {n : Nat} {r0 : Nat} {x1 : Int32} {l2 : Int64} {x4 : Int32} {s : ps_S} {Q : Option Value → ps_S → Prop} (h :
  (x1 ≠ 8 →
    pl_At n 133 61 [(0, .ref r0), (1, .int x1), (2, .long l2), (4, .int x4)] [] s Q) ∧
  (x1 = 8 →
    pl_nk (ps_is r0 9) (((ps_i s r0 6) < 0 →
      pl_At n 133 61 [(0, .ref r0), (1, .int x1), (2, .long l2), (4, .int x4)] [] s Q) ∧
    (0 ≤ (ps_i s r0 6) →
      pl_nk (ps_is r0 9) (pl_nk (ps_is r0 9) (pl_nk (Nat.beq (ps_K (ps_c0 r0 0)).1 0) (((nI (ps_ln (ps_c0 r0 0))) ≤ (ps_i s r0 6) →
        pl_At n 133 61 [(0, .ref r0), (1, .int x1), (2, .long l2), (4, .int x4)] [] s Q) ∧
      ((ps_i s r0 6) < (nI (ps_ln (ps_c0 r0 0))) →
        pl_nk (ps_is r0 9) (pl_nk (ps_is r0 9) (pl_Cl n 183 [.ref (ps_c0 r0 3), .int ((10 : Int32) + (ps_i s r0 6)), .int x4] s (ps_rV (fun s1 =>
          pl_nk (ps_is r0 9) (pl_nk (ps_is r0 9) (pl_nk (ps_ar (ps_c0 r0 0) 3) ((pm_in (ps_i s1 r0 6) (ps_ln (ps_c0 r0 0)) = true →
            pl_nk (ps_is r0 9) (pl_nk (ps_is r0 9) (pl_At n 133 61 [(0, .ref r0), (1, .int x1), (2, .long l2), (4, .int x4)] [] (ps_ui (ps_ub s1 (ps_c0 r0 0) (Int32.toNatClampNeg (ps_i s1 r0 6)) l2) r0 6 ((ps_i (ps_ub s1 (ps_c0 r0 0) (Int32.toNatClampNeg (ps_i s1 r0 6)) l2) r0 6) + 1)) Q)))))))))))))))))) : pl_At (n + 1) 133 0 [(0, .ref r0), (1, .int x1), (2, .long l2), (4, .int x4)] [] s Q :=
  pl_wp_at (stops := [(61, [0, 1, 2, 4])]) (f := 34) h rfl

theorem pl_133_61 {n : Nat} {r0 : Nat} {x1 : Int32} {l2 : Int64} {x4 : Int32} {s : ps_S} {Q : Option Value → ps_S → Prop} (h :
  (x1 ≠ 9 →
    Q none s) ∧
  (x1 = 9 →
    pl_nk (ps_is r0 9) (((ps_i s r0 7) < 0 →
      Q none s) ∧
    (0 ≤ (ps_i s r0 7) →
      pl_nk (ps_is r0 9) (pl_nk (ps_is r0 9) (pl_nk (Nat.beq (ps_K (ps_c0 r0 1)).1 0) (((nI (ps_ln (ps_c0 r0 1))) ≤ (ps_i s r0 7) →
        Q none s) ∧
      ((ps_i s r0 7) < (nI (ps_ln (ps_c0 r0 1))) →
        pl_nk (ps_is r0 9) (pl_nk (ps_is r0 9) (pl_Cl n 183 [.ref (ps_c0 r0 3), .int ((20 : Int32) + (ps_i s r0 7)), .int x4] s (ps_rV (fun s1 =>
          pl_nk (ps_is r0 9) (pl_nk (ps_is r0 9) (pl_nk (ps_ar (ps_c0 r0 1) 3) ((pm_in (ps_i s1 r0 7) (ps_ln (ps_c0 r0 1)) = true →
            pl_nk (ps_is r0 9) (pl_nk (ps_is r0 9) (Q none (ps_ui (ps_ub s1 (ps_c0 r0 1) (Int32.toNatClampNeg (ps_i s1 r0 7)) l2) r0 7 ((ps_i (ps_ub s1 (ps_c0 r0 1) (Int32.toNatClampNeg (ps_i s1 r0 7)) l2) r0 7) + 1)))))))))))))))))))) : pl_At (n + 1) 133 61 [(0, .ref r0), (1, .int x1), (2, .long l2), (4, .int x4)] [] s Q :=
  pl_wp_at (stops := [(61, [0, 1, 2, 4])]) (f := 38) h rfl

-- ProofBench$Theory.addAxiom(J)V
theorem pl_134_0 {n : Nat} {r0 : Nat} {l1 : Int64} {s : ps_S} {Q : Option Value → ps_S → Prop} (h :
  pl_nk (ps_is r0 9) (((ps_i s r0 8) < 0 →
    Q none s) ∧
  (0 ≤ (ps_i s r0 8) →
    pl_nk (ps_is r0 9) (pl_nk (ps_is r0 9) (pl_nk (Nat.beq (ps_K (ps_c0 r0 2)).1 0) (((nI (ps_ln (ps_c0 r0 2))) ≤ (ps_i s r0 8) →
      Q none s) ∧
    ((ps_i s r0 8) < (nI (ps_ln (ps_c0 r0 2))) →
      pl_nk (ps_is r0 9) (pl_nk (ps_is r0 9) (pl_nk (ps_ar (ps_c0 r0 2) 3) ((pm_in (ps_i s r0 8) (ps_ln (ps_c0 r0 2)) = true →
        pl_nk (ps_is r0 9) (pl_nk (ps_is r0 9) (Q none (ps_ui (ps_ub s (ps_c0 r0 2) (Int32.toNatClampNeg (ps_i s r0 8)) l1) r0 8 ((ps_i (ps_ub s (ps_c0 r0 2) (Int32.toNatClampNeg (ps_i s r0 8)) l1) r0 8) + 1))))))))))))))) : pl_At (n + 1) 134 0 [(0, .ref r0), (1, .long l1)] [] s Q :=
  pl_wp_at (stops := []) (f := 26) h rfl

-- ProofBench$Theory.axiomRow(I)LProofBench$Row;
theorem pl_135_0 {n : Nat} {r0 : Nat} {x1 : Int32} {s : ps_S} {Q : Option Value → ps_S → Prop} (h :
  (x1 < 0 →
    pl_nk (ps_is r0 9) (Q (some (.ref (ps_c0 r0 5))) s)) ∧
  (0 ≤ x1 →
    pl_nk (ps_is r0 9) (pl_nk (Nat.beq (ps_K (ps_c0 r0 4)).1 0) (((nI (ps_ln (ps_c0 r0 4))) ≤ x1 →
      pl_nk (ps_is r0 9) (Q (some (.ref (ps_c0 r0 5))) s)) ∧
    (x1 < (nI (ps_ln (ps_c0 r0 4))) →
      pl_nk (ps_is r0 9) (pl_nk (ps_ar (ps_c0 r0 4) 4 || ps_ar (ps_c0 r0 4) 5 || ps_ar (ps_c0 r0 4) 6 || ps_ar (ps_c0 r0 4) 7) ((pm_in x1 (ps_ln (ps_c0 r0 4)) = true →
        Q (some (.ref (ps_e0 (ps_c0 r0 4) (Int32.toNatClampNeg x1)))) s)))))))) : pl_At (n + 1) 135 0 [(0, .ref r0), (1, .int x1)] [] s Q :=
  pl_wp_at (stops := []) (f := 21) h rfl

-- ProofBench$Reader.takeWhole(LProofBench$Row;Z)Z
theorem pl_69_0 {n : Nat} {r1 : Nat} {x2 : Int32} {s : ps_S} {Q : Option Value → ps_S → Prop} (h :
  pl_Cl n 91 [.ref (ps_r (ps_ur s 902 6 r1) 902 6)] (ps_ur s 902 6 r1) (ps_rV (fun s1 =>
    (x2 = 0 →
      pl_Cl n 70 [.ref 902, .int 0] (ps_ui s1 902 7 0) (ps_rI (fun v2 s2 =>
        pl_nk (decide (v2 &&& 1 = v2)) (Q (some (.int v2)) s2)))) ∧
    (x2 ≠ 0 →
      pl_Cl n 76 [.ref 902, .int 0] (ps_ui s1 902 7 0) (ps_rI (fun v3 s3 =>
        pl_nk (decide (v3 &&& 1 = v3)) (Q (some (.int v3)) s3))))))) : pl_At (n + 1) 69 0 [(0, .ref 902), (1, .ref r1), (2, .int x2)] [] s Q :=
  pl_wp_at (stops := []) (f := 22) h rfl

-- ProofBench$Reader.takeSemicolon()Z
theorem pl_65_0 {n : Nat} {s : ps_S} {Q : Option Value → ps_S → Prop} (h :
  ((ps_i s 903 4) = 5 →
    pl_Cl n 140 [.ref 903] s (ps_rV (fun s1 =>
      Q (some (.int 1)) s1))) ∧
  ((ps_i s 903 4) ≠ 5 →
    pl_Cl n 62 [.ref 902, .int 2] s (ps_rI (fun v2 s2 =>
      pl_nk (decide (v2 &&& 1 = v2)) (Q (some (.int v2)) s2))))) : pl_At (n + 1) 65 0 [(0, .ref 902)] [] s Q :=
  pl_wp_at (stops := []) (f := 16) h rfl

-- ProofBench$Reader.takeSymbol(I)Z
theorem pl_63_0 {n : Nat} {x1 : Int32} {s : ps_S} {Q : Option Value → ps_S → Prop} (h :
  ((ps_i s 903 4) = 2 →
    pl_Cl n 130 [.ref (ps_r s 902 5), .long (ps_j s 903 8)] s (ps_rI (fun v1 s1 =>
      (v1 = 0 →
        pl_Cl n 140 [.ref 903] s1 (ps_rV (fun s2 =>
          ((ps_i s2 903 4) = 4 →
            ((ps_i s2 903 7) ≤ 2 →
              pl_Cl n 140 [.ref 903] s2 (ps_rV (fun s3 =>
                pl_Cl n 65 [.ref 902] s3 (ps_rI (fun v4 s4 =>
                  (v4 ≠ 0 →
                    pl_Cl n 133 [.ref (ps_r s4 902 5), .int x1, .long (ps_j s 903 8), .int (ps_i s2 903 7)] s4 (ps_rV (fun s5 =>
                      Q (some (.int 1)) s5))) ∧
                  (v4 = 0 →
                    Q (some (.int 0)) s4)))))) ∧
            (2 < (ps_i s2 903 7) →
              pl_Cl n 62 [.ref 902, .int 4] s2 (ps_rI (fun v6 s6 =>
                pl_nk (decide (v6 &&& 1 = v6)) (Q (some (.int v6)) s6))))) ∧
          ((ps_i s2 903 4) ≠ 4 →
            pl_Cl n 62 [.ref 902, .int 2] s2 (ps_rI (fun v7 s7 =>
              pl_nk (decide (v7 &&& 1 = v7)) (Q (some (.int v7)) s7))))))) ∧
      (v1 ≠ 0 →
        pl_Cl n 62 [.ref 902, .int 3] s1 (ps_rI (fun v8 s8 =>
          pl_nk (decide (v8 &&& 1 = v8)) (Q (some (.int v8)) s8))))))) ∧
  ((ps_i s 903 4) ≠ 2 →
    pl_Cl n 62 [.ref 902, .int 2] s (ps_rI (fun v9 s9 =>
      pl_nk (decide (v9 &&& 1 = v9)) (Q (some (.int v9)) s9))))) : pl_At (n + 1) 63 0 [(0, .ref 902), (1, .int x1)] [] s Q :=
  pl_wp_at (stops := []) (f := 63) h rfl

-- ProofBench$Reader.takeAxiom()Z
theorem pl_64_0 {n : Nat} {s : ps_S} {Q : Option Value → ps_S → Prop} (h :
  ((ps_i s 903 4) = 2 →
    pl_Cl n 129 [.ref (ps_r s 902 5), .long (ps_j s 903 8)] s (ps_rI (fun v1 s1 =>
      (v1 = (-1) →
        pl_Cl n 140 [.ref 903] s1 (ps_rV (fun s2 =>
          pl_nk (ps_is (ps_r (ps_ui s2 902 8 1) 902 5) 9) (pl_Cl n 135 [.ref (ps_r (ps_ui s2 902 8 1) 902 5), .int (ps_i (ps_ui s2 902 8 1) (ps_r (ps_ui s2 902 8 1) 902 5) 8)] (ps_ui s2 902 8 1) (ps_rA (fun v3 s3 =>
            pl_Cl n 69 [.ref 902, .ref v3, .int 0] s3 (ps_rI (fun v4 s4 =>
              (v4 = 0 →
                Q (some (.int 0)) s4) ∧
              (v4 ≠ 0 →
                pl_Cl n 65 [.ref 902] s4 (ps_rI (fun v5 s5 =>
                  (v5 ≠ 0 →
                    pl_Cl n 134 [.ref (ps_r s5 902 5), .long (ps_j s 903 8)] s5 (ps_rV (fun s6 =>
                      Q (some (.int 1)) s6))) ∧
                  (v5 = 0 →
                    Q (some (.int 0)) s5)))))))))))) ∧
      (v1 ≠ (-1) →
        pl_Cl n 62 [.ref 902, .int 3] s1 (ps_rI (fun v7 s7 =>
          pl_nk (decide (v7 &&& 1 = v7)) (Q (some (.int v7)) s7))))))) ∧
  ((ps_i s 903 4) ≠ 2 →
    pl_Cl n 62 [.ref 902, .int 2] s (ps_rI (fun v8 s8 =>
      pl_nk (decide (v8 &&& 1 = v8)) (Q (some (.int v8)) s8))))) : pl_At (n + 1) 64 0 [(0, .ref 902)] [] s Q :=
  pl_wp_at (stops := []) (f := 54) h rfl

-- ProofBench$Tokens.begin([BI)V
theorem pl_139_0 {n : Nat} {r1 : Nat} {x2 : Int32} {s : ps_S} {Q : Option Value → ps_S → Prop} (h :
  pl_Cl n 140 [.ref 903] (ps_ui (ps_ui (ps_ur s 903 1 r1) 903 2 x2) 903 3 0) (ps_rV (fun s1 =>
    Q none s1))) : pl_At (n + 1) 139 0 [(0, .ref 903), (1, .ref r1), (2, .int x2)] [] s Q :=
  pl_wp_at (stops := []) (f := 14) h rfl

-- ProofBench$Reader.begin([BILProofBench$Theory;)V
theorem pl_61_0 {n : Nat} {r1 : Nat} {x2 : Int32} {r3 : Nat} {s : ps_S} {Q : Option Value → ps_S → Prop} (h :
  pl_Cl n 139 [.ref 903, .ref r1, .int x2] (ps_ui (ps_ui (ps_ui (ps_ui (ps_ui (ps_ur s 902 5 r3) 902 2 0) 902 4 0) 902 8 0) 902 9 0) 902 10 (-1)) (ps_rV (fun s1 =>
    Q none s1))) : pl_At (n + 1) 61 0 [(0, .ref 902), (1, .ref r1), (2, .int x2), (3, .ref r3)] [] s Q :=
  pl_wp_at (stops := []) (f := 26) h rfl

-- ProofBench$Reader.takeTheory([BILProofBench$Theory;)Z
theorem pl_58_0 {n : Nat} {r1 : Nat} {x2 : Int32} {r3 : Nat} {s : ps_S} {Q : Option Value → ps_S → Prop} (h :
  pl_Cl n 126 [.ref r3] s (ps_rV (fun s1 =>
    pl_Cl n 61 [.ref 902, .ref r1, .int x2, .ref r3] s1 (ps_rV (fun s2 =>
      pl_At n 58 18 [(0, .ref 902), (4, .int 19), (5, .int 0)] [] s2 Q))))) : pl_At (n + 1) 58 0 [(0, .ref 902), (1, .ref r1), (2, .int x2), (3, .ref r3)] [] s Q :=
  pl_wp_at (stops := [(18, [0, 4, 5]), (65, [0, 4, 5, 6]), (77, [0])]) (f := 13) h rfl

theorem pl_58_18 {n : Nat} {x4 : Int32} {x5 : Int32} {s : ps_S} {Q : Option Value → ps_S → Prop} (h :
  (x4 ≤ x5 →
    Q (some (.int 1)) s) ∧
  (x5 < x4 →
    ((ps_i s 903 4) = 0 →
      Q (some (.int 1)) s) ∧
    ((ps_i s 903 4) ≠ 0 →
      ((ps_i s 903 6) = 8 →
        pl_At n 58 65 [(0, .ref 902), (4, .int x4), (5, .int x5), (6, .int (ps_i s 903 6))] [] s Q) ∧
      ((ps_i s 903 6) ≠ 8 →
        ((ps_i s 903 6) = 9 →
          pl_At n 58 65 [(0, .ref 902), (4, .int x4), (5, .int x5), (6, .int (ps_i s 903 6))] [] s Q) ∧
        ((ps_i s 903 6) ≠ 9 →
          ((ps_i s 903 6) ≠ 10 →
            pl_At n 58 77 [(0, .ref 902)] [] s Q) ∧
          ((ps_i s 903 6) = 10 →
            pl_At n 58 65 [(0, .ref 902), (4, .int x4), (5, .int x5), (6, .int (ps_i s 903 6))] [] s Q)))))) : pl_At (n + 1) 58 18 [(0, .ref 902), (4, .int x4), (5, .int x5)] [] s Q :=
  pl_wp_at (stops := [(18, [0, 4, 5]), (65, [0, 4, 5, 6]), (77, [0])]) (f := 26) h rfl

theorem pl_58_65 {n : Nat} {x4 : Int32} {x5 : Int32} {x6 : Int32} {s : ps_S} {Q : Option Value → ps_S → Prop} (h :
  pl_Cl n 132 [.ref (ps_r s 902 5), .int x6] s (ps_rI (fun v1 s1 =>
    (v1 = 0 →
      pl_Cl n 140 [.ref 903] s1 (ps_rV (fun s2 =>
        (x6 ≠ 10 →
          pl_Cl n 63 [.ref 902, .int x6] s2 (ps_rI (fun v3 s3 =>
            (v3 ≠ 0 →
              pl_At n 58 18 [(0, .ref 902), (4, .int x4), (5, .int (x5 + 1))] [] s3 Q) ∧
            (v3 = 0 →
              Q (some (.int 0)) s3)))) ∧
        (x6 = 10 →
          pl_Cl n 64 [.ref 902] s2 (ps_rI (fun v4 s4 =>
            (v4 = 0 →
              Q (some (.int 0)) s4) ∧
            (v4 ≠ 0 →
              pl_At n 58 18 [(0, .ref 902), (4, .int x4), (5, .int (x5 + 1))] [] s4 Q))))))) ∧
    (v1 ≠ 0 →
      pl_At n 58 77 [(0, .ref 902)] [] s1 Q)))) : pl_At (n + 1) 58 65 [(0, .ref 902), (4, .int x4), (5, .int x5), (6, .int x6)] [] s Q :=
  pl_wp_at (stops := [(18, [0, 4, 5]), (65, [0, 4, 5, 6]), (77, [0])]) (f := 29) h rfl

theorem pl_58_77 {n : Nat} {s : ps_S} {Q : Option Value → ps_S → Prop} (h :
  pl_Cl n 62 [.ref 902, .int 2] s (ps_rI (fun v1 s1 =>
    pl_nk (decide (v1 &&& 1 = v1)) (Q (some (.int v1)) s1)))) : pl_At (n + 1) 58 77 [(0, .ref 902)] [] s Q :=
  pl_wp_at (stops := [(18, [0, 4, 5]), (65, [0, 4, 5, 6]), (77, [0])]) (f := 6) h rfl

theorem cv_H_ax {s : ps_S} {th : Nat} {h : tx_H} (H : cv_H s th h) : ∀ k w, (tx_A h)[k]? = some w → tx_w w ∧ ps_b s (th + 3) k = tx_x w := fun k w e => by
  unfold tx_A at e
  rw [List.getElem?_map] at e
  obtain ⟨q, h1, rfl⟩ := Option.map_eq_some_iff.mp e
  obtain ⟨z1, z2, z3⟩ := H.2.2.2 k q.1 q.2 h1
  exact ⟨z1, z2⟩
theorem fs_129 {n : Nat} {th : Nat} {h : tx_H} {w : List Nat} {l1 : Int64} {s : ps_S} {R : Int32 → ps_S → Prop} (hth : th = 2 ∨ th = 26) (H : cv_H s th h) (hw : tx_w w) (hl : l1 = tx_x w) (k : ∀ v : Int32, tx_opt (tx_at (tx_A h) w) v → R v s) : pl_Cl n 129 [.ref th, .long l1] s (ps_rI R) := by
  cases n with
  | zero => exact pl_At_0
  | succ n =>
  show pl_At (n + 1) 129 0 [(0, .ref th), (1, .long l1)] [] s (ps_rI R)
  have t := cv_th5 hth
  have hlen : (tx_A h).length = h.2.length := List.length_map ..
  refine pl_129_0 ?_
  refine pl_nk_i (fun nk1 => ?_)
  refine pl_nk_i (fun nk5 => ?_)
  rw [t.2.2.2.2.2.1]
  refine fs_131 (L := tx_A h) hw hl (cv_H_ax H) (by rw [hlen]; exact H.2.1) (by rw [hlen, t.2.2.2.2.2.2.2.2.2.1]; exact H.2.2.1) (by rw [t.2.2.2.2.2.2.2.2.2.1]; decide) (fun v9 q9 => ?_)
  exact k _ q9
theorem fs_126 {n th : Nat} {s : ps_S} {R : ps_S → Prop} (k : R (ps_ui (ps_ui (ps_ui s th 6 0) th 7 0) th 8 0)) : pl_Cl n 126 [.ref th] s (ps_rV R) := by
  cases n with
  | zero => exact pl_At_0
  | succ n =>
  show pl_At (n + 1) 126 0 [(0, .ref th)] [] s (ps_rV R)
  refine pl_126_0 ?_
  refine pl_nk_i (fun nk2 => ?_)
  refine pl_nk_i (fun nk7 => ?_)
  refine pl_nk_i (fun nk12 => ?_)
  exact k
theorem fs_132 {n : Nat} {th : Nat} {h : tx_H} {x1 : Int32} {s : ps_S} {R : Int32 → ps_S → Prop} (H : cv_H s th h) (k1 : ¬ ((x1.toInt = 8 ∧ h.1.1.length < 6) ∨ (x1.toInt = 9 ∧ h.1.2.length < 4) ∨ (x1.toInt ≠ 8 ∧ x1.toInt ≠ 9 ∧ h.2.length < 8)) → R 1 s) (k0 : ((x1.toInt = 8 ∧ h.1.1.length < 6) ∨ (x1.toInt = 9 ∧ h.1.2.length < 4) ∨ (x1.toInt ≠ 8 ∧ x1.toInt ≠ 9 ∧ h.2.length < 8)) → R 0 s) : pl_Cl n 132 [.ref th, .int x1] s (ps_rI R) := by
  cases n with
  | zero => exact pl_At_0
  | succ n =>
  show pl_At (n + 1) 132 0 [(0, .ref th), (1, .int x1)] [] s (ps_rI R)
  have a1 := H.1.1
  have a2 := H.1.2.1
  have a3 := H.2.1
  refine pl_132_0 ?_
  refine ⟨fun h1_8 => ?_, fun h1_8 => ?_⟩
  · have h1_8 : x1.toInt = (8 : Int) := xeq h1_8
    refine pl_nk_i (fun nk29 => ?_)
    refine ⟨fun h34 => ?_, fun h34 => ?_⟩
    · have h34 : (ps_i s th 6).toInt < (6 : Int) := xlt h34
      exact k0 (by omega)
    · have h34 : (6 : Int) ≤ (ps_i s th 6).toInt := xle h34
      exact k1 (by omega)
  have h1_8 : x1.toInt ≠ (8 : Int) := xne h1_8
  refine ⟨fun h1_9 => ?_, fun h1_9 => ?_⟩
  · have h1_9 : x1.toInt = (9 : Int) := xeq h1_9
    refine pl_nk_i (fun nk44 => ?_)
    refine ⟨fun h48 => ?_, fun h48 => ?_⟩
    · have h48 : (ps_i s th 7).toInt < (4 : Int) := xlt h48
      exact k0 (by omega)
    · have h48 : (4 : Int) ≤ (ps_i s th 7).toInt := xle h48
      exact k1 (by omega)
  have h1_9 : x1.toInt ≠ (9 : Int) := xne h1_9
  refine pl_nk_i (fun nk58 => ?_)
  refine ⟨fun h63 => ?_, fun h63 => ?_⟩
  · have h63 : (ps_i s th 8).toInt < (8 : Int) := xlt h63
    exact k0 (by omega)
  · have h63 : (8 : Int) ≤ (ps_i s th 8).toInt := xle h63
    exact k1 (by omega)
theorem fs_183 {n r0 a : Nat} {x1 x2 : Int32} {s : ps_S} {R : ps_S → Prop} (hx : x1.toInt = a) (ha : a < ps_ln r0) (hl : ps_ln r0 ≤ 20000) (k : R (ps_ua s r0 a x2)) : pl_Cl n 183 [.ref r0, .int x1, .int x2] s (ps_rV R) := by
  cases n with
  | zero => exact pl_At_0
  | succ n =>
  show pl_At (n + 1) 183 0 [(0, .ref r0), (1, .int x1), (2, .int x2)] [] s (ps_rV R)
  have h40 : (nI (ps_ln r0)).toInt = (ps_ln r0 : Nat) := nI_i (by omega)
  refine pl_183_0 ?_
  refine ⟨fun h1 => ?_, fun h1 => ?_⟩
  · have h1 : x1.toInt < (0 : Int) := xlt h1
    exfalso; omega
  · have h1 : (0 : Int) ≤ x1.toInt := xle h1
    refine pl_nk_i (fun nk6 => ?_)
    refine ⟨fun h7 => ?_, fun h7 => ?_⟩
    · have h7 : (nI (ps_ln r0)).toInt ≤ x1.toInt := xle h7
      exfalso; omega
    · have h7 : x1.toInt < (nI (ps_ln r0)).toInt := xlt h7
      refine pl_nk_i (fun nk13 => ?_)
      intro b13
      obtain ⟨b13, c13⟩ := pl_in b13
      rw [xtn hx]
      exact k

theorem tx_snoc {α : Type} {l : List α} {x y : α} {k : Nat} (h : (l ++ [x])[k]? = some y) : (k < l.length ∧ l[k]? = some y) ∨ (k = l.length ∧ y = x) := by
  by_cases e : k = l.length
  · right
    rw [e, List.getElem?_append_right (Nat.le_refl _), Nat.sub_self] at h
    cases h
    exact ⟨e, rfl⟩
  · left
    have hk : k < l.length := by
      have := (List.getElem?_eq_some_iff.mp h).1
      rw [List.length_append] at this
      have : k < l.length + 1 := this
      omega
    rw [List.getElem?_append_left hk] at h
    exact ⟨hk, h⟩
theorem tx_at_mem {L : List (List Nat)} {w : List Nat} (h : tx_at L w = none) : ¬ w ∈ L := fun z => by
  obtain ⟨k, hk, e⟩ := List.getElem_of_mem z
  exact tx_ix_none h k (by rw [List.getElem?_eq_getElem hk, e])
theorem cv_H_rel {s : ps_S} {th a : Nat} {h : tx_H} {w : List Nat} {x4 : Int32} {l2 : Int64} (H : cv_H s th h) (hlt : h.1.1.length < 6) (hw : tx_w w) (ha : a ≤ 2) (hl : l2 = tx_x w) (hx : x4.toInt = a) (h1 : tx_at (h.1.1.map Prod.fst) w = none) (h2 : tx_at (h.1.2.map Prod.fst) w = none) : cv_H (ps_ui (ps_ub (ps_ua s (th + 4) (10 + h.1.1.length) x4) (th + 1) h.1.1.length l2) th 6 (ps_i s th 6 + 1)) th ((h.1.1 ++ [(w, a)], h.1.2), h.2) := by
  obtain ⟨⟨e1, e2, e3, e4, e5, e6, ⟨a0, a1, a2, a3, a4, a5, a6⟩, e8⟩, f2, f3, f4⟩ := H
  have ea : ∀ j, j ≠ 10 + h.1.1.length → ps_a (ps_ua s (th + 4) (10 + h.1.1.length) x4) (th + 4) j = ps_a s (th + 4) j := fun j hj => by rw [ps_a_ua, if_neg (fun z => hj z.2)]
  have e2' : (ps_i (ps_ui (ps_ub (ps_ua s (th + 4) (10 + h.1.1.length) x4) (th + 1) h.1.1.length l2) th 6 (ps_i s th 6 + 1)) th 7).toInt = h.1.2.length := by rw [ps_i_ui, if_neg (by omega)]; exact e2
  have f2' : (ps_i (ps_ui (ps_ub (ps_ua s (th + 4) (10 + h.1.1.length) x4) (th + 1) h.1.1.length l2) th 6 (ps_i s th 6 + 1)) th 8).toInt = h.2.length := by rw [ps_i_ui, if_neg (by omega)]; exact f2
  refine ⟨⟨?_, e2', ?_, e4, fun k w' a' hk => ?_, fun k w' a' hk => ?_, ⟨?_, ?_, ?_, ?_, ?_, ?_, ?_⟩, fun w' m1 m2 => ?_⟩, f2', f3, fun k w' l' hk => ?_⟩
  · rw [ps_i_ui, if_pos ⟨rfl, rfl⟩, List.length_append]
    exact xj1 e1 (by omega)
  · rw [List.length_append]
    show h.1.1.length + 1 ≤ 6
    omega
  · show tx_w w' ∧ a' ≤ 2 ∧ ps_b (ps_ub (ps_ua s (th + 4) (10 + h.1.1.length) x4) (th + 1) h.1.1.length l2) (th + 1) k = tx_x w' ∧ (ps_a (ps_ua s (th + 4) (10 + h.1.1.length) x4) (th + 4) (10 + k)).toInt = a'
    rw [ps_b_ub]
    rcases tx_snoc hk with ⟨z1, z2⟩ | ⟨z1, z2⟩
    · rw [if_neg (by omega), ea _ (by omega)]
      exact e5 k w' a' z2
    · cases z2
      rw [if_pos ⟨rfl, z1⟩, ps_a_ua, if_pos ⟨rfl, by omega⟩]
      exact ⟨hw, ha, hl, hx⟩
  · show tx_w w' ∧ a' ≤ 2 ∧ ps_b (ps_ub (ps_ua s (th + 4) (10 + h.1.1.length) x4) (th + 1) h.1.1.length l2) (th + 2) k = tx_x w' ∧ (ps_a (ps_ua s (th + 4) (10 + h.1.1.length) x4) (th + 4) (20 + k)).toInt = a'
    rw [ps_b_ub, if_neg (by omega), ea _ (by omega)]
    exact e6 k w' a' hk
  · show (ps_a (ps_ua s (th + 4) (10 + h.1.1.length) x4) (th + 4) 0).toInt = 0
    rw [ea _ (by omega)]; exact a0
  · show (ps_a (ps_ua s (th + 4) (10 + h.1.1.length) x4) (th + 4) 1).toInt = 2
    rw [ea _ (by omega)]; exact a1
  · show (ps_a (ps_ua s (th + 4) (10 + h.1.1.length) x4) (th + 4) 2).toInt = 2
    rw [ea _ (by omega)]; exact a2
  · show (ps_a (ps_ua s (th + 4) (10 + h.1.1.length) x4) (th + 4) 3).toInt = 2
    rw [ea _ (by omega)]; exact a3
  · show (ps_a (ps_ua s (th + 4) (10 + h.1.1.length) x4) (th + 4) 4).toInt = 1
    rw [ea _ (by omega)]; exact a4
  · show (ps_a (ps_ua s (th + 4) (10 + h.1.1.length) x4) (th + 4) 5).toInt = 1
    rw [ea _ (by omega)]; exact a5
  · show (ps_a (ps_ua s (th + 4) (10 + h.1.1.length) x4) (th + 4) 6).toInt = 2
    rw [ea _ (by omega)]; exact a6
  · rw [List.map_append] at m1
    rcases List.mem_append.mp m1 with m1 | m1
    · exact e8 w' m1 m2
    · have m1 : w' ∈ [w] := m1
      rw [List.mem_singleton] at m1
      rw [m1] at m2
      exact tx_at_mem h2 m2
  · obtain ⟨z1, z2, z3⟩ := f4 k w' l' hk
    refine ⟨z1, ?_, ?_⟩
    · show ps_b (ps_ub (ps_ua s (th + 4) (10 + h.1.1.length) x4) (th + 1) h.1.1.length l2) (th + 3) k = _
      rw [ps_b_ub, if_neg (by omega)]
      exact z2
    · refine cv_W_cfr z3 (C := fun q => q = th ∨ q = th + 1 ∨ q = th + 4) (cfr_i (cfr_b (cfr_a cfr_refl (Or.inr (Or.inr rfl))) (Or.inr (Or.inl rfl))) (Or.inl rfl)) (fun z => ?_) (fun z => ?_)
      · have z : th + 8 + 2 * k = th ∨ th + 8 + 2 * k = th + 1 ∨ th + 8 + 2 * k = th + 4 := z
        omega
      · have z : th + 8 + 2 * k + 1 = th ∨ th + 8 + 2 * k + 1 = th + 1 ∨ th + 8 + 2 * k + 1 = th + 4 := z
        omega

theorem cv_H_fun {s : ps_S} {th a : Nat} {h : tx_H} {w : List Nat} {x4 : Int32} {l2 : Int64} (H : cv_H s th h) (hlt : h.1.2.length < 4) (hw : tx_w w) (ha : a ≤ 2) (hl : l2 = tx_x w) (hx : x4.toInt = a) (h1 : tx_at (h.1.1.map Prod.fst) w = none) (h2 : tx_at (h.1.2.map Prod.fst) w = none) : cv_H (ps_ui (ps_ub (ps_ua s (th + 4) (20 + h.1.2.length) x4) (th + 2) h.1.2.length l2) th 7 (ps_i s th 7 + 1)) th ((h.1.1, h.1.2 ++ [(w, a)]), h.2) := by
  obtain ⟨⟨e1, e2, e3, e4, e5, e6, ⟨a0, a1, a2, a3, a4, a5, a6⟩, e8⟩, f2, f3, f4⟩ := H
  have ea : ∀ j, j ≠ 20 + h.1.2.length → ps_a (ps_ua s (th + 4) (20 + h.1.2.length) x4) (th + 4) j = ps_a s (th + 4) j := fun j hj => by rw [ps_a_ua, if_neg (fun z => hj z.2)]
  have e1' : (ps_i (ps_ui (ps_ub (ps_ua s (th + 4) (20 + h.1.2.length) x4) (th + 2) h.1.2.length l2) th 7 (ps_i s th 7 + 1)) th 6).toInt = h.1.1.length := by rw [ps_i_ui, if_neg (by omega)]; exact e1
  have f2' : (ps_i (ps_ui (ps_ub (ps_ua s (th + 4) (20 + h.1.2.length) x4) (th + 2) h.1.2.length l2) th 7 (ps_i s th 7 + 1)) th 8).toInt = h.2.length := by rw [ps_i_ui, if_neg (by omega)]; exact f2
  refine ⟨⟨e1', ?_, e3, ?_, fun k w' a' hk => ?_, fun k w' a' hk => ?_, ⟨?_, ?_, ?_, ?_, ?_, ?_, ?_⟩, fun w' m1 m2 => ?_⟩, f2', f3, fun k w' l' hk => ?_⟩
  · rw [ps_i_ui, if_pos ⟨rfl, rfl⟩, List.length_append]
    exact xj1 e2 (by omega)
  · rw [List.length_append]
    show h.1.2.length + 1 ≤ 4
    omega
  · show tx_w w' ∧ a' ≤ 2 ∧ ps_b (ps_ub (ps_ua s (th + 4) (20 + h.1.2.length) x4) (th + 2) h.1.2.length l2) (th + 1) k = tx_x w' ∧ (ps_a (ps_ua s (th + 4) (20 + h.1.2.length) x4) (th + 4) (10 + k)).toInt = a'
    have hk6 : k < h.1.1.length := (List.getElem?_eq_some_iff.mp hk).1
    rw [ps_b_ub, if_neg (by omega), ea _ (by omega)]
    exact e5 k w' a' hk
  · show tx_w w' ∧ a' ≤ 2 ∧ ps_b (ps_ub (ps_ua s (th + 4) (20 + h.1.2.length) x4) (th + 2) h.1.2.length l2) (th + 2) k = tx_x w' ∧ (ps_a (ps_ua s (th + 4) (20 + h.1.2.length) x4) (th + 4) (20 + k)).toInt = a'
    rw [ps_b_ub]
    rcases tx_snoc hk with ⟨z1, z2⟩ | ⟨z1, z2⟩
    · rw [if_neg (by omega), ea _ (by omega)]
      exact e6 k w' a' z2
    · cases z2
      rw [if_pos ⟨rfl, z1⟩, ps_a_ua, if_pos ⟨rfl, by omega⟩]
      exact ⟨hw, ha, hl, hx⟩
  · show (ps_a (ps_ua s (th + 4) (20 + h.1.2.length) x4) (th + 4) 0).toInt = 0
    rw [ea _ (by omega)]; exact a0
  · show (ps_a (ps_ua s (th + 4) (20 + h.1.2.length) x4) (th + 4) 1).toInt = 2
    rw [ea _ (by omega)]; exact a1
  · show (ps_a (ps_ua s (th + 4) (20 + h.1.2.length) x4) (th + 4) 2).toInt = 2
    rw [ea _ (by omega)]; exact a2
  · show (ps_a (ps_ua s (th + 4) (20 + h.1.2.length) x4) (th + 4) 3).toInt = 2
    rw [ea _ (by omega)]; exact a3
  · show (ps_a (ps_ua s (th + 4) (20 + h.1.2.length) x4) (th + 4) 4).toInt = 1
    rw [ea _ (by omega)]; exact a4
  · show (ps_a (ps_ua s (th + 4) (20 + h.1.2.length) x4) (th + 4) 5).toInt = 1
    rw [ea _ (by omega)]; exact a5
  · show (ps_a (ps_ua s (th + 4) (20 + h.1.2.length) x4) (th + 4) 6).toInt = 2
    rw [ea _ (by omega)]; exact a6
  · rw [List.map_append] at m2
    rcases List.mem_append.mp m2 with m2 | m2
    · exact e8 w' m1 m2
    · have m2 : w' ∈ [w] := m2
      rw [List.mem_singleton] at m2
      rw [m2] at m1
      exact tx_at_mem h1 m1
  · obtain ⟨z1, z2, z3⟩ := f4 k w' l' hk
    refine ⟨z1, ?_, ?_⟩
    · show ps_b (ps_ub (ps_ua s (th + 4) (20 + h.1.2.length) x4) (th + 2) h.1.2.length l2) (th + 3) k = _
      rw [ps_b_ub, if_neg (by omega)]
      exact z2
    · refine cv_W_cfr z3 (C := fun q => q = th ∨ q = th + 2 ∨ q = th + 4) (cfr_i (cfr_b (cfr_a cfr_refl (Or.inr (Or.inr rfl))) (Or.inr (Or.inl rfl))) (Or.inl rfl)) (fun z => ?_) (fun z => ?_)
      · have z : th + 8 + 2 * k = th ∨ th + 8 + 2 * k = th + 2 ∨ th + 8 + 2 * k = th + 4 := z
        omega
      · have z : th + 8 + 2 * k + 1 = th ∨ th + 8 + 2 * k + 1 = th + 2 ∨ th + 8 + 2 * k + 1 = th + 4 := z
        omega

theorem cv_H_axm {s : ps_S} {th : Nat} {h : tx_H} {w l : List Nat} {l1 : Int64} (H : cv_H s th h) (hlt : h.2.length < 8) (hw : tx_w w) (hl : l1 = tx_x w) (hW : cv_W s (th + 8 + 2 * h.2.length) l) : cv_H (ps_ui (ps_ub s (th + 3) h.2.length l1) th 8 (ps_i s th 8 + 1)) th (h.1, h.2 ++ [(w, l)]) := by
  obtain ⟨f1, f2, f3, f4⟩ := H
  have F : cfr (fun q => q = th + 3) s (ps_ub s (th + 3) h.2.length l1) := cfr_b cfr_refl rfl
  have F2 : cfr (fun q => q = th ∨ q = th + 3) s (ps_ui (ps_ub s (th + 3) h.2.length l1) th 8 (ps_i s th 8 + 1)) := cfr_i (cfr_b cfr_refl (Or.inr rfl)) (Or.inl rfl)
  have no : ∀ q, th + 8 ≤ q → ¬ (q = th ∨ q = th + 3) := fun q hq => by omega
  refine ⟨?_, ?_, ?_, fun k w' l' hk => ?_⟩
  · have E := cv_E_cfr f1 F (fun z => by have z : th = th + 3 := z; omega) (fun z => by have z : th + 1 = th + 3 := z; omega) (fun z => by have z : th + 2 = th + 3 := z; omega) (fun z => by have z : th + 4 = th + 3 := z; omega)
    unfold cv_E at *
    rw [ps_i_ui, ps_i_ui, if_neg (by omega), if_neg (by omega)]
    exact E
  · rw [ps_i_ui, if_pos ⟨rfl, rfl⟩, List.length_append]
    exact xj1 f2 (by omega)
  · rw [List.length_append]
    show h.2.length + 1 ≤ 8
    omega
  · show tx_w w' ∧ ps_b (ps_ub s (th + 3) h.2.length l1) (th + 3) k = tx_x w' ∧ _
    rw [ps_b_ub]
    rcases tx_snoc hk with ⟨z1, z2⟩ | ⟨z1, z2⟩
    · rw [if_neg (by omega)]
      obtain ⟨y1, y2, y3⟩ := f4 k w' l' z2
      exact ⟨y1, y2, cv_W_cfr y3 F2 (no _ (by omega)) (no _ (by omega))⟩
    · cases z2
      rw [if_pos ⟨rfl, z1⟩, z1]
      exact ⟨hw, hl, cv_W_cfr hW F2 (no _ (by omega)) (no _ (by omega))⟩

theorem cv_HCth {th : Nat} : cv_HC th th := Or.inl ⟨Nat.le_refl _, by omega⟩
theorem cv_HCk {th k : Nat} (h : k < 24) : cv_HC th (th + k) := Or.inl ⟨by omega, by omega⟩
theorem fs_133_r {n : Nat} {th a : Nat} {h : tx_H} {w : List Nat} {x1 x4 : Int32} {l2 : Int64} {s : ps_S} {R : ps_S → Prop} (hth : th = 2 ∨ th = 26) (H : cv_H s th h) (hx : x1.toInt = 8) (hlt : h.1.1.length < 6) (hw : tx_w w) (ha : a ≤ 2) (hl : l2 = tx_x w) (hx4 : x4.toInt = a) (h1 : tx_at (h.1.1.map Prod.fst) w = none) (h2 : tx_at (h.1.2.map Prod.fst) w = none) (k : ∀ s', cv_H s' th ((h.1.1 ++ [(w, a)], h.1.2), h.2) ∧ cfr (fun q => th ≤ q ∧ q < th + 24) s s' → R s') : pl_Cl n 133 [.ref th, .int x1, .long l2, .int x4] s (ps_rV R) := by
  cases n with
  | zero => exact pl_At_0
  | succ n =>
  show pl_At (n + 1) 133 0 [(0, .ref th), (1, .int x1), (2, .long l2), (4, .int x4)] [] s (ps_rV R)
  have e1 := H.1.1
  have t := cv_th5 hth
  have tA : (nI (ps_ln (ps_c0 th 0))).toInt = 6 := by rw [t.2.2.2.1, t.2.2.2.2.2.2.2.1]; decide
  have tB : (nI (ps_ln (ps_c0 th 1))).toInt = 4 := by rw [t.2.2.2.2.1, t.2.2.2.2.2.2.2.2.1]; decide
  have tC : (nI (ps_ln (ps_c0 th 2))).toInt = 8 := by rw [t.2.2.2.2.2.1, t.2.2.2.2.2.2.2.2.2.1]; decide
  have tD : ps_ln (th + 4) = 40 := t.2.2.2.2.2.2.2.2.2.2
  have tE : ps_c0 th 3 = th + 4 := t.2.2.2.2.2.2.1
  have h10 : (10 : Int32).toInt = 10 := by decide
  refine pl_133_0 ?_
  refine ⟨fun h3 => ?_, fun h3 => ?_⟩
  · have h3 : x1.toInt ≠ (8 : Int) := xne h3
    exfalso; omega
  · have h3 : x1.toInt = (8 : Int) := xeq h3
    refine pl_nk_i (fun nk7 => ?_)
    refine ⟨fun h10 => ?_, fun h10 => ?_⟩
    · have h10 : (ps_i s th 6).toInt < (0 : Int) := xlt h10
      exfalso; omega
    · have h10 : (0 : Int) ≤ (ps_i s th 6).toInt := xle h10
      refine pl_nk_i (fun nk14 => ?_)
      refine pl_nk_i (fun nk18 => ?_)
      refine pl_nk_i (fun nk21 => ?_)
      refine ⟨fun h22 => ?_, fun h22 => ?_⟩
      · have h22 : (nI (ps_ln (ps_c0 th 0))).toInt ≤ (ps_i s th 6).toInt := xle h22
        exfalso; omega
      · have h22 : (ps_i s th 6).toInt < (nI (ps_ln (ps_c0 th 0))).toInt := xlt h22
        refine pl_nk_i (fun nk26 => ?_)
        refine pl_nk_i (fun nk32 => ?_)
        rw [tE]
        refine fs_183 (a := 10 + h.1.1.length) (by rw [xIa (by omega) (by omega)]; omega) (by rw [tD]; omega) (by rw [tD]; decide) ?_
        refine pl_nk_i (fun nk42 => ?_)
        refine pl_nk_i (fun nk46 => ?_)
        refine pl_nk_i (fun nk50 => ?_)
        intro b50
        obtain ⟨b50, c50⟩ := pl_in b50
        refine pl_nk_i (fun nk53 => ?_)
        refine pl_nk_i (fun nk58 => ?_)
        have e1' : (ps_i (ps_ua s (th + 4) (10 + h.1.1.length) x4) th 6).toInt = h.1.1.length := e1
        rw [t.2.2.2.1, xtn e1']
        have F : cfr (fun q => th ≤ q ∧ q < th + 24) s (ps_ui (ps_ub (ps_ua s (th + 4) (10 + h.1.1.length) x4) (th + 1) h.1.1.length l2) th 6 (ps_i s th 6 + 1)) := cfr_i (cfr_b (cfr_a cfr_refl ⟨by omega, by omega⟩) ⟨by omega, by omega⟩) ⟨Nat.le_refl _, by omega⟩
        cases n with
        | zero => exact pl_At_0
        | succ n =>
        refine pl_133_61 ?_
        refine ⟨fun h67 => ?_, fun h67 => ?_⟩
        · exact k _ ⟨cv_H_rel H hlt hw ha hl hx4 h1 h2, F⟩
        · have h67 : x1.toInt = (9 : Int) := xeq h67
          exfalso
          omega

theorem fs_133_f {n : Nat} {th a : Nat} {h : tx_H} {w : List Nat} {x1 x4 : Int32} {l2 : Int64} {s : ps_S} {R : ps_S → Prop} (hth : th = 2 ∨ th = 26) (H : cv_H s th h) (hx : x1.toInt = 9) (hlt : h.1.2.length < 4) (hw : tx_w w) (ha : a ≤ 2) (hl : l2 = tx_x w) (hx4 : x4.toInt = a) (h1 : tx_at (h.1.1.map Prod.fst) w = none) (h2 : tx_at (h.1.2.map Prod.fst) w = none) (k : ∀ s', cv_H s' th ((h.1.1, h.1.2 ++ [(w, a)]), h.2) ∧ cfr (fun q => th ≤ q ∧ q < th + 24) s s' → R s') : pl_Cl n 133 [.ref th, .int x1, .long l2, .int x4] s (ps_rV R) := by
  cases n with
  | zero => exact pl_At_0
  | succ n =>
  show pl_At (n + 1) 133 0 [(0, .ref th), (1, .int x1), (2, .long l2), (4, .int x4)] [] s (ps_rV R)
  have e1 := H.1.2.1
  have t := cv_th5 hth
  have tA : (nI (ps_ln (ps_c0 th 0))).toInt = 6 := by rw [t.2.2.2.1, t.2.2.2.2.2.2.2.1]; decide
  have tB : (nI (ps_ln (ps_c0 th 1))).toInt = 4 := by rw [t.2.2.2.2.1, t.2.2.2.2.2.2.2.2.1]; decide
  have tC : (nI (ps_ln (ps_c0 th 2))).toInt = 8 := by rw [t.2.2.2.2.2.1, t.2.2.2.2.2.2.2.2.2.1]; decide
  have tD : ps_ln (th + 4) = 40 := t.2.2.2.2.2.2.2.2.2.2
  have tE : ps_c0 th 3 = th + 4 := t.2.2.2.2.2.2.1
  have h20 : (20 : Int32).toInt = 20 := by decide
  refine pl_133_0 ?_
  refine ⟨fun hh2 => ?_, fun hh2 => ?_⟩
  · cases n with
    | zero => exact pl_At_0
    | succ n =>
    refine pl_133_61 ?_
    refine ⟨fun h64 => ?_, fun h64 => ?_⟩
    · have h64 : x1.toInt ≠ (9 : Int) := xne h64
      exfalso; omega
    · have h64 : x1.toInt = (9 : Int) := xeq h64
      refine pl_nk_i (fun nk68 => ?_)
      refine ⟨fun h71 => ?_, fun h71 => ?_⟩
      · have h71 : (ps_i s th 7).toInt < (0 : Int) := xlt h71
        exfalso; omega
      · have h71 : (0 : Int) ≤ (ps_i s th 7).toInt := xle h71
        refine pl_nk_i (fun nk75 => ?_)
        refine pl_nk_i (fun nk79 => ?_)
        refine pl_nk_i (fun nk82 => ?_)
        refine ⟨fun h83 => ?_, fun h83 => ?_⟩
        · have h83 : (nI (ps_ln (ps_c0 th 1))).toInt ≤ (ps_i s th 7).toInt := xle h83
          exfalso; omega
        · have h83 : (ps_i s th 7).toInt < (nI (ps_ln (ps_c0 th 1))).toInt := xlt h83
          refine pl_nk_i (fun nk87 => ?_)
          refine pl_nk_i (fun nk93 => ?_)
          rw [tE]
          refine fs_183 (a := 20 + h.1.2.length) (by rw [xIa (by omega) (by omega)]; omega) (by rw [tD]; omega) (by rw [tD]; decide) ?_
          refine pl_nk_i (fun nk103 => ?_)
          refine pl_nk_i (fun nk107 => ?_)
          refine pl_nk_i (fun nk111 => ?_)
          intro b111
          obtain ⟨b111, c111⟩ := pl_in b111
          refine pl_nk_i (fun nk114 => ?_)
          refine pl_nk_i (fun nk119 => ?_)
          have e1' : (ps_i (ps_ua s (th + 4) (20 + h.1.2.length) x4) th 7).toInt = h.1.2.length := e1
          rw [t.2.2.2.2.1, xtn e1']
          exact k _ ⟨cv_H_fun H hlt hw ha hl hx4 h1 h2, cfr_i (cfr_b (cfr_a cfr_refl ⟨by omega, by omega⟩) ⟨by omega, by omega⟩) ⟨Nat.le_refl _, by omega⟩⟩
  · have h2 : x1.toInt = (8 : Int) := xeq hh2
    exfalso
    omega

theorem fs_134 {n : Nat} {th : Nat} {h : tx_H} {w l : List Nat} {l1 : Int64} {s : ps_S} {R : ps_S → Prop} (hth : th = 2 ∨ th = 26) (H : cv_H s th h) (hlt : h.2.length < 8) (hw : tx_w w) (hl : l1 = tx_x w) (hW : cv_W s (th + 8 + 2 * h.2.length) l) (k : ∀ s', cv_H s' th (h.1, h.2 ++ [(w, l)]) ∧ cfr (fun q => th ≤ q ∧ q < th + 24) s s' → R s') : pl_Cl n 134 [.ref th, .long l1] s (ps_rV R) := by
  cases n with
  | zero => exact pl_At_0
  | succ n =>
  show pl_At (n + 1) 134 0 [(0, .ref th), (1, .long l1)] [] s (ps_rV R)
  have e1 := H.2.1
  have t := cv_th5 hth
  have tA : (nI (ps_ln (ps_c0 th 0))).toInt = 6 := by rw [t.2.2.2.1, t.2.2.2.2.2.2.2.1]; decide
  have tB : (nI (ps_ln (ps_c0 th 1))).toInt = 4 := by rw [t.2.2.2.2.1, t.2.2.2.2.2.2.2.2.1]; decide
  have tC : (nI (ps_ln (ps_c0 th 2))).toInt = 8 := by rw [t.2.2.2.2.2.1, t.2.2.2.2.2.2.2.2.2.1]; decide
  have tD : ps_ln (th + 4) = 40 := t.2.2.2.2.2.2.2.2.2.2
  have tE : ps_c0 th 3 = th + 4 := t.2.2.2.2.2.2.1
  refine pl_134_0 ?_
  refine pl_nk_i (fun nk1 => ?_)
  refine ⟨fun h4 => ?_, fun h4 => ?_⟩
  · have h4 : (ps_i s th 8).toInt < (0 : Int) := xlt h4
    exfalso; omega
  · have h4 : (0 : Int) ≤ (ps_i s th 8).toInt := xle h4
    refine pl_nk_i (fun nk8 => ?_)
    refine pl_nk_i (fun nk12 => ?_)
    refine pl_nk_i (fun nk15 => ?_)
    refine ⟨fun h16 => ?_, fun h16 => ?_⟩
    · have h16 : (nI (ps_ln (ps_c0 th 2))).toInt ≤ (ps_i s th 8).toInt := xle h16
      exfalso; omega
    · have h16 : (ps_i s th 8).toInt < (nI (ps_ln (ps_c0 th 2))).toInt := xlt h16
      refine pl_nk_i (fun nk20 => ?_)
      refine pl_nk_i (fun nk24 => ?_)
      refine pl_nk_i (fun nk28 => ?_)
      intro b28
      obtain ⟨b28, c28⟩ := pl_in b28
      refine pl_nk_i (fun nk31 => ?_)
      refine pl_nk_i (fun nk36 => ?_)
      rw [t.2.2.2.2.2.1, xtn e1]
      exact k _ ⟨cv_H_axm H hlt hw hl hW, cfr_i (cfr_b cfr_refl ⟨by omega, by omega⟩) ⟨Nat.le_refl _, by omega⟩⟩
theorem cv_thr {th m : Nat} (hth : th = 2 ∨ th = 26) (hm : m < 8) : ps_c0 th 4 = th + 5 ∧ ps_ln (th + 5) = 8 ∧ ps_e0 (th + 5) m = th + 8 + 2 * m ∧ ps_is (th + 8 + 2 * m) 5 = true := by
  rcases hth with rfl | rfl <;> rcases (show m = 0 ∨ m = 1 ∨ m = 2 ∨ m = 3 ∨ m = 4 ∨ m = 5 ∨ m = 6 ∨ m = 7 from by omega) with rfl | rfl | rfl | rfl | rfl | rfl | rfl | rfl <;> decide +kernel
theorem fs_135 {n : Nat} {th m : Nat} {x1 : Int32} {s : ps_S} {R : Nat → ps_S → Prop} (hth : th = 2 ∨ th = 26) (hx : x1.toInt = m) (hm : m < 8) (k : R (th + 8 + 2 * m) s) : pl_Cl n 135 [.ref th, .int x1] s (ps_rA R) := by
  cases n with
  | zero => exact pl_At_0
  | succ n =>
  show pl_At (n + 1) 135 0 [(0, .ref th), (1, .int x1)] [] s (ps_rA R)
  obtain ⟨t1, t2, t3, -⟩ := cv_thr hth hm
  have t40 : (nI (ps_ln (ps_c0 th 4))).toInt = 8 := by rw [t1, t2]; decide
  refine pl_135_0 ?_
  refine ⟨fun h1 => ?_, fun h1 => ?_⟩
  · have h1 : x1.toInt < (0 : Int) := xlt h1
    refine pl_nk_i (fun nk23 => ?_)
    exfalso; omega
  · have h1 : (0 : Int) ≤ x1.toInt := xle h1
    refine pl_nk_i (fun nk6 => ?_)
    refine pl_nk_i (fun nk9 => ?_)
    refine ⟨fun h10 => ?_, fun h10 => ?_⟩
    · have h10 : (nI (ps_ln (ps_c0 th 4))).toInt ≤ x1.toInt := xle h10
      refine pl_nk_i (fun nk23 => ?_)
      exfalso; omega
    · have h10 : x1.toInt < (nI (ps_ln (ps_c0 th 4))).toInt := xlt h10
      refine pl_nk_i (fun nk14 => ?_)
      refine pl_nk_i (fun nk18 => ?_)
      intro b18
      obtain ⟨b18, c18⟩ := pl_in b18
      rw [t1, xtn hx, t3]
      exact k
end
section
set_option maxRecDepth 100000
/-! the class's reader: whole formulas, lines, theories -/
-- ProofBench$Row.clear()V
theorem pl_91_0 {n : Nat} {r0 : Nat} {s : ps_S} {Q : Option Value → ps_S → Prop} (h :
  pl_nk (ps_is r0 5) (pl_nk (ps_is r0 5) (Q none (ps_ui (ps_ui s r0 1 0) r0 2 0)))) : pl_At (n + 1) 91 0 [(0, .ref r0)] [] s Q :=
  pl_wp_at (stops := []) (f := 9) h rfl

def cWr (r q : Nat) : Prop := q = 902 ∨ q = 903 ∨ q = r ∨ q = r + 1 ∨ q = 906 ∨ q = 907
theorem fs_91 {n r : Nat} {s : ps_S} {R : ps_S → Prop} (k : R (ps_ui (ps_ui s r 1 0) r 2 0)) : pl_Cl n 91 [.ref r] s (ps_rV R) := by
  cases n with
  | zero => exact pl_At_0
  | succ n =>
  show pl_At (n + 1) 91 0 [(0, .ref r)] [] s (ps_rV R)
  refine pl_91_0 ?_
  refine pl_nk_i (fun nk2 => ?_)
  refine pl_nk_i (fun nk7 => ?_)
  exact k
theorem fs_62g {n : Nat} {s : ps_S} {tk : tx_K} {x1 : Int32} {K : Nat} {R : Int32 → ps_S → Prop} (hK : cv_K s tk) (hx : x1.toInt = K) (k : ∀ s', (ps_i s' 902 9).toInt = ((if tk.1 = 1 then 1 else K : Nat) : Int) ∧ (ps_i s' 902 10).toInt = tk.2.1 ∧ cfr (fun q => q = 902) s s' → R 0 s') : pl_Cl n 62 [.ref 902, .int x1] s (ps_rI R) := by
  cases n with
  | zero => exact pl_At_0
  | succ n =>
  show pl_At (n + 1) 62 0 [(0, .ref 902), (1, .int x1)] [] s (ps_rI R)
  have h4 := hK.1
  have h5 := hK.2.1
  refine pl_62_0 ?_
  refine ⟨fun h9 => ?_, fun h9 => ?_⟩
  · have h9 : (ps_i s 903 4).toInt ≠ (1 : Int) := xne h9
    refine k _ ⟨?_, h5, cfr_i (cfr_i cfr_refl rfl) rfl⟩
    rw [if_neg (by omega)]
    exact hx
  · have h9 : (ps_i s 903 4).toInt = (1 : Int) := xeq h9
    refine k _ ⟨?_, h5, cfr_i (cfr_i cfr_refl rfl) rfl⟩
    rw [if_pos (by omega)]
    rfl
theorem fs_65 {n : Nat} {s : ps_S} {T : Nat → Nat} {N p : Nat} {R : Int32 → ps_S → Prop} (hT : cv_T s T N) (hp : p ≤ N) (hK : cv_K s (tx_tok T N p)) (k1 : ∀ s', (tx_tok T N p).1 = 5 ∧ cv_A T N (tx_tok T N p).2.2.1 s s' → R 1 s') (k0 : ∀ s', (tx_tok T N p).1 ≠ 5 ∧ (ps_i s' 902 9).toInt = (tx_bk (tx_tok T N p) : Nat) ∧ (ps_i s' 902 10).toInt = (tx_tok T N p).2.1 ∧ cfr (fun q => q = 902) s s' → R 0 s') : pl_Cl n 65 [.ref 902] s (ps_rI R) := by
  cases n with
  | zero => exact pl_At_0
  | succ n =>
  show pl_At (n + 1) 65 0 [(0, .ref 902)] [] s (ps_rI R)
  have h4 := hK.1
  refine pl_65_0 ?_
  refine ⟨fun h8 => ?_, fun h8 => ?_⟩
  · have h8 : (ps_i s 903 4).toInt = (5 : Int) := xeq h8
    refine fs_140 hT hK.2.2.1 (tx_tok_ok (T := T) hp).2.1 (fun s21 q21 => ?_)
    exact k1 _ ⟨by omega, q21⟩
  · have h8 : (ps_i s 903 4).toInt ≠ (5 : Int) := xne h8
    refine fs_62g (K := 2) hK rfl (fun s13 q13 => ?_)
    refine pl_nk_i (fun z16 => ?_)
    exact k0 _ ⟨by omega, q13⟩

def cw_ok (th r ph : Nat) (s s' : ps_S) (T : Nat → Nat) (N : Nat) (E : tx_E) (p : Nat) (fr : List (List Nat)) : Prop := ∃ p' l' fr', gt_go (tx_st T N E) (ph, [], p, [], fr, 0) (2, [], p', l', fr', 0) ∧ cv_S th r s' T N E ∧ cv_C r s' T N [] p' l' fr' ∧ cfr (cWr r) s s'
def cw_bad (r ph : Nat) (s s' : ps_S) (T : Nat → Nat) (N : Nat) (E : tx_E) (p : Nat) (fr : List (List Nat)) : Prop := ∃ (S' : List tx_F) (pl : Nat) (l' : List Nat) (fr' : List (List Nat)) (k : Nat), gt_go (tx_st T N E) (ph, [], p, [], fr, 0) (4, S', pl, l', fr', k) ∧ (ps_i s' 902 9).toInt = k ∧ (ps_i s' 902 10).toInt = pl ∧ cfr (cWr r) s s'
theorem fs_69 {n th r ph : Nat} {s : ps_S} {T : Nat → Nat} {N : Nat} {E : tx_E} {p : Nat} {fr : List (List Nat)} {x2 : Int32} {R : Int32 → ps_S → Prop} (hph : (x2.toInt = 0 ∧ ph = 1) ∨ (x2.toInt ≠ 0 ∧ ph = 0)) (hth : th = 2 ∨ th = 26) (hr : ps_is r 5 = true) (h5 : ps_r s 902 5 = th) (h8 : (ps_i s 902 8).toInt = (if E.2 = true then 1 else 0)) (hT : cv_T s T N) (hE : cv_E s th E.1) (hp : p ≤ N) (hK : cv_K s (tx_tok T N p)) (hP : cv_P s fr) (hB : (ps_i s 902 4).toInt = 0) (hF : (ps_i s 902 9).toInt = 0 ∧ (ps_i s 902 10).toInt = -1) (k1 : ∀ s', cw_ok th r ph s s' T N E p fr → R 1 s') (k0 : ∀ s', cw_bad r ph s s' T N E p fr → R 0 s') : pl_Cl n 69 [.ref 902, .ref r, .int x2] s (ps_rI R) := by
  cases n with
  | zero => exact pl_At_0
  | succ n =>
  show pl_At (n + 1) 69 0 [(0, .ref 902), (1, .ref r), (2, .int x2)] [] s (ps_rI R)
  have n2 : 902 ≠ r := fun z => cv_ne hr cv_n5.1 z.symm
  have n3 : 903 ≠ r := fun z => cv_ne hr cv_n5.2.1 z.symm
  have HS0 : cv_S th r (ps_ur s 902 6 r) T N E := ⟨hth, hr, h5, rfl, h8, hT, hE⟩
  have F0 : cv_fr r (ps_ur s 902 6 r) (ps_ui (ps_ui (ps_ui (ps_ur s 902 6 r) r 1 0) r 2 0) 902 7 0) := cv_fr_i (cv_fr_w (cv_fr_w cv_fr_refl n2.symm) n2.symm) (by decide)
  have HS := cv_S_fr HS0 F0
  have C0 : cfr (cWr r) s (ps_ui (ps_ui (ps_ui (ps_ur s 902 6 r) r 1 0) r 2 0) 902 7 0) := cfr_i (cfr_i (cfr_i (cfr_r cfr_refl (Or.inl rfl)) (Or.inr (Or.inr (Or.inl rfl)))) (Or.inr (Or.inr (Or.inl rfl)))) (Or.inl rfl)
  have e : ∀ q f, q ≠ r → ¬ (q = 902 ∧ f = 7) → ps_i (ps_ui (ps_ui (ps_ui (ps_ur s 902 6 r) r 1 0) r 2 0) 902 7 0) q f = ps_i s q f := fun q f a b => by
    rw [ps_i_ui, if_neg b, ps_i_ui, if_neg (fun z => a z.1), ps_i_ui, if_neg (fun z => a z.1), ps_i_ur]
  have HC : cv_C r (ps_ui (ps_ui (ps_ui (ps_ur s 902 6 r) r 1 0) r 2 0) 902 7 0) T N [] p [] fr := by
    refine ⟨hp, ⟨Nat.zero_le _, Nat.zero_le _⟩, ?_, ⟨?_, ?_, Nat.zero_le _, fun k c hk => by cases hk⟩, ?_, ⟨?_, Nat.zero_le _, fun k c hk => by cases hk⟩, rfl, ?_, ?_⟩
    · unfold cv_K at *
      rw [e 903 _ n3 (by omega), e 903 _ n3 (by omega), e 903 _ n3 (by omega), e 903 _ n3 (by omega), e 903 _ n3 (by omega)]
      exact hK
    · rw [ps_i_ui, if_neg (fun z => n2 z.1.symm), ps_i_ui, if_neg (by omega), ps_i_ui, if_pos ⟨rfl, rfl⟩]
      rfl
    · rw [ps_i_ui, if_neg (fun z => n2 z.1.symm), ps_i_ui, if_pos ⟨rfl, rfl⟩]
    · unfold cv_P at *
      rw [e 902 2 n2 (by omega)]
      exact hP
    · rw [e 902 4 n2 (by omega)]
      exact hB
    · rw [e 902 9 n2 (by omega)]
      exact hF.1
    · rw [e 902 10 n2 (by omega)]
      exact hF.2
  refine pl_69_0 ?_
  refine fs_91 (r := r) ?_
  refine ⟨fun h18 => ?_, fun h18 => ?_⟩
  · have h18 : x2.toInt = (0 : Int) := xeq h18
    have hph : ph = 1 := by omega
    subst hph
    refine (cv_every T N E n).1 th r _ [] p [] fr _ 0 HS HC rfl (fun s31 q31 => ?_) (fun s31 q31 => ?_)
    · refine pl_nk_i (fun z34 => ?_)
      refine k1 _ ?_
      obtain ⟨p', l', fr', g1, g2, g3⟩ := q31
      exact ⟨p', l', fr', g1, cv_S_fr HS g3, g2, cfr_tr C0 (cfr_fr g3)⟩
    · refine pl_nk_i (fun z34 => ?_)
      refine k0 _ ?_
      obtain ⟨S', pl, l', fr', kk, g1, g2, g3, g4⟩ := q31
      exact ⟨S', pl, l', fr', kk, g1, g2, g3, cfr_tr C0 (cfr_fr g4)⟩
  · have h18 : x2.toInt ≠ (0 : Int) := xne h18
    have hph : ph = 0 := by omega
    subst hph
    refine (cv_every T N E n).2.1 th r _ [] p [] fr _ 0 HS HC rfl (fun s23 q23 => ?_) (fun s23 q23 => ?_)
    · refine pl_nk_i (fun z34 => ?_)
      refine k1 _ ?_
      obtain ⟨p', l', fr', g1, g2, g3⟩ := q23
      exact ⟨p', l', fr', g1, cv_S_fr HS g3, g2, cfr_tr C0 (cfr_fr g3)⟩
    · refine pl_nk_i (fun z34 => ?_)
      refine k0 _ ?_
      obtain ⟨S', pl, l', fr', kk, g1, g2, g3, g4⟩ := q23
      exact ⟨S', pl, l', fr', kk, g1, g2, g3, cfr_tr C0 (cfr_fr g4)⟩

theorem cv_L_ext {s s' : ps_S} {th : Nat} {T : Nat → Nat} {N : Nat} {h h' : tx_H} {p : Nat} (L : cv_L s th T N h p) (H : cv_H s' th h') (F : cfr (fun q => th ≤ q ∧ q < th + 24) s s') : cv_L s' th T N h' p := by
  obtain ⟨l1, l2, l3, l4, l5, l6, l7, l8⟩ := L
  have e2 := F 902 (fun z => by have z : th ≤ 902 ∧ 902 < th + 24 := z; omega)
  have e3 := F 903 (fun z => by have z : th ≤ 903 ∧ 903 < th + 24 := z; omega)
  refine ⟨l1, by rw [e2.2.2.1]; exact l2, cv_T_cfr l3 F (e3.2.2.1 1) (e3.1 2) (fun z => by have z : th ≤ 1 ∧ 1 < th + 24 := z; omega) (fun z => by have z : th ≤ 904 ∧ 904 < th + 24 := z; omega), H, l5, ?_, by rw [e2.1]; exact l7, by rw [e2.1, e2.1, e2.1]; exact l8⟩
  unfold cv_K at *
  rw [e3.1, e3.1, e3.1, e3.1, e3.1, e3.2.1]
  exact l6
theorem cv_HC_th {th : Nat} {s s' : ps_S} (h : cfr (fun q => th ≤ q ∧ q < th + 24) s s') : cfr (cv_HC th) s s' := cfr_mono h (fun q hq => Or.inl hq)
theorem cv_HC_fl {th : Nat} {s s' : ps_S} (h : cv_fl s s') : cfr (cv_HC th) s s' := cfr_mono (cfr_fl h) (fun q hq => Or.inr (Or.inr (Or.inl hq)))
theorem cv_HC_2 {th : Nat} {s s' : ps_S} (h : cfr (fun q => q = 902) s s') : cfr (cv_HC th) s s' := cfr_mono h (fun q hq => Or.inr (Or.inl hq))
theorem cv_HC_w {th m : Nat} {s s' : ps_S} (hm : m < 8) (h : cfr (cWr (th + 8 + 2 * m)) s s') : cfr (cv_HC th) s s' := cfr_mono h (fun q hq => by
  have hq : q = 902 ∨ q = 903 ∨ q = th + 8 + 2 * m ∨ q = th + 8 + 2 * m + 1 ∨ q = 906 ∨ q = 907 := hq
  show (th ≤ q ∧ q < th + 24) ∨ q = 902 ∨ q = 903 ∨ q = 906 ∨ q = 907
  omega)
/-- a line's end -/
theorem cl_semi {n th : Nat} {s0 s : ps_S} {T : Nat → Nat} {N : Nat} {h : tx_H} {p : Nat} {R : Int32 → ps_S → Prop} (L : cv_L s th T N h p) (F : cfr (cv_HC th) s0 s) (k1 : ∀ s', (tx_tok T N p).1 = 5 ∧ cv_L s' th T N h (tx_tok T N p).2.2.1 ∧ cfr (cv_HC th) s0 s' → R 1 s') (k0 : ∀ s', (tx_tok T N p).1 ≠ 5 ∧ (ps_i s' 902 9).toInt = (tx_bk (tx_tok T N p) : Nat) ∧ (ps_i s' 902 10).toInt = (tx_tok T N p).2.1 ∧ cfr (cv_HC th) s0 s' → R 0 s') : pl_Cl n 65 [.ref 902] s (ps_rI R) :=
  fs_65 L.2.2.1 L.2.2.2.2.1 L.2.2.2.2.2.1 (fun s' ⟨a, A⟩ => k1 s' ⟨a, cv_L_adv L (tx_tok_ok (T := T) L.2.2.2.2.1).2.1 A, cfr_tr F (cv_HC_fl A.1)⟩) (fun s' ⟨a, b1, b2, b3⟩ => k0 s' ⟨a, b1, b2, cfr_tr F (cv_HC_2 b3)⟩)
theorem tx_semi_ok {T : Nat → Nat} {N : Nat} {h : tx_H} {p : Nat} (e : (tx_tok T N p).1 = 5) : tx_semi T N h p = (0, h, (tx_tok T N p).2.2.1, 0) := by
  unfold tx_semi
  rw [if_pos e]
theorem tx_semi_no {T : Nat → Nat} {N : Nat} {h : tx_H} {p : Nat} (e : (tx_tok T N p).1 ≠ 5) : tx_semi T N h p = (4, h, (tx_tok T N p).2.1, tx_bk (tx_tok T N p)) := by
  unfold tx_semi
  rw [if_neg e]

theorem fs_133_b {n : Nat} {th a : Nat} {rel : Bool} {h : tx_H} {w : List Nat} {x1 x4 : Int32} {l2 : Int64} {s : ps_S} {R : ps_S → Prop} (hth : th = 2 ∨ th = 26) (H : cv_H s th h) (hx : x1.toInt = (if rel = true then 8 else 9)) (hlt : if rel = true then h.1.1.length < 6 else h.1.2.length < 4) (hw : tx_w w) (ha : a ≤ 2) (hl : l2 = tx_x w) (hx4 : x4.toInt = a) (h1 : tx_at (h.1.1.map Prod.fst) w = none) (h2 : tx_at (h.1.2.map Prod.fst) w = none) (k : ∀ s', cv_H s' th (if rel = true then ((h.1.1 ++ [(w, a)], h.1.2), h.2) else ((h.1.1, h.1.2 ++ [(w, a)]), h.2)) ∧ cfr (fun q => th ≤ q ∧ q < th + 24) s s' → R s') : pl_Cl n 133 [.ref th, .int x1, .long l2, .int x4] s (ps_rV R) := by
  cases rel with
  | true => exact fs_133_r hth H hx hlt hw ha hl hx4 h1 h2 k
  | false => exact fs_133_f hth H hx hlt hw ha hl hx4 h1 h2 k

theorem fs_63 {n th : Nat} {rel : Bool} {s : ps_S} {T : Nat → Nat} {N : Nat} {h : tx_H} {p : Nat} {x1 : Int32} {R : Int32 → ps_S → Prop} (L : cv_L s th T N h p) (hx : x1.toInt = (if rel = true then 8 else 9)) (hlt : if rel = true then h.1.1.length < 6 else h.1.2.length < 4) (k1 : ∀ s', cl_ok th s s' T N (tx_sym T N rel h p) → R 1 s') (k0 : ∀ s', cl_bad th s s' (tx_sym T N rel h p) → R 0 s') : pl_Cl n 63 [.ref 902, .int x1] s (ps_rI R) := by
  cases n with
  | zero => exact pl_At_0
  | succ n =>
  show pl_At (n + 1) 63 0 [(0, .ref 902), (1, .int x1)] [] s (ps_rI R)
  obtain ⟨l1, l2, l3, l4, l5, l6, l7, l8⟩ := id L
  have h4 := l6.1
  have hok := tx_tok_ok (T := T) l5
  unfold tx_sym at k1 k0
  dsimp only at k1 k0
  refine pl_63_0 ?_
  refine ⟨fun h8 => ?_, fun h8 => ?_⟩
  · have h8 : (ps_i s 903 4).toInt = (2 : Int) := xeq h8
    have h2 : (tx_tok T N p).1 = 2 := by omega
    rw [if_pos h2] at k1 k0
    have hw := hok.2.2.2.1 h2
    have hl := l6.2.2.2.1 h2
    rw [l2]
    refine fs_130 l1 l4.1 hw hl (fun q30 => ?_) (fun q30 => ?_)
    · refine ⟨fun h33 => ?_, fun h33 => ?_⟩
      · exact absurd h33 (by decide)
      · rw [if_neg q30] at k1 k0
        refine fs_62g (K := 3) l6 rfl (fun s38 q38 => ?_)
        refine pl_nk_i (fun z41 => ?_)
        exact k0 _ ⟨h, _, _, rfl, (by have z := q38.1; rw [if_neg (by omega)] at z; exact z), q38.2.1, cv_HC_2 q38.2.2⟩
    · refine ⟨fun h33 => ?_, fun h33 => ?_⟩
      · rw [if_pos q30] at k1 k0
        refine fs_140 l3 l6.2.2.1 hok.2.1 (fun s46 q46 => ?_)
        have L1 := cv_L_adv L hok.2.1 q46
        have F1 : cfr (cv_HC th) s s46 := cv_HC_fl q46.1
        have h14 := L1.2.2.2.2.2.1.1
        have hok1 := tx_tok_ok (T := T) L1.2.2.2.2.1
        refine ⟨fun h57 => ?_, fun h57 => ?_⟩
        · have h57 : (ps_i s46 903 4).toInt = (4 : Int) := xeq h57
          refine ⟨fun h78 => ?_, fun h78 => ?_⟩
          · have h78 : (ps_i s46 903 7).toInt ≤ (2 : Int) := xle h78
            rw [if_pos (by omega)] at k1 k0
            have hn2 := L1.2.2.2.2.2.1.2.2.2.2.2 (by omega)
            rw [if_pos (by omega)] at k1 k0
            refine fs_140 L1.2.2.1 L1.2.2.2.2.2.1.2.2.1 hok1.2.1 (fun s91 q91 => ?_)
            have L2 := cv_L_adv L1 hok1.2.1 q91
            have F2 : cfr (cv_HC th) s s91 := cfr_tr F1 (cv_HC_fl q91.1)
            refine cl_semi L2 F2 (fun s95 q95 => ?_) (fun s95 q95 => ?_)
            · obtain ⟨a0, L3, F3⟩ := q95
              rw [tx_semi_ok a0] at k1
              refine ⟨fun h98 => ?_, fun h98 => ?_⟩
              · rw [L3.2.1]
                refine fs_133_b l1 L3.2.2.2.1 hx hlt hw (by omega) hl hn2 q30.1 q30.2 (fun s111 q111 => ?_)
                exact k1 _ ⟨_, _, rfl, cv_L_ext L3 q111.1 q111.2, cfr_tr F3 (cv_HC_th q111.2)⟩
              · exact absurd h98 (by decide)
            · refine ⟨fun h98 => ?_, fun h98 => ?_⟩
              · exact absurd h98 (by decide)
              · obtain ⟨b0, b1, b2, b3⟩ := q95
                rw [tx_semi_no b0] at k0
                exact k0 _ ⟨_, _, _, rfl, b1, b2, b3⟩
          · have h78 : (2 : Int) < (ps_i s46 903 7).toInt := xlt h78
            rw [if_pos (by omega)] at k1 k0
            have hn2 := L1.2.2.2.2.2.1.2.2.2.2.2 (by omega)
            rw [if_neg (by omega)] at k1 k0
            refine fs_62g (K := 4) L1.2.2.2.2.2.1 rfl (fun s83 q83 => ?_)
            refine pl_nk_i (fun z86 => ?_)
            exact k0 _ ⟨h, _, _, rfl, (by have z := q83.1; rw [if_neg (by omega)] at z; exact z), q83.2.1, cfr_tr F1 (cv_HC_2 q83.2.2)⟩
        · have h57 : (ps_i s46 903 4).toInt ≠ (4 : Int) := xne h57
          rw [if_neg (by omega)] at k1 k0
          refine fs_62g (K := 2) L1.2.2.2.2.2.1 rfl (fun s62 q62 => ?_)
          refine pl_nk_i (fun z65 => ?_)
          exact k0 _ ⟨h, _, _, rfl, q62.1, q62.2.1, cfr_tr F1 (cv_HC_2 q62.2.2)⟩
      · exact absurd h33 (by decide)
  · have h8 : (ps_i s 903 4).toInt ≠ (2 : Int) := xne h8
    rw [if_neg (by omega)] at k1 k0
    refine fs_62g (K := 2) l6 rfl (fun s13 q13 => ?_)
    refine pl_nk_i (fun z16 => ?_)
    exact k0 _ ⟨h, _, _, rfl, q13.1, q13.2.1, cv_HC_2 q13.2.2⟩

theorem cv_wr {th m q : Nat} (h1 : th ≤ q) (h2 : q < th + 8 + 2 * m) (hth : th = 2 ∨ th = 26) (hm : m < 8) : ¬ cWr (th + 8 + 2 * m) q := fun z => by
  have z : q = 902 ∨ q = 903 ∨ q = th + 8 + 2 * m ∨ q = th + 8 + 2 * m + 1 ∨ q = 906 ∨ q = 907 := z
  omega
theorem fs_64 {n th : Nat} {s : ps_S} {T : Nat → Nat} {N : Nat} {h : tx_H} {p : Nat} {R : Int32 → ps_S → Prop} (L : cv_L s th T N h p) (hlt : h.2.length < 8) (k1 : ∀ s', cl_ok th s s' T N (tx_axm T N h p) → R 1 s') (k0 : ∀ s', cl_bad th s s' (tx_axm T N h p) → R 0 s') : pl_Cl n 64 [.ref 902] s (ps_rI R) := by
  cases n with
  | zero => exact pl_At_0
  | succ n =>
  show pl_At (n + 1) 64 0 [(0, .ref 902)] [] s (ps_rI R)
  obtain ⟨l1, l2, l3, l4, l5, l6, l7, l8⟩ := id L
  have h4 := l6.1
  have hok := tx_tok_ok (T := T) l5
  unfold tx_axm at k1 k0
  dsimp only at k1 k0
  refine pl_64_0 ?_
  refine ⟨fun h8 => ?_, fun h8 => ?_⟩
  · have h8 : (ps_i s 903 4).toInt = (2 : Int) := xeq h8
    have h2 : (tx_tok T N p).1 = 2 := by omega
    rw [if_pos h2] at k1 k0
    have hw := hok.2.2.2.1 h2
    have hl := l6.2.2.2.1 h2
    rw [l2]
    refine fs_129 l1 l4 hw hl (fun v30 q30 => ?_)
    refine ⟨fun h34 => ?_, fun h34 => ?_⟩
    · have h34 : v30.toInt = (-1 : Int) := xeq h34
      rw [if_pos ((tx_opt_m q30).mp h34)] at k1 k0
      refine fs_140 l3 l6.2.2.1 hok.2.1 (fun s47 q47 => ?_)
      have L1 := cv_L_adv L hok.2.1 q47
      have F1 : cfr (cv_HC th) s s47 := cv_HC_fl q47.1
      have F2 : cfr (cv_HC th) s (ps_ui s47 902 8 1) := cfr_i F1 (Or.inr (Or.inl rfl))
      have e8 : (ps_i (ps_ui s47 902 8 1) th 8).toInt = h.2.length := by
        rw [ps_i_ui, if_neg (by omega)]
        exact L1.2.2.2.1.2.1
      have hr := (cv_thr l1 hlt).2.2.2
      have F0 : cfr (fun q => q = 902) s47 (ps_ui s47 902 8 1) := cfr_i cfr_refl rfl
      have H1 : cv_H (ps_ui s47 902 8 1) th h := cv_H_cfr L1.2.2.2.1 F0 (fun q a b z => by have z : q = 902 := z; omega)
      refine pl_nk_i (fun nk64 => ?_)
      rw [show ps_r (ps_ui s47 902 8 1) 902 5 = th from L1.2.1]
      refine fs_135 l1 e8 hlt ?_
      refine fs_69 (s := ps_ui s47 902 8 1) (th := th) (r := th + 8 + 2 * h.2.length) (ph := 1) (E := (h.1, true)) (fr := []) (Or.inl ⟨rfl, rfl⟩) l1 hr L1.2.1 rfl L1.2.2.1 H1.1 L1.2.2.2.2.1 L1.2.2.2.2.2.1 ⟨L1.2.2.2.2.2.2.2.1, Nat.zero_le _, fun k w z => by cases z⟩ L1.2.2.2.2.2.2.1 L1.2.2.2.2.2.2.2.2 (fun s71 q71 => ?_) (fun s71 q71 => ?_)
      · obtain ⟨p', l', fr', g1, g2, g3, g4⟩ := q71
        have g5 := gt_trans g1 (gt_one (show tx_st T N (h.1, true) (2, [], p', l', fr', 0) = (3, [], p', l', fr', 0) from rfl))
        rw [gt_end_is g5 rfl] at k1 k0
        change ∀ s', cl_ok th s s' T N (tx_semi T N (h.1, h.2 ++ [((tx_tok T N p).2.2.2.1, l')]) p') → R 1 s' at k1
        change ∀ s', cl_bad th s s' (tx_semi T N (h.1, h.2 ++ [((tx_tok T N p).2.2.2.1, l')]) p') → R 0 s' at k0
        have hfr : fr' = [] := tx_go_fr (E := (h.1, true)) rfl g1
        have L3 : cv_L s71 th T N h p' := ⟨l1, g2.2.2.1, g2.2.2.2.2.2.1, cv_H_cfr H1 g4 (fun q a b => cv_wr a b l1 hlt), g3.1, g3.2.2.1, g3.2.2.2.2.2.1.1, (by have z := g3.2.2.2.2.1.1; rw [hfr] at z; exact z), g3.2.2.2.2.2.2.2⟩
        have F3 : cfr (cv_HC th) s s71 := cfr_tr F2 (cv_HC_w hlt g4)
        refine ⟨fun h74 => ?_, fun h74 => ?_⟩
        · exact absurd h74 (by decide)
        · refine fs_65 L3.2.2.1 L3.2.2.2.2.1 L3.2.2.2.2.2.1 (fun s78 q78 => ?_) (fun s78 q78 => ?_)
          · obtain ⟨a0, A4⟩ := q78
            rw [tx_semi_ok a0] at k1
            have L4 := cv_L_adv L3 (tx_tok_ok (T := T) L3.2.2.2.2.1).2.1 A4
            have F4 : cfr (cv_HC th) s s78 := cfr_tr F3 (cv_HC_fl A4.1)
            have W4 : cv_W s78 (th + 8 + 2 * h.2.length) l' := cv_W_cfr g3.2.2.2.1 (cfr_fl A4.1) (fun z => by have z : th + 8 + 2 * h.2.length = 903 := z; omega) (fun z => by have z : th + 8 + 2 * h.2.length + 1 = 903 := z; omega)
            refine ⟨fun h81 => ?_, fun h81 => ?_⟩
            · rw [L4.2.1]
              refine fs_134 l1 L4.2.2.2.1 hlt hw hl W4 (fun s91 q91 => ?_)
              exact k1 _ ⟨_, _, rfl, cv_L_ext L4 q91.1 q91.2, cfr_tr F4 (cv_HC_th q91.2)⟩
            · exact absurd h81 (by decide)
          · refine ⟨fun h81 => ?_, fun h81 => ?_⟩
            · exact absurd h81 (by decide)
            · obtain ⟨b0, b1, b2, b3⟩ := q78
              rw [tx_semi_no b0] at k0
              exact k0 _ ⟨_, _, _, rfl, b1, b2, cfr_tr F3 (cv_HC_2 b3)⟩
      · refine ⟨fun h74 => ?_, fun h74 => ?_⟩
        · obtain ⟨S', pl, l', fr', kk, g1, g2, g3, g4⟩ := q71
          rw [gt_end_is g1 rfl] at k0
          change ∀ s', cl_bad th s s' (4, h, pl, kk) → R 0 s' at k0
          exact k0 _ ⟨h, _, _, rfl, g2, g3, cfr_tr F2 (cv_HC_w hlt g4)⟩
        · exact absurd h74 (by decide)
    · have h34 : v30.toInt ≠ (-1 : Int) := xne h34
      rw [if_neg (fun z => h34 ((tx_opt_m q30).mpr z))] at k1 k0
      refine fs_62g (K := 3) l6 rfl (fun s39 q39 => ?_)
      refine pl_nk_i (fun z42 => ?_)
      exact k0 _ ⟨h, _, _, rfl, (by have z := q39.1; rw [if_neg (by omega)] at z; exact z), q39.2.1, cv_HC_2 q39.2.2⟩
  · have h8 : (ps_i s 903 4).toInt ≠ (2 : Int) := xne h8
    rw [if_neg (by omega)] at k1 k0
    refine fs_62g (K := 2) l6 rfl (fun s13 q13 => ?_)
    refine pl_nk_i (fun z16 => ?_)
    exact k0 _ ⟨h, _, _, rfl, q13.1, q13.2.1, cv_HC_2 q13.2.2⟩

theorem fs_139 {n : Nat} {s : ps_S} {T : Nat → Nat} {N : Nat} {x2 : Int32} {R : ps_S → Prop} (hx : x2.toInt = N) (hT : cv_T (ps_ui (ps_ui (ps_ur s 903 1 1) 903 2 x2) 903 3 0) T N) (k : ∀ s', cv_A T N 0 (ps_ui (ps_ui (ps_ur s 903 1 1) 903 2 x2) 903 3 0) s' → R s') : pl_Cl n 139 [.ref 903, .ref 1, .int x2] s (ps_rV R) := by
  cases n with
  | zero => exact pl_At_0
  | succ n =>
  show pl_At (n + 1) 139 0 [(0, .ref 903), (1, .ref 1), (2, .int x2)] [] s (ps_rV R)
  refine pl_139_0 ?_
  refine fs_140 (p := 0) hT rfl (Nat.zero_le _) (fun s16 q16 => ?_)
  exact k _ q16
/-- how Reader.begin leaves the reader -/
def cv_b0 (s : ps_S) (th : Nat) (x2 : Int32) : ps_S := ps_ui (ps_ui (ps_ur (ps_ui (ps_ui (ps_ui (ps_ui (ps_ui (ps_ur s 902 5 th) 902 2 0) 902 4 0) 902 8 0) 902 9 0) 902 10 (-1)) 903 1 1) 903 2 x2) 903 3 0
theorem fs_61 {n th : Nat} {s : ps_S} {T : Nat → Nat} {N : Nat} {x2 : Int32} {R : ps_S → Prop} (hx : x2.toInt = N) (hT : cv_T (cv_b0 s th x2) T N) (k : ∀ s', cv_A T N 0 (cv_b0 s th x2) s' → R s') : pl_Cl n 61 [.ref 902, .ref 1, .int x2, .ref th] s (ps_rV R) := by
  cases n with
  | zero => exact pl_At_0
  | succ n =>
  show pl_At (n + 1) 61 0 [(0, .ref 902), (1, .ref 1), (2, .int x2), (3, .ref th)] [] s (ps_rV R)
  refine pl_61_0 ?_
  refine fs_139 hx hT (fun s36 q36 => ?_)
  exact k _ q36

theorem cv_58_77 {n th : Nat} {s0 s : ps_S} {T : Nat → Nat} {N : Nat} {h : tx_H} {p : Nat} {R : Int32 → ps_S → Prop} (L : cv_L s th T N h p) (F : cfr (cv_HC th) s0 s) (k0 : ∀ s', cl_bad th s0 s' (4, h, (tx_tok T N p).2.1, tx_bk (tx_tok T N p)) → R 0 s') : pl_At n 58 77 [(0, .ref 902)] [] s (ps_rI R) := by
  cases n with
  | zero => exact pl_At_0
  | succ n =>
  refine pl_58_77 ?_
  refine fs_62g (K := 2) L.2.2.2.2.2.1 rfl (fun s79 q79 => ?_)
  refine pl_nk_i (fun z82 => ?_)
  exact k0 _ ⟨_, _, _, rfl, q79.1, q79.2.1, cfr_tr F (cv_HC_2 q79.2.2)⟩
def ct_ok (th : Nat) (s s' : ps_S) (T : Nat → Nat) (N : Nat) (c0 : tx_D4) : Prop := ∃ h p, gt_go (tx_ln T N) c0 (3, h, p, 0) ∧ cv_L s' th T N h p ∧ cfr (cv_HC th) s s'
def ct_bad (th : Nat) (s s' : ps_S) (T : Nat → Nat) (N : Nat) (c0 : tx_D4) : Prop := ∃ (h : tx_H) (pl k : Nat), gt_go (tx_ln T N) c0 (4, h, pl, k) ∧ (ps_i s' 902 9).toInt = k ∧ (ps_i s' 902 10).toInt = pl ∧ cfr (cv_HC th) s s'
theorem tx_l_end {T : Nat → Nat} {N : Nat} {h : tx_H} {p : Nat} (e : (tx_tok T N p).1 = 0) : tx_ln T N (0, h, p, 0) = (3, h, p, 0) := by
  show tx_lb T N h p = _
  unfold tx_lb
  rw [if_pos e]
theorem tx_l_rel {T : Nat → Nat} {N : Nat} {h : tx_H} {p : Nat} (e : (tx_tok T N p).1 = 3) (e2 : (tx_tok T N p).2.2.2.2 = 8) (e3 : h.1.1.length < 6) : tx_ln T N (0, h, p, 0) = tx_sym T N true h (tx_tok T N p).2.2.1 := by
  show tx_lb T N h p = _
  unfold tx_lb
  rw [if_neg (by omega), if_pos ⟨e, e2, e3⟩]
theorem tx_l_fun {T : Nat → Nat} {N : Nat} {h : tx_H} {p : Nat} (e : (tx_tok T N p).1 = 3) (e2 : (tx_tok T N p).2.2.2.2 = 9) (e3 : h.1.2.length < 4) : tx_ln T N (0, h, p, 0) = tx_sym T N false h (tx_tok T N p).2.2.1 := by
  show tx_lb T N h p = _
  unfold tx_lb
  rw [if_neg (by omega), if_neg (by omega), if_pos ⟨e, e2, e3⟩]
theorem tx_l_axm {T : Nat → Nat} {N : Nat} {h : tx_H} {p : Nat} (e : (tx_tok T N p).1 = 3) (e2 : (tx_tok T N p).2.2.2.2 = 10) (e3 : h.2.length < 8) : tx_ln T N (0, h, p, 0) = tx_axm T N h (tx_tok T N p).2.2.1 := by
  show tx_lb T N h p = _
  unfold tx_lb
  rw [if_neg (by omega), if_neg (by omega), if_neg (by omega), if_pos ⟨e, e2, e3⟩]
theorem tx_l_bad {T : Nat → Nat} {N : Nat} {h : tx_H} {p : Nat} (e : (tx_tok T N p).1 ≠ 0) (e2 : ¬ ((tx_tok T N p).1 = 3 ∧ (((tx_tok T N p).2.2.2.2 = 8 ∧ h.1.1.length < 6) ∨ ((tx_tok T N p).2.2.2.2 = 9 ∧ h.1.2.length < 4) ∨ ((tx_tok T N p).2.2.2.2 = 10 ∧ h.2.length < 8)))) : tx_ln T N (0, h, p, 0) = (4, h, (tx_tok T N p).2.1, tx_bk (tx_tok T N p)) := by
  show tx_lb T N h p = _
  unfold tx_lb
  rw [if_neg e, if_neg (by omega), if_neg (by omega), if_neg (by omega)]

theorem tx_semi_h {T : Nat → Nat} {N : Nat} {h h' : tx_H} {p p' : Nat} (e : tx_semi T N h p = (0, h', p', 0)) : h' = h := by
  unfold tx_semi at e
  split at e
  · cases e; rfl
  · cases e
theorem tx_sym_len {T : Nat → Nat} {N : Nat} {rel : Bool} {h h' : tx_H} {p p' i : Nat} (e : tx_sym T N rel h p = (0, h', p', 0)) (hi : i = h.1.1.length + h.1.2.length + h.2.length) : h'.1.1.length + h'.1.2.length + h'.2.length = i + 1 := by
  unfold tx_sym at e
  dsimp only at e
  split at e
  · split at e
    · split at e
      · split at e
        · have e2 := tx_semi_h e
          cases rel with
          | true =>
            rw [if_pos rfl] at e2
            rw [e2, List.length_append]
            show h.1.1.length + 1 + h.1.2.length + h.2.length = i + 1
            omega
          | false =>
            rw [if_neg (by decide)] at e2
            rw [e2, List.length_append]
            show h.1.1.length + (h.1.2.length + 1) + h.2.length = i + 1
            omega
        · cases e
      · cases e
    · cases e
  · cases e
theorem tx_axm_len {T : Nat → Nat} {N : Nat} {h h' : tx_H} {p p' i : Nat} (e : tx_axm T N h p = (0, h', p', 0)) (hi : i = h.1.1.length + h.1.2.length + h.2.length) : h'.1.1.length + h'.1.2.length + h'.2.length = i + 1 := by
  unfold tx_axm at e
  dsimp only at e
  split at e
  · split at e
    · split at e
      · cases e
      · have e2 := tx_semi_h e
        rw [e2, List.length_append]
        show h.1.1.length + h.1.2.length + (h.2.length + 1) = i + 1
        omega
    · cases e
  · cases e

theorem cv_58_65 {T : Nat → Nat} {N th : Nat} {s0 : ps_S} {R : Int32 → ps_S → Prop} {c0 : tx_D4} {x4 : Int32} (hx4 : x4.toInt = 19) (k1 : ∀ s', ct_ok th s0 s' T N c0 → R 1 s') (k0 : ∀ s', ct_bad th s0 s' T N c0 → R 0 s') (n : Nat) (IH : ∀ {s : ps_S} {x5 : Int32} {i : Nat} {h : tx_H} {p : Nat}, cv_L s th T N h p → cfr (cv_HC th) s0 s → x5.toInt = i → i = h.1.1.length + h.1.2.length + h.2.length → gt_go (tx_ln T N) c0 (0, h, p, 0) → ∀ m, m ≤ n → pl_At m 58 18 [(0, .ref 902), (4, .int x4), (5, .int x5)] [] s (ps_rI R)) {s : ps_S} {x5 x6 : Int32} {i q : Nat} {h : tx_H} {p : Nat} (L : cv_L s th T N h p) (F : cfr (cv_HC th) s0 s) (hx5 : x5.toInt = i) (hi : i = h.1.1.length + h.1.2.length + h.2.length) (hg : gt_go (tx_ln T N) c0 (0, h, p, 0)) (hx6 : x6.toInt = q) (hq : (tx_tok T N p).1 = 3 ∧ (tx_tok T N p).2.2.2.2 = q ∧ (q = 8 ∨ q = 9 ∨ q = 10)) : pl_At (n + 1) 58 65 [(0, .ref 902), (4, .int x4), (5, .int x5), (6, .int x6)] [] s (ps_rI R) := by
  have hok := tx_tok_ok (T := T) L.2.2.2.2.1
  have H := L.2.2.2.1
  have b1 := H.1.2.2.1
  have b2 := H.1.2.2.2.1
  have b3 := H.2.2.1
  refine pl_58_65 ?_
  rw [L.2.1]
  refine fs_132 H (fun q71 => ?_) (fun q71 => ?_)
  · refine ⟨fun h74 => ?_, fun h74 => ?_⟩
    · exact absurd h74 (by decide)
    · exact cv_58_77 L F (fun s' b => by
        obtain ⟨h', pl, kk, e1, f1, f2, f3⟩ := b
        exact k0 s' ⟨h', pl, kk, gt_trans hg (gt_one ((tx_l_bad (by omega) (by omega)).trans e1)), f1, f2, f3⟩)
  · refine ⟨fun h74 => ?_, fun h74 => ?_⟩
    · refine fs_140 L.2.2.1 L.2.2.2.2.2.1.2.2.1 hok.2.1 (fun s87 q87 => ?_)
      have L1 := cv_L_adv L hok.2.1 q87
      have F1 : cfr (cv_HC th) s0 s87 := cfr_tr F (cv_HC_fl q87.1)
      refine ⟨fun h94 => ?_, fun h94 => ?_⟩
      · have h94 : x6.toInt ≠ (10 : Int) := xne h94
        obtain ⟨rel, hrx, hrl, hst⟩ : ∃ rel : Bool, x6.toInt = (if rel = true then 8 else 9) ∧ (if rel = true then h.1.1.length < 6 else h.1.2.length < 4) ∧ tx_ln T N (0, h, p, 0) = tx_sym T N rel h (tx_tok T N p).2.2.1 := by
          rcases (show q = 8 ∨ q = 9 from by omega) with z | z
          · exact ⟨true, by rw [hx6, z]; rfl, show h.1.1.length < 6 from by omega, tx_l_rel hq.1 (hq.2.1.trans z) (by omega)⟩
          · exact ⟨false, by rw [hx6, z]; rfl, show h.1.2.length < 4 from by omega, tx_l_fun hq.1 (hq.2.1.trans z) (by omega)⟩
        refine fs_63 L1 hrx hrl (fun s110 q110 => ?_) (fun s110 q110 => ?_)
        · refine ⟨fun h113 => ?_, fun h113 => ?_⟩
          · obtain ⟨h', p', e1, L2, F2⟩ := q110
            have hd : h'.1.1.length + h'.1.2.length + h'.2.length = i + 1 := tx_sym_len e1 hi
            exact IH L2 (cfr_tr F1 F2) (xj1 hx5 (by omega)) hd.symm (gt_trans hg (gt_one (hst.trans e1))) n (Nat.le_refl n)
          · exact absurd h113 (by decide)
        · refine ⟨fun h113 => ?_, fun h113 => ?_⟩
          · exact absurd h113 (by decide)
          · obtain ⟨h', pl, kk, e1, f1, f2, f3⟩ := q110
            exact k0 _ ⟨h', pl, kk, gt_trans hg (gt_one (hst.trans e1)), f1, f2, cfr_tr F1 f3⟩
      · have h94 : x6.toInt = (10 : Int) := xeq h94
        have hq10 : q = 10 := by omega
        have hst := tx_l_axm (T := T) (N := N) (h := h) hq.1 (hq.2.1.trans hq10) (by omega)
        refine fs_64 (h := h) L1 (by omega) (fun s98 q98 => ?_) (fun s98 q98 => ?_)
        · refine ⟨fun h101 => ?_, fun h101 => ?_⟩
          · exact absurd h101 (by decide)
          · obtain ⟨h', p', e1, L2, F2⟩ := q98
            have hd : h'.1.1.length + h'.1.2.length + h'.2.length = i + 1 := tx_axm_len e1 hi
            exact IH L2 (cfr_tr F1 F2) (xj1 hx5 (by omega)) hd.symm (gt_trans hg (gt_one (hst.trans e1))) n (Nat.le_refl n)
        · refine ⟨fun h101 => ?_, fun h101 => ?_⟩
          · obtain ⟨h', pl, kk, e1, f1, f2, f3⟩ := q98
            exact k0 _ ⟨h', pl, kk, gt_trans hg (gt_one (hst.trans e1)), f1, f2, cfr_tr F1 f3⟩
          · exact absurd h101 (by decide)
    · exact absurd h74 (by decide)

theorem cv_58_18 {T : Nat → Nat} {N th : Nat} {s0 : ps_S} {R : Int32 → ps_S → Prop} {c0 : tx_D4} {x4 : Int32} (hx4 : x4.toInt = 19) (k1 : ∀ s', ct_ok th s0 s' T N c0 → R 1 s') (k0 : ∀ s', ct_bad th s0 s' T N c0 → R 0 s') : ∀ (n : Nat) {s : ps_S} {x5 : Int32} {i : Nat} {h : tx_H} {p : Nat}, cv_L s th T N h p → cfr (cv_HC th) s0 s → x5.toInt = i → i = h.1.1.length + h.1.2.length + h.2.length → gt_go (tx_ln T N) c0 (0, h, p, 0) → ∀ m, m ≤ n → pl_At m 58 18 [(0, .ref 902), (4, .int x4), (5, .int x5)] [] s (ps_rI R)
  | 0, _, _, _, _, _, _, _, _, _, _, m, hm => by
    rw [Nat.le_zero.mp hm]
    exact pl_At_0
  | n + 1, s, x5, i, h, p, L, F, hx5, hi, hg, m, hm => by
    cases m with
    | zero => exact pl_At_0
    | succ m =>
    have H := L.2.2.2.1
    have HK := L.2.2.2.2.2.1
    have h4 := HK.1
    have h6 := HK.2.2.2.2.1
    have b1 := H.1.2.2.1
    have b2 := H.1.2.2.2.1
    have b3 := H.2.2.1
    have k3 : 0 ≤ (ps_i s 903 6).toInt → (tx_tok T N p).1 = 3 ∧ (ps_i s 903 6).toInt = (tx_tok T N p).2.2.2.2 := fun z => by
      by_cases y : (tx_tok T N p).1 = 3
      · rw [if_pos y] at h6
        exact ⟨y, h6⟩
      · rw [if_neg y] at h6
        omega
    have to65 : ∀ q : Nat, (ps_i s 903 6).toInt = q → (q = 8 ∨ q = 9 ∨ q = 10) → pl_At m 58 65 [(0, .ref 902), (4, .int x4), (5, .int x5), (6, .int (ps_i s 903 6))] [] s (ps_rI R) := fun q hq h8 => by
      cases m with
      | zero => exact pl_At_0
      | succ m =>
      obtain ⟨y1, y2⟩ := k3 (by omega)
      exact cv_58_65 hx4 k1 k0 m (fun L F hx5 hi hg m' hm' => cv_58_18 hx4 k1 k0 n L F hx5 hi hg m' (by omega)) L F hx5 hi hg hq ⟨y1, by omega, h8⟩
    refine pl_58_18 ?_
    refine ⟨fun h22 => ?_, fun h22 => ?_⟩
    · have h22 : x4.toInt ≤ x5.toInt := xle h22
      exfalso; omega
    · have h22 : x5.toInt < x4.toInt := xlt h22
      refine ⟨fun h32 => ?_, fun h32 => ?_⟩
      · have h32 : (ps_i s 903 4).toInt = (0 : Int) := xeq h32
        exact k1 _ ⟨h, p, gt_trans hg (gt_one (tx_l_end (by omega))), L, F⟩
      · have h32 : (ps_i s 903 4).toInt ≠ (0 : Int) := xne h32
        refine ⟨fun h48 => ?_, fun h48 => ?_⟩
        · have h48 : (ps_i s 903 6).toInt = (8 : Int) := xeq h48
          exact to65 8 h48 (by decide)
        · have h48 : (ps_i s 903 6).toInt ≠ (8 : Int) := xne h48
          refine ⟨fun h55 => ?_, fun h55 => ?_⟩
          · have h55 : (ps_i s 903 6).toInt = (9 : Int) := xeq h55
            exact to65 9 h55 (by decide)
          · have h55 : (ps_i s 903 6).toInt ≠ (9 : Int) := xne h55
            refine ⟨fun h62 => ?_, fun h62 => ?_⟩
            · have h62 : (ps_i s 903 6).toInt ≠ (10 : Int) := xne h62
              exact cv_58_77 L F (fun s' b => by
                obtain ⟨h', pl, kk, e1, f1, f2, f3⟩ := b
                refine k0 s' ⟨h', pl, kk, gt_trans hg (gt_one ((tx_l_bad (by omega) (fun z => ?_)).trans e1)), f1, f2, f3⟩
                rw [if_pos z.1] at h6
                omega)
            · have h62 : (ps_i s 903 6).toInt = (10 : Int) := xeq h62
              exact to65 10 h62 (by decide)

/-- what stands fixed of a theory's cells between two readings -/
def cv_base (s : ps_S) (th : Nat) : Prop := (ps_a s (th + 4) 0).toInt = 0 ∧ (ps_a s (th + 4) 1).toInt = 2 ∧ (ps_a s (th + 4) 2).toInt = 2 ∧ (ps_a s (th + 4) 3).toInt = 2 ∧ (ps_a s (th + 4) 4).toInt = 1 ∧ (ps_a s (th + 4) 5).toInt = 1 ∧ (ps_a s (th + 4) 6).toInt = 2
theorem fs_58 {n th : Nat} {s : ps_S} {T : Nat → Nat} {N : Nat} {x2 : Int32} {R : Int32 → ps_S → Prop} (hth : th = 2 ∨ th = 26) (hb : cv_base s th) (hx : x2.toInt = N) (hN : N ≤ 1600) (hT : ∀ k, k < N → (ps_a s 1 k &&& 255).toInt = T k) (hkw : ∀ (k : Nat) (w : List Nat), tx_keys[k]? = some w → ps_b s 904 k = tx_x w) (k1 : ∀ s', ct_ok th s s' T N (0, (([], []), []), 0, 0) → R 1 s') (k0 : ∀ s', ct_bad th s s' T N (0, (([], []), []), 0, 0) → R 0 s') : pl_Cl n 58 [.ref 902, .ref 1, .int x2, .ref th] s (ps_rI R) := by
  cases n with
  | zero => exact pl_At_0
  | succ n =>
  show pl_At (n + 1) 58 0 [(0, .ref 902), (1, .ref 1), (2, .int x2), (3, .ref th)] [] s (ps_rI R)
  have C1 : cfr (cv_HC th) s (ps_ui (ps_ui (ps_ui s th 6 0) th 7 0) th 8 0) := cfr_i (cfr_i (cfr_i cfr_refl cv_HCth) cv_HCth) cv_HCth
  have C2 : cfr (cv_HC th) (ps_ui (ps_ui (ps_ui s th 6 0) th 7 0) th 8 0) (cv_b0 (ps_ui (ps_ui (ps_ui s th 6 0) th 7 0) th 8 0) th x2) := by
    have h2 : cv_HC th 902 := Or.inr (Or.inl rfl)
    have h3 : cv_HC th 903 := Or.inr (Or.inr (Or.inl rfl))
    exact cfr_i (cfr_i (cfr_r (cfr_i (cfr_i (cfr_i (cfr_i (cfr_i (cfr_r cfr_refl h2) h2) h2) h2) h2) h2) h3) h3) h3
  have hT0 : cv_T (cv_b0 (ps_ui (ps_ui (ps_ui s th 6 0) th 7 0) th 8 0) th x2) T N := ⟨rfl, hx, hN, hT, hkw⟩
  have e : ∀ f, ps_i (cv_b0 (ps_ui (ps_ui (ps_ui s th 6 0) th 7 0) th 8 0) th x2) th f = ps_i (ps_ui (ps_ui (ps_ui s th 6 0) th 7 0) th 8 0) th f := fun f => by
    unfold cv_b0
    rw [ps_i_ui, if_neg (by omega), ps_i_ui, if_neg (by omega), ps_i_ur, ps_i_ui, if_neg (by omega), ps_i_ui, if_neg (by omega), ps_i_ui, if_neg (by omega), ps_i_ui, if_neg (by omega), ps_i_ui, if_neg (by omega), ps_i_ur]
  have e6 : (ps_i (ps_ui (ps_ui (ps_ui s th 6 0) th 7 0) th 8 0) th 6).toInt = 0 := by
    rw [ps_i_ui, if_neg (by omega), ps_i_ui, if_neg (by omega), ps_i_ui, if_pos ⟨rfl, rfl⟩]
    rfl
  have e7 : (ps_i (ps_ui (ps_ui (ps_ui s th 6 0) th 7 0) th 8 0) th 7).toInt = 0 := by
    rw [ps_i_ui, if_neg (by omega), ps_i_ui, if_pos ⟨rfl, rfl⟩]
    rfl
  have e8 : (ps_i (ps_ui (ps_ui (ps_ui s th 6 0) th 7 0) th 8 0) th 8).toInt = 0 := by
    rw [ps_i_ui, if_pos ⟨rfl, rfl⟩]
    rfl
  have H0 : cv_H (cv_b0 (ps_ui (ps_ui (ps_ui s th 6 0) th 7 0) th 8 0) th x2) th (([], []), []) := by
    refine ⟨⟨by rw [e]; exact e6, by rw [e]; exact e7, Nat.zero_le _, Nat.zero_le _, (fun k w a hk => by cases hk), (fun k w a hk => by cases hk), hb, (fun w m1 _ => by cases m1)⟩, by rw [e]; exact e8, Nat.zero_le _, fun k w l hk => by cases hk⟩
  refine pl_58_0 ?_
  refine fs_126 (th := th) ?_
  refine fs_61 hx hT0 (fun s8 q8 => ?_)
  have F := cfr_fl q8.1
  have L : cv_L s8 th T N (([], []), []) 0 := ⟨hth, by rw [q8.1.2.2.1]; rfl, cv_T_fl hT0 q8.1, cv_H_cfr H0 F (fun q a b z => by have z : q = 903 := z; have b : q < th + 8 + 2 * 0 := b; omega), Nat.zero_le _, q8.2, by rw [(F 902 (by decide)).1]; rfl, by rw [(F 902 (by decide)).1]; rfl, by rw [(F 902 (by decide)).1]; rfl, by rw [(F 902 (by decide)).1]; rfl⟩
  exact cv_58_18 (T := T) (N := N) (th := th) (s0 := s) (c0 := (0, (([], []), []), 0, 0)) rfl k1 k0 n (i := 0) L (cfr_tr C1 (cfr_tr C2 (cv_HC_fl q8.1))) rfl rfl gt_refl n (Nat.le_refl n)
end
section
/-! THE REFERENCE'S TEXTS: what its cells hold while it reads -/
def kq (A F : List Nat) (s s' : ps_S) : Prop := kp A F s s' ∧ ps_r s' = ps_r s
theorem kq_refl {A F : List Nat} {s : ps_S} : kq A F s s := ⟨kp_refl, rfl⟩
theorem kqi {A F : List Nat} {s s' : ps_S} (h : kq A F s s') {q : Nat} {v : Int32} (hq : F.contains q = true) : kq A F s (ps_ui s' 1131 q v) := ⟨kpi h.1 hq, h.2⟩
theorem kqj {A F : List Nat} {s s' : ps_S} (h : kq A F s s') {q : Nat} {v : Int64} (hq : F.contains q = true) : kq A F s (ps_uj s' 1131 q v) := ⟨kpj h.1 hq, h.2⟩
theorem kqa {A F : List Nat} {s s' : ps_S} (h : kq A F s s') {r i : Nat} {v : Int32} (hq : A.contains r = true) : kq A F s (ps_ua s' r i v) := ⟨kpa' h.1 hq, h.2⟩
theorem kqb {A F : List Nat} {s s' : ps_S} (h : kq A F s s') {r i : Nat} {v : Int64} (hq : A.contains r = true) : kq A F s (ps_ub s' r i v) := ⟨kpb' h.1 hq, h.2⟩
theorem kqt {A F A' F' : List Nat} {s s' s'' : ps_S} (h : kq A F s s') (h' : kq A' F' s' s'') (hA : A'.all (fun a => A.contains a) = true) (hF : F'.all (fun a => F.contains a) = true) : kq A F s s'' := ⟨kpt h.1 h'.1 hA hF, h'.2.trans h.2⟩
theorem kq_i {A F : List Nat} {s s' : ps_S} (h : kq A F s s') (q : Nat) (hq : F.contains q = false) : ps_i s' 1131 q = ps_i s 1131 q := kp_i h.1 q hq
theorem kq_j {A F : List Nat} {s s' : ps_S} (h : kq A F s s') (q : Nat) (hq : F.contains q = false) : ps_j s' 1131 q = ps_j s 1131 q := kp_j h.1 q hq
theorem kq_a {A F : List Nat} {s s' : ps_S} (h : kq A F s s') (r : Nat) (hr : A.contains r = false) : ps_a s' r = ps_a s r := (h.1.2 r hr).1
theorem kq_b {A F : List Nat} {s s' : ps_S} (h : kq A F s s') (r : Nat) (hr : A.contains r = false) : ps_b s' r = ps_b s r := (h.1.2 r hr).2
/-- the reference's text -/
def mv_T (s : ps_S) (T : Nat → Nat) (N : Nat) : Prop := (ps_i s 1131 4).toInt = N ∧ N ≤ 1600 ∧ ∀ k, k < N → (ps_a s 1133 k &&& 255).toInt = T k
theorem mv_T_kq {A F : List Nat} {s s' : ps_S} {T : Nat → Nat} {N : Nat} (h : mv_T s T N) (K : kq A F s s') (hF : F.contains 4 = false) (hA : A.contains 1133 = false) : mv_T s' T N := by
  unfold mv_T at *
  rw [kq_i K 4 hF, kq_a K 1133 hA]
  exact h
/-- the reference's token -/
def mv_K (s : ps_S) (tk : tx_K) : Prop := (ps_i s 1131 9).toInt = tk.1 ∧ (ps_i s 1131 7).toInt = tk.2.1 ∧ (ps_i s 1131 8).toInt = tk.2.2.1 ∧ (tk.1 = 2 ∨ tk.1 = 3 → ps_j s 1131 11 = tx_m tk.2.2.2.1) ∧ (tk.1 = 4 → (ps_i s 1131 10).toInt = tk.2.2.2.2)
theorem mv_K_kq {A F : List Nat} {s s' : ps_S} {tk : tx_K} (h : mv_K s tk) (K : kq A F s s') (hF : [7, 8, 9, 10, 11].all (fun q => !F.contains q) = true) : mv_K s' tk := by
  rw [List.all_eq_true] at hF
  have f : ∀ q, q ∈ [7, 8, 9, 10, 11] → F.contains q = false := fun q hq => by
    have := hF q hq
    rw [Bool.not_eq_true'] at this
    exact this
  unfold mv_K at *
  rw [kq_i K 7 (f 7 (by decide)), kq_i K 8 (f 8 (by decide)), kq_i K 9 (f 9 (by decide)), kq_i K 10 (f 10 (by decide)), kq_j K 11 (f 11 (by decide))]
  exact h
theorem tx_at_mem0 {L : List (List Nat)} {w : List Nat} (h : tx_at L w = none) : ¬ w ∈ L := fun z => by
  obtain ⟨k, hk, e⟩ := List.getElem_of_mem z
  exact tx_ix_none h k (by rw [List.getElem?_eq_getElem hk, e])
/-- the key words' numbers as the reference has them -/
theorem tx_kept {w : List Nat} {l : Int64} (hl : l = tx_m w) (h : ¬ l ∈ tx_keys.map tx_m) : tx_at tx_keys w = none := tx_at_no (fun j hj z => h (by rw [hl]; exact List.mem_map.mpr ⟨w, List.mem_of_getElem? z, rfl⟩))
theorem tx_kept_mem {w : List Nat} {l : Int64} (hw : tx_w w) (hl : l = tx_m w) (h : l ∈ tx_keys.map tx_m) : tx_at tx_keys w ≠ none := fun e => by
  obtain ⟨w', h1, h2⟩ := List.mem_map.mp h
  have := tx_m_inj (tx_keys_w w' h1) hw (h2.trans hl)
  rw [this] at h1
  exact tx_at_mem0 e h1
/-- a token's word -/
theorem tx_tok_key {T : Nat → Nat} {n p : Nat} : ((tx_tok T n p).1 = 3 → tx_at tx_keys (tx_tok T n p).2.2.2.1 = some (tx_tok T n p).2.2.2.2 ∧ tx_w (tx_tok T n p).2.2.2.1) ∧ ((tx_tok T n p).1 = 2 → tx_at tx_keys (tx_tok T n p).2.2.2.1 = none) := by
  generalize e : tx_to tx_B T n p = a
  by_cases h : n ≤ a
  · rw [tx_tok_end e h]
    exact ⟨(fun z => by cases z), (fun z => by cases z)⟩
  by_cases hL : tx_L (T a) = true
  · rw [tx_tok_word e (by omega) hL]
    split
    · exact ⟨(fun z => by cases z), (fun z => by cases z)⟩
    · next h8 =>
      split
      · next k hk => exact ⟨fun _ => ⟨hk, tx_wd_w (fun j hj => (tx_to_all (n := n) (p := a) (Nat.le_add_right a j) (by omega)).2) (by omega)⟩, (fun z => by cases z)⟩
      · next hk => exact ⟨(fun z => by cases z), fun _ => hk⟩
  by_cases hD : tx_D (T a) = true
  · rw [tx_tok_num e (by omega) hL hD]
    split
    · exact ⟨(fun z => by cases z), (fun z => by cases z)⟩
    · exact ⟨(fun z => by cases z), (fun z => by cases z)⟩
  · rw [tx_tok_sign e (by omega) hL hD]
    split
    · exact ⟨(fun z => by cases z), (fun z => by cases z)⟩
    · exact ⟨(fun z => by cases z), (fun z => by cases z)⟩
theorem xsh {m c : Nat} {l : Int64} {v : Int32} (hl : l = Int64.ofNat m) (hv : v.toInt = c) (hm : m < 72057594037927936) (hc : c < 256) : (l <<< (Int32.toInt64 (8 : Int32) &&& 63)) ||| Int32.toInt64 v = Int64.ofNat (m * 256 + c) := by
  rw [xon hv, hl, show (Int32.toInt64 (8 : Int32) &&& 63) = (8 : Int64) from by decide]
  refine Int64.toBitVec_inj.mp ?_
  rw [Int64.toBitVec_or, Int64.toBitVec_shiftLeft]
  refine BitVec.eq_of_toNat_eq ?_
  rw [BitVec.toNat_or, show ((8 : Int64).toBitVec.smod 64) = (8 : BitVec 64) from by decide, Int64.toBitVec_ofNat', Int64.toBitVec_ofNat', Int64.toBitVec_ofNat', BitVec.shiftLeft_eq', BitVec.toNat_shiftLeft, BitVec.toNat_ofNat, BitVec.toNat_ofNat, BitVec.toNat_ofNat]
  rw [show (8 : BitVec 64).toNat = 8 from rfl, Nat.mod_eq_of_lt (show m < 2 ^ 64 by omega), Nat.mod_eq_of_lt (show c < 2 ^ 64 by omega), Nat.mod_eq_of_lt (show m * 256 + c < 2 ^ 64 by omega), Nat.shiftLeft_eq, Nat.mod_eq_of_lt (show m * 2 ^ 8 < 2 ^ 64 by omega)]
  rw [← Nat.shiftLeft_eq, ← Nat.shiftLeft_add_eq_or_of_lt (show c < 2 ^ 8 by omega), Nat.shiftLeft_eq]
end
section
set_option maxRecDepth 100000
/-! the reference's tokens -/
-- ProofBenchModel.sign(I)I
theorem pl_188_0 {n : Nat} {x1 : Int32} {s : ps_S} {Q : Option Value → ps_S → Prop} (h :
  ((ps_i s 1131 4) ≤ x1 →
    Q (some (.int 0)) s) ∧
  (x1 < (ps_i s 1131 4) →
    (pm_in x1 1600 = true →
      Q (some (.int ((ps_a s 1133 (Int32.toNatClampNeg x1)) &&& 255))) s))) : pl_At (n + 1) 188 0 [(0, .ref 1131), (1, .int x1)] [] s Q :=
  pl_wp_at (stops := []) (f := 16) h rfl

-- ProofBenchModel.isLetter(I)Z
theorem pl_189_0 {n : Nat} {x0 : Int32} {s : ps_S} {Q : Option Value → ps_S → Prop} (h :
  (x0 < 97 →
    Q (some (.int 0)) s) ∧
  (97 ≤ x0 →
    (122 < x0 →
      Q (some (.int 0)) s) ∧
    (x0 ≤ 122 →
      Q (some (.int 1)) s))) : pl_At (n + 1) 189 0 [(0, .int x0)] [] s Q :=
  pl_wp_at (stops := []) (f := 15) h rfl

-- ProofBenchModel.isDigit(I)Z
theorem pl_190_0 {n : Nat} {x0 : Int32} {s : ps_S} {Q : Option Value → ps_S → Prop} (h :
  (x0 < 48 →
    Q (some (.int 0)) s) ∧
  (48 ≤ x0 →
    (57 < x0 →
      Q (some (.int 0)) s) ∧
    (x0 ≤ 57 →
      Q (some (.int 1)) s))) : pl_At (n + 1) 190 0 [(0, .int x0)] [] s Q :=
  pl_wp_at (stops := []) (f := 15) h rfl

-- ProofBenchModel.isKept(J)Z
theorem pl_193_0 {n : Nat} {l0 : Int64} {s : ps_S} {Q : Option Value → ps_S → Prop} (h :
  ((lg_cmp l0 (7497068 : Int64)) = 0 →
    pl_At n 193 80 [(0, .long l0)] [] s Q) ∧
  ((lg_cmp l0 (7497068 : Int64)) ≠ 0 →
    ((lg_cmp l0 (6714734 : Int64)) = 0 →
      pl_At n 193 80 [(0, .long l0)] [] s Q) ∧
    ((lg_cmp l0 (6714734 : Int64)) ≠ 0 →
      ((lg_cmp l0 (418632003437 : Int64)) = 0 →
        pl_At n 193 80 [(0, .long l0)] [] s Q) ∧
      ((lg_cmp l0 (418632003437 : Int64)) ≠ 0 →
        ((lg_cmp l0 (439721161573 : Int64)) = 0 →
          pl_At n 193 80 [(0, .long l0)] [] s Q) ∧
        ((lg_cmp l0 (439721161573 : Int64)) ≠ 0 →
          ((lg_cmp l0 (7237492 : Int64)) = 0 →
            pl_At n 193 80 [(0, .long l0)] [] s Q) ∧
          ((lg_cmp l0 (7237492 : Int64)) ≠ 0 →
            ((lg_cmp l0 (6385252 : Int64)) = 0 →
              pl_At n 193 80 [(0, .long l0)] [] s Q) ∧
            ((lg_cmp l0 (6385252 : Int64)) ≠ 0 →
              ((lg_cmp l0 (28530 : Int64)) = 0 →
                pl_At n 193 80 [(0, .long l0)] [] s Q) ∧
              ((lg_cmp l0 (28530 : Int64)) ≠ 0 →
                ((lg_cmp l0 (6909296 : Int64)) = 0 →
                  pl_At n 193 80 [(0, .long l0)] [] s Q) ∧
                ((lg_cmp l0 (6909296 : Int64)) ≠ 0 →
                  ((lg_cmp l0 (6384748 : Int64)) = 0 →
                    pl_At n 193 80 [(0, .long l0)] [] s Q) ∧
                  ((lg_cmp l0 (6384748 : Int64)) ≠ 0 →
                    ((lg_cmp l0 (1936682341 : Int64)) ≠ 0 →
                      ((lg_cmp l0 (1935764837 : Int64)) = 0 →
                        pl_At n 193 158 [(0, .long l0), (2, .int 0)] [] s Q) ∧
                      ((lg_cmp l0 (1935764837 : Int64)) ≠ 0 →
                        ((lg_cmp l0 (107148486208869 : Int64)) = 0 →
                          pl_At n 193 158 [(0, .long l0), (2, .int 0)] [] s Q) ∧
                        ((lg_cmp l0 (107148486208869 : Int64)) ≠ 0 →
                          ((lg_cmp l0 (32765882169189741 : Int64)) = 0 →
                            pl_At n 193 158 [(0, .long l0), (2, .int 0)] [] s Q) ∧
                          ((lg_cmp l0 (32765882169189741 : Int64)) ≠ 0 →
                            ((lg_cmp l0 (1651471464 : Int64)) = 0 →
                              pl_At n 193 158 [(0, .long l0), (2, .int 0)] [] s Q) ∧
                            ((lg_cmp l0 (1651471464 : Int64)) ≠ 0 →
                              ((lg_cmp l0 (1818584692 : Int64)) = 0 →
                                pl_At n 193 158 [(0, .long l0), (2, .int 0)] [] s Q) ∧
                              ((lg_cmp l0 (1818584692 : Int64)) ≠ 0 →
                                ((lg_cmp l0 (491394656372 : Int64)) = 0 →
                                  pl_At n 193 158 [(0, .long l0), (2, .int 0)] [] s Q) ∧
                                ((lg_cmp l0 (491394656372 : Int64)) ≠ 0 →
                                  ((lg_cmp l0 (122537235539572 : Int64)) = 0 →
                                    pl_At n 193 158 [(0, .long l0), (2, .int 0)] [] s Q) ∧
                                  ((lg_cmp l0 (122537235539572 : Int64)) ≠ 0 →
                                    ((lg_cmp l0 (31369558135105652 : Int64)) = 0 →
                                      pl_At n 193 158 [(0, .long l0), (2, .int 0)] [] s Q) ∧
                                    ((lg_cmp l0 (31369558135105652 : Int64)) ≠ 0 →
                                      ((lg_cmp l0 (1667330917 : Int64)) ≠ 0 →
                                        ((0 : Int32) ≠ 0 →
                                          Q (some (.int 1)) s) ∧
                                        ((0 : Int32) = 0 →
                                          ((0 : Int32) ≠ 0 →
                                            Q (some (.int 1)) s) ∧
                                          ((0 : Int32) = 0 →
                                            ((lg_cmp l0 (418498243705 : Int64)) = 0 →
                                              Q (some (.int 1)) s) ∧
                                            ((lg_cmp l0 (418498243705 : Int64)) ≠ 0 →
                                              ((lg_cmp l0 (29103447424000364 : Int64)) = 0 →
                                                Q (some (.int 1)) s) ∧
                                              ((lg_cmp l0 (29103447424000364 : Int64)) ≠ 0 →
                                                ((lg_cmp l0 (32493203083583852 : Int64)) = 0 →
                                                  Q (some (.int 1)) s) ∧
                                                ((lg_cmp l0 (32493203083583852 : Int64)) ≠ 0 →
                                                  ((lg_cmp l0 (435811873652 : Int64)) = 0 →
                                                    Q (some (.int 1)) s) ∧
                                                  ((lg_cmp l0 (435811873652 : Int64)) ≠ 0 →
                                                    ((lg_cmp l0 (1869636974 : Int64)) = 0 →
                                                      Q (some (.int 1)) s) ∧
                                                    ((lg_cmp l0 (1869636974 : Int64)) ≠ 0 →
                                                      ((lg_cmp l0 (32199680874079077 : Int64)) = 0 →
                                                        Q (some (.int 1)) s) ∧
                                                      ((lg_cmp l0 (32199680874079077 : Int64)) ≠ 0 →
                                                        ((lg_cmp l0 (107075471766116 : Int64)) = 0 →
                                                          Q (some (.int 1)) s) ∧
                                                        ((lg_cmp l0 (107075471766116 : Int64)) ≠ 0 →
                                                          ((lg_cmp l0 (27985188498925923 : Int64)) = 0 →
                                                            Q (some (.int 1)) s) ∧
                                                          ((lg_cmp l0 (27985188498925923 : Int64)) ≠ 0 →
                                                            ((lg_cmp l0 (110386639889253 : Int64)) ≠ 0 →
                                                              Q (some (.int 0)) s) ∧
                                                            ((lg_cmp l0 (110386639889253 : Int64)) = 0 →
                                                              Q (some (.int 1)) s)))))))))))) ∧
                                      ((lg_cmp l0 (1667330917 : Int64)) = 0 →
                                        pl_At n 193 158 [(0, .long l0), (2, .int 0)] [] s Q)))))))))) ∧
                    ((lg_cmp l0 (1936682341 : Int64)) = 0 →
                      pl_At n 193 80 [(0, .long l0)] [] s Q))))))))))) : pl_At (n + 1) 193 0 [(0, .long l0)] [] s Q :=
  pl_wp_at (stops := [(80, [0]), (158, [0, 2])]) (f := 157) h rfl

theorem pl_193_80 {n : Nat} {l0 : Int64} {s : ps_S} {Q : Option Value → ps_S → Prop} (h :
  ((lg_cmp l0 (1935764837 : Int64)) = 0 →
    pl_At n 193 158 [(0, .long l0), (2, .int 1)] [] s Q) ∧
  ((lg_cmp l0 (1935764837 : Int64)) ≠ 0 →
    ((lg_cmp l0 (107148486208869 : Int64)) = 0 →
      pl_At n 193 158 [(0, .long l0), (2, .int 1)] [] s Q) ∧
    ((lg_cmp l0 (107148486208869 : Int64)) ≠ 0 →
      ((lg_cmp l0 (32765882169189741 : Int64)) = 0 →
        pl_At n 193 158 [(0, .long l0), (2, .int 1)] [] s Q) ∧
      ((lg_cmp l0 (32765882169189741 : Int64)) ≠ 0 →
        ((lg_cmp l0 (1651471464 : Int64)) = 0 →
          pl_At n 193 158 [(0, .long l0), (2, .int 1)] [] s Q) ∧
        ((lg_cmp l0 (1651471464 : Int64)) ≠ 0 →
          ((lg_cmp l0 (1818584692 : Int64)) = 0 →
            pl_At n 193 158 [(0, .long l0), (2, .int 1)] [] s Q) ∧
          ((lg_cmp l0 (1818584692 : Int64)) ≠ 0 →
            ((lg_cmp l0 (491394656372 : Int64)) = 0 →
              pl_At n 193 158 [(0, .long l0), (2, .int 1)] [] s Q) ∧
            ((lg_cmp l0 (491394656372 : Int64)) ≠ 0 →
              ((lg_cmp l0 (122537235539572 : Int64)) = 0 →
                pl_At n 193 158 [(0, .long l0), (2, .int 1)] [] s Q) ∧
              ((lg_cmp l0 (122537235539572 : Int64)) ≠ 0 →
                ((lg_cmp l0 (31369558135105652 : Int64)) = 0 →
                  pl_At n 193 158 [(0, .long l0), (2, .int 1)] [] s Q) ∧
                ((lg_cmp l0 (31369558135105652 : Int64)) ≠ 0 →
                  ((lg_cmp l0 (1667330917 : Int64)) ≠ 0 →
                    ((1 : Int32) ≠ 0 →
                      Q (some (.int 1)) s) ∧
                    ((1 : Int32) = 0 →
                      ((0 : Int32) ≠ 0 →
                        Q (some (.int 1)) s) ∧
                      ((0 : Int32) = 0 →
                        ((lg_cmp l0 (418498243705 : Int64)) = 0 →
                          Q (some (.int 1)) s) ∧
                        ((lg_cmp l0 (418498243705 : Int64)) ≠ 0 →
                          ((lg_cmp l0 (29103447424000364 : Int64)) = 0 →
                            Q (some (.int 1)) s) ∧
                          ((lg_cmp l0 (29103447424000364 : Int64)) ≠ 0 →
                            ((lg_cmp l0 (32493203083583852 : Int64)) = 0 →
                              Q (some (.int 1)) s) ∧
                            ((lg_cmp l0 (32493203083583852 : Int64)) ≠ 0 →
                              ((lg_cmp l0 (435811873652 : Int64)) = 0 →
                                Q (some (.int 1)) s) ∧
                              ((lg_cmp l0 (435811873652 : Int64)) ≠ 0 →
                                ((lg_cmp l0 (1869636974 : Int64)) = 0 →
                                  Q (some (.int 1)) s) ∧
                                ((lg_cmp l0 (1869636974 : Int64)) ≠ 0 →
                                  ((lg_cmp l0 (32199680874079077 : Int64)) = 0 →
                                    Q (some (.int 1)) s) ∧
                                  ((lg_cmp l0 (32199680874079077 : Int64)) ≠ 0 →
                                    ((lg_cmp l0 (107075471766116 : Int64)) = 0 →
                                      Q (some (.int 1)) s) ∧
                                    ((lg_cmp l0 (107075471766116 : Int64)) ≠ 0 →
                                      ((lg_cmp l0 (27985188498925923 : Int64)) = 0 →
                                        Q (some (.int 1)) s) ∧
                                      ((lg_cmp l0 (27985188498925923 : Int64)) ≠ 0 →
                                        ((lg_cmp l0 (110386639889253 : Int64)) ≠ 0 →
                                          Q (some (.int 0)) s) ∧
                                        ((lg_cmp l0 (110386639889253 : Int64)) = 0 →
                                          Q (some (.int 1)) s)))))))))))) ∧
                  ((lg_cmp l0 (1667330917 : Int64)) = 0 →
                    pl_At n 193 158 [(0, .long l0), (2, .int 1)] [] s Q)))))))))) : pl_At (n + 1) 193 80 [(0, .long l0)] [] s Q :=
  pl_wp_at (stops := [(80, [0]), (158, [0, 2])]) (f := 118) h rfl

theorem pl_193_158 {n : Nat} {l0 : Int64} {x2 : Int32} {s : ps_S} {Q : Option Value → ps_S → Prop} (h :
  (x2 ≠ 0 →
    Q (some (.int 1)) s) ∧
  (x2 = 0 →
    ((1 : Int32) ≠ 0 →
      Q (some (.int 1)) s) ∧
    ((1 : Int32) = 0 →
      ((lg_cmp l0 (418498243705 : Int64)) = 0 →
        Q (some (.int 1)) s) ∧
      ((lg_cmp l0 (418498243705 : Int64)) ≠ 0 →
        ((lg_cmp l0 (29103447424000364 : Int64)) = 0 →
          Q (some (.int 1)) s) ∧
        ((lg_cmp l0 (29103447424000364 : Int64)) ≠ 0 →
          ((lg_cmp l0 (32493203083583852 : Int64)) = 0 →
            Q (some (.int 1)) s) ∧
          ((lg_cmp l0 (32493203083583852 : Int64)) ≠ 0 →
            ((lg_cmp l0 (435811873652 : Int64)) = 0 →
              Q (some (.int 1)) s) ∧
            ((lg_cmp l0 (435811873652 : Int64)) ≠ 0 →
              ((lg_cmp l0 (1869636974 : Int64)) = 0 →
                Q (some (.int 1)) s) ∧
              ((lg_cmp l0 (1869636974 : Int64)) ≠ 0 →
                ((lg_cmp l0 (32199680874079077 : Int64)) = 0 →
                  Q (some (.int 1)) s) ∧
                ((lg_cmp l0 (32199680874079077 : Int64)) ≠ 0 →
                  ((lg_cmp l0 (107075471766116 : Int64)) = 0 →
                    Q (some (.int 1)) s) ∧
                  ((lg_cmp l0 (107075471766116 : Int64)) ≠ 0 →
                    ((lg_cmp l0 (27985188498925923 : Int64)) = 0 →
                      Q (some (.int 1)) s) ∧
                    ((lg_cmp l0 (27985188498925923 : Int64)) ≠ 0 →
                      ((lg_cmp l0 (110386639889253 : Int64)) ≠ 0 →
                        Q (some (.int 0)) s) ∧
                      ((lg_cmp l0 (110386639889253 : Int64)) = 0 →
                        Q (some (.int 1)) s)))))))))))) : pl_At (n + 1) 193 158 [(0, .long l0), (2, .int x2)] [] s Q :=
  pl_wp_at (stops := [(80, [0]), (158, [0, 2])]) (f := 80) h rfl

-- ProofBenchModel.goOn()V
theorem pl_194_0 {n : Nat} {s : ps_S} {Q : Option Value → ps_S → Prop} (h :
  pl_At n 194 8 [(0, .ref 1131)] [] (ps_ui s 1131 7 (ps_i s 1131 8)) Q) : pl_At (n + 1) 194 0 [(0, .ref 1131)] [] s Q :=
  pl_wp_at (stops := [(8, [0]), (58, [0]), (119, [0]), (156, [0, 2]), (199, [0]), (259, [0])]) (f := 6) h rfl

theorem pl_194_8 {n : Nat} {s : ps_S} {Q : Option Value → ps_S → Prop} (h :
  ((ps_i s 1131 4) ≤ (ps_i s 1131 7) →
    pl_At n 194 58 [(0, .ref 1131)] [] s Q) ∧
  ((ps_i s 1131 7) < (ps_i s 1131 4) →
    pl_Cl n 188 [.ref 1131, .int (ps_i s 1131 7)] s (ps_rI (fun v1 s1 =>
      (v1 = 32 →
        pl_At n 194 8 [(0, .ref 1131)] [] (ps_ui s1 1131 7 ((ps_i s1 1131 7) + 1)) Q) ∧
      (v1 ≠ 32 →
        pl_Cl n 188 [.ref 1131, .int (ps_i s1 1131 7)] s1 (ps_rI (fun v2 s2 =>
          (v2 ≠ 10 →
            pl_At n 194 58 [(0, .ref 1131)] [] s2 Q) ∧
          (v2 = 10 →
            pl_At n 194 8 [(0, .ref 1131)] [] (ps_ui s2 1131 7 ((ps_i s2 1131 7) + 1)) Q)))))))) : pl_At (n + 1) 194 8 [(0, .ref 1131)] [] s Q :=
  pl_wp_at (stops := [(8, [0]), (58, [0]), (119, [0]), (156, [0, 2]), (199, [0]), (259, [0])]) (f := 33) h rfl

theorem pl_194_58 {n : Nat} {s : ps_S} {Q : Option Value → ps_S → Prop} (h :
  pl_Cl n 188 [.ref 1131, .int (ps_i s 1131 7)] s (ps_rI (fun v1 s1 =>
    ((ps_i (ps_ui s1 1131 8 ((ps_i s1 1131 7) + 1)) 1131 7) < (ps_i (ps_ui s1 1131 8 ((ps_i s1 1131 7) + 1)) 1131 4) →
      pl_Cl n 189 [.int v1] (ps_ui s1 1131 8 ((ps_i s1 1131 7) + 1)) (ps_rI (fun v2 s2 =>
        (v2 = 0 →
          pl_Cl n 190 [.int v1] s2 (ps_rI (fun v3 s3 =>
            (v3 = 0 →
              (v1 ≠ 59 →
                Q none (ps_ui s3 1131 9 1)) ∧
              (v1 = 59 →
                Q none (ps_ui s3 1131 9 5))) ∧
            (v3 ≠ 0 →
              pl_At n 194 259 [(0, .ref 1131)] [] (ps_ui (ps_ui s3 1131 10 0) 1131 8 (ps_i (ps_ui s3 1131 10 0) 1131 7)) Q)))) ∧
        (v2 ≠ 0 →
          pl_At n 194 119 [(0, .ref 1131)] [] s2 Q)))) ∧
    ((ps_i (ps_ui s1 1131 8 ((ps_i s1 1131 7) + 1)) 1131 4) ≤ (ps_i (ps_ui s1 1131 8 ((ps_i s1 1131 7) + 1)) 1131 7) →
      Q none (ps_ui (ps_ui (ps_ui (ps_ui s1 1131 8 ((ps_i s1 1131 7) + 1)) 1131 9 0) 1131 7 (ps_i (ps_ui (ps_ui s1 1131 8 ((ps_i s1 1131 7) + 1)) 1131 9 0) 1131 4)) 1131 8 (ps_i (ps_ui (ps_ui (ps_ui s1 1131 8 ((ps_i s1 1131 7) + 1)) 1131 9 0) 1131 7 (ps_i (ps_ui (ps_ui s1 1131 8 ((ps_i s1 1131 7) + 1)) 1131 9 0) 1131 4)) 1131 4)))))) : pl_At (n + 1) 194 58 [(0, .ref 1131)] [] s Q :=
  pl_wp_at (stops := [(8, [0]), (58, [0]), (119, [0]), (156, [0, 2]), (199, [0]), (259, [0])]) (f := 55) h rfl

theorem pl_194_119 {n : Nat} {s : ps_S} {Q : Option Value → ps_S → Prop} (h :
  pl_Cl n 188 [.ref 1131, .int (ps_i s 1131 8)] s (ps_rI (fun v1 s1 =>
    pl_Cl n 189 [.int v1] s1 (ps_rI (fun v2 s2 =>
      (v2 = 0 →
        pl_At n 194 156 [(0, .ref 1131), (2, .int (ps_i (ps_uj s2 1131 11 0) 1131 7))] [] (ps_uj s2 1131 11 0) Q) ∧
      (v2 ≠ 0 →
        pl_At n 194 119 [(0, .ref 1131)] [] (ps_ui s2 1131 8 ((ps_i s2 1131 8) + 1)) Q)))))) : pl_At (n + 1) 194 119 [(0, .ref 1131)] [] s Q :=
  pl_wp_at (stops := [(8, [0]), (58, [0]), (119, [0]), (156, [0, 2]), (199, [0]), (259, [0])]) (f := 21) h rfl

theorem pl_194_156 {n : Nat} {x2 : Int32} {s : ps_S} {Q : Option Value → ps_S → Prop} (h :
  ((ps_i s 1131 8) ≤ x2 →
    pl_At n 194 199 [(0, .ref 1131)] [] s Q) ∧
  (x2 < (ps_i s 1131 8) →
    (((ps_i s 1131 7) + 8) ≤ x2 →
      pl_At n 194 199 [(0, .ref 1131)] [] s Q) ∧
    (x2 < ((ps_i s 1131 7) + 8) →
      pl_Cl n 188 [.ref 1131, .int x2] s (ps_rI (fun v1 s1 =>
        pl_At n 194 156 [(0, .ref 1131), (2, .int (x2 + 1))] [] (ps_uj s1 1131 11 (((ps_j s 1131 11) <<< (Int32.toInt64 (8 : Int32) &&& 63)) ||| (Int32.toInt64 v1))) Q))))) : pl_At (n + 1) 194 156 [(0, .ref 1131), (2, .int x2)] [] s Q :=
  pl_wp_at (stops := [(8, [0]), (58, [0]), (119, [0]), (156, [0, 2]), (199, [0]), (259, [0])]) (f := 25) h rfl

theorem pl_194_199 {n : Nat} {s : ps_S} {Q : Option Value → ps_S → Prop} (h :
  (((ps_i s 1131 8) - (ps_i s 1131 7)) ≤ 8 →
    pl_Cl n 193 [.long (ps_j s 1131 11)] s (ps_rI (fun v1 s1 =>
      (v1 = 0 →
        Q none (ps_ui s1 1131 9 2)) ∧
      (v1 ≠ 0 →
        Q none (ps_ui s1 1131 9 3))))) ∧
  (8 < ((ps_i s 1131 8) - (ps_i s 1131 7)) →
    Q none (ps_ui s 1131 9 1))) : pl_At (n + 1) 194 199 [(0, .ref 1131)] [] s Q :=
  pl_wp_at (stops := [(8, [0]), (58, [0]), (119, [0]), (156, [0, 2]), (199, [0]), (259, [0])]) (f := 28) h rfl

theorem pl_194_259 {n : Nat} {s : ps_S} {Q : Option Value → ps_S → Prop} (h :
  pl_Cl n 188 [.ref 1131, .int (ps_i s 1131 8)] s (ps_rI (fun v1 s1 =>
    pl_Cl n 190 [.int v1] s1 (ps_rI (fun v2 s2 =>
      (v2 = 0 →
        (4 < ((ps_i s2 1131 8) - (ps_i s2 1131 7)) →
          Q none (ps_ui s2 1131 9 1)) ∧
        (((ps_i s2 1131 8) - (ps_i s2 1131 7)) ≤ 4 →
          pl_Cl n 188 [.ref 1131, .int (ps_i s2 1131 8)] s2 (ps_rI (fun v3 s3 =>
            pl_Cl n 189 [.int v3] s3 (ps_rI (fun v4 s4 =>
              (v4 = 0 →
                Q none (ps_ui s4 1131 9 4)) ∧
              (v4 ≠ 0 →
                Q none (ps_ui s4 1131 9 1)))))))) ∧
      (v2 ≠ 0 →
        (4 ≤ ((ps_i s2 1131 8) - (ps_i s2 1131 7)) →
          pl_At n 194 259 [(0, .ref 1131)] [] (ps_ui s2 1131 8 ((ps_i s2 1131 8) + 1)) Q) ∧
        (((ps_i s2 1131 8) - (ps_i s2 1131 7)) < 4 →
          pl_Cl n 188 [.ref 1131, .int (ps_i s2 1131 8)] s2 (ps_rI (fun v5 s5 =>
            pl_At n 194 259 [(0, .ref 1131)] [] (ps_ui (ps_ui s5 1131 10 ((((10 : Int32) * (ps_i s2 1131 10)) + v5) - 48)) 1131 8 ((ps_i (ps_ui s5 1131 10 ((((10 : Int32) * (ps_i s2 1131 10)) + v5) - 48)) 1131 8) + 1)) Q))))))))) : pl_At (n + 1) 194 259 [(0, .ref 1131)] [] s Q :=
  pl_wp_at (stops := [(8, [0]), (58, [0]), (119, [0]), (156, [0, 2]), (199, [0]), (259, [0])]) (f := 70) h rfl

theorem fs_188 {n : Nat} {x1 : Int32} {s : ps_S} {R : Int32 → ps_S → Prop} {T : Nat → Nat} {N a : Nat} (H : mv_T s T N) (hx : x1.toInt = a) (k : ∀ v : Int32, v.toInt = (if a < N then (T a : Int) else 0) → R v s) : pl_Cl n 188 [.ref 1131, .int x1] s (ps_rI R) := by
  cases n with
  | zero => exact pl_At_0
  | succ n =>
  obtain ⟨H2, H3, H4⟩ := H
  show pl_At (n + 1) 188 0 [(0, .ref 1131), (1, .int x1)] [] s (ps_rI R)
  refine pl_188_0 ?_
  refine ⟨fun h5 => ?_, fun h5 => ?_⟩
  · have h5 : (ps_i s 1131 4).toInt ≤ x1.toInt := xle h5
    refine k _ ?_
    rw [if_neg (by omega)]
    rfl
  · have h5 : x1.toInt < (ps_i s 1131 4).toInt := xlt h5
    intro b13
    obtain ⟨b13, c13⟩ := pl_in b13
    rw [xtn hx]
    refine k _ ?_
    rw [if_pos (by omega), H4 a (by omega)]

theorem fs_189 {n : Nat} {x1 : Int32} {s : ps_S} {R : Int32 → ps_S → Prop} (k1 : (97 ≤ x1.toInt ∧ x1.toInt ≤ 122) → R 1 s) (k0 : ¬((97 ≤ x1.toInt ∧ x1.toInt ≤ 122)) → R 0 s) : pl_Cl n 189 [.int x1] s (ps_rI R) := by
  cases n with
  | zero => exact pl_At_0
  | succ n =>
  show pl_At (n + 1) 189 0 [(0, .int x1)] [] s (ps_rI R)
  refine pl_189_0 ?_
  refine ⟨fun h3 => ?_, fun h3 => ?_⟩
  · have h3 : x1.toInt < (97 : Int) := xlt h3
    exact k0 (by omega)
  · have h3 : (97 : Int) ≤ x1.toInt := xle h3
    refine ⟨fun h9 => ?_, fun h9 => ?_⟩
    · have h9 : (122 : Int) < x1.toInt := xlt h9
      exact k0 (by omega)
    · have h9 : x1.toInt ≤ (122 : Int) := xle h9
      exact k1 (by omega)

theorem fs_190 {n : Nat} {x1 : Int32} {s : ps_S} {R : Int32 → ps_S → Prop} (k1 : (48 ≤ x1.toInt ∧ x1.toInt ≤ 57) → R 1 s) (k0 : ¬((48 ≤ x1.toInt ∧ x1.toInt ≤ 57)) → R 0 s) : pl_Cl n 190 [.int x1] s (ps_rI R) := by
  cases n with
  | zero => exact pl_At_0
  | succ n =>
  show pl_At (n + 1) 190 0 [(0, .int x1)] [] s (ps_rI R)
  refine pl_190_0 ?_
  refine ⟨fun h3 => ?_, fun h3 => ?_⟩
  · have h3 : x1.toInt < (48 : Int) := xlt h3
    exact k0 (by omega)
  · have h3 : (48 : Int) ≤ x1.toInt := xle h3
    refine ⟨fun h9 => ?_, fun h9 => ?_⟩
    · have h9 : (57 : Int) < x1.toInt := xlt h9
      exact k0 (by omega)
    · have h9 : x1.toInt ≤ (57 : Int) := xle h9
      exact k1 (by omega)

theorem fs_193_158 {n : Nat} {l0 : Int64} {x2 : Int32} {s : ps_S} {R : Int32 → ps_S → Prop} (k1 : R 1 s) : pl_At n 193 158 [(0, .long l0), (2, .int x2)] [] s (ps_rI R) := by
  cases n with
  | zero => exact pl_At_0
  | succ n =>
  refine pl_193_158 ?_
  refine ⟨fun h165 => ?_, fun h165 => ?_⟩
  · have h165 : x2.toInt ≠ (0 : Int) := xne h165
    exact k1
  · have h165 : x2.toInt = (0 : Int) := xeq h165
    refine ⟨fun h169 => ?_, fun h169 => ?_⟩
    · exact k1
    · exact absurd h169 (by decide)
theorem fs_193_80 {n : Nat} {l0 : Int64} {s : ps_S} {R : Int32 → ps_S → Prop} (k1 : R 1 s) : pl_At n 193 80 [(0, .long l0)] [] s (ps_rI R) := by
  cases n with
  | zero => exact pl_At_0
  | succ n =>
  refine pl_193_80 ?_
  refine ⟨fun h91 => ?_, fun h91 => ?_⟩
  · have h91 := lg_z h91
    exact fs_193_158 k1
  · have h91 := lg_nz h91
    refine ⟨fun h99 => ?_, fun h99 => ?_⟩
    · have h99 := lg_z h99
      exact fs_193_158 k1
    · have h99 := lg_nz h99
      refine ⟨fun h107 => ?_, fun h107 => ?_⟩
      · have h107 := lg_z h107
        exact fs_193_158 k1
      · have h107 := lg_nz h107
        refine ⟨fun h115 => ?_, fun h115 => ?_⟩
        · have h115 := lg_z h115
          exact fs_193_158 k1
        · have h115 := lg_nz h115
          refine ⟨fun h123 => ?_, fun h123 => ?_⟩
          · have h123 := lg_z h123
            exact fs_193_158 k1
          · have h123 := lg_nz h123
            refine ⟨fun h131 => ?_, fun h131 => ?_⟩
            · have h131 := lg_z h131
              exact fs_193_158 k1
            · have h131 := lg_nz h131
              refine ⟨fun h139 => ?_, fun h139 => ?_⟩
              · have h139 := lg_z h139
                exact fs_193_158 k1
              · have h139 := lg_nz h139
                refine ⟨fun h147 => ?_, fun h147 => ?_⟩
                · have h147 := lg_z h147
                  exact fs_193_158 k1
                · have h147 := lg_nz h147
                  refine ⟨fun h155 => ?_, fun h155 => ?_⟩
                  · have h155 := lg_nz h155
                    refine ⟨fun h165 => ?_, fun h165 => ?_⟩
                    · exact k1
                    · exact absurd h165 (by decide)
                  · have h155 := lg_z h155
                    exact fs_193_158 k1
theorem tx_keyms : tx_keys.map tx_m = [439721161573, 6385252, 28530, 6909296, 6384748, 1936682341, 1935764837, 7237492, 7497068, 6714734, 418632003437, 107148486208869, 32765882169189741, 1651471464, 1818584692, 491394656372, 122537235539572, 31369558135105652, 1667330917, 418498243705, 110386639889253, 29103447424000364, 32493203083583852, 435811873652, 1869636974, 32199680874079077, 107075471766116, 27985188498925923] := by decide +kernel
theorem fs_193 {n : Nat} {l0 : Int64} {w : List Nat} {s : ps_S} {R : Int32 → ps_S → Prop} (hw : tx_w w) (hl : l0 = tx_m w) (k1 : tx_at tx_keys w ≠ none → R 1 s) (k0 : tx_at tx_keys w = none → R 0 s) : pl_Cl n 193 [.long l0] s (ps_rI R) := by
  cases n with
  | zero => exact pl_At_0
  | succ n =>
  show pl_At (n + 1) 193 0 [(0, .long l0)] [] s (ps_rI R)
  have km : ∀ c : Int64, l0 = c → c ∈ tx_keys.map tx_m → R 1 s := fun c e hc => k1 (tx_kept_mem hw hl (by rw [e]; exact hc))
  refine pl_193_0 ?_
  refine ⟨fun h5 => ?_, fun h5 => ?_⟩
  · have h5 := lg_z h5
    exact fs_193_80 (km _ h5 (by decide +kernel))
  · have h5 := lg_nz h5
    refine ⟨fun h13 => ?_, fun h13 => ?_⟩
    · have h13 := lg_z h13
      exact fs_193_80 (km _ h13 (by decide +kernel))
    · have h13 := lg_nz h13
      refine ⟨fun h21 => ?_, fun h21 => ?_⟩
      · have h21 := lg_z h21
        exact fs_193_80 (km _ h21 (by decide +kernel))
      · have h21 := lg_nz h21
        refine ⟨fun h29 => ?_, fun h29 => ?_⟩
        · have h29 := lg_z h29
          exact fs_193_80 (km _ h29 (by decide +kernel))
        · have h29 := lg_nz h29
          refine ⟨fun h37 => ?_, fun h37 => ?_⟩
          · have h37 := lg_z h37
            exact fs_193_80 (km _ h37 (by decide +kernel))
          · have h37 := lg_nz h37
            refine ⟨fun h45 => ?_, fun h45 => ?_⟩
            · have h45 := lg_z h45
              exact fs_193_80 (km _ h45 (by decide +kernel))
            · have h45 := lg_nz h45
              refine ⟨fun h53 => ?_, fun h53 => ?_⟩
              · have h53 := lg_z h53
                exact fs_193_80 (km _ h53 (by decide +kernel))
              · have h53 := lg_nz h53
                refine ⟨fun h61 => ?_, fun h61 => ?_⟩
                · have h61 := lg_z h61
                  exact fs_193_80 (km _ h61 (by decide +kernel))
                · have h61 := lg_nz h61
                  refine ⟨fun h69 => ?_, fun h69 => ?_⟩
                  · have h69 := lg_z h69
                    exact fs_193_80 (km _ h69 (by decide +kernel))
                  · have h69 := lg_nz h69
                    refine ⟨fun h77 => ?_, fun h77 => ?_⟩
                    · have h77 := lg_nz h77
                      refine ⟨fun h91 => ?_, fun h91 => ?_⟩
                      · have h91 := lg_z h91
                        exact fs_193_158 (km _ h91 (by decide +kernel))
                      · have h91 := lg_nz h91
                        refine ⟨fun h99 => ?_, fun h99 => ?_⟩
                        · have h99 := lg_z h99
                          exact fs_193_158 (km _ h99 (by decide +kernel))
                        · have h99 := lg_nz h99
                          refine ⟨fun h107 => ?_, fun h107 => ?_⟩
                          · have h107 := lg_z h107
                            exact fs_193_158 (km _ h107 (by decide +kernel))
                          · have h107 := lg_nz h107
                            refine ⟨fun h115 => ?_, fun h115 => ?_⟩
                            · have h115 := lg_z h115
                              exact fs_193_158 (km _ h115 (by decide +kernel))
                            · have h115 := lg_nz h115
                              refine ⟨fun h123 => ?_, fun h123 => ?_⟩
                              · have h123 := lg_z h123
                                exact fs_193_158 (km _ h123 (by decide +kernel))
                              · have h123 := lg_nz h123
                                refine ⟨fun h131 => ?_, fun h131 => ?_⟩
                                · have h131 := lg_z h131
                                  exact fs_193_158 (km _ h131 (by decide +kernel))
                                · have h131 := lg_nz h131
                                  refine ⟨fun h139 => ?_, fun h139 => ?_⟩
                                  · have h139 := lg_z h139
                                    exact fs_193_158 (km _ h139 (by decide +kernel))
                                  · have h139 := lg_nz h139
                                    refine ⟨fun h147 => ?_, fun h147 => ?_⟩
                                    · have h147 := lg_z h147
                                      exact fs_193_158 (km _ h147 (by decide +kernel))
                                    · have h147 := lg_nz h147
                                      refine ⟨fun h155 => ?_, fun h155 => ?_⟩
                                      · have h155 := lg_nz h155
                                        refine ⟨fun h165 => ?_, fun h165 => ?_⟩
                                        · exact absurd h165 (by decide)
                                        · refine ⟨fun h169 => ?_, fun h169 => ?_⟩
                                          · exact absurd h169 (by decide)
                                          · refine ⟨fun h177 => ?_, fun h177 => ?_⟩
                                            · have h177 := lg_z h177
                                              exact km _ h177 (by decide +kernel)
                                            · have h177 := lg_nz h177
                                              refine ⟨fun h185 => ?_, fun h185 => ?_⟩
                                              · have h185 := lg_z h185
                                                exact km _ h185 (by decide +kernel)
                                              · have h185 := lg_nz h185
                                                refine ⟨fun h193 => ?_, fun h193 => ?_⟩
                                                · have h193 := lg_z h193
                                                  exact km _ h193 (by decide +kernel)
                                                · have h193 := lg_nz h193
                                                  refine ⟨fun h201 => ?_, fun h201 => ?_⟩
                                                  · have h201 := lg_z h201
                                                    exact km _ h201 (by decide +kernel)
                                                  · have h201 := lg_nz h201
                                                    refine ⟨fun h209 => ?_, fun h209 => ?_⟩
                                                    · have h209 := lg_z h209
                                                      exact km _ h209 (by decide +kernel)
                                                    · have h209 := lg_nz h209
                                                      refine ⟨fun h217 => ?_, fun h217 => ?_⟩
                                                      · have h217 := lg_z h217
                                                        exact km _ h217 (by decide +kernel)
                                                      · have h217 := lg_nz h217
                                                        refine ⟨fun h225 => ?_, fun h225 => ?_⟩
                                                        · have h225 := lg_z h225
                                                          exact km _ h225 (by decide +kernel)
                                                        · have h225 := lg_nz h225
                                                          refine ⟨fun h233 => ?_, fun h233 => ?_⟩
                                                          · have h233 := lg_z h233
                                                            exact km _ h233 (by decide +kernel)
                                                          · have h233 := lg_nz h233
                                                            refine ⟨fun h241 => ?_, fun h241 => ?_⟩
                                                            · have h241 := lg_nz h241
                                                              refine k0 (tx_kept hl ?_)
                                                              rw [tx_keyms]
                                                              simp only [List.mem_cons, List.not_mem_nil, or_false, not_or]
                                                              (repeat' apply And.intro) <;> assumption
                                                            · have h241 := lg_z h241
                                                              exact km _ h241 (by decide +kernel)
                                      · have h155 := lg_z h155
                                        exact fs_193_158 (km _ h155 (by decide +kernel))
                    · have h77 := lg_z h77
                      exact fs_193_80 (km _ h77 (by decide +kernel))

/-- the token at p stands -/
def mv_A (T : Nat → Nat) (N p : Nat) (s s' : ps_S) : Prop := kq [] [7, 8, 9, 10, 11] s s' ∧ mv_K s' (tx_tok T N p)

theorem fs_194_199 {n : Nat} {T : Nat → Nat} {N p a e : Nat} {s0 s : ps_S} {R : ps_S → Prop} (H : mv_T s0 T N) (F : kq [] [7, 8, 9, 10, 11] s0 s) (ha : tx_to tx_B T N p = a) (haN : a < N) (hL : tx_L (T a) = true) (he : tx_to tx_L T N a = e) (h7 : (ps_i s 1131 7).toInt = a) (h8 : (ps_i s 1131 8).toInt = e) (hw : e - a ≤ 8 → ps_j s 1131 11 = tx_m (tx_wd T a (e - a))) (k : ∀ s', mv_A T N p s0 s' → R s') : pl_At n 194 199 [(0, .ref 1131)] [] s (ps_rV R) := by
  cases n with
  | zero => exact pl_At_0
  | succ n =>
  have hN := H.2.1
  have hae : a ≤ e := he ▸ tx_to_ge
  have heN : e ≤ N := he ▸ tx_to_le (by omega)
  have e1 : ((ps_i s 1131 8) - (ps_i s 1131 7)).toInt = (e : Int) - a := by rw [xIs (by omega) (by omega)]; omega
  have hww : e - a ≤ 8 → tx_w (tx_wd T a (e - a)) := fun z => tx_wd_w (fun j hj => (tx_to_all (n := N) (p := a) (Nat.le_add_right a j) (by omega)).2) z
  refine pl_194_199 ?_
  refine ⟨fun h211 => ?_, fun h211 => ?_⟩
  · have h211 : ((ps_i s 1131 8) - (ps_i s 1131 7)).toInt ≤ (8 : Int) := xle h211
    refine fs_193 (hww (by omega)) (hw (by omega)) (fun q222 => ?_) (fun q222 => ?_)
    · refine ⟨fun h225 => ?_, fun h225 => ?_⟩
      · exact absurd h225 (by decide)
      · refine k _ ⟨kqi F rfl, ?_⟩
        rw [tx_tok_word ha haN hL, he, if_neg (by omega)]
        cases ek : tx_at tx_keys (tx_wd T a (e - a)) with
        | none => exact (q222 ek).elim
        | some q => exact ⟨rfl, h7, h8, fun _ => hw (by omega), (fun z => by cases z)⟩
    · refine ⟨fun h225 => ?_, fun h225 => ?_⟩
      · refine k _ ⟨kqi F rfl, ?_⟩
        rw [tx_tok_word ha haN hL, he, if_neg (by omega), q222]
        exact ⟨rfl, h7, h8, fun _ => hw (by omega), (fun z => by cases z)⟩
      · exact absurd h225 (by decide)
  · have h211 : (8 : Int) < ((ps_i s 1131 8) - (ps_i s 1131 7)).toInt := xlt h211
    refine k _ ⟨kqi F rfl, ?_⟩
    rw [tx_tok_word ha haN hL, he, if_pos (by omega)]
    exact ⟨rfl, h7, h8, (fun z => by rcases z with z | z <;> cases z), (fun z => by cases z)⟩

theorem fs_194_156 {T : Nat → Nat} {N p a e : Nat} {s0 : ps_S} {R : ps_S → Prop} (H : mv_T s0 T N) (ha : tx_to tx_B T N p = a) (haN : a < N) (hL : tx_L (T a) = true) (he : tx_to tx_L T N a = e) (k : ∀ s', mv_A T N p s0 s' → R s') : ∀ (n : Nat) {x2 : Int32} {s : ps_S} {c : Nat}, kq [] [7, 8, 9, 10, 11] s0 s → (ps_i s 1131 7).toInt = a → (ps_i s 1131 8).toInt = e → x2.toInt = c → a ≤ c → c ≤ e → c ≤ a + 8 → ps_j s 1131 11 = tx_m (tx_wd T a (c - a)) → pl_At n 194 156 [(0, .ref 1131), (2, .int x2)] [] s (ps_rV R)
  | 0, _, _, _, _, _, _, _, _, _, _, _ => pl_At_0
  | n + 1, x2, s, c, F, h7, h8, hx, hac, hce, hc8, hw => by
    have hN := H.2.1
    have heN : e ≤ N := he ▸ tx_to_le (by omega)
    have HT : mv_T s T N := mv_T_kq H F rfl rfl
    have h8' : (8 : Int32).toInt = 8 := by decide
    have e8 : ((ps_i s 1131 7) + 8).toInt = (a : Int) + 8 := by rw [xIa (by omega) (by omega)]; omega
    refine pl_194_156 ?_
    refine ⟨fun h161 => ?_, fun h161 => ?_⟩
    · have h161 : (ps_i s 1131 8).toInt ≤ x2.toInt := xle h161
      exact fs_194_199 H F ha haN hL he h7 h8 (fun z => by rw [show e = c from by omega]; exact hw) k
    · have h161 : x2.toInt < (ps_i s 1131 8).toInt := xlt h161
      refine ⟨fun h172 => ?_, fun h172 => ?_⟩
      · have h172 : ((ps_i s 1131 7) + 8).toInt ≤ x2.toInt := xle h172
        exact fs_194_199 H F ha haN hL he h7 h8 (fun z => by rw [show e = c from by omega]; exact hw) k
      · have h172 : x2.toInt < ((ps_i s 1131 7) + 8).toInt := xlt h172
        refine fs_188 HT hx (fun v185 q185 => ?_)
        have hl := tx_L_c.mp (tx_to_all (n := N) (p := a) hac (show c < tx_to tx_L T N a by omega)).2
        rw [if_pos (by omega)] at q185
        refine fs_194_156 H ha haN hL he k n (kqj F rfl) h7 h8 (xj1 hx (by omega)) (by omega) (by omega) (by omega) ?_
        rw [show c + 1 - a = (c - a) + 1 from by omega]
        show _ = Int64.ofNat (tx_en 256 0 (tx_wd T a (c - a) ++ [T (a + (c - a))]))
        rw [tx_en_snoc, show a + (c - a) = c from by omega, Nat.sub_zero]
        have hww : tx_w (tx_wd T a (c - a)) := tx_wd_w (fun j hj => (tx_to_all (n := N) (p := a) (Nat.le_add_right a j) (by omega)).2) (by omega)
        have hlt := tx_en_lt (b := 256) (o := 0) (k := 7) (by decide) (by decide) hww.1 (by rw [tx_wd_len]; omega)
        exact xsh hw q185 (by omega) (by omega)
theorem fs_194_119 {T : Nat → Nat} {N p a : Nat} {s0 : ps_S} {R : ps_S → Prop} (H : mv_T s0 T N) (ha : tx_to tx_B T N p = a) (haN : a < N) (hL : tx_L (T a) = true) (k : ∀ s', mv_A T N p s0 s' → R s') : ∀ (n : Nat) {s : ps_S} {b : Nat}, kq [] [7, 8, 9, 10, 11] s0 s → (ps_i s 1131 7).toInt = a → (ps_i s 1131 8).toInt = b → a < b → b ≤ N → (∀ j, a ≤ j → j < b → j < N ∧ tx_L (T j) = true) → pl_At n 194 119 [(0, .ref 1131)] [] s (ps_rV R)
  | 0, _, _, _, _, _, _, _, _ => pl_At_0
  | n + 1, s, b, F, h7, h8, hab, hbN, hall => by
    have hN := H.2.1
    have HT : mv_T s T N := mv_T_kq H F rfl rfl
    refine pl_194_119 ?_
    refine fs_188 HT h8 (fun v124 q124 => ?_)
    refine fs_189 (fun q127 => ?_) (fun q127 => ?_)
    · refine ⟨fun h130 => ?_, fun h130 => ?_⟩
      · exact absurd h130 (by decide)
      · have hbl : b < N := by
          refine Nat.lt_of_not_le (fun z => ?_)
          rw [if_neg (by omega)] at q124
          omega
        rw [if_pos hbl] at q124
        refine fs_194_119 H ha haN hL k n (kqi F rfl) h7 (xj1 h8 (by omega)) (by omega) (by omega) (fun j h1 h2 => ?_)
        by_cases e : j = b
        · rw [e]
          exact ⟨hbl, tx_L_c.mpr (by omega)⟩
        · exact hall j h1 (by omega)
    · refine ⟨fun h130 => ?_, fun h130 => ?_⟩
      · have he : tx_to tx_L T N a = b := tx_to_is (by omega) hall (by
          by_cases z : b < N
          · right
            rw [if_pos z] at q124
            rw [Bool.eq_false_iff]
            intro y
            have := tx_L_c.mp y
            omega
          · exact Or.inl (by omega))
        refine fs_194_156 H ha haN hL he k n (kqj F rfl) h7 h8 h7 (Nat.le_refl _) (by omega) (by omega) ?_
        rw [Nat.sub_self]
        rfl
      · exact absurd h130 (by decide)
theorem fs_194_259 {T : Nat → Nat} {N p a : Nat} {s0 : ps_S} {R : ps_S → Prop} (H : mv_T s0 T N) (ha : tx_to tx_B T N p = a) (haN : a < N) (hL : ¬ tx_L (T a) = true) (hD : tx_D (T a) = true) (k : ∀ s', mv_A T N p s0 s' → R s') : ∀ (n : Nat) {s : ps_S} {b : Nat}, kq [] [7, 8, 9, 10, 11] s0 s → (ps_i s 1131 7).toInt = a → (ps_i s 1131 8).toInt = b → a ≤ b → b ≤ N → (∀ j, a ≤ j → j < b → j < N ∧ tx_D (T j) = true) → (b - a ≤ 4 → (ps_i s 1131 10).toInt = (tx_dec T a (b - a) : Nat)) → pl_At n 194 259 [(0, .ref 1131)] [] s (ps_rV R)
  | 0, _, _, _, _, _, _, _, _, _ => pl_At_0
  | n + 1, s, b, F, h7, h8, hab, hbN, hall, hnum => by
    have hN := H.2.1
    have HT : mv_T s T N := mv_T_kq H F rfl rfl
    have e1 : ((ps_i s 1131 8) - (ps_i s 1131 7)).toInt = (b : Int) - a := by rw [xIs (by omega) (by omega)]; omega
    have he : (¬ (b < N ∧ tx_D (T b) = true)) → tx_to tx_D T N a = b := fun z => tx_to_is hab hall (by
      by_cases y : b < N
      · right
        rw [Bool.eq_false_iff]
        exact fun x => z ⟨y, x⟩
      · exact Or.inl (by omega))
    have nd : ∀ v : Int32, v.toInt = (if b < N then (T b : Int) else 0) → ¬ (48 ≤ v.toInt ∧ v.toInt ≤ 57) → ¬ (b < N ∧ tx_D (T b) = true) := fun v hv hn z => by
      rw [if_pos z.1] at hv
      have := tx_D_c.mp z.2
      omega
    have yd : ∀ v : Int32, v.toInt = (if b < N then (T b : Int) else 0) → (48 ≤ v.toInt ∧ v.toInt ≤ 57) → b < N ∧ v.toInt = T b ∧ tx_D (T b) = true := fun v hv hn => by
      have hbl : b < N := by
        refine Nat.lt_of_not_le (fun z => ?_)
        rw [if_neg (by omega)] at hv
        omega
      rw [if_pos hbl] at hv
      exact ⟨hbl, hv, tx_D_c.mpr (by omega)⟩
    have more : ∀ j, b < N → tx_D (T b) = true → a ≤ j → j < b + 1 → j < N ∧ tx_D (T j) = true := fun j y1 y2 h1 h2 => by
      by_cases e : j = b
      · rw [e]
        exact ⟨y1, y2⟩
      · exact hall j h1 (by omega)
    refine pl_194_259 ?_
    refine fs_188 HT h8 (fun v264 q264 => ?_)
    refine fs_190 (fun q267 => ?_) (fun q267 => ?_)
    · refine ⟨fun h270 => ?_, fun h270 => ?_⟩
      · exact absurd h270 (by decide)
      · refine ⟨fun h283 => ?_, fun h283 => ?_⟩
        · have h283 : (4 : Int) ≤ ((ps_i s 1131 8) - (ps_i s 1131 7)).toInt := xle h283
          obtain ⟨y1, y2, y3⟩ := yd _ q264 q267
          refine fs_194_259 H ha haN hL hD k n (kqi F rfl) h7 (xj1 h8 (by omega)) (by omega) (by omega) (fun j => more j y1 y3) (fun z => ?_)
          exfalso
          omega
        · have h283 : ((ps_i s 1131 8) - (ps_i s 1131 7)).toInt < (4 : Int) := xlt h283
          refine fs_188 HT h8 (fun v299 q299 => ?_)
          obtain ⟨y1, y2, y3⟩ := yd _ q264 q267
          refine fs_194_259 H ha haN hL hD k n (kqi (kqi F rfl) rfl) h7 (xj1 (show (ps_i s 1131 8).toInt = b from h8) (by omega)) (by omega) (by omega) (fun j => more j y1 y3) (fun z => ?_)
          rw [show b + 1 - a = (b - a) + 1 from by omega]
          show (((10 : Int32) * (ps_i s 1131 10)) + v299 - 48).toInt = ((tx_dec T a (b - a) * 10 + (T (a + (b - a)) - 48) : Nat) : Int)
          rw [show a + (b - a) = b from by omega]
          rw [if_pos y1] at q299
          have hd := tx_dec_lt (T := T) (a := a) (k := b - a) (fun j hj => (hall (a + j) (by omega) (by omega)).2)
          have h4 : 10 ^ (b - a) ≤ 10 ^ 3 := Nat.pow_le_pow_right (by decide) (by omega)
          have hn := hnum (by omega)
          have g1 := tx_D_c.mp y3
          have h10 : (10 : Int32).toInt = 10 := by decide
          have h48 : (48 : Int32).toInt = 48 := by decide
          have m0 : (10 : Int32).toInt * (ps_i s 1131 10).toInt = 10 * (tx_dec T a (b - a) : Nat) := by rw [h10, hn]
          have m1 : ((10 : Int32) * (ps_i s 1131 10)).toInt = 10 * (tx_dec T a (b - a) : Nat) := by rw [xIm (by omega) (by omega), m0]
          have m2 : (((10 : Int32) * (ps_i s 1131 10)) + v299).toInt = 10 * (tx_dec T a (b - a) : Nat) + T b := by rw [xIa (by omega) (by omega)]; omega
          rw [xIs (by omega) (by omega)]
          omega
    · refine ⟨fun h270 => ?_, fun h270 => ?_⟩
      · refine ⟨fun h333 => ?_, fun h333 => ?_⟩
        · have h333 : (4 : Int) < ((ps_i s 1131 8) - (ps_i s 1131 7)).toInt := xlt h333
          have hb := he (nd _ q264 q267)
          refine k _ ⟨kqi F rfl, ?_⟩
          rw [tx_tok_num ha haN hL hD, hb, if_pos (Or.inl (by omega))]
          exact ⟨rfl, h7, h8, (fun z => by rcases z with z | z <;> cases z), (fun z => by cases z)⟩
        · have h333 : ((ps_i s 1131 8) - (ps_i s 1131 7)).toInt ≤ (4 : Int) := xle h333
          refine fs_188 HT h8 (fun v341 q341 => ?_)
          refine fs_189 (fun q344 => ?_) (fun q344 => ?_)
          · refine ⟨fun h347 => ?_, fun h347 => ?_⟩
            · exact absurd h347 (by decide)
            · have hb := he (nd _ q264 q267)
              have hbl : b < N := by
                refine Nat.lt_of_not_le (fun z => ?_)
                rw [if_neg (by omega)] at q341
                omega
              rw [if_pos hbl] at q341
              refine k _ ⟨kqi F rfl, ?_⟩
              rw [tx_tok_num ha haN hL hD, hb, if_pos (Or.inr ⟨hbl, tx_L_c.mpr (by omega)⟩)]
              exact ⟨rfl, h7, h8, (fun z => by rcases z with z | z <;> cases z), (fun z => by cases z)⟩
          · refine ⟨fun h347 => ?_, fun h347 => ?_⟩
            · have hb := he (nd _ q264 q267)
              refine k _ ⟨kqi F rfl, ?_⟩
              rw [tx_tok_num ha haN hL hD, hb, if_neg (fun z => by
                rcases z with z | ⟨z1, z2⟩
                · omega
                · have := tx_L_c.mp z2
                  rw [if_pos z1] at q341
                  omega)]
              exact ⟨rfl, h7, h8, (fun z => by rcases z with z | z <;> cases z), fun _ => hnum (by omega)⟩
            · exact absurd h347 (by decide)
      · exact absurd h270 (by decide)

theorem fs_194_58 {n : Nat} {T : Nat → Nat} {N p a : Nat} {s0 s : ps_S} {R : ps_S → Prop} (H : mv_T s0 T N) (F : kq [] [7, 8, 9, 10, 11] s0 s) (ha : tx_to tx_B T N p = a) (haN : a ≤ N) (h7 : (ps_i s 1131 7).toInt = a) (k : ∀ s', mv_A T N p s0 s' → R s') : pl_At n 194 58 [(0, .ref 1131)] [] s (ps_rV R) := by
  cases n with
  | zero => exact pl_At_0
  | succ n =>
  have hN := H.2.1
  have HT : mv_T s T N := mv_T_kq H F rfl rfl
  have hsz : (ps_i (ps_ui s 1131 8 (ps_i s 1131 7 + 1)) 1131 4).toInt = N := HT.1
  have h7' : (ps_i (ps_ui s 1131 8 (ps_i s 1131 7 + 1)) 1131 7).toInt = a := h7
  have h8' : (ps_i (ps_ui s 1131 8 (ps_i s 1131 7 + 1)) 1131 8).toInt = (a + 1 : Nat) := xj1 h7 (by omega)
  have F8 : kq [] [7, 8, 9, 10, 11] s0 (ps_ui s 1131 8 (ps_i s 1131 7 + 1)) := kqi F rfl
  have hz : (ps_i (ps_ui (ps_ui s 1131 8 (ps_i s 1131 7 + 1)) 1131 9 0) 1131 4).toInt = N := HT.1
  refine pl_194_58 ?_
  refine fs_188 HT h7 (fun v63 q63 => ?_)
  refine ⟨fun h85 => ?_, fun h85 => ?_⟩
  · have h85 : (ps_i (ps_ui s 1131 8 ((ps_i s 1131 7) + 1)) 1131 7).toInt < (ps_i (ps_ui s 1131 8 ((ps_i s 1131 7) + 1)) 1131 4).toInt := xlt h85
    have hbl : a < N := by omega
    rw [if_pos hbl] at q63
    refine fs_189 (fun q113 => ?_) (fun q113 => ?_)
    · have hL : tx_L (T a) = true := tx_L_c.mpr (by omega)
      refine ⟨fun h116 => ?_, fun h116 => ?_⟩
      · exact absurd h116 (by decide)
      · exact fs_194_119 H ha hbl hL k n F8 h7 h8' (by omega) (by omega) (fun j h1 h2 => by
          rw [show j = a from by omega]
          exact ⟨hbl, hL⟩)
    · have hL : ¬ tx_L (T a) = true := fun z => by
        have := tx_L_c.mp z
        omega
      refine ⟨fun h116 => ?_, fun h116 => ?_⟩
      · refine fs_190 (fun q240 => ?_) (fun q240 => ?_)
        · have hD : tx_D (T a) = true := tx_D_c.mpr (by omega)
          refine ⟨fun h243 => ?_, fun h243 => ?_⟩
          · exact absurd h243 (by decide)
          · exact fs_194_259 H ha hbl hL hD k n (kqi (kqi F8 rfl) rfl) h7 h7 (Nat.le_refl _) (by omega) (fun j h1 h2 => by omega) (fun _ => by
              rw [Nat.sub_self]
              rfl)
        · have hD : ¬ tx_D (T a) = true := fun z => by
            have := tx_D_c.mp z
            omega
          refine ⟨fun h243 => ?_, fun h243 => ?_⟩
          · refine ⟨fun h365 => ?_, fun h365 => ?_⟩
            · have h365 : v63.toInt ≠ (59 : Int) := xne h365
              refine k _ ⟨kqi F8 rfl, ?_⟩
              rw [tx_tok_sign ha hbl hL hD, if_neg (by omega)]
              exact ⟨rfl, h7, h8', (fun z => by rcases z with z | z <;> cases z), (fun z => by cases z)⟩
            · have h365 : v63.toInt = (59 : Int) := xeq h365
              refine k _ ⟨kqi F8 rfl, ?_⟩
              rw [tx_tok_sign ha hbl hL hD, if_pos (by omega)]
              exact ⟨rfl, h7, h8', (fun z => by rcases z with z | z <;> cases z), (fun z => by cases z)⟩
          · exact absurd h243 (by decide)
      · exact absurd h116 (by decide)
  · have h85 : (ps_i (ps_ui s 1131 8 ((ps_i s 1131 7) + 1)) 1131 4).toInt ≤ (ps_i (ps_ui s 1131 8 ((ps_i s 1131 7) + 1)) 1131 7).toInt := xle h85
    refine k _ ⟨kqi (kqi (kqi F8 rfl) rfl) rfl, ?_⟩
    rw [tx_tok_end ha (by omega)]
    exact ⟨rfl, (by show (ps_i s 1131 4).toInt = a; rw [HT.1]; omega), (by show (ps_i s 1131 4).toInt = a; rw [HT.1]; omega), (fun z => by rcases z with z | z <;> cases z), (fun z => by cases z)⟩
theorem fs_194_8 {T : Nat → Nat} {N p : Nat} {s0 : ps_S} {R : ps_S → Prop} (H : mv_T s0 T N) (k : ∀ s', mv_A T N p s0 s' → R s') : ∀ (n : Nat) {s : ps_S} {b : Nat}, kq [] [7, 8, 9, 10, 11] s0 s → (ps_i s 1131 7).toInt = b → p ≤ b → b ≤ N → (∀ j, p ≤ j → j < b → j < N ∧ tx_B (T j) = true) → pl_At n 194 8 [(0, .ref 1131)] [] s (ps_rV R)
  | 0, _, _, _, _, _, _, _ => pl_At_0
  | n + 1, s, b, F, h7, hab, hbN, hall => by
    have hN := H.2.1
    have HT : mv_T s T N := mv_T_kq H F rfl rfl
    have hsz := HT.1
    have more : b < N → (T b = 32 ∨ T b = 10) → pl_At n 194 8 [(0, .ref 1131)] [] (ps_ui s 1131 7 ((ps_i s 1131 7) + 1)) (ps_rV R) := fun hbl hc => fs_194_8 H k n (kqi F rfl) (xj1 h7 (by omega)) (by omega) (by omega) (fun j h1 h2 => by
      by_cases e : j = b
      · rw [e]
        exact ⟨hbl, tx_B_c.mpr hc⟩
      · exact hall j h1 (by omega))
    refine pl_194_8 ?_
    refine ⟨fun h16 => ?_, fun h16 => ?_⟩
    · have h16 : (ps_i s 1131 4).toInt ≤ (ps_i s 1131 7).toInt := xle h16
      exact fs_194_58 H F (tx_to_is hab hall (Or.inl (by omega))) hbN h7 k
    · have h16 : (ps_i s 1131 7).toInt < (ps_i s 1131 4).toInt := xlt h16
      have hbl : b < N := by omega
      refine fs_188 HT h7 (fun v24 q24 => ?_)
      rw [if_pos hbl] at q24
      refine ⟨fun h29 => ?_, fun h29 => ?_⟩
      · have h29 : v24.toInt = (32 : Int) := xeq h29
        exact more hbl (by omega)
      · have h29 : v24.toInt ≠ (32 : Int) := xne h29
        refine fs_188 HT h7 (fun v37 q37 => ?_)
        rw [if_pos hbl] at q37
        refine ⟨fun h42 => ?_, fun h42 => ?_⟩
        · have h42 : v37.toInt ≠ (10 : Int) := xne h42
          exact fs_194_58 H F (tx_to_is hab hall (Or.inr (by
            rw [Bool.eq_false_iff]
            intro z
            have := tx_B_c.mp z
            omega))) hbN h7 k
        · have h42 : v37.toInt = (10 : Int) := xeq h42
          exact more hbl (by omega)
theorem fs_194 {n : Nat} {T : Nat → Nat} {N p : Nat} {s : ps_S} {R : ps_S → Prop} (H : mv_T s T N) (hp : (ps_i s 1131 8).toInt = p) (hpN : p ≤ N) (k : ∀ s', mv_A T N p s s' → R s') : pl_Cl n 194 [.ref 1131] s (ps_rV R) := by
  cases n with
  | zero => exact pl_At_0
  | succ n =>
  show pl_At (n + 1) 194 0 [(0, .ref 1131)] [] s (ps_rV R)
  refine pl_194_0 ?_
  exact fs_194_8 H k n (kqi kq_refl rfl) hp (Nat.le_refl _) hpN (fun j h1 h2 => by omega)
end
section
/-! the reference's reader: what stands fixed while a formula is read, what moves -/
/-- a bank's tables -/
def mv_E (s : ps_S) (rb : Nat) (g : tx_g) : Prop := (ps_a s 1135 rb).toInt = g.1.length ∧ (ps_a s 1136 rb).toInt = g.2.length ∧ g.1.length ≤ 6 ∧ g.2.length ≤ 4 ∧ (∀ (k : Nat) (w : List Nat) (a : Nat), g.1[k]? = some (w, a) → tx_w w ∧ a ≤ 2 ∧ ps_b s 1140 (6 * rb + k) = tx_m w ∧ (ps_a s 1138 (6 * rb + k)).toInt = a) ∧ ∀ (k : Nat) (w : List Nat) (a : Nat), g.2[k]? = some (w, a) → tx_w w ∧ a ≤ 2 ∧ ps_b s 1141 (4 * rb + k) = tx_m w ∧ (ps_a s 1139 (4 * rb + k)).toInt = a
theorem mv_E_kq {A F : List Nat} {s s' : ps_S} {rb : Nat} {g : tx_g} (h : mv_E s rb g) (K : kq A F s s') (hA : [1135, 1136, 1138, 1139, 1140, 1141].all (fun q => !A.contains q) = true) : mv_E s' rb g := by
  rw [List.all_eq_true] at hA
  have f : ∀ q, q ∈ [1135, 1136, 1138, 1139, 1140, 1141] → A.contains q = false := fun q hq => by
    have := hA q hq
    rw [Bool.not_eq_true'] at this
    exact this
  unfold mv_E at *
  rw [kq_a K 1135 (f _ (by decide)), kq_a K 1136 (f _ (by decide)), kq_a K 1138 (f _ (by decide)), kq_a K 1139 (f _ (by decide)), kq_b K 1140 (f _ (by decide)), kq_b K 1141 (f _ (by decide))]
  exact h
/-- the cells and fields that reading a row may change; of the pool only the row's own -/
def mA : List Nat := [1134, 1143, 1144, 1145, 1146, 1147, 1148]
def mF : List Nat := [5, 6, 7, 8, 9, 10, 11, 23, 29, 30, 31]
def mv_po (to : Nat) (s s' : ps_S) : Prop := ∀ i, (i < to ∨ to + 40 < i) → ps_a s' 1134 i = ps_a s 1134 i
def mv_fr (to : Nat) (s s' : ps_S) : Prop := kq mA mF s s' ∧ mv_po to s s'
theorem mv_fr_refl {to : Nat} {s : ps_S} : mv_fr to s s := ⟨kq_refl, fun _ _ => rfl⟩
theorem mv_fr_tr {to : Nat} {s s1 s2 : ps_S} (h : mv_fr to s s1) (g : mv_fr to s1 s2) : mv_fr to s s2 := ⟨kqt h.1 g.1 (by decide) (by decide), fun i hi => (g.2 i hi).trans (h.2 i hi)⟩
theorem mv_fr_kq {A F : List Nat} {to : Nat} {s s' : ps_S} (h : kq A F s s') (hA : A.all (fun a => [1143, 1144, 1145, 1146, 1147, 1148].contains a) = true) (hF : F.all (fun a => mF.contains a) = true) : mv_fr to s s' := by
  have h2 : kq [1143, 1144, 1145, 1146, 1147, 1148] mF s s' := kqt kq_refl h hA hF
  exact ⟨kqt kq_refl h2 (by decide) (by decide), fun i _ => by rw [kq_a h2 1134 (by decide)]⟩
def mv_S (rb : Nat) (s : ps_S) (T : Nat → Nat) (N : Nat) (E : tx_E) : Prop := rb < 2 ∧ (ps_i s 1131 22).toInt = rb ∧ (ps_i s 1131 32).toInt = (if E.2 = true then 1 else 0) ∧ mv_T s T N ∧ mv_E s rb E.1
theorem mv_S_fr {rb to : Nat} {s s' : ps_S} {T : Nat → Nat} {N : Nat} {E : tx_E} (h : mv_S rb s T N E) (F : mv_fr to s s') : mv_S rb s' T N E := by
  obtain ⟨h1, h2, h3, h4, h5⟩ := h
  exact ⟨h1, by rw [kq_i F.1 22 (by decide)]; exact h2, by rw [kq_i F.1 32 (by decide)]; exact h3, mv_T_kq h4 F.1 (by decide) (by decide), mv_E_kq h5 F.1 (by decide)⟩
/-- a frame, as it lies at the place i -/
def mv_f (s : ps_S) (i : Nat) (f : tx_F) : Prop := (ps_a s 1144 i).toInt = f.1 ∧ (ps_a s 1145 i).toInt = (if f.2.1 = true then 0 else 1) ∧ (ps_a s 1146 i).toInt = (if f.2.2.1 = true then 1 else 0) ∧ ((f.2.2.2 = none ∧ (ps_a s 1147 i).toInt = 0) ∨ ∃ x, f.2.2.2 = some x ∧ (ps_a s 1147 i).toInt = 1 ∧ tx_w x ∧ ps_b s 1148 i = tx_m x)
def mv_B (s : ps_S) (S : List tx_F) : Prop := (ps_i s 1131 29).toInt = S.length ∧ ∀ (k : Nat) (f : tx_F), S[k]? = some f → mv_f s (S.length - 1 - k) f
theorem mv_B_kq {A F : List Nat} {s s' : ps_S} {S : List tx_F} (h : mv_B s S) (K : kq A F s s') (hA : [1144, 1145, 1146, 1147, 1148].all (fun q => !A.contains q) = true) (hF : F.contains 29 = false) : mv_B s' S := by
  rw [List.all_eq_true] at hA
  have f : ∀ q, q ∈ [1144, 1145, 1146, 1147, 1148] → A.contains q = false := fun q hq => by
    have := hA q hq
    rw [Bool.not_eq_true'] at this
    exact this
  unfold mv_B mv_f at *
  rw [kq_i K 29 hF, kq_a K 1144 (f _ (by decide)), kq_a K 1145 (f _ (by decide)), kq_a K 1146 (f _ (by decide)), kq_a K 1147 (f _ (by decide)), kq_b K 1148 (f _ (by decide))]
  exact h
def mv_W (s : ps_S) (to : Nat) (l : List Nat) : Prop := (ps_a s 1134 to).toInt = l.length ∧ l.length ≤ 40 ∧ ∀ (k c : Nat), l[k]? = some c → (ps_a s 1134 (to + 1 + k)).toInt = c
theorem mv_W_kq {A F : List Nat} {s s' : ps_S} {to : Nat} {l : List Nat} (h : mv_W s to l) (K : kq A F s s') (hA : A.contains 1134 = false) : mv_W s' to l := by
  unfold mv_W at *
  rw [kq_a K 1134 hA]
  exact h
def mv_P (s : ps_S) (fr : List (List Nat)) : Prop := (ps_i s 1131 23).toInt = fr.length ∧ fr.length ≤ 12 ∧ ∀ (k : Nat) (w : List Nat), fr[k]? = some w → tx_w w ∧ ps_b s 1143 k = tx_m w
theorem mv_P_kq {A F : List Nat} {s s' : ps_S} {fr : List (List Nat)} (h : mv_P s fr) (K : kq A F s s') (hA : A.contains 1143 = false) (hF : F.contains 23 = false) : mv_P s' fr := by
  unfold mv_P at *
  rw [kq_i K 23 hF, kq_b K 1143 hA]
  exact h
/-- no fault so far -/
def mv_G (s : ps_S) : Prop := (ps_i s 1131 5).toInt = 0 ∧ (ps_i s 1131 6).toInt = -1
theorem mv_G_kq {A F : List Nat} {s s' : ps_S} (h : mv_G s) (K : kq A F s s') (h5 : F.contains 5 = false) (h6 : F.contains 6 = false) : mv_G s' := by
  unfold mv_G at *
  rw [kq_i K 5 h5, kq_i K 6 h6]
  exact h
/-- moving -/
def mv_C (to : Nat) (s : ps_S) (T : Nat → Nat) (N : Nat) (S : List tx_F) (p : Nat) (l : List Nat) (fr : List (List Nat)) : Prop := p ≤ N ∧ (S.length ≤ 13 ∧ l.length + tx_due S ≤ 40) ∧ mv_K s (tx_tok T N p) ∧ mv_B s S ∧ (ps_i s 1131 30).toInt = (tx_bs S).length ∧ (ps_i s 1131 31).toInt = (l.length + tx_due S : Nat) ∧ mv_W s to l ∧ mv_P s fr ∧ mv_G s
/-- a fault stands -/
def mv_bad (to : Nat) (s s' : ps_S) (k pl : Nat) : Prop := k ≠ 0 ∧ (ps_i s' 1131 5).toInt = k ∧ (ps_i s' 1131 6).toInt = pl ∧ mv_fr to s s'
theorem xm01 {x c : Int32} {rb : Nat} (h : x.toInt = rb) (hr : rb < 2) : (c * x).toInt = c.toInt * rb := by
  rcases (show rb = 0 ∨ rb = 1 from by omega) with e | e
  · have hx : x = 0 := Int32.toInt_inj.mp (by rw [h, e]; rfl)
    rw [hx, e, Int32.mul_zero]
    show (0 : Int32).toInt = _
    rw [Int32.toInt_zero]
    simp
  · have hx : x = 1 := Int32.toInt_inj.mp (by rw [h, e]; rfl)
    rw [hx, e, Int32.mul_one]
    simp
theorem mv_E_rel {s : ps_S} {rb : Nat} {g : tx_g} (h : mv_E s rb g) : ∀ k w, (g.1.map Prod.fst)[k]? = some w → tx_w w ∧ ps_b s 1140 (6 * rb + k) = tx_m w := fun k w e => by
  rw [List.getElem?_map] at e
  obtain ⟨q, h1, rfl⟩ := Option.map_eq_some_iff.mp e
  obtain ⟨z1, z2, z3, z4⟩ := h.2.2.2.2.1 k q.1 q.2 h1
  exact ⟨z1, z3⟩
theorem mv_E_fun {s : ps_S} {rb : Nat} {g : tx_g} (h : mv_E s rb g) : ∀ k w, (g.2.map Prod.fst)[k]? = some w → tx_w w ∧ ps_b s 1141 (4 * rb + k) = tx_m w := fun k w e => by
  rw [List.getElem?_map] at e
  obtain ⟨q, h1, rfl⟩ := Option.map_eq_some_iff.mp e
  obtain ⟨z1, z2, z3, z4⟩ := h.2.2.2.2.2 k q.1 q.2 h1
  exact ⟨z1, z3⟩
end
section
set_option maxRecDepth 100000
/-! the reference's reader: its small methods -/
-- ProofBenchModel.fails(II)V
theorem pl_191_0 {n : Nat} {x1 : Int32} {x2 : Int32} {s : ps_S} {Q : Option Value → ps_S → Prop} (h :
  ((ps_i s 1131 5) ≤ 0 →
    Q none (ps_ui (ps_ui s 1131 5 x1) 1131 6 x2)) ∧
  (0 < (ps_i s 1131 5) →
    Q none s)) : pl_At (n + 1) 191 0 [(0, .ref 1131), (1, .int x1), (2, .int x2)] [] s Q :=
  pl_wp_at (stops := []) (f := 13) h rfl

-- ProofBenchModel.isGood()Z
theorem pl_192_0 {n : Nat} {s : ps_S} {Q : Option Value → ps_S → Prop} (h :
  ((ps_i s 1131 5) ≠ 0 →
    Q (some (.int 0)) s) ∧
  ((ps_i s 1131 5) = 0 →
    Q (some (.int 1)) s)) : pl_At (n + 1) 192 0 [(0, .ref 1131)] [] s Q :=
  pl_wp_at (stops := []) (f := 10) h rfl

-- ProofBenchModel.misplaced()V
theorem pl_196_0 {n : Nat} {s : ps_S} {Q : Option Value → ps_S → Prop} (h :
  ((ps_i s 1131 9) ≠ 1 →
    pl_Cl n 191 [.ref 1131, .int 2, .int (ps_i s 1131 7)] s (ps_rV (fun s1 =>
      Q none s1))) ∧
  ((ps_i s 1131 9) = 1 →
    pl_Cl n 191 [.ref 1131, .int 1, .int (ps_i s 1131 7)] s (ps_rV (fun s2 =>
      Q none s2)))) : pl_At (n + 1) 196 0 [(0, .ref 1131)] [] s Q :=
  pl_wp_at (stops := []) (f := 18) h rfl

-- ProofBenchModel.isWord(J)Z
theorem pl_195_0 {n : Nat} {l1 : Int64} {s : ps_S} {Q : Option Value → ps_S → Prop} (h :
  ((ps_i s 1131 9) ≠ 3 →
    Q (some (.int 0)) s) ∧
  ((ps_i s 1131 9) = 3 →
    ((lg_cmp (ps_j s 1131 11) l1) ≠ 0 →
      Q (some (.int 0)) s) ∧
    ((lg_cmp (ps_j s 1131 11) l1) = 0 →
      Q (some (.int 1)) s))) : pl_At (n + 1) 195 0 [(0, .ref 1131), (1, .long l1)] [] s Q :=
  pl_wp_at (stops := []) (f := 18) h rfl

-- ProofBenchModel.relHere()I
theorem pl_206_0 {n : Nat} {s : ps_S} {Q : Option Value → ps_S → Prop} (h :
  pl_At n 206 2 [(0, .ref 1131), (1, .int 0)] [] s Q) : pl_At (n + 1) 206 0 [(0, .ref 1131)] [] s Q :=
  pl_wp_at (stops := [(2, [0, 1])]) (f := 4) h rfl

theorem pl_206_2 {n : Nat} {x1 : Int32} {s : ps_S} {Q : Option Value → ps_S → Prop} (h :
  (pm_in (ps_i s 1131 22) 2 = true →
    ((ps_a s 1135 (Int32.toNatClampNeg (ps_i s 1131 22))) ≤ x1 →
      Q (some (.int (-1))) s) ∧
    (x1 < (ps_a s 1135 (Int32.toNatClampNeg (ps_i s 1131 22))) →
      ((ps_i s 1131 9) ≠ 2 →
        pl_At n 206 2 [(0, .ref 1131), (1, .int (x1 + 1))] [] s Q) ∧
      ((ps_i s 1131 9) = 2 →
        (pm_in (((6 : Int32) * (ps_i s 1131 22)) + x1) 12 = true →
          ((lg_cmp (ps_b s 1140 (Int32.toNatClampNeg (((6 : Int32) * (ps_i s 1131 22)) + x1))) (ps_j s 1131 11)) ≠ 0 →
            pl_At n 206 2 [(0, .ref 1131), (1, .int (x1 + 1))] [] s Q) ∧
          ((lg_cmp (ps_b s 1140 (Int32.toNatClampNeg (((6 : Int32) * (ps_i s 1131 22)) + x1))) (ps_j s 1131 11)) = 0 →
            Q (some (.int x1)) s)))))) : pl_At (n + 1) 206 2 [(0, .ref 1131), (1, .int x1)] [] s Q :=
  pl_wp_at (stops := [(2, [0, 1])]) (f := 34) h rfl

-- ProofBenchModel.funHere()I
theorem pl_207_0 {n : Nat} {s : ps_S} {Q : Option Value → ps_S → Prop} (h :
  pl_At n 207 2 [(0, .ref 1131), (1, .int 0)] [] s Q) : pl_At (n + 1) 207 0 [(0, .ref 1131)] [] s Q :=
  pl_wp_at (stops := [(2, [0, 1])]) (f := 4) h rfl

theorem pl_207_2 {n : Nat} {x1 : Int32} {s : ps_S} {Q : Option Value → ps_S → Prop} (h :
  (pm_in (ps_i s 1131 22) 2 = true →
    ((ps_a s 1136 (Int32.toNatClampNeg (ps_i s 1131 22))) ≤ x1 →
      Q (some (.int (-1))) s) ∧
    (x1 < (ps_a s 1136 (Int32.toNatClampNeg (ps_i s 1131 22))) →
      ((ps_i s 1131 9) ≠ 2 →
        pl_At n 207 2 [(0, .ref 1131), (1, .int (x1 + 1))] [] s Q) ∧
      ((ps_i s 1131 9) = 2 →
        (pm_in (((4 : Int32) * (ps_i s 1131 22)) + x1) 8 = true →
          ((lg_cmp (ps_b s 1141 (Int32.toNatClampNeg (((4 : Int32) * (ps_i s 1131 22)) + x1))) (ps_j s 1131 11)) ≠ 0 →
            pl_At n 207 2 [(0, .ref 1131), (1, .int (x1 + 1))] [] s Q) ∧
          ((lg_cmp (ps_b s 1141 (Int32.toNatClampNeg (((4 : Int32) * (ps_i s 1131 22)) + x1))) (ps_j s 1131 11)) = 0 →
            Q (some (.int x1)) s)))))) : pl_At (n + 1) 207 2 [(0, .ref 1131), (1, .int x1)] [] s Q :=
  pl_wp_at (stops := [(2, [0, 1])]) (f := 34) h rfl

-- ProofBenchModel.isX()Z
theorem pl_208_0 {n : Nat} {s : ps_S} {Q : Option Value → ps_S → Prop} (h :
  ((ps_i s 1131 9) ≠ 2 →
    Q (some (.int 0)) s) ∧
  ((ps_i s 1131 9) = 2 →
    pl_Cl n 206 [.ref 1131] s (ps_rI (fun v1 s1 =>
      (0 ≤ v1 →
        Q (some (.int 0)) s1) ∧
      (v1 < 0 →
        pl_Cl n 207 [.ref 1131] s1 (ps_rI (fun v2 s2 =>
          (0 ≤ v2 →
            Q (some (.int 0)) s2) ∧
          (v2 < 0 →
            Q (some (.int 1)) s2)))))))) : pl_At (n + 1) 208 0 [(0, .ref 1131)] [] s Q :=
  pl_wp_at (stops := []) (f := 21) h rfl

-- ProofBenchModel.emit(II)V
theorem pl_210_0 {n : Nat} {x1 : Int32} {x2 : Int32} {s : ps_S} {Q : Option Value → ps_S → Prop} (h :
  (pm_in x1 27400 = true →
    (pm_in x1 27400 = true →
      (pm_in x1 27400 = true →
        (pm_in (x1 + (ps_a (ps_ua s 1134 (Int32.toNatClampNeg x1) ((ps_a s 1134 (Int32.toNatClampNeg x1)) + 1)) 1134 (Int32.toNatClampNeg x1))) 27400 = true →
          Q none (ps_ua (ps_ua s 1134 (Int32.toNatClampNeg x1) ((ps_a s 1134 (Int32.toNatClampNeg x1)) + 1)) 1134 (Int32.toNatClampNeg (x1 + (ps_a (ps_ua s 1134 (Int32.toNatClampNeg x1) ((ps_a s 1134 (Int32.toNatClampNeg x1)) + 1)) 1134 (Int32.toNatClampNeg x1)))) x2)))))) : pl_At (n + 1) 210 0 [(0, .ref 1131), (1, .int x1), (2, .int x2)] [] s Q :=
  pl_wp_at (stops := []) (f := 21) h rfl

-- ProofBenchModel.push(IZ)V
theorem pl_211_0 {n : Nat} {x1 : Int32} {x2 : Int32} {s : ps_S} {Q : Option Value → ps_S → Prop} (h :
  (pm_in (ps_i s 1131 29) 16 = true →
    (pm_in (ps_i (ps_ua s 1144 (Int32.toNatClampNeg (ps_i s 1131 29)) x1) 1131 29) 16 = true →
      (pm_in (ps_i (ps_ua (ps_ua s 1144 (Int32.toNatClampNeg (ps_i s 1131 29)) x1) 1145 (Int32.toNatClampNeg (ps_i (ps_ua s 1144 (Int32.toNatClampNeg (ps_i s 1131 29)) x1) 1131 29)) (x2 &&& 1)) 1131 29) 16 = true →
        (pm_in (ps_i (ps_ua (ps_ua (ps_ua s 1144 (Int32.toNatClampNeg (ps_i s 1131 29)) x1) 1145 (Int32.toNatClampNeg (ps_i (ps_ua s 1144 (Int32.toNatClampNeg (ps_i s 1131 29)) x1) 1131 29)) (x2 &&& 1)) 1146 (Int32.toNatClampNeg (ps_i (ps_ua (ps_ua s 1144 (Int32.toNatClampNeg (ps_i s 1131 29)) x1) 1145 (Int32.toNatClampNeg (ps_i (ps_ua s 1144 (Int32.toNatClampNeg (ps_i s 1131 29)) x1) 1131 29)) (x2 &&& 1)) 1131 29)) ((0 : Int32) &&& 1)) 1131 29) 16 = true →
          Q none (ps_ui (ps_ua (ps_ua (ps_ua (ps_ua s 1144 (Int32.toNatClampNeg (ps_i s 1131 29)) x1) 1145 (Int32.toNatClampNeg (ps_i (ps_ua s 1144 (Int32.toNatClampNeg (ps_i s 1131 29)) x1) 1131 29)) (x2 &&& 1)) 1146 (Int32.toNatClampNeg (ps_i (ps_ua (ps_ua s 1144 (Int32.toNatClampNeg (ps_i s 1131 29)) x1) 1145 (Int32.toNatClampNeg (ps_i (ps_ua s 1144 (Int32.toNatClampNeg (ps_i s 1131 29)) x1) 1131 29)) (x2 &&& 1)) 1131 29)) ((0 : Int32) &&& 1)) 1147 (Int32.toNatClampNeg (ps_i (ps_ua (ps_ua (ps_ua s 1144 (Int32.toNatClampNeg (ps_i s 1131 29)) x1) 1145 (Int32.toNatClampNeg (ps_i (ps_ua s 1144 (Int32.toNatClampNeg (ps_i s 1131 29)) x1) 1131 29)) (x2 &&& 1)) 1146 (Int32.toNatClampNeg (ps_i (ps_ua (ps_ua s 1144 (Int32.toNatClampNeg (ps_i s 1131 29)) x1) 1145 (Int32.toNatClampNeg (ps_i (ps_ua s 1144 (Int32.toNatClampNeg (ps_i s 1131 29)) x1) 1131 29)) (x2 &&& 1)) 1131 29)) ((0 : Int32) &&& 1)) 1131 29)) ((0 : Int32) &&& 1)) 1131 29 ((ps_i (ps_ua (ps_ua (ps_ua (ps_ua s 1144 (Int32.toNatClampNeg (ps_i s 1131 29)) x1) 1145 (Int32.toNatClampNeg (ps_i (ps_ua s 1144 (Int32.toNatClampNeg (ps_i s 1131 29)) x1) 1131 29)) (x2 &&& 1)) 1146 (Int32.toNatClampNeg (ps_i (ps_ua (ps_ua s 1144 (Int32.toNatClampNeg (ps_i s 1131 29)) x1) 1145 (Int32.toNatClampNeg (ps_i (ps_ua s 1144 (Int32.toNatClampNeg (ps_i s 1131 29)) x1) 1131 29)) (x2 &&& 1)) 1131 29)) ((0 : Int32) &&& 1)) 1147 (Int32.toNatClampNeg (ps_i (ps_ua (ps_ua (ps_ua s 1144 (Int32.toNatClampNeg (ps_i s 1131 29)) x1) 1145 (Int32.toNatClampNeg (ps_i (ps_ua s 1144 (Int32.toNatClampNeg (ps_i s 1131 29)) x1) 1131 29)) (x2 &&& 1)) 1146 (Int32.toNatClampNeg (ps_i (ps_ua (ps_ua s 1144 (Int32.toNatClampNeg (ps_i s 1131 29)) x1) 1145 (Int32.toNatClampNeg (ps_i (ps_ua s 1144 (Int32.toNatClampNeg (ps_i s 1131 29)) x1) 1131 29)) (x2 &&& 1)) 1131 29)) ((0 : Int32) &&& 1)) 1131 29)) ((0 : Int32) &&& 1)) 1131 29) + 1))))))) : pl_At (n + 1) 211 0 [(0, .ref 1131), (1, .int x1), (2, .int x2)] [] s Q :=
  pl_wp_at (stops := []) (f := 33) h rfl

-- ProofBenchModel.endsParts(I)Z
theorem pl_212_0 {n : Nat} {x1 : Int32} {s : ps_S} {Q : Option Value → ps_S → Prop} (h :
  ((ps_i s 1131 29) ≤ 0 →
    pl_At n 212 74 [(0, .ref 1131)] [] s Q) ∧
  (0 < (ps_i s 1131 29) →
    (pm_in ((ps_i s 1131 29) - 1) 16 = true →
      ((ps_a s 1144 (Int32.toNatClampNeg ((ps_i s 1131 29) - 1))) ≠ 0 →
        pl_At n 212 74 [(0, .ref 1131)] [] s Q) ∧
      ((ps_a s 1144 (Int32.toNatClampNeg ((ps_i s 1131 29) - 1))) = 0 →
        (pm_in (ps_i (ps_ui s 1131 29 ((ps_i s 1131 29) - 1)) 1131 29) 16 = true →
          ((ps_a (ps_ui s 1131 29 ((ps_i s 1131 29) - 1)) 1146 (Int32.toNatClampNeg (ps_i (ps_ui s 1131 29 ((ps_i s 1131 29) - 1)) 1131 29))) = 0 →
            pl_At n 212 49 [(0, .ref 1131), (1, .int x1)] [] (ps_ui s 1131 29 ((ps_i s 1131 29) - 1)) Q) ∧
          ((ps_a (ps_ui s 1131 29 ((ps_i s 1131 29) - 1)) 1146 (Int32.toNatClampNeg (ps_i (ps_ui s 1131 29 ((ps_i s 1131 29) - 1)) 1131 29))) ≠ 0 →
            pl_Cl n 210 [.ref 1131, .int x1, .int 0] (ps_ui s 1131 29 ((ps_i s 1131 29) - 1)) (ps_rV (fun s1 =>
              pl_At n 212 49 [(0, .ref 1131), (1, .int x1)] [] s1 Q)))))))) : pl_At (n + 1) 212 0 [(0, .ref 1131), (1, .int x1)] [] s Q :=
  pl_wp_at (stops := [(0, [0, 1]), (49, [0, 1]), (74, [0])]) (f := 29) h rfl

theorem pl_212_49 {n : Nat} {x1 : Int32} {s : ps_S} {Q : Option Value → ps_S → Prop} (h :
  (pm_in (ps_i s 1131 29) 16 = true →
    ((ps_a s 1147 (Int32.toNatClampNeg (ps_i s 1131 29))) = 0 →
      pl_At n 212 0 [(0, .ref 1131), (1, .int x1)] [] s Q) ∧
    ((ps_a s 1147 (Int32.toNatClampNeg (ps_i s 1131 29))) ≠ 0 →
      pl_At n 212 0 [(0, .ref 1131), (1, .int x1)] [] (ps_ui s 1131 30 ((ps_i s 1131 30) - 1)) Q))) : pl_At (n + 1) 212 49 [(0, .ref 1131), (1, .int x1)] [] s Q :=
  pl_wp_at (stops := [(0, [0, 1]), (49, [0, 1]), (74, [0])]) (f := 15) h rfl

theorem pl_212_74 {n : Nat} {s : ps_S} {Q : Option Value → ps_S → Prop} (h :
  ((ps_i s 1131 29) ≠ 0 →
    (pm_in ((ps_i s 1131 29) - 1) 16 = true →
      (pm_in ((ps_i s 1131 29) - 1) 16 = true →
        Q (some (.int 1)) (ps_ua s 1144 (Int32.toNatClampNeg ((ps_i s 1131 29) - 1)) ((ps_a s 1144 (Int32.toNatClampNeg ((ps_i s 1131 29) - 1))) - 1))))) ∧
  ((ps_i s 1131 29) = 0 →
    Q (some (.int 0)) s)) : pl_At (n + 1) 212 74 [(0, .ref 1131)] [] s Q :=
  pl_wp_at (stops := [(0, [0, 1]), (49, [0, 1]), (74, [0])]) (f := 20) h rfl

-- ProofBenchModel.pieceHere()I
theorem pl_213_0 {n : Nat} {s : ps_S} {Q : Option Value → ps_S → Prop} (h :
  pl_Cl n 195 [.ref 1131, .long (439721161573 : Int64)] s (ps_rI (fun v1 s1 =>
    (v1 = 0 →
      pl_Cl n 195 [.ref 1131, .long (6385252 : Int64)] s1 (ps_rI (fun v2 s2 =>
        (v2 = 0 →
          pl_Cl n 195 [.ref 1131, .long (28530 : Int64)] s2 (ps_rI (fun v3 s3 =>
            (v3 = 0 →
              pl_Cl n 195 [.ref 1131, .long (6909296 : Int64)] s3 (ps_rI (fun v4 s4 =>
                (v4 ≠ 0 →
                  Q (some (.int 3)) s4) ∧
                (v4 = 0 →
                  pl_Cl n 195 [.ref 1131, .long (7237492 : Int64)] s4 (ps_rI (fun v5 s5 =>
                    (v5 = 0 →
                      pl_Cl n 195 [.ref 1131, .long (6384748 : Int64)] s5 (ps_rI (fun v6 s6 =>
                        (v6 = 0 →
                          pl_Cl n 195 [.ref 1131, .long (1936682341 : Int64)] s6 (ps_rI (fun v7 s7 =>
                            (v7 = 0 →
                              pl_Cl n 195 [.ref 1131, .long (1935764837 : Int64)] s7 (ps_rI (fun v8 s8 =>
                                (v8 = 0 →
                                  pl_Cl n 206 [.ref 1131] s8 (ps_rI (fun v9 s9 =>
                                    (0 ≤ v9 →
                                      pl_Cl n 206 [.ref 1131] s9 (ps_rI (fun v10 s10 =>
                                        Q (some (.int ((10 : Int32) + v10))) s10))) ∧
                                    (v9 < 0 →
                                      Q (some (.int (-1))) s9)))) ∧
                                (v8 ≠ 0 →
                                  Q (some (.int 6)) s8)))) ∧
                            (v7 ≠ 0 →
                              Q (some (.int 5)) s7)))) ∧
                        (v6 ≠ 0 →
                          Q (some (.int 4)) s6)))) ∧
                    (v5 ≠ 0 →
                      Q (some (.int 3)) s5))))))) ∧
            (v3 ≠ 0 →
              Q (some (.int 2)) s3)))) ∧
        (v2 ≠ 0 →
          Q (some (.int 1)) s2)))) ∧
    (v1 ≠ 0 →
      Q (some (.int 0)) s1)))) : pl_At (n + 1) 213 0 [(0, .ref 1131)] [] s Q :=
  pl_wp_at (stops := []) (f := 61) h rfl

-- ProofBenchModel.freeHere()I
theorem pl_217_0 {n : Nat} {s : ps_S} {Q : Option Value → ps_S → Prop} (h :
  pl_At n 217 2 [(0, .ref 1131), (1, .int 0)] [] s Q) : pl_At (n + 1) 217 0 [(0, .ref 1131)] [] s Q :=
  pl_wp_at (stops := [(2, [0, 1])]) (f := 4) h rfl

theorem pl_217_2 {n : Nat} {x1 : Int32} {s : ps_S} {Q : Option Value → ps_S → Prop} (h :
  ((ps_i s 1131 23) ≤ x1 →
    ((ps_i s 1131 23) ≠ 12 →
      (pm_in (ps_i s 1131 23) 12 = true →
        Q (some (.int ((ps_i (ps_ui (ps_ub s 1143 (Int32.toNatClampNeg (ps_i s 1131 23)) (ps_j s 1131 11)) 1131 23 ((ps_i (ps_ub s 1143 (Int32.toNatClampNeg (ps_i s 1131 23)) (ps_j s 1131 11)) 1131 23) + 1)) 1131 23) - 1))) (ps_ui (ps_ub s 1143 (Int32.toNatClampNeg (ps_i s 1131 23)) (ps_j s 1131 11)) 1131 23 ((ps_i (ps_ub s 1143 (Int32.toNatClampNeg (ps_i s 1131 23)) (ps_j s 1131 11)) 1131 23) + 1)))) ∧
    ((ps_i s 1131 23) = 12 →
      pl_Cl n 196 [.ref 1131] s (ps_rV (fun s1 =>
        Q (some (.int 0)) s1)))) ∧
  (x1 < (ps_i s 1131 23) →
    (pm_in x1 12 = true →
      ((lg_cmp (ps_b s 1143 (Int32.toNatClampNeg x1)) (ps_j s 1131 11)) ≠ 0 →
        pl_At n 217 2 [(0, .ref 1131), (1, .int (x1 + 1))] [] s Q) ∧
      ((lg_cmp (ps_b s 1143 (Int32.toNatClampNeg x1)) (ps_j s 1131 11)) = 0 →
        Q (some (.int x1)) s)))) : pl_At (n + 1) 217 2 [(0, .ref 1131), (1, .int x1)] [] s Q :=
  pl_wp_at (stops := [(2, [0, 1])]) (f := 44) h rfl

-- ProofBenchModel.xHere()I
theorem pl_216_0 {n : Nat} {s : ps_S} {Q : Option Value → ps_S → Prop} (h :
  pl_At n 216 9 [(0, .ref 1131), (1, .int 0), (2, .int ((ps_i s 1131 29) - 1))] [] s Q) : pl_At (n + 1) 216 0 [(0, .ref 1131)] [] s Q :=
  pl_wp_at (stops := [(9, [0, 1, 2])]) (f := 9) h rfl

theorem pl_216_9 {n : Nat} {x1 : Int32} {x2 : Int32} {s : ps_S} {Q : Option Value → ps_S → Prop} (h :
  (x2 < 0 →
    ((ps_i s 1131 32) = 0 →
      pl_Cl n 217 [.ref 1131] s (ps_rI (fun v1 s1 =>
        Q (some (.int ((60 : Int32) + v1))) s1))) ∧
    ((ps_i s 1131 32) ≠ 0 →
      pl_Cl n 191 [.ref 1131, .int 5, .int (ps_i s 1131 7)] s (ps_rV (fun s2 =>
        Q (some (.int 0)) s2)))) ∧
  (0 ≤ x2 →
    (pm_in x2 16 = true →
      ((ps_a s 1147 (Int32.toNatClampNeg x2)) ≠ 0 →
        (pm_in x2 16 = true →
          ((lg_cmp (ps_b s 1148 (Int32.toNatClampNeg x2)) (ps_j s 1131 11)) ≠ 0 →
            pl_At n 216 9 [(0, .ref 1131), (1, .int (x1 + 1)), (2, .int (x2 + (-1)))] [] s Q) ∧
          ((lg_cmp (ps_b s 1148 (Int32.toNatClampNeg x2)) (ps_j s 1131 11)) = 0 →
            Q (some (.int ((40 : Int32) + x1))) s))) ∧
      ((ps_a s 1147 (Int32.toNatClampNeg x2)) = 0 →
        pl_At n 216 9 [(0, .ref 1131), (1, .int x1), (2, .int (x2 + (-1)))] [] s Q)))) : pl_At (n + 1) 216 9 [(0, .ref 1131), (1, .int x1), (2, .int x2)] [] s Q :=
  pl_wp_at (stops := [(9, [0, 1, 2])]) (f := 42) h rfl

theorem fm_191 {n : Nat} {x1 x2 : Int32} {s : ps_S} {R : ps_S → Prop} (h5 : (ps_i s 1131 5).toInt = 0) (k : R (ps_ui (ps_ui s 1131 5 x1) 1131 6 x2)) : pl_Cl n 191 [.ref 1131, .int x1, .int x2] s (ps_rV R) := by
  cases n with
  | zero => exact pl_At_0
  | succ n =>
  show pl_At (n + 1) 191 0 [(0, .ref 1131), (1, .int x1), (2, .int x2)] [] s (ps_rV R)
  refine pl_191_0 ?_
  refine ⟨fun h4 => ?_, fun h4 => ?_⟩
  · have h4 : (ps_i s 1131 5).toInt ≤ (0 : Int) := xle h4
    exact k
  · have h4 : (0 : Int) < (ps_i s 1131 5).toInt := xlt h4
    exfalso; omega
theorem fm_192 {n : Nat} {s : ps_S} {R : Int32 → ps_S → Prop} (k1 : (ps_i s 1131 5).toInt = 0 → R 1 s) (k0 : (ps_i s 1131 5).toInt ≠ 0 → R 0 s) : pl_Cl n 192 [.ref 1131] s (ps_rI R) := by
  cases n with
  | zero => exact pl_At_0
  | succ n =>
  show pl_At (n + 1) 192 0 [(0, .ref 1131)] [] s (ps_rI R)
  refine pl_192_0 ?_
  refine ⟨fun h4 => ?_, fun h4 => ?_⟩
  · have h4 : (ps_i s 1131 5).toInt ≠ (0 : Int) := xne h4
    exact k0 (by omega)
  · have h4 : (ps_i s 1131 5).toInt = (0 : Int) := xeq h4
    exact k1 (by omega)
theorem fm_196 {n : Nat} {s : ps_S} {tk : tx_K} {R : ps_S → Prop} (h5 : (ps_i s 1131 5).toInt = 0) (hK : mv_K s tk) (k : ∀ s', (ps_i s' 1131 5).toInt = (tx_bk tk : Nat) ∧ (ps_i s' 1131 6).toInt = tk.2.1 ∧ kq [] [5, 6] s s' → R s') : pl_Cl n 196 [.ref 1131] s (ps_rV R) := by
  cases n with
  | zero => exact pl_At_0
  | succ n =>
  show pl_At (n + 1) 196 0 [(0, .ref 1131)] [] s (ps_rV R)
  have h9 := hK.1
  refine pl_196_0 ?_
  refine ⟨fun h6 => ?_, fun h6 => ?_⟩
  · have h6 : (ps_i s 1131 9).toInt ≠ (1 : Int) := xne h6
    refine fm_191 h5 ?_
    refine k _ ⟨?_, hK.2.1, kqi (kqi kq_refl rfl) rfl⟩
    unfold tx_bk
    rw [if_neg (by omega)]
    rfl
  · have h6 : (ps_i s 1131 9).toInt = (1 : Int) := xeq h6
    refine fm_191 h5 ?_
    refine k _ ⟨?_, hK.2.1, kqi (kqi kq_refl rfl) rfl⟩
    unfold tx_bk
    rw [if_pos (by omega)]
    rfl

theorem fm_195 {n : Nat} {s : ps_S} {T : Nat → Nat} {N p q : Nat} {w : List Nat} {l1 : Int64} {R : Int32 → ps_S → Prop} (hK : mv_K s (tx_tok T N p)) (hq : tx_at tx_keys w = some q) (hl : tx_m w = l1) (k1 : ((tx_tok T N p).1 = 3 ∧ (tx_tok T N p).2.2.2.2 = q) → R 1 s) (k0 : ¬ ((tx_tok T N p).1 = 3 ∧ (tx_tok T N p).2.2.2.2 = q) → R 0 s) : pl_Cl n 195 [.ref 1131, .long l1] s (ps_rI R) := by
  cases n with
  | zero => exact pl_At_0
  | succ n =>
  show pl_At (n + 1) 195 0 [(0, .ref 1131), (1, .long l1)] [] s (ps_rI R)
  have h9 := hK.1
  have hww : tx_w w := tx_keys_w w (List.mem_of_getElem? (tx_ix_some hq).2.2.1)
  refine pl_195_0 ?_
  refine ⟨fun h5 => ?_, fun h5 => ?_⟩
  · have h5 : (ps_i s 1131 9).toInt ≠ (3 : Int) := xne h5
    exact k0 (fun z => by omega)
  · have h5 : (ps_i s 1131 9).toInt = (3 : Int) := xeq h5
    refine ⟨fun h14 => ?_, fun h14 => ?_⟩
    · have h14 := lg_nz h14
      refine k0 (fun z => ?_)
      obtain ⟨z1, z2⟩ := (tx_tok_key (T := T) (n := N) (p := p)).1 z.1
      apply h14
      rw [hK.2.2.2.1 (Or.inr z.1), ← hl]
      rw [z.2] at z1
      obtain ⟨-, -, a3, -⟩ := tx_ix_some z1
      obtain ⟨-, -, b3, -⟩ := tx_ix_some hq
      rw [a3] at b3
      rw [Option.some.inj b3]
    · have h14 := lg_z h14
      have h3 : (tx_tok T N p).1 = 3 := by omega
      obtain ⟨z1, z2⟩ := (tx_tok_key (T := T) (n := N) (p := p)).1 h3
      rw [hK.2.2.2.1 (Or.inr h3), ← hl] at h14
      rw [tx_m_inj z2 hww h14, hq] at z1
      exact k1 ⟨h3, (Option.some.inj z1).symm⟩

theorem fm_206_2 {rb : Nat} {s : ps_S} {T : Nat → Nat} {N : Nat} {E : tx_E} {p : Nat} {R : Int32 → ps_S → Prop} (hrb : rb < 2) (h22 : (ps_i s 1131 22).toInt = rb) (hE : mv_E s rb E.1) (hp : p ≤ N) (hK : mv_K s (tx_tok T N p)) (k : ∀ v : Int32, tx_opt (if (tx_tok T N p).1 = 2 then tx_at (E.1.1.map Prod.fst) (tx_tok T N p).2.2.2.1 else none) v → R v s) : ∀ (n : Nat) {x1 : Int32} {i : Nat}, x1.toInt = i → i ≤ (E.1.1.map Prod.fst).length → ((tx_tok T N p).1 = 2 → ∀ j, j < i → (E.1.1.map Prod.fst)[j]? ≠ some (tx_tok T N p).2.2.2.1) → pl_At n 206 2 [(0, .ref 1131), (1, .int x1)] [] s (ps_rI R)
  | 0, _, _, _, _, _ => pl_At_0
  | n + 1, x1, i, hx, hi, hj => by
    have h9 := hK.1
    have hwv := (tx_tok_ok (T := T) hp).2.2.2.1
    have hlen : (E.1.1.map Prod.fst).length = E.1.1.length := List.length_map ..
    have hcnt := hE.1
    have hmx := hE.2.2.1
    have c0 : (6 : Int32).toInt = 6 := by decide
    have e0 : (((6 : Int32) * (ps_i s 1131 22))).toInt = 6 * rb := by rw [xm01 h22 hrb, c0]
    have e1 : (((6 : Int32) * (ps_i s 1131 22)) + x1).toInt = (6 * rb + i : Nat) := by rw [xIa (by omega) (by omega)]; omega
    refine pl_206_2 ?_
    intro b11
    obtain ⟨b11, c11⟩ := pl_in b11
    rw [xtn h22]
    refine ⟨fun h12 => ?_, fun h12 => ?_⟩
    · have h12 : (ps_a s 1135 rb).toInt ≤ x1.toInt := xle h12
      refine k _ ⟨fun c hc => ?_, fun _ => rfl⟩
      split at hc
      · next z =>
        rw [tx_at_no (fun j hjl => hj z j (by omega))] at hc
        cases hc
      · cases hc
    · have h12 : x1.toInt < (ps_a s 1135 rb).toInt := xlt h12
      refine ⟨fun h20 => ?_, fun h20 => ?_⟩
      · have h20 : (ps_i s 1131 9).toInt ≠ (2 : Int) := xne h20
        exact fm_206_2 hrb h22 hE hp hK k n (xj1 hx (by omega)) (by omega) (fun z => by omega)
      · have h20 : (ps_i s 1131 9).toInt = (2 : Int) := xeq h20
        intro b36
        obtain ⟨b36, c36⟩ := pl_in b36
        have h2 : (tx_tok T N p).1 = 2 := by omega
        obtain ⟨w0, hg1⟩ : ∃ w0, (E.1.1.map Prod.fst)[i]? = some w0 := ⟨(E.1.1.map Prod.fst)[i]'(by omega), List.getElem?_eq_getElem _⟩
        obtain ⟨hg2, hg3⟩ := mv_E_rel hE i w0 hg1
        refine ⟨fun h42 => ?_, fun h42 => ?_⟩
        · have h42 := lg_nz h42
          refine fm_206_2 hrb h22 hE hp hK k n (xj1 hx (by omega)) (by omega) (fun _ j hjl => ?_)
          by_cases ej : j = i
          · rw [ej, hg1]
            intro z
            cases z
            exact h42 (by rw [xtn e1, hg3, hK.2.2.2.1 (Or.inl h2)])
          · exact hj h2 j (by omega)
        · have h42 := lg_z h42
          rw [xtn e1, hg3, hK.2.2.2.1 (Or.inl h2)] at h42
          have e := tx_at_is (by rw [hg1, tx_m_inj hg2 (hwv h2) h42]) (hj h2)
          refine k _ ⟨fun c hc => ?_, fun hc => ?_⟩
          · rw [if_pos h2, e] at hc
            cases hc
            exact hx
          · rw [if_pos h2, e] at hc
            cases hc
theorem fm_206 {n : Nat} {rb : Nat} {s : ps_S} {T : Nat → Nat} {N : Nat} {E : tx_E} {p : Nat} {R : Int32 → ps_S → Prop} (hrb : rb < 2) (h22 : (ps_i s 1131 22).toInt = rb) (hE : mv_E s rb E.1) (hp : p ≤ N) (hK : mv_K s (tx_tok T N p)) (k : ∀ v : Int32, tx_opt (if (tx_tok T N p).1 = 2 then tx_at (E.1.1.map Prod.fst) (tx_tok T N p).2.2.2.1 else none) v → R v s) : pl_Cl n 206 [.ref 1131] s (ps_rI R) := by
  cases n with
  | zero => exact pl_At_0
  | succ n =>
  show pl_At (n + 1) 206 0 [(0, .ref 1131)] [] s (ps_rI R)
  refine pl_206_0 ?_
  exact fm_206_2 hrb h22 hE hp hK k n (i := 0) rfl (Nat.zero_le _) (fun _ j hj => by omega)

theorem fm_207_2 {rb : Nat} {s : ps_S} {T : Nat → Nat} {N : Nat} {E : tx_E} {p : Nat} {R : Int32 → ps_S → Prop} (hrb : rb < 2) (h22 : (ps_i s 1131 22).toInt = rb) (hE : mv_E s rb E.1) (hp : p ≤ N) (hK : mv_K s (tx_tok T N p)) (k : ∀ v : Int32, tx_opt (if (tx_tok T N p).1 = 2 then tx_at (E.1.2.map Prod.fst) (tx_tok T N p).2.2.2.1 else none) v → R v s) : ∀ (n : Nat) {x1 : Int32} {i : Nat}, x1.toInt = i → i ≤ (E.1.2.map Prod.fst).length → ((tx_tok T N p).1 = 2 → ∀ j, j < i → (E.1.2.map Prod.fst)[j]? ≠ some (tx_tok T N p).2.2.2.1) → pl_At n 207 2 [(0, .ref 1131), (1, .int x1)] [] s (ps_rI R)
  | 0, _, _, _, _, _ => pl_At_0
  | n + 1, x1, i, hx, hi, hj => by
    have h9 := hK.1
    have hwv := (tx_tok_ok (T := T) hp).2.2.2.1
    have hlen : (E.1.2.map Prod.fst).length = E.1.2.length := List.length_map ..
    have hcnt := hE.2.1
    have hmx := hE.2.2.2.1
    have c0 : (4 : Int32).toInt = 4 := by decide
    have e0 : (((4 : Int32) * (ps_i s 1131 22))).toInt = 4 * rb := by rw [xm01 h22 hrb, c0]
    have e1 : (((4 : Int32) * (ps_i s 1131 22)) + x1).toInt = (4 * rb + i : Nat) := by rw [xIa (by omega) (by omega)]; omega
    refine pl_207_2 ?_
    intro b11
    obtain ⟨b11, c11⟩ := pl_in b11
    rw [xtn h22]
    refine ⟨fun h12 => ?_, fun h12 => ?_⟩
    · have h12 : (ps_a s 1136 rb).toInt ≤ x1.toInt := xle h12
      refine k _ ⟨fun c hc => ?_, fun _ => rfl⟩
      split at hc
      · next z =>
        rw [tx_at_no (fun j hjl => hj z j (by omega))] at hc
        cases hc
      · cases hc
    · have h12 : x1.toInt < (ps_a s 1136 rb).toInt := xlt h12
      refine ⟨fun h20 => ?_, fun h20 => ?_⟩
      · have h20 : (ps_i s 1131 9).toInt ≠ (2 : Int) := xne h20
        exact fm_207_2 hrb h22 hE hp hK k n (xj1 hx (by omega)) (by omega) (fun z => by omega)
      · have h20 : (ps_i s 1131 9).toInt = (2 : Int) := xeq h20
        intro b35
        obtain ⟨b35, c35⟩ := pl_in b35
        have h2 : (tx_tok T N p).1 = 2 := by omega
        obtain ⟨w0, hg1⟩ : ∃ w0, (E.1.2.map Prod.fst)[i]? = some w0 := ⟨(E.1.2.map Prod.fst)[i]'(by omega), List.getElem?_eq_getElem _⟩
        obtain ⟨hg2, hg3⟩ := mv_E_fun hE i w0 hg1
        refine ⟨fun h41 => ?_, fun h41 => ?_⟩
        · have h41 := lg_nz h41
          refine fm_207_2 hrb h22 hE hp hK k n (xj1 hx (by omega)) (by omega) (fun _ j hjl => ?_)
          by_cases ej : j = i
          · rw [ej, hg1]
            intro z
            cases z
            exact h41 (by rw [xtn e1, hg3, hK.2.2.2.1 (Or.inl h2)])
          · exact hj h2 j (by omega)
        · have h41 := lg_z h41
          rw [xtn e1, hg3, hK.2.2.2.1 (Or.inl h2)] at h41
          have e := tx_at_is (by rw [hg1, tx_m_inj hg2 (hwv h2) h41]) (hj h2)
          refine k _ ⟨fun c hc => ?_, fun hc => ?_⟩
          · rw [if_pos h2, e] at hc
            cases hc
            exact hx
          · rw [if_pos h2, e] at hc
            cases hc
theorem fm_207 {n : Nat} {rb : Nat} {s : ps_S} {T : Nat → Nat} {N : Nat} {E : tx_E} {p : Nat} {R : Int32 → ps_S → Prop} (hrb : rb < 2) (h22 : (ps_i s 1131 22).toInt = rb) (hE : mv_E s rb E.1) (hp : p ≤ N) (hK : mv_K s (tx_tok T N p)) (k : ∀ v : Int32, tx_opt (if (tx_tok T N p).1 = 2 then tx_at (E.1.2.map Prod.fst) (tx_tok T N p).2.2.2.1 else none) v → R v s) : pl_Cl n 207 [.ref 1131] s (ps_rI R) := by
  cases n with
  | zero => exact pl_At_0
  | succ n =>
  show pl_At (n + 1) 207 0 [(0, .ref 1131)] [] s (ps_rI R)
  refine pl_207_0 ?_
  exact fm_207_2 hrb h22 hE hp hK k n (i := 0) rfl (Nat.zero_le _) (fun _ j hj => by omega)
end
section
set_option maxRecDepth 100000
/-! the reference's reader: pieces, names, frames -/
theorem tx_opt_n {o : Option Nat} {v : Int32} (h : tx_opt o v) : v.toInt < 0 ↔ o = none := by
  constructor
  · intro z
    cases e : o with
    | none => rfl
    | some c =>
      have := h.1 c e
      omega
  · intro z
    have := h.2 z
    omega
theorem fm_208 {n : Nat} {rb : Nat} {s : ps_S} {T : Nat → Nat} {N : Nat} {E : tx_E} {p : Nat} {R : Int32 → ps_S → Prop} (HS : mv_S rb s T N E) (hp : p ≤ N) (hK : mv_K s (tx_tok T N p)) (k1 : tx_isX E (tx_tok T N p) → R 1 s) (k0 : ¬ tx_isX E (tx_tok T N p) → R 0 s) : pl_Cl n 208 [.ref 1131] s (ps_rI R) := by
  cases n with
  | zero => exact pl_At_0
  | succ n =>
  show pl_At (n + 1) 208 0 [(0, .ref 1131)] [] s (ps_rI R)
  have h9 := hK.1
  refine pl_208_0 ?_
  refine ⟨fun h5 => ?_, fun h5 => ?_⟩
  · have h5 : (ps_i s 1131 9).toInt ≠ (2 : Int) := xne h5
    exact k0 (fun z => by have := z.1; omega)
  · have h5 : (ps_i s 1131 9).toInt = (2 : Int) := xeq h5
    refine fm_206 HS.1 HS.2.1 HS.2.2.2.2 hp hK (fun v9 q9 => ?_)
    refine ⟨fun h12 => ?_, fun h12 => ?_⟩
    · have h12 : (0 : Int) ≤ v9.toInt := xle h12
      refine k0 (fun z => ?_)
      have e := (tx_opt_n q9).mpr (by rw [if_pos z.1]; exact z.2.1)
      omega
    · have h12 : v9.toInt < (0 : Int) := xlt h12
      refine fm_207 HS.1 HS.2.1 HS.2.2.2.2 hp hK (fun v16 q16 => ?_)
      refine ⟨fun h19 => ?_, fun h19 => ?_⟩
      · have h19 : (0 : Int) ≤ v16.toInt := xle h19
        refine k0 (fun z => ?_)
        have e := (tx_opt_n q16).mpr (by rw [if_pos z.1]; exact z.2.2)
        omega
      · have h19 : v16.toInt < (0 : Int) := xlt h19
        have h2 : (tx_tok T N p).1 = 2 := by omega
        have a := (tx_opt_n q9).mp (by omega)
        have b := (tx_opt_n q16).mp (by omega)
        rw [if_pos h2] at a b
        exact k1 ⟨h2, a, b⟩

theorem fm_210 {n to c : Nat} {l : List Nat} {s : ps_S} {x1 x2 : Int32} {R : ps_S → Prop} (hx : x1.toInt = to) (hc : x2.toInt = c) (hW : mv_W s to l) (hl : l.length < 40) (k : ∀ s', mv_W s' to (l ++ [c]) ∧ kq [1134] [] s s' ∧ mv_po to s s' → R s') : pl_Cl n 210 [.ref 1131, .int x1, .int x2] s (ps_rV R) := by
  cases n with
  | zero => exact pl_At_0
  | succ n =>
  show pl_At (n + 1) 210 0 [(0, .ref 1131), (1, .int x1), (2, .int x2)] [] s (ps_rV R)
  obtain ⟨w1, w2, w3⟩ := hW
  refine pl_210_0 ?_
  intro b6
  obtain ⟨b6, c6⟩ := pl_in b6
  intro b9
  obtain ⟨b9, c9⟩ := pl_in b9
  intro b20
  obtain ⟨b20, c20⟩ := pl_in b20
  intro b23
  obtain ⟨b23, c23⟩ := pl_in b23
  rw [xtn hx]
  have e0 : ps_a (ps_ua s 1134 to (ps_a s 1134 to + 1)) 1134 to = ps_a s 1134 to + 1 := by rw [ps_a_ua, if_pos ⟨rfl, rfl⟩]
  have e1 : (ps_a s 1134 to + 1).toInt = (l.length + 1 : Nat) := xj1 w1 (by omega)
  have e2 : (x1 + (ps_a s 1134 to + 1)).toInt = (to + (l.length + 1) : Nat) := by rw [xIa (by omega) (by omega)]; omega
  rw [e0, xtn e2]
  refine k _ ⟨⟨?_, ?_, fun j c' hj => ?_⟩, kqa (kqa kq_refl rfl) rfl, fun i hi => ?_⟩
  · rw [ps_a_ua, if_neg (by omega), e0, List.length_append]
    exact e1
  · rw [List.length_append]
    show l.length + 1 ≤ 40
    omega
  · rw [ps_a_ua]
    rcases tx_snoc hj with ⟨z1, z2⟩ | ⟨z1, z2⟩
    · rw [if_neg (by omega), ps_a_ua, if_neg (by omega)]
      exact w3 j c' z2
    · rw [if_pos ⟨rfl, by omega⟩, z2]
      exact hc
  · rw [ps_a_ua, if_neg (by omega), ps_a_ua, if_neg (by omega)]

theorem fm_211 {n m : Nat} {b : Bool} {S : List tx_F} {s : ps_S} {x1 x2 : Int32} {R : ps_S → Prop} (hx : x1.toInt = m) (hb : x2.toInt = (if b = true then 0 else 1)) (hB : mv_B s S) (hS : S.length ≤ 15) (k : ∀ s', mv_B s' ((m, b, false, none) :: S) ∧ kq [1144, 1145, 1146, 1147] [29] s s' → R s') : pl_Cl n 211 [.ref 1131, .int x1, .int x2] s (ps_rV R) := by
  cases n with
  | zero => exact pl_At_0
  | succ n =>
  show pl_At (n + 1) 211 0 [(0, .ref 1131), (1, .int x1), (2, .int x2)] [] s (ps_rV R)
  obtain ⟨b1, b2⟩ := hB
  have hx2 : (x2 &&& 1).toInt = (if b = true then 0 else 1) := by
    cases b with
    | true => rw [show x2 = 0 from Int32.toInt_inj.mp hb]; decide
    | false => rw [show x2 = 1 from Int32.toInt_inj.mp hb]; decide
  refine pl_211_0 ?_
  intro b9
  obtain ⟨b9, c9⟩ := pl_in b9
  intro b19
  obtain ⟨b19, c19⟩ := pl_in b19
  intro b29
  obtain ⟨b29, c29⟩ := pl_in b29
  intro b39
  obtain ⟨b39, c39⟩ := pl_in b39
  refine k _ ⟨⟨?_, fun j f hj => ?_⟩, kqi (kqa (kqa (kqa (kqa kq_refl rfl) rfl) rfl) rfl) rfl⟩
  · show (ps_i s 1131 29 + 1).toInt = _
    exact xj1 b1 (by omega)
  · show mv_f (ps_ui (ps_ua (ps_ua (ps_ua (ps_ua s 1144 (Int32.toNatClampNeg (ps_i s 1131 29)) x1) 1145 (Int32.toNatClampNeg (ps_i s 1131 29)) (x2 &&& 1)) 1146 (Int32.toNatClampNeg (ps_i s 1131 29)) ((0 : Int32) &&& 1)) 1147 (Int32.toNatClampNeg (ps_i s 1131 29)) ((0 : Int32) &&& 1)) 1131 29 (ps_i s 1131 29 + 1)) (S.length + 1 - 1 - j) f
    rw [xtn b1]
    cases j with
    | zero =>
      have hj : some (m, b, false, none) = some f := hj
      cases hj
      rw [show S.length + 1 - 1 - 0 = S.length from by omega]
      exact ⟨by show (ps_a _ 1144 S.length).toInt = _; rw [ps_a_ui, ps_a_ua, if_neg (by omega), ps_a_ua, if_neg (by omega), ps_a_ua, if_neg (by omega), ps_a_ua, if_pos ⟨rfl, rfl⟩]; exact hx, by rw [ps_a_ui, ps_a_ua, if_neg (by omega), ps_a_ua, if_neg (by omega), ps_a_ua, if_pos ⟨rfl, rfl⟩]; exact hx2, by rw [ps_a_ui, ps_a_ua, if_neg (by omega), ps_a_ua, if_pos ⟨rfl, rfl⟩]; rfl, Or.inl ⟨rfl, by rw [ps_a_ui, ps_a_ua, if_pos ⟨rfl, rfl⟩]; rfl⟩⟩
    | succ j =>
      have hj : S[j]? = some f := hj
      have hl := (List.getElem?_eq_some_iff.mp hj).1
      have g := b2 j f hj
      rw [show S.length + 1 - 1 - (j + 1) = S.length - 1 - j from by omega]
      unfold mv_f at *
      have a4 : ps_a (ps_ui (ps_ua (ps_ua (ps_ua (ps_ua s 1144 S.length x1) 1145 S.length (x2 &&& 1)) 1146 S.length ((0 : Int32) &&& 1)) 1147 S.length ((0 : Int32) &&& 1)) 1131 29 (ps_i s 1131 29 + 1)) 1144 (S.length - 1 - j) = ps_a s 1144 (S.length - 1 - j) := by rw [ps_a_ui, ps_a_ua, if_neg (by omega), ps_a_ua, if_neg (by omega), ps_a_ua, if_neg (by omega), ps_a_ua, if_neg (by omega)]
      have a5 : ps_a (ps_ui (ps_ua (ps_ua (ps_ua (ps_ua s 1144 S.length x1) 1145 S.length (x2 &&& 1)) 1146 S.length ((0 : Int32) &&& 1)) 1147 S.length ((0 : Int32) &&& 1)) 1131 29 (ps_i s 1131 29 + 1)) 1145 (S.length - 1 - j) = ps_a s 1145 (S.length - 1 - j) := by rw [ps_a_ui, ps_a_ua, if_neg (by omega), ps_a_ua, if_neg (by omega), ps_a_ua, if_neg (by omega), ps_a_ua, if_neg (by omega)]
      have a6 : ps_a (ps_ui (ps_ua (ps_ua (ps_ua (ps_ua s 1144 S.length x1) 1145 S.length (x2 &&& 1)) 1146 S.length ((0 : Int32) &&& 1)) 1147 S.length ((0 : Int32) &&& 1)) 1131 29 (ps_i s 1131 29 + 1)) 1146 (S.length - 1 - j) = ps_a s 1146 (S.length - 1 - j) := by rw [ps_a_ui, ps_a_ua, if_neg (by omega), ps_a_ua, if_neg (by omega), ps_a_ua, if_neg (by omega), ps_a_ua, if_neg (by omega)]
      have a7 : ps_a (ps_ui (ps_ua (ps_ua (ps_ua (ps_ua s 1144 S.length x1) 1145 S.length (x2 &&& 1)) 1146 S.length ((0 : Int32) &&& 1)) 1147 S.length ((0 : Int32) &&& 1)) 1131 29 (ps_i s 1131 29 + 1)) 1147 (S.length - 1 - j) = ps_a s 1147 (S.length - 1 - j) := by rw [ps_a_ui, ps_a_ua, if_neg (by omega), ps_a_ua, if_neg (by omega), ps_a_ua, if_neg (by omega), ps_a_ua, if_neg (by omega)]
      rw [a4, a5, a6, a7]
      exact g
end
section
set_option maxRecDepth 100000
/-! the reference's reader: pieceHere, freeHere, xHere, endsParts -/
/-- the piece that a formula begins with here -/
def tx_ph (E : tx_E) (tk : tx_K) : Option Nat := if tk.1 = 3 ∧ tk.2.2.2.2 = 7 then some 3 else tx_pc E tk
theorem tx_ph_k {E : tx_E} {tk : tx_K} {c : Nat} (h : tk.1 = 3 ∧ tk.2.2.2.2 = c) (hc : c ≤ 6) : tx_ph E tk = some c := by
  unfold tx_ph tx_pc
  rw [if_neg (by omega), if_pos h.1, if_pos (by omega), h.2]
theorem tx_opt_s {o : Option Nat} {c : Nat} {v : Int32} (h : o = some c) (hv : v.toInt = c) : tx_opt o v := ⟨(fun c' hc => by rw [h] at hc; cases hc; exact hv), (fun hc => by rw [h] at hc; cases hc)⟩
theorem fm_213 {n : Nat} {rb : Nat} {s : ps_S} {T : Nat → Nat} {N : Nat} {E : tx_E} {p : Nat} {R : Int32 → ps_S → Prop} (HS : mv_S rb s T N E) (hp : p ≤ N) (hK : mv_K s (tx_tok T N p)) (k : ∀ v : Int32, tx_opt (tx_ph E (tx_tok T N p)) v → R v s) : pl_Cl n 213 [.ref 1131] s (ps_rI R) := by
  cases n with
  | zero => exact pl_At_0
  | succ n =>
  show pl_At (n + 1) 213 0 [(0, .ref 1131)] [] s (ps_rI R)
  refine pl_213_0 ?_
  refine fm_195 (w := [102, 97, 108, 115, 101]) (q := 0) hK (by decide) (by decide +kernel) (fun q4 => ?_) (fun q4 => ?_)
  · refine ⟨fun h7 => ?_, fun h7 => ?_⟩
    · exact absurd h7 (by decide)
    · exact k _ (tx_opt_s (tx_ph_k q4 (by decide)) rfl)
  · refine ⟨fun h7 => ?_, fun h7 => ?_⟩
    · refine fm_195 (w := [97, 110, 100]) (q := 1) hK (by decide) (by decide +kernel) (fun q16 => ?_) (fun q16 => ?_)
      · refine ⟨fun h19 => ?_, fun h19 => ?_⟩
        · exact absurd h19 (by decide)
        · exact k _ (tx_opt_s (tx_ph_k q16 (by decide)) rfl)
      · refine ⟨fun h19 => ?_, fun h19 => ?_⟩
        · refine fm_195 (w := [111, 114]) (q := 2) hK (by decide) (by decide +kernel) (fun q28 => ?_) (fun q28 => ?_)
          · refine ⟨fun h31 => ?_, fun h31 => ?_⟩
            · exact absurd h31 (by decide)
            · exact k _ (tx_opt_s (tx_ph_k q28 (by decide)) rfl)
          · refine ⟨fun h31 => ?_, fun h31 => ?_⟩
            · refine fm_195 (w := [105, 109, 112]) (q := 3) hK (by decide) (by decide +kernel) (fun q40 => ?_) (fun q40 => ?_)
              · refine ⟨fun h43 => ?_, fun h43 => ?_⟩
                · exact k _ (tx_opt_s (tx_ph_k q40 (by decide)) rfl)
                · exact absurd h43 (by decide)
              · refine ⟨fun h43 => ?_, fun h43 => ?_⟩
                · exact absurd h43 (by decide)
                · refine fm_195 (w := [110, 111, 116]) (q := 7) hK (by decide) (by decide +kernel) (fun q50 => ?_) (fun q50 => ?_)
                  · refine ⟨fun h53 => ?_, fun h53 => ?_⟩
                    · exact absurd h53 (by decide)
                    · exact k _ (tx_opt_s (c := 3) (by unfold tx_ph; rw [if_pos q50]) rfl)
                  · refine ⟨fun h53 => ?_, fun h53 => ?_⟩
                    · refine fm_195 (w := [97, 108, 108]) (q := 4) hK (by decide) (by decide +kernel) (fun q62 => ?_) (fun q62 => ?_)
                      · refine ⟨fun h65 => ?_, fun h65 => ?_⟩
                        · exact absurd h65 (by decide)
                        · exact k _ (tx_opt_s (tx_ph_k q62 (by decide)) rfl)
                      · refine ⟨fun h65 => ?_, fun h65 => ?_⟩
                        · refine fm_195 (w := [115, 111, 109, 101]) (q := 5) hK (by decide) (by decide +kernel) (fun q74 => ?_) (fun q74 => ?_)
                          · refine ⟨fun h77 => ?_, fun h77 => ?_⟩
                            · exact absurd h77 (by decide)
                            · exact k _ (tx_opt_s (tx_ph_k q74 (by decide)) rfl)
                          · refine ⟨fun h77 => ?_, fun h77 => ?_⟩
                            · refine fm_195 (w := [115, 97, 109, 101]) (q := 6) hK (by decide) (by decide +kernel) (fun q86 => ?_) (fun q86 => ?_)
                              · refine ⟨fun h89 => ?_, fun h89 => ?_⟩
                                · exact absurd h89 (by decide)
                                · exact k _ (tx_opt_s (tx_ph_k q86 (by decide)) rfl)
                              · refine ⟨fun h89 => ?_, fun h89 => ?_⟩
                                · have no : tx_ph E (tx_tok T N p) = (if (tx_tok T N p).1 = 2 then (match tx_at (tx_R E) (tx_tok T N p).2.2.2.1 with
                                      | some r => some (10 + r)
                                      | none => none) else none) := by
                                    unfold tx_ph tx_pc
                                    rw [if_neg q50]
                                    by_cases h3 : (tx_tok T N p).1 = 3
                                    · rw [if_pos h3, if_neg (by omega), if_neg (by omega)]
                                    · rw [if_neg h3]
                                      all_goals rfl
                                  refine fm_206 HS.1 HS.2.1 HS.2.2.2.2 hp hK (fun v96 q96 => ?_)
                                  refine ⟨fun h99 => ?_, fun h99 => ?_⟩
                                  · have h99 : (0 : Int) ≤ v96.toInt := xle h99
                                    refine fm_206 HS.1 HS.2.1 HS.2.2.2.2 hp hK (fun v109 q109 => ?_)
                                    refine k _ ⟨fun c hc => ?_, fun hc => ?_⟩
                                    · rw [no] at hc
                                      split at hc
                                      · next h2 =>
                                        rw [if_pos h2] at q109
                                        split at hc
                                        · next q hq =>
                                          cases hc
                                          have e := q109.1 q hq
                                          have z := tx_ix_some hq
                                          have hlen : (tx_R E).length ≤ 6 := by unfold tx_R; rw [List.length_map]; exact HS.2.2.2.2.2.2.1
                                          have h10 : (10 : Int32).toInt = 10 := by decide
                                          rw [xIa (by omega) (by omega)]
                                          omega
                                        · cases hc
                                      · cases hc
                                    · exfalso
                                      rw [no] at hc
                                      split at hc
                                      · next h2 =>
                                        rw [if_pos h2] at q96
                                        split at hc
                                        · cases hc
                                        · next hq =>
                                          have e := (tx_opt_n q96).mpr hq
                                          omega
                                      · next h2 =>
                                        rw [if_neg h2] at q96
                                        have e := (tx_opt_n q96).mpr rfl
                                        omega
                                  · have h99 : v96.toInt < (0 : Int) := xlt h99
                                    refine k _ ⟨fun c hc => ?_, fun _ => rfl⟩
                                    rw [no] at hc
                                    split at hc
                                    · next h2 =>
                                      have e := (tx_opt_n q96).mp (by omega)
                                      rw [if_pos h2] at e
                                      rw [show tx_at (tx_R E) (tx_tok T N p).2.2.2.1 = none from e] at hc
                                      cases hc
                                    · cases hc
                                · exact absurd h89 (by decide)
                            · exact absurd h77 (by decide)
                        · exact absurd h65 (by decide)
                    · exact absurd h53 (by decide)
            · exact absurd h31 (by decide)
        · exact absurd h19 (by decide)
    · exact absurd h7 (by decide)

theorem mv_C_free {to : Nat} {s : ps_S} {T : Nat → Nat} {N : Nat} {S : List tx_F} {p : Nat} {l : List Nat} {fr : List (List Nat)} (h : mv_C to s T N S p l fr) (hf : fr.length < 12) {w : List Nat} (hw : tx_w w) {v : Int64} (hv : v = tx_m w) : mv_C to (ps_ui (ps_ub s 1143 fr.length v) 1131 23 (ps_i s 1131 23 + 1)) T N S p l (fr ++ [w]) ∧ mv_fr to s (ps_ui (ps_ub s 1143 fr.length v) 1131 23 (ps_i s 1131 23 + 1)) := by
  obtain ⟨g1, g2, g3, g4, g5, g6, g7, g8, g9⟩ := h
  have K : kq [1143] [23] s (ps_ui (ps_ub s 1143 fr.length v) 1131 23 (ps_i s 1131 23 + 1)) := kqi (kqb kq_refl rfl) rfl
  obtain ⟨q1, q2, q3⟩ := g8
  refine ⟨⟨g1, g2, mv_K_kq g3 K (by decide), mv_B_kq g4 K (by decide) (by decide), g5, g6, mv_W_kq g7 K (by decide), ⟨?_, ?_, fun j w' hj => ?_⟩, mv_G_kq g9 K (by decide) (by decide)⟩, mv_fr_kq K (by decide) (by decide)⟩
  · rw [ps_i_ui, if_pos ⟨rfl, rfl⟩, List.length_append]
    exact xj1 q1 (by omega)
  · rw [List.length_append]
    show fr.length + 1 ≤ 12
    omega
  · show tx_w w' ∧ ps_b (ps_ub s 1143 fr.length v) 1143 j = tx_m w'
    rw [ps_b_ub]
    rcases tx_snoc hj with ⟨z1, z2⟩ | ⟨z1, z2⟩
    · rw [if_neg (by omega)]
      exact q3 j w' z2
    · rw [if_pos ⟨rfl, z1⟩, z2]
      exact ⟨hw, hv⟩
/-- what naming comes to; kd, pl: the fault where it can't be -/
def mv_N (to : Nat) (s : ps_S) (T : Nat → Nat) (N : Nat) (S : List tx_F) (p : Nat) (l : List Nat) (kd pl : Nat) (o : Option (Nat × List (List Nat))) (v : Int32) (s' : ps_S) : Prop := match o with
  | some (c, fr2) => v.toInt = c ∧ mv_C to s' T N S p l fr2 ∧ mv_fr to s s'
  | none => mv_bad to s s' kd pl
def tx_fi (fr : List (List Nat)) (w : List Nat) : Option (Nat × List (List Nat)) := match tx_at fr w with
  | some i => some (i, fr)
  | none => if fr.length < 12 then some (fr.length, fr ++ [w]) else none
theorem mv_bad_mis {to : Nat} {s s' : ps_S} {tk : tx_K} (h5 : (ps_i s' 1131 5).toInt = (tx_bk tk : Nat)) (h6 : (ps_i s' 1131 6).toInt = tk.2.1) (K : kq [] [5, 6] s s') : mv_bad to s s' (tx_bk tk) tk.2.1 := ⟨(by unfold tx_bk; split <;> decide), h5, h6, mv_fr_kq K (by decide) (by decide)⟩

theorem fm_217_2 {rb to : Nat} {s : ps_S} {T : Nat → Nat} {N : Nat} {E : tx_E} {S : List tx_F} {p : Nat} {l : List Nat} {fr : List (List Nat)} {R : Int32 → ps_S → Prop} (HS : mv_S rb s T N E) (HC : mv_C to s T N S p l fr) (h2 : (tx_tok T N p).1 = 2) (k : ∀ v s', mv_N to s T N S p l 2 (tx_tok T N p).2.1 (tx_fi fr (tx_tok T N p).2.2.2.1) v s' → R v s') : ∀ (n : Nat) {x1 : Int32} {i : Nat}, x1.toInt = i → i ≤ fr.length → (∀ j, j < i → fr[j]? ≠ some (tx_tok T N p).2.2.2.1) → pl_At n 217 2 [(0, .ref 1131), (1, .int x1)] [] s (ps_rI R)
  | 0, _, _, _, _, _ => pl_At_0
  | n + 1, x1, i, hx, hi, hj => by
    have HK := HC.2.2.1
    have hw := (tx_tok_ok (T := T) HC.1).2.2.2.1 h2
    have h8 := HK.2.2.2.1 (Or.inl h2)
    obtain ⟨f1, f2, f3⟩ := HC.2.2.2.2.2.2.2.1
    have hG := HC.2.2.2.2.2.2.2.2
    have no : i = fr.length → tx_at fr (tx_tok T N p).2.2.2.1 = none := fun z => tx_at_no (fun j hjl => hj j (by omega))
    refine pl_217_2 ?_
    refine ⟨fun h7 => ?_, fun h7 => ?_⟩
    · have h7 : (ps_i s 1131 23).toInt ≤ x1.toInt := xle h7
      refine ⟨fun h38 => ?_, fun h38 => ?_⟩
      · have h38 : (ps_i s 1131 23).toInt ≠ (12 : Int) := xne h38
        intro b59
        obtain ⟨b59, c59⟩ := pl_in b59
        have e : tx_fi fr (tx_tok T N p).2.2.2.1 = some (fr.length, fr ++ [(tx_tok T N p).2.2.2.1]) := by
          unfold tx_fi
          rw [no (by omega)]
          dsimp only
          rw [if_pos (by omega)]
        refine k _ _ ?_
        rw [e, xtn f1]
        refine ⟨?_, mv_C_free HC (by omega) hw h8⟩
        show ((ps_i s 1131 23 + 1) - 1 : Int32).toInt = _
        have h1 : (1 : Int32).toInt = 1 := by decide
        have e1 := xj1 f1 (by omega)
        rw [xIs (by omega) (by omega)]
        omega
      · have h38 : (ps_i s 1131 23).toInt = (12 : Int) := xeq h38
        refine fm_196 hG.1 HK (fun s42 q42 => ?_)
        have e : tx_fi fr (tx_tok T N p).2.2.2.1 = none := by
          unfold tx_fi
          rw [no (by omega)]
          dsimp only
          rw [if_neg (by omega)]
        refine k _ _ ?_
        rw [e]
        have z := mv_bad_mis (to := to) q42.1 q42.2.1 q42.2.2
        unfold tx_bk at z
        rw [if_neg (by omega)] at z
        exact z
    · have h7 : x1.toInt < (ps_i s 1131 23).toInt := xlt h7
      intro b15
      obtain ⟨b15, c15⟩ := pl_in b15
      obtain ⟨w0, hg1⟩ : ∃ w0, fr[i]? = some w0 := ⟨fr[i]'(by omega), List.getElem?_eq_getElem _⟩
      obtain ⟨hg2, hg3⟩ := f3 i w0 hg1
      refine ⟨fun h21 => ?_, fun h21 => ?_⟩
      · have h21 := lg_nz h21
        refine fm_217_2 HS HC h2 k n (xj1 hx (by omega)) (by omega) (fun j hjl => ?_)
        by_cases ej : j = i
        · rw [ej, hg1]
          intro z
          cases z
          exact h21 (by rw [xtn hx, hg3, h8])
        · exact hj j (by omega)
      · have h21 := lg_z h21
        rw [xtn hx, hg3] at h21
        have e : tx_fi fr (tx_tok T N p).2.2.2.1 = some (i, fr) := by
          unfold tx_fi
          rw [tx_at_is (by rw [hg1, tx_m_inj hg2 hw (h21.trans h8)]) hj]
        refine k _ _ ?_
        rw [e]
        exact ⟨hx, HC, mv_fr_refl⟩
theorem fm_217 {n : Nat} {rb to : Nat} {s : ps_S} {T : Nat → Nat} {N : Nat} {E : tx_E} {S : List tx_F} {p : Nat} {l : List Nat} {fr : List (List Nat)} {R : Int32 → ps_S → Prop} (HS : mv_S rb s T N E) (HC : mv_C to s T N S p l fr) (h2 : (tx_tok T N p).1 = 2) (k : ∀ v s', mv_N to s T N S p l 2 (tx_tok T N p).2.1 (tx_fi fr (tx_tok T N p).2.2.2.1) v s' → R v s') : pl_Cl n 217 [.ref 1131] s (ps_rI R) := by
  cases n with
  | zero => exact pl_At_0
  | succ n =>
  show pl_At (n + 1) 217 0 [(0, .ref 1131)] [] s (ps_rI R)
  refine pl_217_0 ?_
  exact fm_217_2 HS HC h2 k n (i := 0) rfl (Nat.zero_le _) (fun j hj => by omega)

theorem xmin1 {x : Int32} {b : Nat} (h : x.toInt = b) : (x + (-1)).toInt = (b : Int) - 1 := by
  have h1 : (-1 : Int32).toInt = -1 := by decide
  have := xR x
  rw [xIa (by omega) (by omega)]
  omega
theorem tx_bs_app : ∀ {A B : List tx_F}, tx_bs (A ++ B) = tx_bs A ++ tx_bs B
  | [], B => rfl
  | (_, _, _, none) :: A, B => tx_bs_app (A := A)
  | (_, _, _, some w) :: A, B => by
    show w :: tx_bs (A ++ B) = w :: (tx_bs A ++ tx_bs B)
    rw [tx_bs_app]
theorem tx_bs_le : ∀ {S : List tx_F}, (tx_bs S).length ≤ S.length
  | [] => Nat.le_refl _
  | (_, _, _, none) :: S => Nat.le_succ_of_le (tx_bs_le (S := S))
  | (_, _, _, some w) :: S => Nat.succ_le_succ (tx_bs_le (S := S))
theorem fm_216_9 {rb to : Nat} {s : ps_S} {T : Nat → Nat} {N : Nat} {E : tx_E} {S : List tx_F} {p : Nat} {l : List Nat} {fr : List (List Nat)} {R : Int32 → ps_S → Prop} (HS : mv_S rb s T N E) (HC : mv_C to s T N S p l fr) (h2 : (tx_tok T N p).1 = 2) (k : ∀ v s', mv_N to s T N S p l (if E.2 = true then 5 else 2) (tx_tok T N p).2.1 (tx_nm E S fr (tx_tok T N p).2.2.2.1) v s' → R v s') : ∀ (n : Nat) {x1 x2 : Int32} {A B : List tx_F}, S = A ++ B → x1.toInt = (tx_bs A).length → x2.toInt = (B.length : Int) - 1 → (∀ j, j < (tx_bs A).length → (tx_bs A)[j]? ≠ some (tx_tok T N p).2.2.2.1) → pl_At n 216 9 [(0, .ref 1131), (1, .int x1), (2, .int x2)] [] s (ps_rI R)
  | 0, _, _, _, _, _, _, _, _ => pl_At_0
  | n + 1, x1, x2, A, B, hS, hx1, hx2, hj => by
    have HK := HC.2.2.1
    have hw := (tx_tok_ok (T := T) HC.1).2.2.2.1 h2
    have h8 := HK.2.2.2.1 (Or.inl h2)
    obtain ⟨b1, b2⟩ := HC.2.2.2.1
    have hG := HC.2.2.2.2.2.2.2.2
    have h13 := HC.2.1.1
    have hcl := HS.2.2.1
    have hbl : (tx_bs S).length ≤ S.length := tx_bs_le
    have hlen : S.length = A.length + B.length := by rw [hS, List.length_append]
    have hbA : (tx_bs A).length ≤ A.length := tx_bs_le
    have no : B = [] → tx_at (tx_bs S) (tx_tok T N p).2.2.2.1 = none := fun z => by
      rw [hS, z, List.append_nil]
      exact tx_at_no hj
    refine pl_216_9 ?_
    refine ⟨fun h10 => ?_, fun h10 => ?_⟩
    · have h10 : x2.toInt < (0 : Int) := xlt h10
      refine ⟨fun h57 => ?_, fun h57 => ?_⟩
      · have h57 : (ps_i s 1131 32).toInt = (0 : Int) := xeq h57
        refine fm_217 HS HC h2 (fun v74 s74 q74 => ?_)
        have hB : B = [] := List.eq_nil_of_length_eq_zero (by omega)
        have e : tx_nm E S fr (tx_tok T N p).2.2.2.1 = (match tx_at fr (tx_tok T N p).2.2.2.1 with
            | some i => some (60 + i, fr)
            | none => if fr.length < 12 then some (60 + fr.length, fr ++ [(tx_tok T N p).2.2.2.1]) else none) := by
          unfold tx_nm
          rw [no hB]
          dsimp only
          rw [if_neg (fun z => by rw [if_pos z] at hcl; omega)]
          all_goals rfl
        refine k _ _ ?_
        rw [e, if_neg (fun z => by rw [if_pos z] at hcl; omega)]
        unfold tx_fi at q74
        have h60 : (60 : Int32).toInt = 60 := by decide
        have f2 := HC.2.2.2.2.2.2.2.1.2.1
        split
        · next i hi =>
          rw [hi] at q74
          have z := (tx_ix_some hi).2.1
          obtain ⟨z1, z2⟩ := q74
          refine ⟨?_, z2⟩
          rw [xIa (by omega) (by omega)]
          omega
        · next hi =>
          rw [hi] at q74
          dsimp only at q74
          split
          · next hl =>
            rw [if_pos hl] at q74
            obtain ⟨z1, z2⟩ := q74
            refine ⟨?_, z2⟩
            rw [xIa (by omega) (by omega)]
            omega
          · next hl =>
            rw [if_neg hl] at q74
            exact q74
      · have h57 : (ps_i s 1131 32).toInt ≠ (0 : Int) := xne h57
        refine fm_191 hG.1 ?_
        have hB : B = [] := List.eq_nil_of_length_eq_zero (by omega)
        have hE : E.2 = true := Decidable.byContradiction (fun z => by rw [if_neg z] at hcl; omega)
        have e : tx_nm E S fr (tx_tok T N p).2.2.2.1 = none := by
          unfold tx_nm
          rw [no hB]
          dsimp only
          rw [if_pos hE]
        refine k _ _ ?_
        rw [e, if_pos hE]
        exact ⟨by decide, rfl, HK.2.1, mv_fr_kq (kqi (kqi (F := [5, 6]) (A := []) kq_refl rfl) rfl) (by decide) (by decide)⟩
    · have h10 : (0 : Int) ≤ x2.toInt := xle h10
      obtain ⟨fw, fb, fn, fx, B', hB⟩ : ∃ fw fb fn fx B', B = (fw, fb, fn, fx) :: B' := by
        cases B with
        | nil => exact absurd hx2 (by show ¬ x2.toInt = ((0 : Nat) : Int) - 1; omega)
        | cons f B' => exact ⟨f.1, f.2.1, f.2.2.1, f.2.2.2, B', rfl⟩
      have hlB : B.length = B'.length + 1 := by rw [hB]; rfl
      have hx2' : x2.toInt = (B'.length : Nat) := by omega
      have hS' : S = (A ++ [(fw, fb, fn, fx)]) ++ B' := by rw [hS, hB, List.append_assoc]; rfl
      have hf := b2 A.length (fw, fb, fn, fx) (by rw [hS, hB, List.getElem?_append_right (Nat.le_refl _), Nat.sub_self]; rfl)
      rw [show S.length - 1 - A.length = B'.length from by omega] at hf
      intro b18
      obtain ⟨b18, c18⟩ := pl_in b18
      refine ⟨fun h19 => ?_, fun h19 => ?_⟩
      · have h19 : (ps_a s 1147 (Int32.toNatClampNeg x2)).toInt ≠ (0 : Int) := xne h19
        obtain ⟨x0, hfx, hf3, hf4⟩ : ∃ x0, fx = some x0 ∧ tx_w x0 ∧ ps_b s 1148 B'.length = tx_m x0 := by
          rcases hf.2.2.2 with z | ⟨x0, z1, z2, z3, z4⟩
          · rw [xtn hx2'] at h19
            have := z.2
            omega
          · exact ⟨x0, z1, z3, z4⟩
        subst hfx
        intro b30
        obtain ⟨b30, c30⟩ := pl_in b30
        refine ⟨fun h36 => ?_, fun h36 => ?_⟩
        · have h36 := lg_nz h36
          refine fm_216_9 HS HC h2 k n (A := A ++ [(fw, fb, fn, some x0)]) (B := B') hS' (by rw [tx_bs_app, List.length_append]; exact xj1 hx1 (by omega)) (xmin1 hx2') (fun j hjl => ?_)
          rw [tx_bs_app]
          intro z
          rcases tx_snoc (show (tx_bs A ++ [x0])[j]? = some (tx_tok T N p).2.2.2.1 from z) with ⟨z1, z2⟩ | ⟨z1, z2⟩
          · exact hj j z1 z2
          · exact h36 (by rw [xtn hx2', hf4, h8, z2])
        · have h36 := lg_z h36
          rw [xtn hx2', hf4] at h36
          have e : tx_nm E S fr (tx_tok T N p).2.2.2.1 = some (40 + (tx_bs A).length, fr) := by
            unfold tx_nm
            rw [tx_at_is (k := (tx_bs A).length) (by rw [hS, tx_bs_app, hB, List.getElem?_append_right (Nat.le_refl _), Nat.sub_self, tx_m_inj hf3 hw (h36.trans h8)]; rfl) (fun j hjl => by rw [hS, tx_bs_app, List.getElem?_append_left hjl]; exact hj j hjl)]
          refine k _ _ ?_
          rw [e]
          refine ⟨?_, HC, mv_fr_refl⟩
          have h40 : (40 : Int32).toInt = 40 := by decide
          rw [xIa (by omega) (by omega)]
          omega
      · have h19 : (ps_a s 1147 (Int32.toNatClampNeg x2)).toInt = (0 : Int) := xeq h19
        have hfx : fx = none := by
          rcases hf.2.2.2 with z | ⟨x0, z1, z2, z3, z4⟩
          · exact z.1
          · rw [xtn hx2'] at h19
            omega
        subst hfx
        have hA : tx_bs (A ++ [(fw, fb, fn, none)]) = tx_bs A := by
          rw [tx_bs_app]
          exact List.append_nil _
        refine fm_216_9 HS HC h2 k n (A := A ++ [(fw, fb, fn, none)]) (B := B') hS' (by rw [hA]; exact hx1) (xmin1 hx2') (fun j hjl => ?_)
        rw [hA] at hjl ⊢
        exact hj j hjl

theorem fm_216 {n : Nat} {rb to : Nat} {s : ps_S} {T : Nat → Nat} {N : Nat} {E : tx_E} {S : List tx_F} {p : Nat} {l : List Nat} {fr : List (List Nat)} {R : Int32 → ps_S → Prop} (HS : mv_S rb s T N E) (HC : mv_C to s T N S p l fr) (h2 : (tx_tok T N p).1 = 2) (k : ∀ v s', mv_N to s T N S p l (if E.2 = true then 5 else 2) (tx_tok T N p).2.1 (tx_nm E S fr (tx_tok T N p).2.2.2.1) v s' → R v s') : pl_Cl n 216 [.ref 1131] s (ps_rI R) := by
  cases n with
  | zero => exact pl_At_0
  | succ n =>
  show pl_At (n + 1) 216 0 [(0, .ref 1131)] [] s (ps_rI R)
  have b1 := HC.2.2.2.1.1
  have h13 := HC.2.1.1
  refine pl_216_0 ?_
  exact fm_216_9 HS HC h2 k n (A := []) (B := S) rfl rfl (by
    have h1 : (1 : Int32).toInt = 1 := by decide
    rw [xIs (by omega) (by omega)]
    omega) (fun j hj => absurd hj (Nat.not_lt_zero _))

/-- ends what is ended; S is the stack, more what was emitted before -/
theorem mv_B_pop {s : ps_S} {f : tx_F} {S : List tx_F} (h : mv_B s (f :: S)) : mv_B (ps_ui s 1131 29 (ps_i s 1131 29 - 1)) S ∧ mv_f s S.length f := by
  obtain ⟨b1, b2⟩ := h
  rw [List.length_cons] at b1 b2
  refine ⟨⟨?_, fun j f' hj => ?_⟩, ?_⟩
  · rw [ps_i_ui, if_pos ⟨rfl, rfl⟩]
    have h1 : (1 : Int32).toInt = 1 := by decide
    have := xR (ps_i s 1131 29)
    rw [xIs (by omega) (by omega)]
    omega
  · have g := b2 (j + 1) f' hj
    rw [show S.length + 1 - 1 - (j + 1) = S.length - 1 - j from by omega] at g
    exact g
  · have g := b2 0 f rfl
    rw [show S.length + 1 - 1 - 0 = S.length from by omega] at g
    exact g
/-- what endsParts comes to from the frames S -/
def mv_ends (to : Nat) (s0 s' : ps_S) (T : Nat → Nat) (N : Nat) (E : tx_E) (p : Nat) (fr : List (List Nat)) (c0 : tx_C) (v : Int32) : Prop := (v = 0 ∧ ∃ l', gt_go (tx_st T N E) c0 (2, [], p, l', fr, 0) ∧ mv_C to s' T N [] p l' fr ∧ mv_fr to s0 s') ∨ (v = 1 ∧ ∃ k b nt w S' l', gt_go (tx_st T N E) c0 (if b = true then 1 else 0, (k, b, nt, w) :: S', p, l', fr, 0) ∧ mv_C to s' T N ((k, b, nt, w) :: S') p l' fr ∧ mv_fr to s0 s')
theorem fm_212_74 {n to : Nat} {s0 s : ps_S} {T : Nat → Nat} {N : Nat} {E : tx_E} {S : List tx_F} {p : Nat} {l : List Nat} {fr : List (List Nat)} {c0 : tx_C} {R : Int32 → ps_S → Prop} (HC : mv_C to s T N S p l fr) (F : mv_fr to s0 s) (hg : gt_go (tx_st T N E) c0 (2, S, p, l, fr, 0)) (hne : ∀ f S', S = f :: S' → f.1 ≠ 0) (k : ∀ v s', mv_ends to s0 s' T N E p fr c0 v → R v s') : pl_At n 212 74 [(0, .ref 1131)] [] s (ps_rI R) := by
  cases n with
  | zero => exact pl_At_0
  | succ n =>
  have b1 := HC.2.2.2.1.1
  have h13 := HC.2.1.1
  refine pl_212_74 ?_
  refine ⟨fun h78 => ?_, fun h78 => ?_⟩
  · have h78 : (ps_i s 1131 29).toInt ≠ (0 : Int) := xne h78
    intro b94
    obtain ⟨b94, c94⟩ := pl_in b94
    intro b97
    obtain ⟨b97, c97⟩ := pl_in b97
    obtain ⟨w, b, nt, bd, S', hS⟩ : ∃ w b nt bd S', S = (w, b, nt, bd) :: S' := by
      cases S with
      | nil => exact absurd b1 h78
      | cons f S' => exact ⟨f.1, f.2.1, f.2.2.1, f.2.2.2, S', rfl⟩
    subst hS
    have hw := hne _ _ rfl
    have hw : w ≠ 0 := hw
    obtain ⟨q, rfl⟩ : ∃ q, w = q + 1 := ⟨w - 1, by omega⟩
    have b1 : (ps_i s 1131 29).toInt = (S'.length + 1 : Nat) := b1
    have h13 : S'.length + 1 ≤ 13 := h13
    have h1 : (1 : Int32).toInt = 1 := by decide
    have ei : (ps_i s 1131 29 - 1).toInt = (S'.length : Nat) := by rw [xIs (by omega) (by omega)]; omega
    rw [xtn ei]
    obtain ⟨c1, c2, c3, c4, c5, c6, c7, c8, c9⟩ := HC
    obtain ⟨d1, d2⟩ := c4
    have d0 := d2 0 _ rfl
    rw [List.length_cons, show S'.length + 1 - 1 - 0 = S'.length from by omega] at d0
    have e1 : (ps_a s 1144 S'.length - 1).toInt = (q : Nat) := by
      have z : (ps_a s 1144 S'.length).toInt = ((q + 1 : Nat) : Int) := d0.1
      have := xR (ps_a s 1144 S'.length)
      rw [xIs (by omega) (by omega)]
      omega
    have K : kq [1144] [] s (ps_ua s 1144 S'.length (ps_a s 1144 S'.length - 1)) := kqa kq_refl rfl
    refine k _ _ (Or.inr ⟨rfl, q, b, nt, bd, S', l, gt_trans hg (gt_one tx_s_k), ⟨c1, c2, mv_K_kq c3 K (by decide), ⟨d1, fun j f hj => ?_⟩, (by cases bd <;> exact c5), c6, mv_W_kq c7 K (by decide), mv_P_kq c8 K (by decide) (by decide), mv_G_kq c9 K (by decide) (by decide)⟩, mv_fr_tr F (mv_fr_kq K (by decide) (by decide))⟩)
    show mv_f (ps_ua s 1144 S'.length (ps_a s 1144 S'.length - 1)) (S'.length + 1 - 1 - j) f
    cases j with
    | zero =>
      have hj : some (q, b, nt, bd) = some f := hj
      cases hj
      rw [show S'.length + 1 - 1 - 0 = S'.length from by omega]
      refine ⟨?_, d0.2⟩
      rw [ps_a_ua, if_pos ⟨rfl, rfl⟩]
      exact e1
    | succ j =>
      have hj : S'[j]? = some f := hj
      have hl := (List.getElem?_eq_some_iff.mp hj).1
      have g := d2 (j + 1) f hj
      rw [List.length_cons] at g
      refine ⟨?_, g.2⟩
      rw [ps_a_ua, if_neg (by omega)]
      exact g.1
  · have h78 : (ps_i s 1131 29).toInt = (0 : Int) := xeq h78
    have e : S = [] := List.eq_nil_of_length_eq_zero (by omega)
    subst e
    exact k _ _ (Or.inl ⟨rfl, l, hg, HC, F⟩)
end
section
set_option maxRecDepth 100000
/-! the reference's reader: what is ended, what begins, a row -/
/-- the loop of endsParts -/
def mv_l12 (to : Nat) (s0 : ps_S) (T : Nat → Nat) (N : Nat) (E : tx_E) (p : Nat) (fr : List (List Nat)) (c0 : tx_C) (x1 : Int32) (R : Int32 → ps_S → Prop) (n : Nat) : Prop := ∀ (s : ps_S) (S : List tx_F) (l : List Nat), mv_C to s T N S p l fr → mv_fr to s0 s → gt_go (tx_st T N E) c0 (2, S, p, l, fr, 0) → pl_At n 212 0 [(0, .ref 1131), (1, .int x1)] [] s (ps_rI R)
theorem fm_212_49 {n to : Nat} {s0 s : ps_S} {T : Nat → Nat} {N : Nat} {E : tx_E} {S : List tx_F} {w : Nat} {b nt : Bool} {bd : Option (List Nat)} {p : Nat} {l : List Nat} {fr : List (List Nat)} {c0 : tx_C} {x1 : Int32} {R : Int32 → ps_S → Prop} (IH : mv_l12 to s0 T N E p fr c0 x1 R n) (hp : p ≤ N) (hS : S.length ≤ 13 ∧ l.length + tx_due S ≤ 40) (hK : mv_K s (tx_tok T N p)) (hB : mv_B s S) (hf : mv_f s S.length (w, b, nt, bd)) (h30 : (ps_i s 1131 30).toInt = (tx_bs ((w, b, nt, bd) :: S)).length) (h31 : (ps_i s 1131 31).toInt = (l.length + tx_due S : Nat)) (hW : mv_W s to l) (hP : mv_P s fr) (hG : mv_G s) (F : mv_fr to s0 s) (hg : gt_go (tx_st T N E) c0 (2, S, p, l, fr, 0)) : pl_At (n + 1) 212 49 [(0, .ref 1131), (1, .int x1)] [] s (ps_rI R) := by
  have b1 := hB.1
  refine pl_212_49 ?_
  intro b57
  obtain ⟨b57, c57⟩ := pl_in b57
  refine ⟨fun h58 => ?_, fun h58 => ?_⟩
  · have h58 : (ps_a s 1147 (Int32.toNatClampNeg (ps_i s 1131 29))).toInt = (0 : Int) := xeq h58
    rw [xtn b1] at h58
    have e : bd = none := by
      rcases hf.2.2.2 with z | ⟨x0, z1, z2, z3, z4⟩
      · exact z.1
      · omega
    subst e
    exact IH _ _ _ ⟨hp, hS, hK, hB, h30, h31, hW, hP, hG⟩ F hg
  · have h58 : (ps_a s 1147 (Int32.toNatClampNeg (ps_i s 1131 29))).toInt ≠ (0 : Int) := xne h58
    rw [xtn b1] at h58
    obtain ⟨x0, hx0⟩ : ∃ x0, bd = some x0 := by
      rcases hf.2.2.2 with z | ⟨x0, z1, z2, z3, z4⟩
      · have := z.2
        omega
      · exact ⟨x0, z1⟩
    subst hx0
    have K : kq [] [30] s (ps_ui s 1131 30 (ps_i s 1131 30 - 1)) := kqi kq_refl rfl
    have h30 : (ps_i s 1131 30).toInt = ((tx_bs S).length + 1 : Nat) := h30
    have hle : (tx_bs S).length ≤ S.length := tx_bs_le
    refine IH _ _ _ ⟨hp, hS, mv_K_kq hK K (by decide), mv_B_kq hB K (by decide) (by decide), ?_, h31, mv_W_kq hW K (by decide), mv_P_kq hP K (by decide) (by decide), mv_G_kq hG K (by decide) (by decide)⟩ (mv_fr_tr F (mv_fr_kq K (by decide) (by decide))) hg
    rw [ps_i_ui, if_pos ⟨rfl, rfl⟩]
    have h1 : (1 : Int32).toInt = 1 := by decide
    rw [xIs (by omega) (by omega)]
    omega
theorem fm_212 {to : Nat} {s0 : ps_S} {T : Nat → Nat} {N : Nat} {E : tx_E} {p : Nat} {fr : List (List Nat)} {c0 : tx_C} {x1 : Int32} {R : Int32 → ps_S → Prop} (hx : x1.toInt = to) (k : ∀ v s', mv_ends to s0 s' T N E p fr c0 v → R v s') : ∀ n, mv_l12 to s0 T N E p fr c0 x1 R n := by
  refine xstr (fun n IH => ?_)
  intro s S l HC F hg
  cases n with
  | zero => exact pl_At_0
  | succ n =>
  have IH49 : ∀ m, m < n → mv_l12 to s0 T N E p fr c0 x1 R m := fun m hm => IH m (by omega)
  have hC := HC
  obtain ⟨c1, c2, c3, c4, c5, c6, c7, c8, c9⟩ := HC
  have b1 := c4.1
  refine pl_212_0 ?_
  refine ⟨fun h4 => ?_, fun h4 => ?_⟩
  · have h4 : (ps_i s 1131 29).toInt ≤ (0 : Int) := xle h4
    exact fm_212_74 hC F hg (fun f S' e => by
      rw [e, List.length_cons] at b1
      omega) k
  · have h4 : (0 : Int) < (ps_i s 1131 29).toInt := xlt h4
    obtain ⟨w, b, nt, bd, S', hS⟩ : ∃ w b nt bd S', S = (w, b, nt, bd) :: S' := by
      cases S with
      | nil => exact absurd h4 (by rw [b1]; decide)
      | cons f S' => exact ⟨f.1, f.2.1, f.2.2.1, f.2.2.2, S', rfl⟩
    subst hS
    have b1 : (ps_i s 1131 29).toInt = (S'.length + 1 : Nat) := b1
    have h13 : S'.length + 1 ≤ 13 := c2.1
    have h13 : S'.length ≤ 13 := by omega
    have ei : (ps_i s 1131 29 - 1).toInt = (S'.length : Nat) := by
      have h1 : (1 : Int32).toInt = 1 := by decide
      rw [xIs (by omega) (by omega)]
      omega
    intro b17
    obtain ⟨b17, c17⟩ := pl_in b17
    refine ⟨fun h18 => ?_, fun h18 => ?_⟩
    · have h18 : (ps_a s 1144 (Int32.toNatClampNeg ((ps_i s 1131 29) - 1))).toInt ≠ (0 : Int) := xne h18
      exact fm_212_74 hC F hg (fun f S'' e z => by
        cases e
        have hf := (mv_B_pop c4).2
        rw [xtn ei] at h18
        have := hf.1
        omega) k
    · have h18 : (ps_a s 1144 (Int32.toNatClampNeg ((ps_i s 1131 29) - 1))).toInt = (0 : Int) := xeq h18
      rw [xtn ei] at h18
      obtain ⟨hB1, hf0⟩ := mv_B_pop c4
      have hw : w = 0 := by have := hf0.1; omega
      have K1 : kq [] [29] s (ps_ui s 1131 29 (ps_i s 1131 29 - 1)) := kqi kq_refl rfl
      have eb : (ps_i (ps_ui s 1131 29 (ps_i s 1131 29 - 1)) 1131 29).toInt = (S'.length : Nat) := ei
      have hf : mv_f (ps_ui s 1131 29 (ps_i s 1131 29 - 1)) S'.length (w, b, nt, bd) := hf0
      intro b39
      obtain ⟨b39, c39⟩ := pl_in b39
      refine ⟨fun h40 => ?_, fun h40 => ?_⟩
      · have h40 : (ps_a (ps_ui s 1131 29 ((ps_i s 1131 29) - 1)) 1146 (Int32.toNatClampNeg (ps_i (ps_ui s 1131 29 ((ps_i s 1131 29) - 1)) 1131 29))).toInt = (0 : Int) := xeq h40
        cases n with
        | zero => exact pl_At_0
        | succ n =>
        have F1 := mv_fr_tr F (mv_fr_kq (to := to) K1 (by decide) (by decide))
        have hnt : nt = false := by
          rw [xtn eb] at h40
          cases nt with
          | false => rfl
          | true =>
            have z := hf.2.2.1
            rw [if_pos rfl] at z
            omega
        subst hnt
        have hg' : gt_go (tx_st T N E) c0 (2, S', p, l, fr, 0) := gt_trans hg (by
          rw [show w = 0 from hw]
          exact gt_one tx_s_0)
        have hd : l.length + (0 + tx_due S') ≤ 40 := c2.2
        have h31 : (ps_i s 1131 31).toInt = (l.length + (0 + tx_due S') : Nat) := c6
        exact fm_212_49 (IH49 n (by omega)) c1 ⟨h13, by omega⟩ (mv_K_kq c3 K1 (by decide)) hB1 hf c5 (by rw [Nat.zero_add] at h31; exact h31) (mv_W_kq c7 K1 (by decide)) (mv_P_kq c8 K1 (by decide) (by decide)) (mv_G_kq c9 K1 (by decide) (by decide)) F1 hg'
      · have h40 : (ps_a (ps_ui s 1131 29 ((ps_i s 1131 29) - 1)) 1146 (Int32.toNatClampNeg (ps_i (ps_ui s 1131 29 ((ps_i s 1131 29) - 1)) 1131 29))).toInt ≠ (0 : Int) := xne h40
        have hnt : nt = true := by
          rw [xtn eb] at h40
          cases nt with
          | true => rfl
          | false =>
            have z := hf.2.2.1
            change _ = (if false = true then (1 : Int) else 0) at z
            rw [if_neg (by decide)] at z
            omega
        subst hnt
        have hd : l.length + (1 + tx_due S') ≤ 40 := c2.2
        have h31 : (ps_i s 1131 31).toInt = (l.length + (1 + tx_due S') : Nat) := c6
        refine fm_210 (c := 0) hx rfl (mv_W_kq c7 K1 (by decide)) (by omega) (fun s46 q46 => ?_)
        cases n with
        | zero => exact pl_At_0
        | succ n =>
        obtain ⟨W2, K2, P2⟩ := q46
        have F1 := mv_fr_tr F (mv_fr_kq (to := to) K1 (by decide) (by decide))
        have F2 := mv_fr_tr F1 (show mv_fr to _ s46 from ⟨kqt kq_refl K2 (by decide) (by decide), P2⟩)
        have hg' : gt_go (tx_st T N E) c0 (2, S', p, l ++ [0], fr, 0) := gt_trans hg (by
          rw [show w = 0 from hw]
          exact gt_one tx_s_0)
        have hlen : (l ++ [0]).length = l.length + 1 := by rw [List.length_append]; rfl
        exact fm_212_49 (IH49 n (by omega)) c1 ⟨h13, by omega⟩ (mv_K_kq (mv_K_kq c3 K1 (by decide)) K2 (by decide)) (mv_B_kq hB1 K2 (by decide) (by decide)) (by
          have z := hf
          unfold mv_f at *
          rw [kq_a K2 1144 (by decide), kq_a K2 1145 (by decide), kq_a K2 1146 (by decide), kq_a K2 1147 (by decide), kq_b K2 1148 (by decide)]
          exact z) (by rw [kq_i K2 30 (by decide)]; exact c5) (by rw [kq_i K2 31 (by decide), hlen]; show (ps_i s 1131 31).toInt = _; omega) W2 (mv_P_kq (mv_P_kq c8 K1 (by decide) (by decide)) K2 (by decide) (by decide)) (mv_G_kq (mv_G_kq c9 K1 (by decide) (by decide)) K2 (by decide) (by decide)) F2 hg'
end
section
set_option maxRecDepth 100000
/-! the reference's reader: what begins -/
/-- moving, with so many counted -/
def mv_D (to : Nat) (s : ps_S) (T : Nat → Nat) (N : Nat) (S : List tx_F) (p : Nat) (l : List Nat) (fr : List (List Nat)) (m : Nat) : Prop := p ≤ N ∧ mv_K s (tx_tok T N p) ∧ mv_B s S ∧ (ps_i s 1131 30).toInt = (tx_bs S).length ∧ (ps_i s 1131 31).toInt = m ∧ mv_W s to l ∧ mv_P s fr ∧ mv_G s
/-- a piece counted, emitted, and the next token -/
theorem mv_eg {n to rb c q : Nat} {s : ps_S} {T : Nat → Nat} {N : Nat} {E : tx_E} {S : List tx_F} {p : Nat} {l : List Nat} {fr : List (List Nat)} {x1 x2 x5 : Int32} {R : ps_S → Prop} (HS : mv_S rb s T N E) (HC : mv_C to s T N S p l fr) (hx : x1.toInt = to) (hc : x2.toInt = c) (h5 : x5.toInt = q) (hq : 1 ≤ q ∧ q ≤ 2) (hl : l.length + tx_due S + q ≤ 40) (k : ∀ s2, mv_S rb s2 T N E ∧ mv_D to s2 T N S (tx_tok T N p).2.2.1 (l ++ [c]) fr (l.length + tx_due S + q) ∧ mv_fr to s s2 → R s2) : pl_Cl n 210 [.ref 1131, .int x1, .int x2] (ps_ui s 1131 31 (ps_i s 1131 31 + x5)) (ps_rV (fun s1 => pl_Cl n 194 [.ref 1131] s1 (ps_rV R))) := by
  obtain ⟨c1, c2, c3, c4, c5, c6, c7, c8, c9⟩ := HC
  have K0 : kq [] [31] s (ps_ui s 1131 31 (ps_i s 1131 31 + x5)) := kqi kq_refl rfl
  refine fm_210 (l := l) hx hc (mv_W_kq c7 K0 (by decide)) (by omega) (fun s1 q1 => ?_)
  obtain ⟨W1, K1, P1⟩ := q1
  have K01 : kq [1134] [31] s s1 := kqt (kqt kq_refl K0 (by decide) (by decide)) K1 (by decide) (by decide)
  have hok := tx_tok_ok (T := T) c1
  refine fs_194 (T := T) (N := N) (p := (tx_tok T N p).2.2.1) (mv_T_kq HS.2.2.2.1 K01 (by decide) (by decide)) (mv_K_kq c3 K01 (by decide)).2.2.1 hok.2.1 (fun s2 A => ?_)
  obtain ⟨K2, k2⟩ := A
  have F : mv_fr to s s2 := mv_fr_tr (mv_fr_tr (mv_fr_kq K0 (by decide) (by decide)) ⟨kqt kq_refl K1 (by decide) (by decide), P1⟩) (mv_fr_kq K2 (by decide) (by decide))
  refine k s2 ⟨mv_S_fr HS F, ⟨hok.2.1, k2, mv_B_kq (mv_B_kq c4 K01 (by decide) (by decide)) K2 (by decide) (by decide), ?_, ?_, mv_W_kq W1 K2 (by decide), mv_P_kq (mv_P_kq c8 K01 (by decide) (by decide)) K2 (by decide) (by decide), mv_G_kq (mv_G_kq c9 K01 (by decide) (by decide)) K2 (by decide) (by decide)⟩, F⟩
  · rw [kq_i K2 30 (by decide), kq_i K01 30 (by decide)]
    exact c5
  · rw [kq_i K2 31 (by decide), kq_i K1 31 (by decide), ps_i_ui, if_pos ⟨rfl, rfl⟩, xIa (by omega) (by omega)]
    omega
theorem mv_B_not {s : ps_S} {m : Nat} {b nt : Bool} {S : List tx_F} {x3 : Int32} {i : Nat} (h : mv_B s ((m, b, false, none) :: S)) (hi : i = S.length) (hx : x3.toInt = (if nt = true then 1 else 0)) : mv_B (ps_ua s 1146 i (x3 &&& 1)) ((m, b, nt, none) :: S) := by
  subst hi
  obtain ⟨b1, b2⟩ := h
  have hx2 : (x3 &&& 1).toInt = (if nt = true then 1 else 0) := by
    cases nt with
    | true => rw [show x3 = 1 from Int32.toInt_inj.mp hx]; decide
    | false => rw [show x3 = 0 from Int32.toInt_inj.mp hx]; decide
  refine ⟨b1, fun j f hj => ?_⟩
  show mv_f _ (S.length + 1 - 1 - j) f
  cases j with
  | zero =>
    have hj : some (m, b, nt, none) = some f := hj
    cases hj
    have g := b2 0 _ rfl
    rw [List.length_cons] at g
    rw [show S.length + 1 - 1 - 0 = S.length from by omega] at g ⊢
    obtain ⟨g1, g2, g3, g4⟩ := g
    refine ⟨g1, g2, ?_, g4⟩
    rw [ps_a_ua, if_pos ⟨rfl, rfl⟩]
    exact hx2
  | succ j =>
    have hj : S[j]? = some f := hj
    have hl := (List.getElem?_eq_some_iff.mp hj).1
    have g := b2 (j + 1) f hj
    rw [List.length_cons] at g
    obtain ⟨g1, g2, g3, g4⟩ := g
    refine ⟨g1, g2, ?_, g4⟩
    rw [ps_a_ua, if_neg (by omega)]
    exact g3
theorem mv_B_bind {s : ps_S} {m : Nat} {b nt : Bool} {S : List tx_F} {w : List Nat} {v : Int64} {i : Nat} (h : mv_B s ((m, b, nt, none) :: S)) (hi : i = S.length) (hw : tx_w w) (hv : v = tx_m w) : mv_B (ps_ub (ps_ua s 1147 i ((1 : Int32) &&& 1)) 1148 i v) ((m, b, nt, some w) :: S) := by
  subst hi
  obtain ⟨b1, b2⟩ := h
  refine ⟨b1, fun j f hj => ?_⟩
  show mv_f _ (S.length + 1 - 1 - j) f
  cases j with
  | zero =>
    have hj : some (m, b, nt, some w) = some f := hj
    cases hj
    have g := b2 0 _ rfl
    rw [List.length_cons] at g
    rw [show S.length + 1 - 1 - 0 = S.length from by omega] at g ⊢
    obtain ⟨g1, g2, g3, g4⟩ := g
    refine ⟨g1, g2, g3, Or.inr ⟨w, rfl, ?_, hw, ?_⟩⟩
    · show (ps_a (ps_ua s 1147 S.length ((1 : Int32) &&& 1)) 1147 S.length).toInt = 1
      rw [ps_a_ua, if_pos ⟨rfl, rfl⟩]
      decide
    · rw [ps_b_ub, if_pos ⟨rfl, rfl⟩]
      exact hv
  | succ j =>
    have hj : S[j]? = some f := hj
    have hl := (List.getElem?_eq_some_iff.mp hj).1
    have g := b2 (j + 1) f hj
    rw [List.length_cons] at g
    obtain ⟨g1, g2, g3, g4⟩ := g
    refine ⟨g1, g2, g3, ?_⟩
    rw [ps_b_ub, if_neg (by omega)]
    show _ ∨ ∃ x, _ ∧ (ps_a (ps_ua s 1147 S.length ((1 : Int32) &&& 1)) 1147 _).toInt = 1 ∧ _
    rcases g4 with ⟨z1, z2⟩ | ⟨x, z1, z2, z3, z4⟩
    · refine Or.inl ⟨z1, ?_⟩
      show (ps_a (ps_ua s 1147 S.length ((1 : Int32) &&& 1)) 1147 _).toInt = 0
      rw [ps_a_ua, if_neg (by omega)]
      exact z2
    · refine Or.inr ⟨x, z1, ?_, z3, z4⟩
      rw [ps_a_ua, if_neg (by omega)]
      exact z2
/-- what beginning a piece comes to -/
def mv_res (to : Nat) (s s' : ps_S) (T : Nat → Nat) (N : Nat) (E : tx_E) (c0 : tx_C) : Prop := (∃ S' p' l' fr', tx_st T N E c0 = (2, S', p', l', fr', 0) ∧ mv_C to s' T N S' p' l' fr' ∧ mv_fr to s s') ∨ ∃ (S' : List tx_F) (pl : Nat) (l' : List Nat) (fr' : List (List Nat)) (k : Nat), tx_st T N E c0 = (4, S', pl, l', fr', k) ∧ mv_bad to s s' k pl
theorem mv_bad_tr {to k pl : Nat} {s s1 s' : ps_S} (F : mv_fr to s s1) (h : mv_bad to s1 s' k pl) : mv_bad to s s' k pl := ⟨h.1, h.2.1, h.2.2.1, mv_fr_tr F h.2.2.2⟩
/-- a frame is pushed, nothing bound -/
theorem mv_D_push {to : Nat} {s s' : ps_S} {T : Nat → Nat} {N : Nat} {S : List tx_F} {p : Nat} {l : List Nat} {fr : List (List Nat)} {m q : Nat} {b nt : Bool} {x3 : Int32} {i : Nat} (D : mv_D to s T N S p l fr m) (hS : S.length ≤ 12) (hB : mv_B s' ((q, b, false, none) :: S)) (K : kq [1144, 1145, 1146, 1147] [29] s s') (hi : i = S.length) (hx : x3.toInt = (if nt = true then 1 else 0)) (hm : m = l.length + ((if nt = true then 1 else 0) + tx_due S)) (h40 : m ≤ 40) : mv_C to (ps_ua s' 1146 i (x3 &&& 1)) T N ((q, b, nt, none) :: S) p l fr := by
  obtain ⟨d1, d2, d3, d4, d5, d6, d7, d8⟩ := D
  have K2 : kq [1144, 1145, 1146, 1147] [29] s (ps_ua s' 1146 i (x3 &&& 1)) := kqa K rfl
  refine ⟨d1, ⟨by rw [List.length_cons]; omega, by show l.length + ((if nt = true then 1 else 0) + tx_due S) ≤ 40; omega⟩, mv_K_kq d2 K2 (by decide), mv_B_not hB hi hx, by rw [kq_i K2 30 (by decide)]; exact d4, ?_, mv_W_kq d6 K2 (by decide), mv_P_kq d7 K2 (by decide) (by decide), mv_G_kq d8 K2 (by decide) (by decide)⟩
  rw [kq_i K2 31 (by decide), d5, hm]
  rfl

-- ProofBenchModel.beginsFormula(I)V
theorem pl_214_0 {n : Nat} {x1 : Int32} {s : ps_S} {Q : Option Value → ps_S → Prop} (h :
  pl_Cl n 213 [.ref 1131] s (ps_rI (fun v1 s1 =>
    pl_Cl n 195 [.ref 1131, .long (7237492 : Int64)] s1 (ps_rI (fun v2 s2 =>
      (v1 = 4 →
        pl_At n 214 23 [(0, .ref 1131), (1, .int x1), (2, .int v1), (3, .int v2)] [] s2 Q) ∧
      (v1 ≠ 4 →
        (v1 ≠ 5 →
          (v2 = 0 →
            (v1 < 0 →
              pl_At n 214 84 [(0, .ref 1131), (1, .int x1), (2, .int v1), (3, .int v2), (4, .int 0), (5, .int 1)] [] s2 Q) ∧
            (0 ≤ v1 →
              (40 < ((ps_i s2 1131 31) + 1) →
                pl_At n 214 84 [(0, .ref 1131), (1, .int x1), (2, .int v1), (3, .int v2), (4, .int 0), (5, .int 1)] [] s2 Q) ∧
              (((ps_i s2 1131 31) + 1) ≤ 40 →
                (12 < (((ps_i s2 1131 29) + 1) - 1) →
                  pl_At n 214 84 [(0, .ref 1131), (1, .int x1), (2, .int v1), (3, .int v2), (4, .int 0), (5, .int 1)] [] s2 Q) ∧
                ((((ps_i s2 1131 29) + 1) - 1) ≤ 12 →
                  ((0 : Int32) = 0 →
                    pl_At n 214 88 [(0, .ref 1131), (1, .int x1), (2, .int v1), (3, .int v2), (4, .int 0), (5, .int 1)] [] s2 Q) ∧
                  ((0 : Int32) ≠ 0 →
                    ((ps_i s2 1131 30) ≤ 4 →
                      pl_At n 214 88 [(0, .ref 1131), (1, .int x1), (2, .int v1), (3, .int v2), (4, .int 0), (5, .int 1)] [] s2 Q) ∧
                    (4 < (ps_i s2 1131 30) →
                      pl_At n 214 84 [(0, .ref 1131), (1, .int x1), (2, .int v1), (3, .int v2), (4, .int 0), (5, .int 1)] [] s2 Q)))))) ∧
          (v2 ≠ 0 →
            (v1 < 0 →
              pl_At n 214 84 [(0, .ref 1131), (1, .int x1), (2, .int v1), (3, .int v2), (4, .int 0), (5, .int 2)] [] s2 Q) ∧
            (0 ≤ v1 →
              (40 < ((ps_i s2 1131 31) + 2) →
                pl_At n 214 84 [(0, .ref 1131), (1, .int x1), (2, .int v1), (3, .int v2), (4, .int 0), (5, .int 2)] [] s2 Q) ∧
              (((ps_i s2 1131 31) + 2) ≤ 40 →
                (12 < (((ps_i s2 1131 29) + 2) - 1) →
                  pl_At n 214 84 [(0, .ref 1131), (1, .int x1), (2, .int v1), (3, .int v2), (4, .int 0), (5, .int 2)] [] s2 Q) ∧
                ((((ps_i s2 1131 29) + 2) - 1) ≤ 12 →
                  ((0 : Int32) = 0 →
                    pl_At n 214 88 [(0, .ref 1131), (1, .int x1), (2, .int v1), (3, .int v2), (4, .int 0), (5, .int 2)] [] s2 Q) ∧
                  ((0 : Int32) ≠ 0 →
                    ((ps_i s2 1131 30) ≤ 4 →
                      pl_At n 214 88 [(0, .ref 1131), (1, .int x1), (2, .int v1), (3, .int v2), (4, .int 0), (5, .int 2)] [] s2 Q) ∧
                    (4 < (ps_i s2 1131 30) →
                      pl_At n 214 84 [(0, .ref 1131), (1, .int x1), (2, .int v1), (3, .int v2), (4, .int 0), (5, .int 2)] [] s2 Q))))))) ∧
        (v1 = 5 →
          pl_At n 214 23 [(0, .ref 1131), (1, .int x1), (2, .int v1), (3, .int v2)] [] s2 Q))))))) : pl_At (n + 1) 214 0 [(0, .ref 1131), (1, .int x1)] [] s Q :=
  pl_wp_at (stops := [(23, [0, 1, 2, 3]), (84, [0, 1, 2, 3, 4, 5]), (88, [0, 1, 2, 3, 4, 5]), (133, [0])]) (f := 68) h rfl

theorem pl_214_23 {n : Nat} {x1 : Int32} {x2 : Int32} {x3 : Int32} {s : ps_S} {Q : Option Value → ps_S → Prop} (h :
  (x3 = 0 →
    (x2 < 0 →
      pl_At n 214 84 [(0, .ref 1131), (1, .int x1), (2, .int x2), (3, .int x3), (4, .int 1), (5, .int 1)] [] s Q) ∧
    (0 ≤ x2 →
      (40 < ((ps_i s 1131 31) + 1) →
        pl_At n 214 84 [(0, .ref 1131), (1, .int x1), (2, .int x2), (3, .int x3), (4, .int 1), (5, .int 1)] [] s Q) ∧
      (((ps_i s 1131 31) + 1) ≤ 40 →
        (12 < (((ps_i s 1131 29) + 1) - 1) →
          pl_At n 214 84 [(0, .ref 1131), (1, .int x1), (2, .int x2), (3, .int x3), (4, .int 1), (5, .int 1)] [] s Q) ∧
        ((((ps_i s 1131 29) + 1) - 1) ≤ 12 →
          ((1 : Int32) = 0 →
            pl_At n 214 88 [(0, .ref 1131), (1, .int x1), (2, .int x2), (3, .int x3), (4, .int 1), (5, .int 1)] [] s Q) ∧
          ((1 : Int32) ≠ 0 →
            ((ps_i s 1131 30) ≤ 4 →
              pl_At n 214 88 [(0, .ref 1131), (1, .int x1), (2, .int x2), (3, .int x3), (4, .int 1), (5, .int 1)] [] s Q) ∧
            (4 < (ps_i s 1131 30) →
              pl_At n 214 84 [(0, .ref 1131), (1, .int x1), (2, .int x2), (3, .int x3), (4, .int 1), (5, .int 1)] [] s Q)))))) ∧
  (x3 ≠ 0 →
    (x2 < 0 →
      pl_At n 214 84 [(0, .ref 1131), (1, .int x1), (2, .int x2), (3, .int x3), (4, .int 1), (5, .int 2)] [] s Q) ∧
    (0 ≤ x2 →
      (40 < ((ps_i s 1131 31) + 2) →
        pl_At n 214 84 [(0, .ref 1131), (1, .int x1), (2, .int x2), (3, .int x3), (4, .int 1), (5, .int 2)] [] s Q) ∧
      (((ps_i s 1131 31) + 2) ≤ 40 →
        (12 < (((ps_i s 1131 29) + 2) - 1) →
          pl_At n 214 84 [(0, .ref 1131), (1, .int x1), (2, .int x2), (3, .int x3), (4, .int 1), (5, .int 2)] [] s Q) ∧
        ((((ps_i s 1131 29) + 2) - 1) ≤ 12 →
          ((1 : Int32) = 0 →
            pl_At n 214 88 [(0, .ref 1131), (1, .int x1), (2, .int x2), (3, .int x3), (4, .int 1), (5, .int 2)] [] s Q) ∧
          ((1 : Int32) ≠ 0 →
            ((ps_i s 1131 30) ≤ 4 →
              pl_At n 214 88 [(0, .ref 1131), (1, .int x1), (2, .int x2), (3, .int x3), (4, .int 1), (5, .int 2)] [] s Q) ∧
            (4 < (ps_i s 1131 30) →
              pl_At n 214 84 [(0, .ref 1131), (1, .int x1), (2, .int x2), (3, .int x3), (4, .int 1), (5, .int 2)] [] s Q))))))) : pl_At (n + 1) 214 23 [(0, .ref 1131), (1, .int x1), (2, .int x2), (3, .int x3)] [] s Q :=
  pl_wp_at (stops := [(23, [0, 1, 2, 3]), (84, [0, 1, 2, 3, 4, 5]), (88, [0, 1, 2, 3, 4, 5]), (133, [0])]) (f := 56) h rfl

theorem pl_214_84 {n : Nat} {x1 : Int32} {x2 : Int32} {x3 : Int32} {x4 : Int32} {x5 : Int32} {s : ps_S} {Q : Option Value → ps_S → Prop} (h :
  pl_Cl n 196 [.ref 1131] s (ps_rV (fun s1 =>
    pl_At n 214 88 [(0, .ref 1131), (1, .int x1), (2, .int x2), (3, .int x3), (4, .int x4), (5, .int x5)] [] s1 Q))) : pl_At (n + 1) 214 84 [(0, .ref 1131), (1, .int x1), (2, .int x2), (3, .int x3), (4, .int x4), (5, .int x5)] [] s Q :=
  pl_wp_at (stops := [(23, [0, 1, 2, 3]), (84, [0, 1, 2, 3, 4, 5]), (88, [0, 1, 2, 3, 4, 5]), (133, [0])]) (f := 4) h rfl

theorem pl_214_88 {n : Nat} {x1 : Int32} {x2 : Int32} {x3 : Int32} {x4 : Int32} {x5 : Int32} {s : ps_S} {Q : Option Value → ps_S → Prop} (h :
  pl_Cl n 192 [.ref 1131] s (ps_rI (fun v1 s1 =>
    (v1 ≠ 0 →
      pl_Cl n 210 [.ref 1131, .int x1, .int x2] (ps_ui s1 1131 31 ((ps_i s1 1131 31) + x5)) (ps_rV (fun s2 =>
        pl_Cl n 194 [.ref 1131] s2 (ps_rV (fun s3 =>
          (x4 = 0 →
            (x3 = 0 →
              (x2 ≠ 0 →
                (10 ≤ x2 →
                  (pm_in ((((6 : Int32) * (ps_i s3 1131 22)) + x2) - 10) 12 = true →
                    (x2 < 6 →
                      pl_Cl n 211 [.ref 1131, .int (ps_a s3 1138 (Int32.toNatClampNeg ((((6 : Int32) * (ps_i s3 1131 22)) + x2) - 10))), .int 0] s3 (ps_rV (fun s4 =>
                        (pm_in ((ps_i s4 1131 29) - 1) 16 = true →
                          Q none (ps_ua s4 1146 (Int32.toNatClampNeg ((ps_i s4 1131 29) - 1)) (x3 &&& 1)))))) ∧
                    (6 ≤ x2 →
                      pl_Cl n 211 [.ref 1131, .int (ps_a s3 1138 (Int32.toNatClampNeg ((((6 : Int32) * (ps_i s3 1131 22)) + x2) - 10))), .int 1] s3 (ps_rV (fun s5 =>
                        (pm_in ((ps_i s5 1131 29) - 1) 16 = true →
                          Q none (ps_ua s5 1146 (Int32.toNatClampNeg ((ps_i s5 1131 29) - 1)) (x3 &&& 1)))))))) ∧
                (x2 < 10 →
                  (x2 < 6 →
                    pl_Cl n 211 [.ref 1131, .int 2, .int 0] s3 (ps_rV (fun s6 =>
                      (pm_in ((ps_i s6 1131 29) - 1) 16 = true →
                        Q none (ps_ua s6 1146 (Int32.toNatClampNeg ((ps_i s6 1131 29) - 1)) (x3 &&& 1)))))) ∧
                  (6 ≤ x2 →
                    pl_Cl n 211 [.ref 1131, .int 2, .int 1] s3 (ps_rV (fun s7 =>
                      (pm_in ((ps_i s7 1131 29) - 1) 16 = true →
                        Q none (ps_ua s7 1146 (Int32.toNatClampNeg ((ps_i s7 1131 29) - 1)) (x3 &&& 1)))))))) ∧
              (x2 = 0 →
                (x2 < 6 →
                  pl_Cl n 211 [.ref 1131, .int 0, .int 0] s3 (ps_rV (fun s8 =>
                    (pm_in ((ps_i s8 1131 29) - 1) 16 = true →
                      Q none (ps_ua s8 1146 (Int32.toNatClampNeg ((ps_i s8 1131 29) - 1)) (x3 &&& 1)))))) ∧
                (6 ≤ x2 →
                  pl_Cl n 211 [.ref 1131, .int 0, .int 1] s3 (ps_rV (fun s9 =>
                    (pm_in ((ps_i s9 1131 29) - 1) 16 = true →
                      Q none (ps_ua s9 1146 (Int32.toNatClampNeg ((ps_i s9 1131 29) - 1)) (x3 &&& 1)))))))) ∧
            (x3 ≠ 0 →
              (x2 < 6 →
                pl_Cl n 211 [.ref 1131, .int 1, .int 0] s3 (ps_rV (fun s10 =>
                  (pm_in ((ps_i s10 1131 29) - 1) 16 = true →
                    Q none (ps_ua s10 1146 (Int32.toNatClampNeg ((ps_i s10 1131 29) - 1)) (x3 &&& 1)))))) ∧
              (6 ≤ x2 →
                pl_Cl n 211 [.ref 1131, .int 1, .int 1] s3 (ps_rV (fun s11 =>
                  (pm_in ((ps_i s11 1131 29) - 1) 16 = true →
                    Q none (ps_ua s11 1146 (Int32.toNatClampNeg ((ps_i s11 1131 29) - 1)) (x3 &&& 1)))))))) ∧
          (x4 ≠ 0 →
            pl_Cl n 208 [.ref 1131] s3 (ps_rI (fun v12 s12 =>
              (v12 ≠ 0 →
                pl_At n 214 133 [(0, .ref 1131)] [] s12 Q) ∧
              (v12 = 0 →
                pl_Cl n 196 [.ref 1131] s12 (ps_rV (fun s13 =>
                  pl_At n 214 133 [(0, .ref 1131)] [] s13 Q))))))))))) ∧
    (v1 = 0 →
      Q none s1)))) : pl_At (n + 1) 214 88 [(0, .ref 1131), (1, .int x1), (2, .int x2), (3, .int x3), (4, .int x4), (5, .int x5)] [] s Q :=
  pl_wp_at (stops := [(23, [0, 1, 2, 3]), (84, [0, 1, 2, 3, 4, 5]), (88, [0, 1, 2, 3, 4, 5]), (133, [0])]) (f := 154) h rfl

theorem pl_214_133 {n : Nat} {s : ps_S} {Q : Option Value → ps_S → Prop} (h :
  pl_Cl n 192 [.ref 1131] s (ps_rI (fun v1 s1 =>
    (v1 ≠ 0 →
      pl_Cl n 211 [.ref 1131, .int 1, .int 0] s1 (ps_rV (fun s2 =>
        (pm_in ((ps_i s2 1131 29) - 1) 16 = true →
          (pm_in ((ps_i (ps_ua s2 1147 (Int32.toNatClampNeg ((ps_i s2 1131 29) - 1)) ((1 : Int32) &&& 1)) 1131 29) - 1) 16 = true →
            pl_Cl n 194 [.ref 1131] (ps_ui (ps_ub (ps_ua s2 1147 (Int32.toNatClampNeg ((ps_i s2 1131 29) - 1)) ((1 : Int32) &&& 1)) 1148 (Int32.toNatClampNeg ((ps_i (ps_ua s2 1147 (Int32.toNatClampNeg ((ps_i s2 1131 29) - 1)) ((1 : Int32) &&& 1)) 1131 29) - 1)) (ps_j (ps_ua s2 1147 (Int32.toNatClampNeg ((ps_i s2 1131 29) - 1)) ((1 : Int32) &&& 1)) 1131 11)) 1131 30 ((ps_i (ps_ub (ps_ua s2 1147 (Int32.toNatClampNeg ((ps_i s2 1131 29) - 1)) ((1 : Int32) &&& 1)) 1148 (Int32.toNatClampNeg ((ps_i (ps_ua s2 1147 (Int32.toNatClampNeg ((ps_i s2 1131 29) - 1)) ((1 : Int32) &&& 1)) 1131 29) - 1)) (ps_j (ps_ua s2 1147 (Int32.toNatClampNeg ((ps_i s2 1131 29) - 1)) ((1 : Int32) &&& 1)) 1131 11)) 1131 30) + 1)) (ps_rV (fun s3 =>
              Q none s3))))))) ∧
    (v1 = 0 →
      Q none s1)))) : pl_At (n + 1) 214 133 [(0, .ref 1131)] [] s Q :=
  pl_wp_at (stops := [(23, [0, 1, 2, 3]), (84, [0, 1, 2, 3, 4, 5]), (88, [0, 1, 2, 3, 4, 5]), (133, [0])]) (f := 37) h rfl

theorem fm_214_88b {n to : Nat} {s0 s : ps_S} {T : Nat → Nat} {N : Nat} {E : tx_E} {c0 : tx_C} {S' : List tx_F} {pl : Nat} {l' : List Nat} {fr' : List (List Nat)} {kd : Nat} {x1 x2 x3 x4 x5 : Int32} {R : ps_S → Prop} (hs : tx_st T N E c0 = (4, S', pl, l', fr', kd)) (hb : mv_bad to s0 s kd pl) (k : ∀ s', mv_res to s0 s' T N E c0 → R s') : pl_At n 214 88 [(0, .ref 1131), (1, .int x1), (2, .int x2), (3, .int x3), (4, .int x4), (5, .int x5)] [] s (ps_rV R) := by
  cases n with
  | zero => exact pl_At_0
  | succ n =>
  refine pl_214_88 ?_
  refine fm_192 (fun z => ?_) (fun z => ?_)
  · exfalso
    have := hb.1
    have := hb.2.1
    omega
  · exact ⟨fun h => absurd rfl h, fun _ => k _ (Or.inr ⟨S', pl, l', fr', kd, hs, hb⟩)⟩
theorem fm_214_84 {n : Nat} {rb to : Nat} {s : ps_S} {T : Nat → Nat} {N : Nat} {E : tx_E} {S : List tx_F} {p : Nat} {l : List Nat} {fr : List (List Nat)} {x1 x2 x3 x4 x5 : Int32} {R : ps_S → Prop} (HC : mv_C to s T N S p l fr) (hs : tx_st T N E (1, S, p, l, fr, 0) = (4, S, (tx_tok T N p).2.1, l, fr, tx_bk (tx_tok T N p))) (k : ∀ s', mv_res to s s' T N E (1, S, p, l, fr, 0) → R s') : pl_At n 214 84 [(0, .ref 1131), (1, .int x1), (2, .int x2), (3, .int x3), (4, .int x4), (5, .int x5)] [] s (ps_rV R) := by
  cases n with
  | zero => exact pl_At_0
  | succ n =>
  refine pl_214_84 ?_
  refine fm_196 HC.2.2.2.2.2.2.2.2.1 HC.2.2.1 (fun s1 q1 => ?_)
  exact fm_214_88b hs (mv_bad_mis q1.1 q1.2.1 q1.2.2) k
theorem fm_214_133b {n to : Nat} {s0 s : ps_S} {T : Nat → Nat} {N : Nat} {E : tx_E} {c0 : tx_C} {S' : List tx_F} {pl : Nat} {l' : List Nat} {fr' : List (List Nat)} {kd : Nat} {R : ps_S → Prop} (hs : tx_st T N E c0 = (4, S', pl, l', fr', kd)) (hb : mv_bad to s0 s kd pl) (k : ∀ s', mv_res to s0 s' T N E c0 → R s') : pl_At n 214 133 [(0, .ref 1131)] [] s (ps_rV R) := by
  cases n with
  | zero => exact pl_At_0
  | succ n =>
  refine pl_214_133 ?_
  refine fm_192 (fun z => ?_) (fun z => ?_)
  · exfalso
    have := hb.1
    have := hb.2.1
    omega
  · exact ⟨fun h => absurd rfl h, fun _ => k _ (Or.inr ⟨S', pl, l', fr', kd, hs, hb⟩)⟩
end
section
set_option maxRecDepth 100000
/-! the reference's reader: beginsFormula -/
theorem fm_214_133 {n rb to : Nat} {s0 s : ps_S} {T : Nat → Nat} {N : Nat} {E : tx_E} {c0 : tx_C} {S : List tx_F} {p : Nat} {l : List Nat} {fr : List (List Nat)} {R : ps_S → Prop} (HS : mv_S rb s T N E) (D : mv_D to s T N S p l fr (l.length + tx_due S)) (h40 : l.length + tx_due S ≤ 40) (hS : S.length ≤ 12) (h2 : (tx_tok T N p).1 = 2) (F : mv_fr to s0 s) (hs : tx_st T N E c0 = (2, (1, true, false, some (tx_tok T N p).2.2.2.1) :: S, (tx_tok T N p).2.2.1, l, fr, 0)) (k : ∀ s', mv_res to s0 s' T N E c0 → R s') : pl_At n 214 133 [(0, .ref 1131)] [] s (ps_rV R) := by
  cases n with
  | zero => exact pl_At_0
  | succ n =>
  obtain ⟨d1, d2, d3, d4, d5, d6, d7, d8⟩ := D
  have hok := tx_tok_ok (T := T) d1
  have hw := hok.2.2.2.1 h2
  have h8 := d2.2.2.2.1 (Or.inl h2)
  refine pl_214_133 ?_
  refine fm_192 (fun q134 => ?_) (fun q134 => ?_)
  · refine ⟨fun h137 => ?_, fun h137 => ?_⟩
    · refine fm_211 (m := 1) (b := true) rfl rfl d3 (by omega) (fun s144 q144 => ?_)
      intro b158
      obtain ⟨b158, c158⟩ := pl_in b158
      intro b173
      obtain ⟨b173, c173⟩ := pl_in b173
      have b1 : (ps_i s144 1131 29).toInt = (S.length + 1 : Nat) := q144.1.1
      have ei : (ps_i s144 1131 29 - 1).toInt = (S.length : Nat) := by
        have h1 : (1 : Int32).toInt = 1 := by decide
        rw [xIs (by omega) (by omega)]
        omega
      have e8 : ps_j s144 1131 11 = tx_m (tx_tok T N p).2.2.2.1 := by rw [kq_j q144.2 11 (by decide)]; exact h8
      have B4 := mv_B_bind (v := ps_j s144 1131 11) q144.1 (xtn ei) hw e8
      have K4 : kq [1144, 1145, 1146, 1147, 1148] [29, 30] s (ps_ui (ps_ub (ps_ua s144 1147 (Int32.toNatClampNeg (ps_i s144 1131 29 - 1)) ((1 : Int32) &&& 1)) 1148 (Int32.toNatClampNeg (ps_i s144 1131 29 - 1)) (ps_j s144 1131 11)) 1131 30 (ps_i s144 1131 30 + 1)) := kqi (kqb (kqa (kqt kq_refl q144.2 (by decide) (by decide)) rfl) rfl) rfl
      have B4 := mv_B_kq B4 (kqi (A := []) (F := [30]) (q := 30) (v := ps_i s144 1131 30 + 1) kq_refl rfl) (by decide) (by decide)
      refine fs_194 (T := T) (N := N) (p := (tx_tok T N p).2.2.1) (mv_T_kq HS.2.2.2.1 K4 (by decide) (by decide)) (mv_K_kq d2 K4 (by decide)).2.2.1 hok.2.1 (fun s185 q185 => ?_)
      obtain ⟨K5, k5⟩ := q185
      have K6 : kq [1144, 1145, 1146, 1147, 1148] [7, 8, 9, 10, 11, 29, 30] s s185 := kqt (kqt kq_refl K4 (by decide) (by decide)) K5 (by decide) (by decide)
      refine k _ (Or.inl ⟨_, _, _, _, hs, ⟨hok.2.1, ⟨by rw [List.length_cons]; omega, by show l.length + (0 + tx_due S) ≤ 40; omega⟩, k5, mv_B_kq B4 K5 (by decide) (by decide), ?_, ?_, mv_W_kq d6 K6 (by decide), mv_P_kq d7 K6 (by decide) (by decide), mv_G_kq d8 K6 (by decide) (by decide)⟩, mv_fr_tr F (mv_fr_kq K6 (by decide) (by decide))⟩)
      · rw [kq_i K5 30 (by decide)]
        show (ps_i s144 1131 30 + 1).toInt = ((tx_bs S).length + 1 : Nat)
        have hle : (tx_bs S).length ≤ S.length := tx_bs_le
        exact xj1 (by rw [kq_i q144.2 30 (by decide)]; exact d4) (by omega)
      · rw [kq_i K6 31 (by decide), d5]
        show ((l.length + tx_due S : Nat) : Int) = ((l.length + (0 + tx_due S) : Nat) : Int)
        omega
    · exact absurd h137 (by decide)
  · refine ⟨fun h137 => ?_, fun h137 => ?_⟩
    · exact absurd h137 (by decide)
    · exact absurd d8.1 q134

theorem mv_arr {s : ps_S} {rb : Nat} {E : tx_E} (h : mv_E s rb E.1) {tk : tx_K} {c : Nat} (hc : tx_pc E tk = some c) : c < 16 ∧ (c ≤ 6 ∨ 10 ≤ c) ∧ (10 ≤ c → (ps_a s 1138 (6 * rb + (c - 10))).toInt = (tx_ar E c : Nat)) := by
  obtain ⟨e1, e2, e3, e4, e5, e6⟩ := h
  unfold tx_pc at hc
  split at hc
  · split at hc
    · next hk =>
      cases hc
      exact ⟨by omega, Or.inl hk, fun z => by omega⟩
    · cases hc
  · split at hc
    · split at hc
      · next q hq =>
        cases hc
        obtain ⟨-, z2, z3, -⟩ := tx_ix_some hq
        rw [Nat.sub_zero] at z3
        unfold tx_R at z2 z3
        rw [List.length_map] at z2
        rw [List.getElem?_map] at z3
        obtain ⟨a, h1, h2⟩ := Option.map_eq_some_iff.mp z3
        obtain ⟨-, -, -, w4⟩ := e5 q a.1 a.2 h1
        refine ⟨by omega, Or.inr (by omega), fun _ => ?_⟩
        rw [show 10 + q - 10 = q from by omega, w4]
        unfold tx_ar tx_ra
        rw [if_neg (by omega), if_neg (by omega), if_neg (by omega), if_neg (by omega), show 10 + q - 10 = q from by omega, List.getD_eq_getElem?_getD, h1]
        rfl
      · cases hc
    · cases hc

theorem fm_214_88n {n : Nat} {rb to : Nat} {s : ps_S} {T : Nat → Nat} {N : Nat} {E : tx_E} {S : List tx_F} {p : Nat} {l : List Nat} {fr : List (List Nat)}{c : Nat} {x1 x2 x3 x4 x5 : Int32} {R : ps_S → Prop} (HS : mv_S rb s T N E) (HC : mv_C to s T N S p l fr) (hx1 : x1.toInt = to) (hx2 : x2.toInt = (3 : Nat)) (hx3 : x3.toInt = 1) (hx4 : x4.toInt = 0) (hx5 : x5.toInt = (2 : Nat)) (hn : (tx_tok T N p).1 = 3 ∧ (tx_tok T N p).2.2.2.2 = 7) (hS : S.length + 1 ≤ 12) (hl : l.length + tx_due S + 2 ≤ 40) (k : ∀ s', mv_res to s s' T N E (1, S, p, l, fr, 0) → R s') : pl_At n 214 88 [(0, .ref 1131), (1, .int x1), (2, .int x2), (3, .int x3), (4, .int x4), (5, .int x5)] [] s (ps_rV R) := by
  cases n with
  | zero => exact pl_At_0
  | succ n =>
  have hG := HC.2.2.2.2.2.2.2.2
  have hst := tx_s_not (T := T) (n := N) (E := E) (S := S) (p := p) (l := l) (fr := fr) rfl hn hS hl
  refine pl_214_88 ?_
  refine fm_192 (fun q89 => ?_) (fun q89 => ?_)
  · refine ⟨fun h92 => ?_, fun h92 => ?_⟩
    · refine mv_eg (q := 2) HS HC hx1 hx2 hx5 (by decide) (by omega) (fun s114 q114 => ?_)
      obtain ⟨HS1, D, F⟩ := q114
      have hB := D.2.2.1
      
      refine ⟨fun h119 => ?_, fun h119 => ?_⟩
      · have h119 : x4.toInt = (0 : Int) := xeq h119
        refine ⟨fun h193 => ?_, fun h193 => ?_⟩
        · have h193 : x3.toInt = (0 : Int) := xeq h193
          refine ⟨fun h201 => ?_, fun h201 => ?_⟩
          · have h201 : x2.toInt ≠ (0 : Int) := xne h201
            refine ⟨fun h211 => ?_, fun h211 => ?_⟩
            · have h211 : (10 : Int) ≤ x2.toInt := xle h211
              intro b234
              obtain ⟨b234, c234⟩ := pl_in b234
              refine ⟨fun h238 => ?_, fun h238 => ?_⟩
              · have h238 : x2.toInt < (6 : Int) := xlt h238
                exfalso; omega
              · have h238 : (6 : Int) ≤ x2.toInt := xle h238
                exfalso; omega
            · have h211 : x2.toInt < (10 : Int) := xlt h211
              refine ⟨fun h238 => ?_, fun h238 => ?_⟩
              · have h238 : x2.toInt < (6 : Int) := xlt h238
                exfalso; omega
              · have h238 : (6 : Int) ≤ x2.toInt := xle h238
                exfalso; omega
          · have h201 : x2.toInt = (0 : Int) := xeq h201
            refine ⟨fun h238 => ?_, fun h238 => ?_⟩
            · have h238 : x2.toInt < (6 : Int) := xlt h238
              exfalso; omega
            · have h238 : (6 : Int) ≤ x2.toInt := xle h238
              exfalso; omega
        · have h193 : x3.toInt ≠ (0 : Int) := xne h193
          refine ⟨fun h238 => ?_, fun h238 => ?_⟩
          · have h238 : x2.toInt < (6 : Int) := xlt h238
            refine fm_211 (m := 1) (b := true) rfl rfl hB (by omega) (fun s246 q246 => ?_)
            intro b260
            obtain ⟨b260, c260⟩ := pl_in b260
            have b1 : (ps_i s246 1131 29).toInt = (S.length + 1 : Nat) := q246.1.1
            have ei : (ps_i s246 1131 29 - 1).toInt = (S.length : Nat) := by
              have h1 : (1 : Int32).toInt = 1 := by decide
              rw [xIs (by omega) (by omega)]
              omega
            exact k _ (Or.inl ⟨_, _, _, _, hst, mv_D_push (nt := true) D (by omega) q246.1 q246.2 (xtn ei) hx3 (by rw [List.length_append]; show _ = l.length + 1 + _; show l.length + tx_due S + 2 = l.length + 1 + (1 + tx_due S); omega) (by omega), mv_fr_tr F (mv_fr_kq (kqa q246.2 rfl) (by decide) (by decide))⟩)
          · have h238 : (6 : Int) ≤ x2.toInt := xle h238
            exfalso; omega
      · have h119 : x4.toInt ≠ (0 : Int) := xne h119
        refine fm_208 HS1 D.1 D.2.1 (fun q123 => ?_) (fun q123 => ?_)
        · refine ⟨fun h126 => ?_, fun h126 => ?_⟩
          · exfalso; omega
          · exact absurd h126 (by decide)
        · refine ⟨fun h126 => ?_, fun h126 => ?_⟩
          · exact absurd h126 (by decide)
          · refine fm_196 D.2.2.2.2.2.2.2.1 D.2.1 (fun s130 q130 => ?_)
            exfalso; omega
    · exact absurd h92 (by decide)
  · refine ⟨fun h92 => ?_, fun h92 => ?_⟩
    · exact absurd h92 (by decide)
    · exact absurd hG.1 q89

theorem fm_214_88p {n : Nat} {rb to : Nat} {s : ps_S} {T : Nat → Nat} {N : Nat} {E : tx_E} {S : List tx_F} {p : Nat} {l : List Nat} {fr : List (List Nat)}{c : Nat} {x1 x2 x3 x4 x5 : Int32} {R : ps_S → Prop} (HS : mv_S rb s T N E) (HC : mv_C to s T N S p l fr) (hx1 : x1.toInt = to) (hx2 : x2.toInt = c) (hx3 : x3.toInt = 0) (hx4 : x4.toInt = 0) (hx5 : x5.toInt = (1 : Nat)) (hn : ¬ ((tx_tok T N p).1 = 3 ∧ (tx_tok T N p).2.2.2.2 = 7)) (hc : tx_pc E (tx_tok T N p) = some c) (h45 : ¬ (c = 4 ∨ c = 5)) (hS : S.length ≤ 12) (hl : l.length + tx_due S + 1 ≤ 40) (k : ∀ s', mv_res to s s' T N E (1, S, p, l, fr, 0) → R s') : pl_At n 214 88 [(0, .ref 1131), (1, .int x1), (2, .int x2), (3, .int x3), (4, .int x4), (5, .int x5)] [] s (ps_rV R) := by
  cases n with
  | zero => exact pl_At_0
  | succ n =>
  have hG := HC.2.2.2.2.2.2.2.2
  have hst := tx_s_piece (T := T) (n := N) (E := E) (S := S) (p := p) (l := l) (fr := fr) rfl hn hc hS hl h45
  obtain ⟨hc16, hc10, -⟩ := mv_arr HS.2.2.2.2 hc
  refine pl_214_88 ?_
  refine fm_192 (fun q89 => ?_) (fun q89 => ?_)
  · refine ⟨fun h92 => ?_, fun h92 => ?_⟩
    · refine mv_eg (q := 1) HS HC hx1 hx2 hx5 (by decide) (by omega) (fun s114 q114 => ?_)
      obtain ⟨HS1, D, F⟩ := q114
      have hB := D.2.2.1
      have e9 : (((6 : Int32) * (ps_i s114 1131 22)) + x2 - 10).toInt = (6 * rb + (c - 10) : Nat) ∨ c < 10 := by
        have c6 : (6 : Int32).toInt = 6 := by decide
        have c10 : (10 : Int32).toInt = 10 := by decide
        have hrb := HS1.1
        have m6 : ((6 : Int32) * (ps_i s114 1131 22)).toInt = 6 * rb := by rw [xm01 HS1.2.1 hrb, c6]
        have a6 : (((6 : Int32) * (ps_i s114 1131 22)) + x2).toInt = 6 * rb + c := by rw [xIa (by omega) (by omega)]; omega
        by_cases z : c < 10
        · exact Or.inr z
        · left
          rw [xIs (by omega) (by omega)]
          omega
      refine ⟨fun h119 => ?_, fun h119 => ?_⟩
      · have h119 : x4.toInt = (0 : Int) := xeq h119
        refine ⟨fun h193 => ?_, fun h193 => ?_⟩
        · have h193 : x3.toInt = (0 : Int) := xeq h193
          refine ⟨fun h201 => ?_, fun h201 => ?_⟩
          · have h201 : x2.toInt ≠ (0 : Int) := xne h201
            refine ⟨fun h211 => ?_, fun h211 => ?_⟩
            · have h211 : (10 : Int) ≤ x2.toInt := xle h211
              intro b234
              obtain ⟨b234, c234⟩ := pl_in b234
              refine ⟨fun h238 => ?_, fun h238 => ?_⟩
              · have h238 : x2.toInt < (6 : Int) := xlt h238
                exfalso; omega
              · have h238 : (6 : Int) ≤ x2.toInt := xle h238
                refine fm_211 (m := tx_ar E c) (b := decide (c < 6)) (by rw [xtn (e9.resolve_right (by omega))]; exact (mv_arr HS1.2.2.2.2 hc).2.2 (by omega)) (by rw [if_neg (by rw [decide_eq_false (by omega)]; decide)]; rfl) hB (by omega) (fun s246 q246 => ?_)
                intro b260
                obtain ⟨b260, c260⟩ := pl_in b260
                have b1 : (ps_i s246 1131 29).toInt = (S.length + 1 : Nat) := q246.1.1
                have ei : (ps_i s246 1131 29 - 1).toInt = (S.length : Nat) := by
                  have h1 : (1 : Int32).toInt = 1 := by decide
                  rw [xIs (by omega) (by omega)]
                  omega
                exact k _ (Or.inl ⟨_, _, _, _, hst, mv_D_push (nt := false) D hS q246.1 q246.2 (xtn ei) hx3 (by rw [List.length_append]; show _ = l.length + 1 + _; show l.length + tx_due S + 1 = l.length + 1 + (0 + tx_due S); omega) (by omega), mv_fr_tr F (mv_fr_kq (kqa q246.2 rfl) (by decide) (by decide))⟩)
            · have h211 : x2.toInt < (10 : Int) := xlt h211
              refine ⟨fun h238 => ?_, fun h238 => ?_⟩
              · have h238 : x2.toInt < (6 : Int) := xlt h238
                refine fm_211 (m := tx_ar E c) (b := decide (c < 6)) (by unfold tx_ar; rw [if_neg (by omega), if_pos (by omega)]; rfl) (by rw [if_pos (decide_eq_true (by omega))]; rfl) hB (by omega) (fun s246 q246 => ?_)
                intro b260
                obtain ⟨b260, c260⟩ := pl_in b260
                have b1 : (ps_i s246 1131 29).toInt = (S.length + 1 : Nat) := q246.1.1
                have ei : (ps_i s246 1131 29 - 1).toInt = (S.length : Nat) := by
                  have h1 : (1 : Int32).toInt = 1 := by decide
                  rw [xIs (by omega) (by omega)]
                  omega
                exact k _ (Or.inl ⟨_, _, _, _, hst, mv_D_push (nt := false) D hS q246.1 q246.2 (xtn ei) hx3 (by rw [List.length_append]; show _ = l.length + 1 + _; show l.length + tx_due S + 1 = l.length + 1 + (0 + tx_due S); omega) (by omega), mv_fr_tr F (mv_fr_kq (kqa q246.2 rfl) (by decide) (by decide))⟩)
              · have h238 : (6 : Int) ≤ x2.toInt := xle h238
                refine fm_211 (m := tx_ar E c) (b := decide (c < 6)) (by unfold tx_ar; rw [if_neg (by omega), if_neg (by omega), if_neg (by omega), if_pos (by omega)]; rfl) (by rw [if_neg (by rw [decide_eq_false (by omega)]; decide)]; rfl) hB (by omega) (fun s246 q246 => ?_)
                intro b260
                obtain ⟨b260, c260⟩ := pl_in b260
                have b1 : (ps_i s246 1131 29).toInt = (S.length + 1 : Nat) := q246.1.1
                have ei : (ps_i s246 1131 29 - 1).toInt = (S.length : Nat) := by
                  have h1 : (1 : Int32).toInt = 1 := by decide
                  rw [xIs (by omega) (by omega)]
                  omega
                exact k _ (Or.inl ⟨_, _, _, _, hst, mv_D_push (nt := false) D hS q246.1 q246.2 (xtn ei) hx3 (by rw [List.length_append]; show _ = l.length + 1 + _; show l.length + tx_due S + 1 = l.length + 1 + (0 + tx_due S); omega) (by omega), mv_fr_tr F (mv_fr_kq (kqa q246.2 rfl) (by decide) (by decide))⟩)
          · have h201 : x2.toInt = (0 : Int) := xeq h201
            refine ⟨fun h238 => ?_, fun h238 => ?_⟩
            · have h238 : x2.toInt < (6 : Int) := xlt h238
              refine fm_211 (m := tx_ar E c) (b := decide (c < 6)) (by unfold tx_ar; rw [if_pos (by omega)]; rfl) (by rw [if_pos (decide_eq_true (by omega))]; rfl) hB (by omega) (fun s246 q246 => ?_)
              intro b260
              obtain ⟨b260, c260⟩ := pl_in b260
              have b1 : (ps_i s246 1131 29).toInt = (S.length + 1 : Nat) := q246.1.1
              have ei : (ps_i s246 1131 29 - 1).toInt = (S.length : Nat) := by
                have h1 : (1 : Int32).toInt = 1 := by decide
                rw [xIs (by omega) (by omega)]
                omega
              exact k _ (Or.inl ⟨_, _, _, _, hst, mv_D_push (nt := false) D hS q246.1 q246.2 (xtn ei) hx3 (by rw [List.length_append]; show _ = l.length + 1 + _; show l.length + tx_due S + 1 = l.length + 1 + (0 + tx_due S); omega) (by omega), mv_fr_tr F (mv_fr_kq (kqa q246.2 rfl) (by decide) (by decide))⟩)
            · have h238 : (6 : Int) ≤ x2.toInt := xle h238
              exfalso; omega
        · have h193 : x3.toInt ≠ (0 : Int) := xne h193
          refine ⟨fun h238 => ?_, fun h238 => ?_⟩
          · have h238 : x2.toInt < (6 : Int) := xlt h238
            exfalso; omega
          · have h238 : (6 : Int) ≤ x2.toInt := xle h238
            exfalso; omega
      · have h119 : x4.toInt ≠ (0 : Int) := xne h119
        refine fm_208 HS1 D.1 D.2.1 (fun q123 => ?_) (fun q123 => ?_)
        · refine ⟨fun h126 => ?_, fun h126 => ?_⟩
          · exfalso; omega
          · exact absurd h126 (by decide)
        · refine ⟨fun h126 => ?_, fun h126 => ?_⟩
          · exact absurd h126 (by decide)
          · refine fm_196 D.2.2.2.2.2.2.2.1 D.2.1 (fun s130 q130 => ?_)
            exfalso; omega
    · exact absurd h92 (by decide)
  · refine ⟨fun h92 => ?_, fun h92 => ?_⟩
    · exact absurd h92 (by decide)
    · exact absurd hG.1 q89

theorem fm_214_88q {n : Nat} {rb to : Nat} {s : ps_S} {T : Nat → Nat} {N : Nat} {E : tx_E} {S : List tx_F} {p : Nat} {l : List Nat} {fr : List (List Nat)}{c : Nat} {x1 x2 x3 x4 x5 : Int32} {R : ps_S → Prop} (HS : mv_S rb s T N E) (HC : mv_C to s T N S p l fr) (hx1 : x1.toInt = to) (hx2 : x2.toInt = c) (hx3 : x3.toInt = 0) (hx4 : x4.toInt = 1) (hx5 : x5.toInt = (1 : Nat)) (hn : ¬ ((tx_tok T N p).1 = 3 ∧ (tx_tok T N p).2.2.2.2 = 7)) (hc : tx_pc E (tx_tok T N p) = some c) (h45 : c = 4 ∨ c = 5) (hS : S.length ≤ 12) (hl : l.length + tx_due S + 1 ≤ 40) (hq4 : (tx_bs S).length ≤ 4) (k : ∀ s', mv_res to s s' T N E (1, S, p, l, fr, 0) → R s') : pl_At n 214 88 [(0, .ref 1131), (1, .int x1), (2, .int x2), (3, .int x3), (4, .int x4), (5, .int x5)] [] s (ps_rV R) := by
  cases n with
  | zero => exact pl_At_0
  | succ n =>
  have hG := HC.2.2.2.2.2.2.2.2
  refine pl_214_88 ?_
  refine fm_192 (fun q89 => ?_) (fun q89 => ?_)
  · refine ⟨fun h92 => ?_, fun h92 => ?_⟩
    · refine mv_eg (q := 1) HS HC hx1 hx2 hx5 (by decide) (by omega) (fun s114 q114 => ?_)
      obtain ⟨HS1, D, F⟩ := q114
      have hB := D.2.2.1
      
      refine ⟨fun h119 => ?_, fun h119 => ?_⟩
      · have h119 : x4.toInt = (0 : Int) := xeq h119
        refine ⟨fun h193 => ?_, fun h193 => ?_⟩
        · have h193 : x3.toInt = (0 : Int) := xeq h193
          refine ⟨fun h201 => ?_, fun h201 => ?_⟩
          · have h201 : x2.toInt ≠ (0 : Int) := xne h201
            refine ⟨fun h211 => ?_, fun h211 => ?_⟩
            · have h211 : (10 : Int) ≤ x2.toInt := xle h211
              intro b234
              obtain ⟨b234, c234⟩ := pl_in b234
              refine ⟨fun h238 => ?_, fun h238 => ?_⟩
              · have h238 : x2.toInt < (6 : Int) := xlt h238
                exfalso; omega
              · have h238 : (6 : Int) ≤ x2.toInt := xle h238
                exfalso; omega
            · have h211 : x2.toInt < (10 : Int) := xlt h211
              refine ⟨fun h238 => ?_, fun h238 => ?_⟩
              · have h238 : x2.toInt < (6 : Int) := xlt h238
                exfalso; omega
              · have h238 : (6 : Int) ≤ x2.toInt := xle h238
                exfalso; omega
          · have h201 : x2.toInt = (0 : Int) := xeq h201
            refine ⟨fun h238 => ?_, fun h238 => ?_⟩
            · have h238 : x2.toInt < (6 : Int) := xlt h238
              exfalso; omega
            · have h238 : (6 : Int) ≤ x2.toInt := xle h238
              exfalso; omega
        · have h193 : x3.toInt ≠ (0 : Int) := xne h193
          refine ⟨fun h238 => ?_, fun h238 => ?_⟩
          · have h238 : x2.toInt < (6 : Int) := xlt h238
            exfalso; omega
          · have h238 : (6 : Int) ≤ x2.toInt := xle h238
            exfalso; omega
      · have h119 : x4.toInt ≠ (0 : Int) := xne h119
        refine fm_208 HS1 D.1 D.2.1 (fun q123 => ?_) (fun q123 => ?_)
        · refine ⟨fun h126 => ?_, fun h126 => ?_⟩
          · exact fm_214_133 HS1 (by have z := D; rw [show l.length + tx_due S + 1 = (l ++ [c]).length + tx_due S from by rw [List.length_append]; show _ = l.length + 1 + _; omega] at z; exact z) (by rw [List.length_append]; show l.length + 1 + _ ≤ 40; omega) hS q123.1 F (tx_s_q rfl hn hc hS hl h45 hq4 rfl q123) k
          · exact absurd h126 (by decide)
        · refine ⟨fun h126 => ?_, fun h126 => ?_⟩
          · exact absurd h126 (by decide)
          · refine fm_196 D.2.2.2.2.2.2.2.1 D.2.1 (fun s130 q130 => ?_)
            exact fm_214_133b (tx_s_qb rfl hn hc hS hl h45 hq4 rfl q123) (mv_bad_tr F (mv_bad_mis q130.1 q130.2.1 q130.2.2)) k
    · exact absurd h92 (by decide)
  · refine ⟨fun h92 => ?_, fun h92 => ?_⟩
    · exact absurd h92 (by decide)
    · exact absurd hG.1 q89
end
section
set_option maxRecDepth 100000
/-! the reference's reader: beginsFormula, beginsTerm, readRow -/
theorem fm_214_23 {n : Nat} {rb to : Nat} {s : ps_S} {T : Nat → Nat} {N : Nat} {E : tx_E} {S : List tx_F} {p : Nat} {l : List Nat} {fr : List (List Nat)}{c : Nat} {x1 x2 x3 : Int32} {R : ps_S → Prop} (HS : mv_S rb s T N E) (HC : mv_C to s T N S p l fr) (hx1 : x1.toInt = to) (hx2 : x2.toInt = c) (hx3 : x3.toInt = 0) (hn : ¬ ((tx_tok T N p).1 = 3 ∧ (tx_tok T N p).2.2.2.2 = 7)) (hc : tx_pc E (tx_tok T N p) = some c) (h45 : c = 4 ∨ c = 5) (k : ∀ s', mv_res to s s' T N E (1, S, p, l, fr, 0) → R s') : pl_At n 214 23 [(0, .ref 1131), (1, .int x1), (2, .int x2), (3, .int x3)] [] s (ps_rV R) := by
  cases n with
  | zero => exact pl_At_0
  | succ n =>
  have hK := HC.2.2.1
  have hp := HC.1
  have c31 := HC.2.2.2.2.2.1
  have c29 := HC.2.2.2.1.1
  have c30 := HC.2.2.2.2.1
  have h13 := HC.2.1.1
  have h40 := HC.2.1.2
  have h1 : (1 : Int32).toInt = 1 := by decide
  have h2 : (2 : Int32).toInt = 2 := by decide
  have e1 : ((ps_i s 1131 31) + 1).toInt = (l.length + tx_due S : Nat) + 1 := by rw [xIa (by omega) (by omega)]; omega
  have e2 : ((ps_i s 1131 31) + 2).toInt = (l.length + tx_due S : Nat) + 2 := by rw [xIa (by omega) (by omega)]; omega
  have a1 : ((ps_i s 1131 29) + 1).toInt = (S.length : Int) + 1 := by rw [xIa (by omega) (by omega)]; omega
  have a2 : ((ps_i s 1131 29) + 2).toInt = (S.length : Int) + 2 := by rw [xIa (by omega) (by omega)]; omega
  have b1 : (((ps_i s 1131 29) + 1) - 1).toInt = (S.length : Int) := by rw [xIs (by omega) (by omega)]; omega
  have b2 : (((ps_i s 1131 29) + 2) - 1).toInt = (S.length : Int) + 1 := by rw [xIs (by omega) (by omega)]; omega
  refine pl_214_23 ?_
  refine ⟨fun h31 => ?_, fun h31 => ?_⟩
  · have h31 : x3.toInt = (0 : Int) := xeq h31
    refine ⟨fun h42 => ?_, fun h42 => ?_⟩
    · have h42 : x2.toInt < (0 : Int) := xlt h42
      exfalso; omega
    · have h42 : (0 : Int) ≤ x2.toInt := xle h42
      refine ⟨fun h54 => ?_, fun h54 => ?_⟩
      · have h54 : (40 : Int) < ((ps_i s 1131 31) + 1).toInt := xlt h54
        exact fm_214_84 (rb := rb) HC (tx_s_full rfl hn hc (fun z => by omega)) k
      · have h54 : ((ps_i s 1131 31) + 1).toInt ≤ (40 : Int) := xle h54
        refine ⟨fun h68 => ?_, fun h68 => ?_⟩
        · have h68 : (12 : Int) < (((ps_i s 1131 29) + 1) - 1).toInt := xlt h68
          exact fm_214_84 (rb := rb) HC (tx_s_full rfl hn hc (fun z => by omega)) k
        · have h68 : (((ps_i s 1131 29) + 1) - 1).toInt ≤ (12 : Int) := xle h68
          refine ⟨fun h73 => ?_, fun h73 => ?_⟩
          · exact absurd h73 (by decide)
          · refine ⟨fun h81 => ?_, fun h81 => ?_⟩
            · have h81 : (ps_i s 1131 30).toInt ≤ (4 : Int) := xle h81
              exact fm_214_88q HS HC hx1 hx2 hx3 rfl rfl hn hc h45 (by omega) (by omega) (by omega) k
            · have h81 : (4 : Int) < (ps_i s 1131 30).toInt := xlt h81
              exact fm_214_84 (rb := rb) HC (tx_s_full rfl hn hc (fun z => by have := z.2.2 h45; omega)) k
  · have h31 : x3.toInt ≠ (0 : Int) := xne h31
    refine ⟨fun h42 => ?_, fun h42 => ?_⟩
    · have h42 : x2.toInt < (0 : Int) := xlt h42
      exfalso; omega
    · have h42 : (0 : Int) ≤ x2.toInt := xle h42
      refine ⟨fun h54 => ?_, fun h54 => ?_⟩
      · have h54 : (40 : Int) < ((ps_i s 1131 31) + 2).toInt := xlt h54
        exfalso; omega
      · have h54 : ((ps_i s 1131 31) + 2).toInt ≤ (40 : Int) := xle h54
        refine ⟨fun h68 => ?_, fun h68 => ?_⟩
        · have h68 : (12 : Int) < (((ps_i s 1131 29) + 2) - 1).toInt := xlt h68
          exfalso; omega
        · have h68 : (((ps_i s 1131 29) + 2) - 1).toInt ≤ (12 : Int) := xle h68
          refine ⟨fun h73 => ?_, fun h73 => ?_⟩
          · exact absurd h73 (by decide)
          · refine ⟨fun h81 => ?_, fun h81 => ?_⟩
            · have h81 : (ps_i s 1131 30).toInt ≤ (4 : Int) := xle h81
              exfalso; omega
            · have h81 : (4 : Int) < (ps_i s 1131 30).toInt := xlt h81
              exfalso; omega
theorem fm_214 {n : Nat} {rb to : Nat} {s : ps_S} {T : Nat → Nat} {N : Nat} {E : tx_E} {S : List tx_F} {p : Nat} {l : List Nat} {fr : List (List Nat)} {x1 : Int32} {R : ps_S → Prop} (HS : mv_S rb s T N E) (HC : mv_C to s T N S p l fr) (hx1 : x1.toInt = to) (k : ∀ s', mv_res to s s' T N E (1, S, p, l, fr, 0) → R s') : pl_Cl n 214 [.ref 1131, .int x1] s (ps_rV R) := by
  cases n with
  | zero => exact pl_At_0
  | succ n =>
  have hK := HC.2.2.1
  have hp := HC.1
  have c31 := HC.2.2.2.2.2.1
  have c29 := HC.2.2.2.1.1
  have c30 := HC.2.2.2.2.1
  have h13 := HC.2.1.1
  have h40 := HC.2.1.2
  have h1 : (1 : Int32).toInt = 1 := by decide
  have h2 : (2 : Int32).toInt = 2 := by decide
  have e1 : ((ps_i s 1131 31) + 1).toInt = (l.length + tx_due S : Nat) + 1 := by rw [xIa (by omega) (by omega)]; omega
  have e2 : ((ps_i s 1131 31) + 2).toInt = (l.length + tx_due S : Nat) + 2 := by rw [xIa (by omega) (by omega)]; omega
  have a1 : ((ps_i s 1131 29) + 1).toInt = (S.length : Int) + 1 := by rw [xIa (by omega) (by omega)]; omega
  have a2 : ((ps_i s 1131 29) + 2).toInt = (S.length : Int) + 2 := by rw [xIa (by omega) (by omega)]; omega
  have b1 : (((ps_i s 1131 29) + 1) - 1).toInt = (S.length : Int) := by rw [xIs (by omega) (by omega)]; omega
  have b2 : (((ps_i s 1131 29) + 2) - 1).toInt = (S.length : Int) + 1 := by rw [xIs (by omega) (by omega)]; omega
  show pl_At (n + 1) 214 0 [(0, .ref 1131), (1, .int x1)] [] s (ps_rV R)
  refine pl_214_0 ?_
  refine fm_213 HS hp hK (fun v1 q1 => ?_)
  refine fm_195 (w := [110, 111, 116]) (q := 7) hK (by decide) (by decide +kernel) (fun q9 => ?_) (fun q9 => ?_)
  · have hv3 : v1.toInt = (3 : Nat) := q1.1 3 (by unfold tx_ph; rw [if_pos q9])
    refine ⟨fun h15 => ?_, fun h15 => ?_⟩
    · have h15 : v1.toInt = (4 : Int) := xeq h15
      exfalso; omega
    · have h15 : v1.toInt ≠ (4 : Int) := xne h15
      refine ⟨fun h20 => ?_, fun h20 => ?_⟩
      · have h20 : v1.toInt ≠ (5 : Int) := xne h20
        refine ⟨fun h31 => ?_, fun h31 => ?_⟩
        · exact absurd h31 (by decide)
        · refine ⟨fun h42 => ?_, fun h42 => ?_⟩
          · have h42 : v1.toInt < (0 : Int) := xlt h42
            exfalso; omega
          · have h42 : (0 : Int) ≤ v1.toInt := xle h42
            refine ⟨fun h54 => ?_, fun h54 => ?_⟩
            · have h54 : (40 : Int) < ((ps_i s 1131 31) + 2).toInt := xlt h54
              exact fm_214_84 (rb := rb) HC (tx_s_notb rfl q9 (by omega)) k
            · have h54 : ((ps_i s 1131 31) + 2).toInt ≤ (40 : Int) := xle h54
              refine ⟨fun h68 => ?_, fun h68 => ?_⟩
              · have h68 : (12 : Int) < (((ps_i s 1131 29) + 2) - 1).toInt := xlt h68
                exact fm_214_84 (rb := rb) HC (tx_s_notb rfl q9 (by omega)) k
              · have h68 : (((ps_i s 1131 29) + 2) - 1).toInt ≤ (12 : Int) := xle h68
                refine ⟨fun h73 => ?_, fun h73 => ?_⟩
                · exact fm_214_88n (c := 0) HS HC hx1 hv3 rfl rfl rfl q9 (by omega) (by omega) k
                · exact absurd h73 (by decide)
      · have h20 : v1.toInt = (5 : Int) := xeq h20
        exfalso; omega
  · have hv : tx_opt (tx_pc E (tx_tok T N p)) v1 := by
      have z := q1
      unfold tx_ph at z
      rw [if_neg q9] at z
      exact z
    have hx4 : v1.toInt = 4 → tx_pc E (tx_tok T N p) = some 4 ∧ v1.toInt = (4 : Nat) := fun z => by
      cases e : tx_pc E (tx_tok T N p) with
      | none => have := hv.2 e; omega
      | some c =>
        have := hv.1 c e
        exact ⟨by rw [show c = 4 from by omega], z⟩
    have hx5 : v1.toInt = 5 → tx_pc E (tx_tok T N p) = some 5 ∧ v1.toInt = (5 : Nat) := fun z => by
      cases e : tx_pc E (tx_tok T N p) with
      | none => have := hv.2 e; omega
      | some c =>
        have := hv.1 c e
        exact ⟨by rw [show c = 5 from by omega], z⟩
    have hxc : 0 ≤ v1.toInt → ∃ c, tx_pc E (tx_tok T N p) = some c ∧ v1.toInt = (c : Nat) := fun z => by
      cases e : tx_pc E (tx_tok T N p) with
      | none => have := hv.2 e; omega
      | some c => exact ⟨c, rfl, hv.1 c e⟩
    refine ⟨fun h15 => ?_, fun h15 => ?_⟩
    · have h15 : v1.toInt = (4 : Int) := xeq h15
      exact fm_214_23 HS HC hx1 (hx4 (by omega)).2 rfl q9 (hx4 (by omega)).1 (Or.inl rfl) k
    · have h15 : v1.toInt ≠ (4 : Int) := xne h15
      refine ⟨fun h20 => ?_, fun h20 => ?_⟩
      · have h20 : v1.toInt ≠ (5 : Int) := xne h20
        refine ⟨fun h31 => ?_, fun h31 => ?_⟩
        · refine ⟨fun h42 => ?_, fun h42 => ?_⟩
          · have h42 : v1.toInt < (0 : Int) := xlt h42
            exact fm_214_84 (rb := rb) HC (tx_s_none rfl q9 ((tx_opt_n hv).mp (by omega))) k
          · have h42 : (0 : Int) ≤ v1.toInt := xle h42
            refine ⟨fun h54 => ?_, fun h54 => ?_⟩
            · have h54 : (40 : Int) < ((ps_i s 1131 31) + 1).toInt := xlt h54
              obtain ⟨c, hc, hvc⟩ := hxc (by omega); exact fm_214_84 (rb := rb) HC (tx_s_full rfl q9 hc (fun z => by omega)) k
            · have h54 : ((ps_i s 1131 31) + 1).toInt ≤ (40 : Int) := xle h54
              refine ⟨fun h68 => ?_, fun h68 => ?_⟩
              · have h68 : (12 : Int) < (((ps_i s 1131 29) + 1) - 1).toInt := xlt h68
                obtain ⟨c, hc, hvc⟩ := hxc (by omega); exact fm_214_84 (rb := rb) HC (tx_s_full rfl q9 hc (fun z => by omega)) k
              · have h68 : (((ps_i s 1131 29) + 1) - 1).toInt ≤ (12 : Int) := xle h68
                refine ⟨fun h73 => ?_, fun h73 => ?_⟩
                · obtain ⟨c, hc, hvc⟩ := hxc (by omega); exact fm_214_88p HS HC hx1 hvc rfl rfl rfl q9 hc (by omega) (by omega) (by omega) k
                · exact absurd h73 (by decide)
        · exact absurd h31 (by decide)
      · have h20 : v1.toInt = (5 : Int) := xeq h20
        exact fm_214_23 HS HC hx1 (hx5 (by omega)).2 rfl q9 (hx5 (by omega)).1 (Or.inr rfl) k

-- ProofBenchModel.beginsTerm(I)V
theorem pl_215_0 {n : Nat} {x1 : Int32} {s : ps_S} {Q : Option Value → ps_S → Prop} (h :
  ((ps_i s 1131 9) ≠ 2 →
    pl_At n 215 19 [(0, .ref 1131), (1, .int x1)] [] s Q) ∧
  ((ps_i s 1131 9) = 2 →
    pl_Cl n 206 [.ref 1131] s (ps_rI (fun v1 s1 =>
      (0 ≤ v1 →
        pl_At n 215 19 [(0, .ref 1131), (1, .int x1)] [] s1 Q) ∧
      (v1 < 0 →
        ((1 : Int32) = 0 →
          pl_At n 215 45 [(0, .ref 1131), (1, .int x1)] [] s1 Q) ∧
        ((1 : Int32) ≠ 0 →
          (40 < ((ps_i s1 1131 31) + 1) →
            pl_At n 215 45 [(0, .ref 1131), (1, .int x1)] [] s1 Q) ∧
          (((ps_i s1 1131 31) + 1) ≤ 40 →
            ((ps_i s1 1131 29) ≤ 12 →
              pl_At n 215 49 [(0, .ref 1131), (1, .int x1)] [] s1 Q) ∧
            (12 < (ps_i s1 1131 29) →
              pl_At n 215 45 [(0, .ref 1131), (1, .int x1)] [] s1 Q)))))))) : pl_At (n + 1) 215 0 [(0, .ref 1131), (1, .int x1)] [] s Q :=
  pl_wp_at (stops := [(19, [0, 1]), (45, [0, 1]), (49, [0, 1])]) (f := 24) h rfl

theorem pl_215_19 {n : Nat} {x1 : Int32} {s : ps_S} {Q : Option Value → ps_S → Prop} (h :
  ((0 : Int32) = 0 →
    pl_At n 215 45 [(0, .ref 1131), (1, .int x1)] [] s Q) ∧
  ((0 : Int32) ≠ 0 →
    (40 < ((ps_i s 1131 31) + 1) →
      pl_At n 215 45 [(0, .ref 1131), (1, .int x1)] [] s Q) ∧
    (((ps_i s 1131 31) + 1) ≤ 40 →
      ((ps_i s 1131 29) ≤ 12 →
        pl_At n 215 49 [(0, .ref 1131), (1, .int x1)] [] s Q) ∧
      (12 < (ps_i s 1131 29) →
        pl_At n 215 45 [(0, .ref 1131), (1, .int x1)] [] s Q)))) : pl_At (n + 1) 215 19 [(0, .ref 1131), (1, .int x1)] [] s Q :=
  pl_wp_at (stops := [(19, [0, 1]), (45, [0, 1]), (49, [0, 1])]) (f := 16) h rfl

theorem pl_215_45 {n : Nat} {x1 : Int32} {s : ps_S} {Q : Option Value → ps_S → Prop} (h :
  pl_Cl n 196 [.ref 1131] s (ps_rV (fun s1 =>
    pl_At n 215 49 [(0, .ref 1131), (1, .int x1)] [] s1 Q))) : pl_At (n + 1) 215 45 [(0, .ref 1131), (1, .int x1)] [] s Q :=
  pl_wp_at (stops := [(19, [0, 1]), (45, [0, 1]), (49, [0, 1])]) (f := 4) h rfl

theorem pl_215_49 {n : Nat} {x1 : Int32} {s : ps_S} {Q : Option Value → ps_S → Prop} (h :
  pl_Cl n 192 [.ref 1131] s (ps_rI (fun v1 s1 =>
    (v1 ≠ 0 →
      pl_Cl n 207 [.ref 1131] s1 (ps_rI (fun v2 s2 =>
        (0 ≤ v2 →
          pl_Cl n 192 [.ref 1131] s2 (ps_rI (fun v3 s3 =>
            (v3 ≠ 0 →
              (0 ≤ v2 →
                pl_Cl n 210 [.ref 1131, .int x1, .int ((20 : Int32) + v2)] (ps_ui s3 1131 31 ((ps_i s3 1131 31) + 1)) (ps_rV (fun s4 =>
                  pl_Cl n 194 [.ref 1131] s4 (ps_rV (fun s5 =>
                    (0 ≤ v2 →
                      (pm_in (((4 : Int32) * (ps_i s5 1131 22)) + v2) 8 = true →
                        pl_Cl n 211 [.ref 1131, .int (ps_a s5 1139 (Int32.toNatClampNeg (((4 : Int32) * (ps_i s5 1131 22)) + v2))), .int 1] s5 (ps_rV (fun s6 =>
                          Q none s6)))) ∧
                    (v2 < 0 →
                      pl_Cl n 211 [.ref 1131, .int 0, .int 1] s5 (ps_rV (fun s7 =>
                        Q none s7)))))))) ∧
              (v2 < 0 →
                pl_Cl n 210 [.ref 1131, .int x1, .int 0] (ps_ui s3 1131 31 ((ps_i s3 1131 31) + 1)) (ps_rV (fun s8 =>
                  pl_Cl n 194 [.ref 1131] s8 (ps_rV (fun s9 =>
                    (0 ≤ v2 →
                      (pm_in (((4 : Int32) * (ps_i s9 1131 22)) + v2) 8 = true →
                        pl_Cl n 211 [.ref 1131, .int (ps_a s9 1139 (Int32.toNatClampNeg (((4 : Int32) * (ps_i s9 1131 22)) + v2))), .int 1] s9 (ps_rV (fun s10 =>
                          Q none s10)))) ∧
                    (v2 < 0 →
                      pl_Cl n 211 [.ref 1131, .int 0, .int 1] s9 (ps_rV (fun s11 =>
                        Q none s11))))))))) ∧
            (v3 = 0 →
              Q none s3)))) ∧
        (v2 < 0 →
          pl_Cl n 216 [.ref 1131] s2 (ps_rI (fun v12 s12 =>
            pl_Cl n 192 [.ref 1131] s12 (ps_rI (fun v13 s13 =>
              (v13 ≠ 0 →
                (0 ≤ v2 →
                  pl_Cl n 210 [.ref 1131, .int x1, .int ((20 : Int32) + v2)] (ps_ui s13 1131 31 ((ps_i s13 1131 31) + 1)) (ps_rV (fun s14 =>
                    pl_Cl n 194 [.ref 1131] s14 (ps_rV (fun s15 =>
                      (0 ≤ v2 →
                        (pm_in (((4 : Int32) * (ps_i s15 1131 22)) + v2) 8 = true →
                          pl_Cl n 211 [.ref 1131, .int (ps_a s15 1139 (Int32.toNatClampNeg (((4 : Int32) * (ps_i s15 1131 22)) + v2))), .int 1] s15 (ps_rV (fun s16 =>
                            Q none s16)))) ∧
                      (v2 < 0 →
                        pl_Cl n 211 [.ref 1131, .int 0, .int 1] s15 (ps_rV (fun s17 =>
                          Q none s17)))))))) ∧
                (v2 < 0 →
                  pl_Cl n 210 [.ref 1131, .int x1, .int v12] (ps_ui s13 1131 31 ((ps_i s13 1131 31) + 1)) (ps_rV (fun s18 =>
                    pl_Cl n 194 [.ref 1131] s18 (ps_rV (fun s19 =>
                      (0 ≤ v2 →
                        (pm_in (((4 : Int32) * (ps_i s19 1131 22)) + v2) 8 = true →
                          pl_Cl n 211 [.ref 1131, .int (ps_a s19 1139 (Int32.toNatClampNeg (((4 : Int32) * (ps_i s19 1131 22)) + v2))), .int 1] s19 (ps_rV (fun s20 =>
                            Q none s20)))) ∧
                      (v2 < 0 →
                        pl_Cl n 211 [.ref 1131, .int 0, .int 1] s19 (ps_rV (fun s21 =>
                          Q none s21))))))))) ∧
              (v13 = 0 →
                Q none s13))))))))) ∧
    (v1 = 0 →
      Q none s1)))) : pl_At (n + 1) 215 49 [(0, .ref 1131), (1, .int x1)] [] s Q :=
  pl_wp_at (stops := [(19, [0, 1]), (45, [0, 1]), (49, [0, 1])]) (f := 147) h rfl

-- ProofBenchModel.readRow(IZZ)V
theorem pl_209_0 {n : Nat} {x1 : Int32} {x2 : Int32} {x3 : Int32} {s : ps_S} {Q : Option Value → ps_S → Prop} (h :
  (pm_in x1 27400 = true →
    pl_nk (decide (x3 &&& 1 = x3)) (pl_At n 209 30 [(0, .ref 1131), (1, .int x1), (2, .int x2), (4, .int 1)] [] (ps_ui (ps_ui (ps_ui (ps_ui (ps_ua s 1134 (Int32.toNatClampNeg x1) 0) 1131 29 0) 1131 30 0) 1131 31 0) 1131 32 x3) Q))) : pl_At (n + 1) 209 0 [(0, .ref 1131), (1, .int x1), (2, .int x2), (3, .int x3)] [] s Q :=
  pl_wp_at (stops := [(30, [0, 1, 2, 4]), (92, [0, 1, 2])]) (f := 21) h rfl

theorem pl_209_30 {n : Nat} {x1 : Int32} {x2 : Int32} {x4 : Int32} {s : ps_S} {Q : Option Value → ps_S → Prop} (h :
  pl_Cl n 192 [.ref 1131] s (ps_rI (fun v1 s1 =>
    (v1 = 0 →
      Q none s1) ∧
    (v1 ≠ 0 →
      (x4 = 0 →
        Q none s1) ∧
      (x4 ≠ 0 →
        ((ps_i s1 1131 29) ≠ 0 →
          (pm_in ((ps_i s1 1131 29) - 1) 16 = true →
            ((ps_a s1 1145 (Int32.toNatClampNeg ((ps_i s1 1131 29) - 1))) ≠ 0 →
              ((0 : Int32) = 0 →
                pl_Cl n 215 [.ref 1131, .int x1] s1 (ps_rV (fun s2 =>
                  pl_At n 209 92 [(0, .ref 1131), (1, .int x1), (2, .int x2)] [] s2 Q))) ∧
              ((0 : Int32) ≠ 0 →
                pl_Cl n 214 [.ref 1131, .int x1] s1 (ps_rV (fun s3 =>
                  pl_At n 209 92 [(0, .ref 1131), (1, .int x1), (2, .int x2)] [] s3 Q)))) ∧
            ((ps_a s1 1145 (Int32.toNatClampNeg ((ps_i s1 1131 29) - 1))) = 0 →
              ((1 : Int32) = 0 →
                pl_Cl n 215 [.ref 1131, .int x1] s1 (ps_rV (fun s4 =>
                  pl_At n 209 92 [(0, .ref 1131), (1, .int x1), (2, .int x2)] [] s4 Q))) ∧
              ((1 : Int32) ≠ 0 →
                pl_Cl n 214 [.ref 1131, .int x1] s1 (ps_rV (fun s5 =>
                  pl_At n 209 92 [(0, .ref 1131), (1, .int x1), (2, .int x2)] [] s5 Q)))))) ∧
        ((ps_i s1 1131 29) = 0 →
          (x2 = 0 →
            pl_Cl n 215 [.ref 1131, .int x1] s1 (ps_rV (fun s6 =>
              pl_At n 209 92 [(0, .ref 1131), (1, .int x1), (2, .int x2)] [] s6 Q))) ∧
          (x2 ≠ 0 →
            pl_Cl n 214 [.ref 1131, .int x1] s1 (ps_rV (fun s7 =>
              pl_At n 209 92 [(0, .ref 1131), (1, .int x1), (2, .int x2)] [] s7 Q))))))))) : pl_At (n + 1) 209 30 [(0, .ref 1131), (1, .int x1), (2, .int x2), (4, .int x4)] [] s Q :=
  pl_wp_at (stops := [(30, [0, 1, 2, 4]), (92, [0, 1, 2])]) (f := 55) h rfl

theorem pl_209_92 {n : Nat} {x1 : Int32} {x2 : Int32} {s : ps_S} {Q : Option Value → ps_S → Prop} (h :
  pl_Cl n 192 [.ref 1131] s (ps_rI (fun v1 s1 =>
    (v1 = 0 →
      pl_At n 209 30 [(0, .ref 1131), (1, .int x1), (2, .int x2), (4, .int 0)] [] s1 Q) ∧
    (v1 ≠ 0 →
      pl_Cl n 212 [.ref 1131, .int x1] s1 (ps_rI (fun v2 s2 =>
        (v2 = 0 →
          pl_At n 209 30 [(0, .ref 1131), (1, .int x1), (2, .int x2), (4, .int 0)] [] s2 Q) ∧
        (v2 ≠ 0 →
          pl_At n 209 30 [(0, .ref 1131), (1, .int x1), (2, .int x2), (4, .int 1)] [] s2 Q))))))) : pl_At (n + 1) 209 92 [(0, .ref 1131), (1, .int x1), (2, .int x2)] [] s Q :=
  pl_wp_at (stops := [(30, [0, 1, 2, 4]), (92, [0, 1, 2])]) (f := 19) h rfl

theorem fm_215_49b {n to : Nat} {s0 s : ps_S} {T : Nat → Nat} {N : Nat} {E : tx_E} {c0 : tx_C} {S' : List tx_F} {pl : Nat} {l' : List Nat} {fr' : List (List Nat)} {kd : Nat} {x1 : Int32} {R : ps_S → Prop} (hs : tx_st T N E c0 = (4, S', pl, l', fr', kd)) (hb : mv_bad to s0 s kd pl) (k : ∀ s', mv_res to s0 s' T N E c0 → R s') : pl_At n 215 49 [(0, .ref 1131), (1, .int x1)] [] s (ps_rV R) := by
  cases n with
  | zero => exact pl_At_0
  | succ n =>
  refine pl_215_49 ?_
  refine fm_192 (fun z => ?_) (fun z => ?_)
  · exfalso
    have := hb.1
    have := hb.2.1
    omega
  · exact ⟨fun h => absurd rfl h, fun _ => k _ (Or.inr ⟨S', pl, l', fr', kd, hs, hb⟩)⟩
theorem fm_215_45 {n : Nat} {rb to : Nat} {s : ps_S} {T : Nat → Nat} {N : Nat} {E : tx_E} {S : List tx_F} {p : Nat} {l : List Nat} {fr : List (List Nat)} {x1 : Int32} {R : ps_S → Prop} (HC : mv_C to s T N S p l fr) (hh : ¬ ((tx_tok T N p).1 = 2 ∧ tx_at (tx_R E) (tx_tok T N p).2.2.2.1 = none ∧ S.length ≤ 12 ∧ l.length + tx_due S + 1 ≤ 40)) (k : ∀ s', mv_res to s s' T N E (0, S, p, l, fr, 0) → R s') : pl_At n 215 45 [(0, .ref 1131), (1, .int x1)] [] s (ps_rV R) := by
  cases n with
  | zero => exact pl_At_0
  | succ n =>
  refine pl_215_45 ?_
  refine fm_196 HC.2.2.2.2.2.2.2.2.1 HC.2.2.1 (fun s1 q1 => ?_)
  exact fm_215_49b (tx_s_tb rfl hh) (mv_bad_mis q1.1 q1.2.1 q1.2.2) k
theorem fm_215_19 {n : Nat} {rb to : Nat} {s : ps_S} {T : Nat → Nat} {N : Nat} {E : tx_E} {S : List tx_F} {p : Nat} {l : List Nat} {fr : List (List Nat)} {x1 : Int32} {R : ps_S → Prop} (HC : mv_C to s T N S p l fr) (hh : ¬ ((tx_tok T N p).1 = 2 ∧ tx_at (tx_R E) (tx_tok T N p).2.2.2.1 = none ∧ S.length ≤ 12 ∧ l.length + tx_due S + 1 ≤ 40)) (k : ∀ s', mv_res to s s' T N E (0, S, p, l, fr, 0) → R s') : pl_At n 215 19 [(0, .ref 1131), (1, .int x1)] [] s (ps_rV R) := by
  cases n with
  | zero => exact pl_At_0
  | succ n =>
  refine pl_215_19 ?_
  refine ⟨fun h22 => ?_, fun h22 => ?_⟩
  · exact fm_215_45 (rb := rb) HC hh k
  · exact absurd h22 (by decide)
theorem mv_D_push0 {to : Nat} {s s' : ps_S} {T : Nat → Nat} {N : Nat} {S : List tx_F} {p : Nat} {l : List Nat} {fr : List (List Nat)} {m q : Nat} {b : Bool} (D : mv_D to s T N S p l fr m) (hS : S.length ≤ 12) (hB : mv_B s' ((q, b, false, none) :: S)) (K : kq [1144, 1145, 1146, 1147] [29] s s') (hm : m = l.length + tx_due S) (h40 : m ≤ 40) : mv_C to s' T N ((q, b, false, none) :: S) p l fr := by
  obtain ⟨d1, d2, d3, d4, d5, d6, d7, d8⟩ := D
  refine ⟨d1, ⟨by rw [List.length_cons]; omega, by show l.length + (0 + tx_due S) ≤ 40; omega⟩, mv_K_kq d2 K (by decide), hB, by rw [kq_i K 30 (by decide)]; exact d4, ?_, mv_W_kq d6 K (by decide), mv_P_kq d7 K (by decide) (by decide), mv_G_kq d8 K (by decide) (by decide)⟩
  rw [kq_i K 31 (by decide), d5, hm]
  show ((l.length + tx_due S : Nat) : Int) = ((l.length + (0 + tx_due S) : Nat) : Int)
  omega
/-- a function's parts -/
theorem mv_arf {s : ps_S} {rb : Nat} {E : tx_E} (h : mv_E s rb E.1) {w : List Nat} {g : Nat} (hg : tx_at (tx_G E) w = some g) : g < 4 ∧ (ps_a s 1139 (4 * rb + g)).toInt = (tx_fa E g : Nat) := by
  obtain ⟨e1, e2, e3, e4, e5, e6⟩ := h
  obtain ⟨-, z2, z3, -⟩ := tx_ix_some hg
  rw [Nat.sub_zero] at z3
  unfold tx_G at z2 z3
  rw [List.length_map] at z2
  rw [List.getElem?_map] at z3
  obtain ⟨a, h1, h2⟩ := Option.map_eq_some_iff.mp z3
  obtain ⟨-, -, -, w4⟩ := e6 g a.1 a.2 h1
  refine ⟨by omega, ?_⟩
  rw [w4]
  unfold tx_fa
  rw [List.getD_eq_getElem?_getD, h1]
  rfl
theorem mv_N_some {to : Nat} {s s' : ps_S} {T : Nat → Nat} {N : Nat} {S : List tx_F} {p : Nat} {l : List Nat} {kd pl : Nat} {o : Option (Nat × List (List Nat))} {v : Int32} (h : mv_N to s T N S p l kd pl o v s') (hg : (ps_i s' 1131 5).toInt = 0) : ∃ c fr2, o = some (c, fr2) ∧ v.toInt = (c : Nat) ∧ mv_C to s' T N S p l fr2 ∧ mv_fr to s s' := by
  unfold mv_N at h
  split at h
  · next c fr2 => exact ⟨c, fr2, rfl, h⟩
  · exfalso
    have := h.1
    have := h.2.1
    omega
theorem mv_N_none {to : Nat} {s s' : ps_S} {T : Nat → Nat} {N : Nat} {S : List tx_F} {p : Nat} {l : List Nat} {kd pl : Nat} {o : Option (Nat × List (List Nat))} {v : Int32} (h : mv_N to s T N S p l kd pl o v s') (hg : (ps_i s' 1131 5).toInt ≠ 0) : o = none ∧ mv_bad to s s' kd pl := by
  unfold mv_N at h
  split at h
  · exact absurd h.2.1.2.2.2.2.2.2.2.2.1 hg
  · exact ⟨rfl, h⟩

theorem fm_215_49 {n : Nat} {rb to : Nat} {s : ps_S} {T : Nat → Nat} {N : Nat} {E : tx_E} {S : List tx_F} {p : Nat} {l : List Nat} {fr : List (List Nat)} {x1 : Int32} {R : ps_S → Prop} (HS : mv_S rb s T N E) (HC : mv_C to s T N S p l fr) (hx1 : x1.toInt = to) (hh : (tx_tok T N p).1 = 2 ∧ tx_at (tx_R E) (tx_tok T N p).2.2.2.1 = none ∧ S.length ≤ 12 ∧ l.length + tx_due S + 1 ≤ 40) (k : ∀ s', mv_res to s s' T N E (0, S, p, l, fr, 0) → R s') : pl_At n 215 49 [(0, .ref 1131), (1, .int x1)] [] s (ps_rV R) := by
  cases n with
  | zero => exact pl_At_0
  | succ n =>
  have hG := HC.2.2.2.2.2.2.2.2
  have hK := HC.2.2.1
  have hp := HC.1
  refine pl_215_49 ?_
  refine fm_192 (fun q50 => ?_) (fun q50 => ?_)
  · refine ⟨fun h53 => ?_, fun h53 => ?_⟩
    · refine fm_207 HS.1 HS.2.1 HS.2.2.2.2 hp hK (fun v58 q58 => ?_)
      rw [if_pos hh.1] at q58
      have q58n : v58.toInt < 0 → tx_at (tx_G E) (tx_tok T N p).2.2.2.1 = none := (tx_opt_n q58).mp
      have q58s : 0 ≤ v58.toInt → ∃ g, tx_at (tx_G E) (tx_tok T N p).2.2.2.1 = some g ∧ v58.toInt = (g : Nat) := fun z => by
        cases e : tx_at (tx_G E) (tx_tok T N p).2.2.2.1 with
        | none => have := (tx_opt_n q58).mpr e; omega
        | some g => exact ⟨g, rfl, q58.1 g e⟩
      refine ⟨fun h63 => ?_, fun h63 => ?_⟩
      · have h63 : (0 : Int) ≤ v58.toInt := xle h63
        refine fm_192 (fun q77 => ?_) (fun q77 => ?_)
        · refine ⟨fun h80 => ?_, fun h80 => ?_⟩
          · refine ⟨fun h97 => ?_, fun h97 => ?_⟩
            · have h97 : (0 : Int) ≤ v58.toInt := xle h97
              obtain ⟨g, hg, hvg⟩ := q58s (by omega)
              obtain ⟨hg4, -⟩ := mv_arf HS.2.2.2.2 hg
              have e20 : ((20 : Int32) + v58).toInt = (20 + g : Nat) := by
                have h20 : (20 : Int32).toInt = 20 := by decide
                rw [xIa (by omega) (by omega)]
                omega
              refine mv_eg (q := 1) HS HC hx1 e20 (by decide) (by decide) (by omega) (fun s113 q113 => ?_)
              obtain ⟨HS1, D, F⟩ := q113
              refine ⟨fun h118 => ?_, fun h118 => ?_⟩
              · have h118 : (0 : Int) ≤ v58.toInt := xle h118
                intro b137
                obtain ⟨b137, c137⟩ := pl_in b137
                have e4 : (((4 : Int32) * (ps_i s113 1131 22)) + v58).toInt = (4 * rb + g : Nat) := by
                  have c4 : (4 : Int32).toInt = 4 := by decide
                  have hrb := HS1.1
                  have m4 : ((4 : Int32) * (ps_i s113 1131 22)).toInt = 4 * rb := by rw [xm01 HS1.2.1 hrb, c4]
                  rw [xIa (by omega) (by omega)]
                  omega
                refine fm_211 (m := tx_fa E g) (b := false) (by rw [xtn e4]; exact (mv_arf HS1.2.2.2.2 hg).2) rfl D.2.2.1 (by omega) (fun s139 q139 => ?_)
                exact k _ (Or.inl ⟨_, _, _, _, tx_s_fun rfl hh hg, mv_D_push0 D hh.2.2.1 q139.1 q139.2 (by rw [List.length_append]; show l.length + tx_due S + 1 = l.length + 1 + tx_due S; omega) (by omega), mv_fr_tr F (mv_fr_kq q139.2 (by decide) (by decide))⟩)
              · have h118 : v58.toInt < (0 : Int) := xlt h118
                exfalso; omega
            · have h97 : v58.toInt < (0 : Int) := xlt h97
              exfalso; omega
          · exact absurd h80 (by decide)
        · refine ⟨fun h80 => ?_, fun h80 => ?_⟩
          · exact absurd h80 (by decide)
          · exact absurd hG.1 q77
      · have h63 : v58.toInt < (0 : Int) := xlt h63
        refine fm_216 HS HC hh.1 (fun v67 s67 q67 => ?_)
        refine fm_192 (fun q77 => ?_) (fun q77 => ?_)
        · refine ⟨fun h80 => ?_, fun h80 => ?_⟩
          · refine ⟨fun h97 => ?_, fun h97 => ?_⟩
            · have h97 : (0 : Int) ≤ v58.toInt := xle h97
              exfalso; omega
            · have h97 : v58.toInt < (0 : Int) := xlt h97
              obtain ⟨c, fr2, hm, hv67, HC67, F67⟩ := mv_N_some q67 q77
              refine mv_eg (q := 1) (mv_S_fr HS F67) HC67 hx1 hv67 (by decide) (by decide) (by omega) (fun s113 q113 => ?_)
              obtain ⟨HS1, D, F⟩ := q113
              refine ⟨fun h118 => ?_, fun h118 => ?_⟩
              · have h118 : (0 : Int) ≤ v58.toInt := xle h118
                intro b137
                obtain ⟨b137, c137⟩ := pl_in b137
                exfalso; omega
              · have h118 : v58.toInt < (0 : Int) := xlt h118
                refine fm_211 (m := 0) (b := false) rfl rfl D.2.2.1 (by omega) (fun s139 q139 => ?_)
                exact k _ (Or.inl ⟨_, _, _, _, tx_s_name rfl hh (q58n (by omega)) hm, mv_D_push0 D hh.2.2.1 q139.1 q139.2 (by rw [List.length_append]; show l.length + tx_due S + 1 = l.length + 1 + tx_due S; omega) (by omega), mv_fr_tr (mv_fr_tr F67 F) (mv_fr_kq q139.2 (by decide) (by decide))⟩)
          · exact absurd h80 (by decide)
        · refine ⟨fun h80 => ?_, fun h80 => ?_⟩
          · exact absurd h80 (by decide)
          · obtain ⟨hm, hb⟩ := mv_N_none q67 q77
            exact k _ (Or.inr ⟨_, _, _, _, _, tx_s_nameb rfl hh (q58n (by omega)) hm, hb⟩)
    · exact absurd h53 (by decide)
  · refine ⟨fun h53 => ?_, fun h53 => ?_⟩
    · exact absurd h53 (by decide)
    · exact absurd hG.1 q50
theorem fm_215 {n : Nat} {rb to : Nat} {s : ps_S} {T : Nat → Nat} {N : Nat} {E : tx_E} {S : List tx_F} {p : Nat} {l : List Nat} {fr : List (List Nat)} {x1 : Int32} {R : ps_S → Prop} (HS : mv_S rb s T N E) (HC : mv_C to s T N S p l fr) (hx1 : x1.toInt = to) (k : ∀ s', mv_res to s s' T N E (0, S, p, l, fr, 0) → R s') : pl_Cl n 215 [.ref 1131, .int x1] s (ps_rV R) := by
  cases n with
  | zero => exact pl_At_0
  | succ n =>
  have hK := HC.2.2.1
  have hp := HC.1
  have c31 := HC.2.2.2.2.2.1
  have c29 := HC.2.2.2.1.1
  have c30 := HC.2.2.2.2.1
  have h13 := HC.2.1.1
  have h40 := HC.2.1.2
  have h1 : (1 : Int32).toInt = 1 := by decide
  have h2 : (2 : Int32).toInt = 2 := by decide
  have e1 : ((ps_i s 1131 31) + 1).toInt = (l.length + tx_due S : Nat) + 1 := by rw [xIa (by omega) (by omega)]; omega
  have e2 : ((ps_i s 1131 31) + 2).toInt = (l.length + tx_due S : Nat) + 2 := by rw [xIa (by omega) (by omega)]; omega
  have a1 : ((ps_i s 1131 29) + 1).toInt = (S.length : Int) + 1 := by rw [xIa (by omega) (by omega)]; omega
  have a2 : ((ps_i s 1131 29) + 2).toInt = (S.length : Int) + 2 := by rw [xIa (by omega) (by omega)]; omega
  have b1 : (((ps_i s 1131 29) + 1) - 1).toInt = (S.length : Int) := by rw [xIs (by omega) (by omega)]; omega
  have b2 : (((ps_i s 1131 29) + 2) - 1).toInt = (S.length : Int) + 1 := by rw [xIs (by omega) (by omega)]; omega
  have h9 := hK.1
  show pl_At (n + 1) 215 0 [(0, .ref 1131), (1, .int x1)] [] s (ps_rV R)
  refine pl_215_0 ?_
  refine ⟨fun h5 => ?_, fun h5 => ?_⟩
  · have h5 : (ps_i s 1131 9).toInt ≠ (2 : Int) := xne h5
    exact fm_215_19 (rb := rb) HC (fun z => by omega) k
  · have h5 : (ps_i s 1131 9).toInt = (2 : Int) := xeq h5
    refine fm_206 HS.1 HS.2.1 HS.2.2.2.2 hp hK (fun v9 q9 => ?_)
    refine ⟨fun h12 => ?_, fun h12 => ?_⟩
    · have h12 : (0 : Int) ≤ v9.toInt := xle h12
      exact fm_215_19 (rb := rb) HC (fun z => by
        have e := (tx_opt_n q9).mpr (by rw [if_pos z.1]; exact z.2.1)
        omega) k
    · have h12 : v9.toInt < (0 : Int) := xlt h12
      refine ⟨fun h22 => ?_, fun h22 => ?_⟩
      · exact absurd h22 (by decide)
      · refine ⟨fun h33 => ?_, fun h33 => ?_⟩
        · have h33 : (40 : Int) < ((ps_i s 1131 31) + 1).toInt := xlt h33
          exact fm_215_45 (rb := rb) HC (fun z => by omega) k
        · have h33 : ((ps_i s 1131 31) + 1).toInt ≤ (40 : Int) := xle h33
          refine ⟨fun h42 => ?_, fun h42 => ?_⟩
          · have h42 : (ps_i s 1131 29).toInt ≤ (12 : Int) := xle h42
            have h2 : (tx_tok T N p).1 = 2 := by omega
            have e := (tx_opt_n q9).mp (by omega)
            rw [if_pos h2] at e
            exact fm_215_49 HS HC hx1 ⟨h2, e, by omega, by omega⟩ k
          · have h42 : (12 : Int) < (ps_i s 1131 29).toInt := xlt h42
            exact fm_215_45 (rb := rb) HC (fun z => by omega) k
end
section
set_option maxRecDepth 100000
/-! the reference's reader: readRow -/
/-- what reading a row comes to -/
def mw_ok (to rb ph : Nat) (s s' : ps_S) (T : Nat → Nat) (N : Nat) (E : tx_E) (p : Nat) (fr : List (List Nat)) : Prop := ∃ p' l' fr', gt_go (tx_st T N E) (ph, [], p, [], fr, 0) (2, [], p', l', fr', 0) ∧ mv_S rb s' T N E ∧ mv_C to s' T N [] p' l' fr' ∧ mv_fr to s s'
def mw_bad (to ph : Nat) (s s' : ps_S) (T : Nat → Nat) (N : Nat) (E : tx_E) (p : Nat) (fr : List (List Nat)) : Prop := ∃ (S' : List tx_F) (pl : Nat) (l' : List Nat) (fr' : List (List Nat)) (k : Nat), gt_go (tx_st T N E) (ph, [], p, [], fr, 0) (4, S', pl, l', fr', k) ∧ mv_bad to s s' k pl
/-- the loop's aim -/
def mw_R (to rb ph : Nat) (s0 : ps_S) (T : Nat → Nat) (N : Nat) (E : tx_E) (p0 : Nat) (fr0 : List (List Nat)) (R : ps_S → Prop) : Prop := (∀ s', mw_ok to rb ph s0 s' T N E p0 fr0 → R s') ∧ ∀ s', mw_bad to ph s0 s' T N E p0 fr0 → R s'
section MW
variable {to rb ph0 : Nat} {s0 : ps_S} {T : Nat → Nat} {N : Nat} {E : tx_E} {p0 : Nat} {fr0 : List (List Nat)} {R : ps_S → Prop} {x1 x2 x4 : Int32}
theorem fm_209_30b {n : Nat} {s : ps_S} {S' : List tx_F} {pl : Nat} {l' : List Nat} {fr' : List (List Nat)} {kd : Nat} (k : mw_R to rb ph0 s0 T N E p0 fr0 R) (hg : gt_go (tx_st T N E) (ph0, [], p0, [], fr0, 0) (4, S', pl, l', fr', kd)) (hb : mv_bad to s0 s kd pl) : pl_At n 209 30 [(0, .ref 1131), (1, .int x1), (2, .int x2), (4, .int x4)] [] s (ps_rV R) := by
  cases n with
  | zero => exact pl_At_0
  | succ n =>
  refine pl_209_30 ?_
  refine fm_192 (fun z => ?_) (fun z => ?_)
  · exfalso
    have := hb.1
    have := hb.2.1
    omega
  · exact ⟨fun _ => k.2 _ ⟨S', pl, l', fr', kd, hg, hb⟩, fun h => absurd rfl h⟩
theorem fm_209_30e {n : Nat} {s : ps_S} {p : Nat} {l : List Nat} {fr : List (List Nat)} (k : mw_R to rb ph0 s0 T N E p0 fr0 R) (HS : mv_S rb s T N E) (HC : mv_C to s T N [] p l fr) (F : mv_fr to s0 s) (hg : gt_go (tx_st T N E) (ph0, [], p0, [], fr0, 0) (2, [], p, l, fr, 0)) : pl_At n 209 30 [(0, .ref 1131), (1, .int x1), (2, .int x2), (4, .int 0)] [] s (ps_rV R) := by
  cases n with
  | zero => exact pl_At_0
  | succ n =>
  refine pl_209_30 ?_
  refine fm_192 (fun z => ?_) (fun z => ?_)
  · exact ⟨fun h => absurd h (by decide), fun _ => ⟨fun _ => k.1 _ ⟨p, l, fr, hg, HS, HC, F⟩, fun h => absurd rfl h⟩⟩
  · exact absurd HC.2.2.2.2.2.2.2.2.1 z
/-- the loop -/
def mw_l (to rb ph0 : Nat) (s0 : ps_S) (T : Nat → Nat) (N : Nat) (E : tx_E) (p0 : Nat) (fr0 : List (List Nat)) (R : ps_S → Prop) (x1 x2 : Int32) (n : Nat) : Prop := ∀ (s : ps_S) (ph : Nat) (S : List tx_F) (p : Nat) (l : List Nat) (fr : List (List Nat)), mv_S rb s T N E → mv_C to s T N S p l fr → mv_fr to s0 s → gt_go (tx_st T N E) (ph0, [], p0, [], fr0, 0) (ph, S, p, l, fr, 0) → ((S = [] ∧ ph = (if x2.toInt = 0 then 0 else 1)) ∨ ∃ k b nt w S', S = (k, b, nt, w) :: S' ∧ ph = (if b = true then 1 else 0)) → pl_At n 209 30 [(0, .ref 1131), (1, .int x1), (2, .int x2), (4, .int 1)] [] s (ps_rV R)
theorem fm_209_92 {n : Nat} {s s1 : ps_S} {ph : Nat} {S : List tx_F} {p : Nat} {l : List Nat} {fr : List (List Nat)} (IH : mw_l to rb ph0 s0 T N E p0 fr0 R x1 x2 n) (hx1 : x1.toInt = to) (k : mw_R to rb ph0 s0 T N E p0 fr0 R) (HS : mv_S rb s T N E) (F : mv_fr to s0 s) (hg : gt_go (tx_st T N E) (ph0, [], p0, [], fr0, 0) (ph, S, p, l, fr, 0)) (h : mv_res to s s1 T N E (ph, S, p, l, fr, 0)) : pl_At (n + 1) 209 92 [(0, .ref 1131), (1, .int x1), (2, .int x2)] [] s1 (ps_rV R) := by
  refine pl_209_92 ?_
  rcases h with ⟨S', p', l', fr', h1, h2, h3⟩ | ⟨S', pl, l', fr', kd, h1, h2⟩
  · refine fm_192 (fun z => ?_) (fun z => absurd h2.2.2.2.2.2.2.2.2.1 z)
    refine ⟨fun h => absurd h (by decide), fun _ => ?_⟩
    have hg2 := gt_trans hg (gt_one h1)
    refine fm_212 (E := E) hx1 (fun v s2 q => ?_) n s1 S' l' h2 mv_fr_refl gt_refl
    rcases q with ⟨rfl, l2, g1, g2, g3⟩ | ⟨rfl, k2, b2, nt2, w2, S2, l2, g1, g2, g3⟩
    · refine ⟨fun _ => ?_, fun h => absurd rfl h⟩
      exact fm_209_30e k (mv_S_fr (mv_S_fr HS h3) g3) g2 (mv_fr_tr F (mv_fr_tr h3 g3)) (gt_trans hg2 g1)
    · refine ⟨fun h => absurd h (by decide), fun _ => ?_⟩
      exact IH _ _ _ _ _ _ (mv_S_fr (mv_S_fr HS h3) g3) g2 (mv_fr_tr F (mv_fr_tr h3 g3)) (gt_trans hg2 g1) (Or.inr ⟨k2, b2, nt2, w2, S2, rfl, rfl⟩)
  · refine fm_192 (fun z => ?_) (fun z => ?_)
    · exfalso
      have := h2.1
      have := h2.2.1
      omega
    · refine ⟨fun _ => ?_, fun h => absurd rfl h⟩
      exact fm_209_30b k (gt_trans hg (gt_one h1)) (mv_bad_tr F h2)
theorem fm_209_30 (hx1 : x1.toInt = to) (k : mw_R to rb ph0 s0 T N E p0 fr0 R) : ∀ n, mw_l to rb ph0 s0 T N E p0 fr0 R x1 x2 n := by
  refine xstr (fun n IH => ?_)
  intro s ph S p l fr HS HC F hg hph
  cases n with
  | zero => exact pl_At_0
  | succ n =>
  have b1 := HC.2.2.2.1.1
  have h13 := HC.2.1.1
  have nxt : ∀ s1, mv_res to s s1 T N E (ph, S, p, l, fr, 0) → pl_At n 209 92 [(0, .ref 1131), (1, .int x1), (2, .int x2)] [] s1 (ps_rV R) := fun s1 h => by
    cases n with
    | zero => exact pl_At_0
    | succ n => exact fm_209_92 (IH n (by omega)) hx1 k HS F hg h
  have top : (0 < (ps_i s 1131 29).toInt) → ∃ k b nt w S', S = (k, b, nt, w) :: S' ∧ ph = (if b = true then 1 else 0) ∧ (ps_a s 1145 (Int32.toNatClampNeg (ps_i s 1131 29 - 1))).toInt = (if b = true then 0 else 1) := fun z => by
    rcases hph with ⟨e, -⟩ | ⟨k, b, nt, w, S', e, e2⟩
    · rw [e] at b1
      exact absurd b1 (by show ¬ _ = ((0 : Nat) : Int); omega)
    · refine ⟨k, b, nt, w, S', e, e2, ?_⟩
      have g := HC.2.2.2.1.2 0 (k, b, nt, w) (by rw [e]; rfl)
      have ei : (ps_i s 1131 29 - 1).toInt = (S.length - 1 - 0 : Nat) := by
        have h1 : (1 : Int32).toInt = 1 := by decide
        rw [xIs (by omega) (by omega)]
        omega
      rw [xtn ei]
      exact g.2.1
  refine pl_209_30 ?_
  refine fm_192 (fun q31 => ?_) (fun q31 => ?_)
  · refine ⟨fun h34 => ?_, fun h34 => ?_⟩
    · exact absurd h34 (by decide)
    · refine ⟨fun h39 => ?_, fun h39 => ?_⟩
      · have h39 : (1 : Int32).toInt = (0 : Int) := xeq h39
        exact absurd h39 (by decide)
      · have h39 : (1 : Int32).toInt ≠ (0 : Int) := xne h39
        refine ⟨fun h46 => ?_, fun h46 => ?_⟩
        · have h46 : (ps_i s 1131 29).toInt ≠ (0 : Int) := xne h46
          intro b63
          obtain ⟨b63, c63⟩ := pl_in b63
          refine ⟨fun h64 => ?_, fun h64 => ?_⟩
          · have h64 : (ps_a s 1145 (Int32.toNatClampNeg ((ps_i s 1131 29) - 1))).toInt ≠ (0 : Int) := xne h64
            refine ⟨fun h76 => ?_, fun h76 => ?_⟩
            · obtain ⟨k1, b, nt, w, S', e, e2, e3⟩ := top (by omega)
              have hb : b = false := by
                cases b with
                | false => rfl
                | true => rw [if_pos rfl] at e3; omega
              subst hb
              have e2 : ph = 0 := e2
              subst e2
              refine fm_215 HS HC hx1 (fun s89 q89 => ?_)
              exact nxt _ q89
            · exact absurd h76 (by decide)
          · have h64 : (ps_a s 1145 (Int32.toNatClampNeg ((ps_i s 1131 29) - 1))).toInt = (0 : Int) := xeq h64
            refine ⟨fun h76 => ?_, fun h76 => ?_⟩
            · exact absurd h76 (by decide)
            · obtain ⟨k1, b, nt, w, S', e, e2, e3⟩ := top (by omega)
              have hb : b = true := by
                cases b with
                | true => rfl
                | false => rw [if_neg (by decide)] at e3; omega
              subst hb
              have e2 : ph = 1 := e2
              subst e2
              refine fm_214 HS HC hx1 (fun s81 q81 => ?_)
              exact nxt _ q81
        · have h46 : (ps_i s 1131 29).toInt = (0 : Int) := xeq h46
          refine ⟨fun h76 => ?_, fun h76 => ?_⟩
          · have h76 : x2.toInt = (0 : Int) := xeq h76
            have hp0 : ph = 0 := by
              rcases hph with ⟨-, e⟩ | ⟨k, b, nt, w, S', e, e2⟩
              · rw [e, if_pos (by omega)]
              · rw [e, List.length_cons] at b1
                omega
            subst hp0
            refine fm_215 HS HC hx1 (fun s89 q89 => ?_)
            exact nxt _ q89
          · have h76 : x2.toInt ≠ (0 : Int) := xne h76
            have hp1 : ph = 1 := by
              rcases hph with ⟨-, e⟩ | ⟨k, b, nt, w, S', e, e2⟩
              · rw [e, if_neg (by omega)]
              · rw [e, List.length_cons] at b1
                omega
            subst hp1
            refine fm_214 HS HC hx1 (fun s81 q81 => ?_)
            exact nxt _ q81
  · refine ⟨fun h34 => ?_, fun h34 => ?_⟩
    · exact absurd HC.2.2.2.2.2.2.2.2.1 q31
    · exact absurd h34 (by decide)
end MW

def mF2 : List Nat := 32 :: mF
/-- all that reading a row may change -/
def mv_fr2 (to : Nat) (s s' : ps_S) : Prop := kq mA mF2 s s' ∧ mv_po to s s'
theorem mv_fr2_of {to : Nat} {s s' : ps_S} (h : mv_fr to s s') : mv_fr2 to s s' := ⟨kqt kq_refl h.1 (by decide) (by decide), h.2⟩
theorem mv_fr2_tr {to : Nat} {s s1 s2 : ps_S} (h : mv_fr2 to s s1) (g : mv_fr2 to s1 s2) : mv_fr2 to s s2 := ⟨kqt h.1 g.1 (by decide) (by decide), fun i hi => (g.2 i hi).trans (h.2 i hi)⟩
def mx_ok (to rb ph : Nat) (s s' : ps_S) (T : Nat → Nat) (N : Nat) (E : tx_E) (p : Nat) (fr : List (List Nat)) : Prop := ∃ p' l' fr', gt_go (tx_st T N E) (ph, [], p, [], fr, 0) (2, [], p', l', fr', 0) ∧ mv_S rb s' T N E ∧ mv_C to s' T N [] p' l' fr' ∧ mv_fr2 to s s'
def mx_bad (to ph : Nat) (s s' : ps_S) (T : Nat → Nat) (N : Nat) (E : tx_E) (p : Nat) (fr : List (List Nat)) : Prop := ∃ (S' : List tx_F) (pl : Nat) (l' : List Nat) (fr' : List (List Nat)) (k : Nat), gt_go (tx_st T N E) (ph, [], p, [], fr, 0) (4, S', pl, l', fr', k) ∧ k ≠ 0 ∧ (ps_i s' 1131 5).toInt = k ∧ (ps_i s' 1131 6).toInt = pl ∧ mv_fr2 to s s'
theorem fm_209 {n to rb ph : Nat} {s : ps_S} {T : Nat → Nat} {N : Nat} {E : tx_E} {p : Nat} {fr : List (List Nat)} {x1 x2 x3 : Int32} {R : ps_S → Prop} (hx1 : x1.toInt = to) (hph : (x2.toInt = 0 ∧ ph = 0) ∨ (x2.toInt ≠ 0 ∧ ph = 1)) (hx3 : x3.toInt = (if E.2 = true then 1 else 0)) (hrb : rb < 2) (h22 : (ps_i s 1131 22).toInt = rb) (hT : mv_T s T N) (hE : mv_E s rb E.1) (hp : p ≤ N) (hK : mv_K s (tx_tok T N p)) (hP : mv_P s fr) (hG : mv_G s) (k1 : ∀ s', mx_ok to rb ph s s' T N E p fr → R s') (k0 : ∀ s', mx_bad to ph s s' T N E p fr → R s') : pl_Cl n 209 [.ref 1131, .int x1, .int x2, .int x3] s (ps_rV R) := by
  cases n with
  | zero => exact pl_At_0
  | succ n =>
  show pl_At (n + 1) 209 0 [(0, .ref 1131), (1, .int x1), (2, .int x2), (3, .int x3)] [] s (ps_rV R)
  refine pl_209_0 ?_
  intro b6
  obtain ⟨b6, c6⟩ := pl_in b6
  refine pl_nk_i (fun z24 => ?_)
  rw [xtn hx1]
  have K : kq [1134] [29, 30, 31, 32] s (ps_ui (ps_ui (ps_ui (ps_ui (ps_ua s 1134 to 0) 1131 29 0) 1131 30 0) 1131 31 0) 1131 32 x3) := kqi (kqi (kqi (kqi (kqa kq_refl rfl) rfl) rfl) rfl) rfl
  have F : mv_fr2 to s (ps_ui (ps_ui (ps_ui (ps_ui (ps_ua s 1134 to 0) 1131 29 0) 1131 30 0) 1131 31 0) 1131 32 x3) := ⟨kqt kq_refl K (by decide) (by decide), fun i hi => by show ps_a (ps_ua s 1134 to 0) 1134 i = _; rw [ps_a_ua, if_neg (by omega)]⟩
  have HS : mv_S rb (ps_ui (ps_ui (ps_ui (ps_ui (ps_ua s 1134 to 0) 1131 29 0) 1131 30 0) 1131 31 0) 1131 32 x3) T N E := ⟨hrb, h22, hx3, mv_T_kq hT K (by decide) (by decide), mv_E_kq hE K (by decide)⟩
  have HC : mv_C to (ps_ui (ps_ui (ps_ui (ps_ui (ps_ua s 1134 to 0) 1131 29 0) 1131 30 0) 1131 31 0) 1131 32 x3) T N [] p [] fr := ⟨hp, ⟨Nat.zero_le _, Nat.zero_le _⟩, mv_K_kq hK K (by decide), ⟨rfl, (fun j f hj => by cases hj)⟩, rfl, rfl, ⟨by show (ps_a (ps_ua s 1134 to 0) 1134 to).toInt = _; rw [ps_a_ua, if_pos ⟨rfl, rfl⟩]; rfl, Nat.zero_le _, (fun j f hj => by cases hj)⟩, mv_P_kq hP K (by decide) (by decide), mv_G_kq hG K (by decide) (by decide)⟩
  refine fm_209_30 (rb := rb) (ph0 := ph) (p0 := p) (fr0 := fr) (E := E) hx1 ⟨fun s' h => k1 s' ?_, fun s' h => k0 s' ?_⟩ n _ _ _ _ _ _ HS HC mv_fr_refl gt_refl (Or.inl ⟨rfl, ?_⟩)
  · obtain ⟨p', l', fr', g1, g2, g3, g4⟩ := h
    exact ⟨p', l', fr', g1, g2, g3, mv_fr2_tr F (mv_fr2_of g4)⟩
  · obtain ⟨S', pl, l', fr', kk, g1, g2, g3, g4, g5⟩ := h
    exact ⟨S', pl, l', fr', kk, g1, g2, g3, g4, mv_fr2_tr F (mv_fr2_of g5)⟩
  · split <;> omega
end
section
/-! the reference's theory while its text is read -/
def mTA : List Nat := [1134, 1135, 1136, 1137, 1138, 1139, 1140, 1141, 1142, 1143, 1144, 1145, 1146, 1147, 1148]
/-- reading a theory into the bank rb changes nothing of the other bank -/
def mv_bk (rb : Nat) (s s' : ps_S) : Prop := kq mTA mF2 s s' ∧ (∀ i, i ≠ rb → ps_a s' 1135 i = ps_a s 1135 i ∧ ps_a s' 1136 i = ps_a s 1136 i ∧ ps_a s' 1137 i = ps_a s 1137 i) ∧ (∀ i, (i < 6 * rb ∨ 6 * rb + 6 ≤ i) → ps_a s' 1138 i = ps_a s 1138 i ∧ ps_b s' 1140 i = ps_b s 1140 i) ∧ (∀ i, (i < 4 * rb ∨ 4 * rb + 4 ≤ i) → ps_a s' 1139 i = ps_a s 1139 i ∧ ps_b s' 1141 i = ps_b s 1141 i) ∧ (∀ i, (i < 8 * rb ∨ 8 * rb + 8 ≤ i) → ps_b s' 1142 i = ps_b s 1142 i) ∧ ∀ i, (i < 21812 + 328 * rb ∨ 21812 + 328 * rb + 328 ≤ i) → ps_a s' 1134 i = ps_a s 1134 i
theorem mv_bk_refl {rb : Nat} {s : ps_S} : mv_bk rb s s := ⟨kq_refl, fun _ _ => ⟨rfl, rfl, rfl⟩, fun _ _ => ⟨rfl, rfl⟩, fun _ _ => ⟨rfl, rfl⟩, fun _ _ => rfl, fun _ _ => rfl⟩
theorem mv_bk_tr {rb : Nat} {s s1 s2 : ps_S} (h : mv_bk rb s s1) (g : mv_bk rb s1 s2) : mv_bk rb s s2 := by
  obtain ⟨h1, h2, h3, h4, h5, h6⟩ := h
  obtain ⟨g1, g2, g3, g4, g5, g6⟩ := g
  exact ⟨kqt h1 g1 (by decide) (by decide), fun i hi => ⟨(g2 i hi).1.trans (h2 i hi).1, (g2 i hi).2.1.trans (h2 i hi).2.1, (g2 i hi).2.2.trans (h2 i hi).2.2⟩, fun i hi => ⟨(g3 i hi).1.trans (h3 i hi).1, (g3 i hi).2.trans (h3 i hi).2⟩, fun i hi => ⟨(g4 i hi).1.trans (h4 i hi).1, (g4 i hi).2.trans (h4 i hi).2⟩, fun i hi => (g5 i hi).trans (h5 i hi), fun i hi => (g6 i hi).trans (h6 i hi)⟩
theorem mv_bk_kq {A F : List Nat} {rb : Nat} {s s' : ps_S} (h : kq A F s s') (hA : A.all (fun a => [1143, 1144, 1145, 1146, 1147, 1148].contains a) = true) (hF : F.all (fun a => mF2.contains a) = true) : mv_bk rb s s' := by
  have h2 : kq [1143, 1144, 1145, 1146, 1147, 1148] mF2 s s' := kqt kq_refl h hA hF
  exact ⟨kqt kq_refl h2 (by decide) (by decide), fun i _ => by rw [kq_a h2 1135 (by decide), kq_a h2 1136 (by decide), kq_a h2 1137 (by decide)]; exact ⟨rfl, rfl, rfl⟩, fun i _ => by rw [kq_a h2 1138 (by decide), kq_b h2 1140 (by decide)]; exact ⟨rfl, rfl⟩, fun i _ => by rw [kq_a h2 1139 (by decide), kq_b h2 1141 (by decide)]; exact ⟨rfl, rfl⟩, fun i _ => by rw [kq_b h2 1142 (by decide)], fun i _ => by rw [kq_a h2 1134 (by decide)]⟩
theorem mv_bk_row {rb m : Nat} {s s' : ps_S} (hm : m < 8) (h : mv_fr2 (21812 + 41 * (8 * rb + m)) s s') : mv_bk rb s s' := by
  obtain ⟨h1, h2⟩ := h
  exact ⟨kqt kq_refl h1 (by decide) (by decide), fun i _ => by rw [kq_a h1 1135 (by decide), kq_a h1 1136 (by decide), kq_a h1 1137 (by decide)]; exact ⟨rfl, rfl, rfl⟩, fun i _ => by rw [kq_a h1 1138 (by decide), kq_b h1 1140 (by decide)]; exact ⟨rfl, rfl⟩, fun i _ => by rw [kq_a h1 1139 (by decide), kq_b h1 1141 (by decide)]; exact ⟨rfl, rfl⟩, fun i _ => by rw [kq_b h1 1142 (by decide)], fun i hi => h2 i (by omega)⟩
/-- a write of an int into a table of the bank -/
theorem mv_bk_a {rb q i : Nat} {v : Int32} {s : ps_S} (h : (q = 1135 ∧ i = rb) ∨ (q = 1136 ∧ i = rb) ∨ (q = 1137 ∧ i = rb) ∨ (q = 1138 ∧ 6 * rb ≤ i ∧ i < 6 * rb + 6) ∨ (q = 1139 ∧ 4 * rb ≤ i ∧ i < 4 * rb + 4)) : mv_bk rb s (ps_ua s q i v) := by
  refine ⟨kqa kq_refl (by rcases h with h | h | h | h | h <;> rw [h.1] <;> rfl), fun j hj => ⟨?_, ?_, ?_⟩, fun j hj => ⟨?_, rfl⟩, fun j hj => ⟨?_, rfl⟩, fun j hj => rfl, fun j hj => ?_⟩ <;> rw [ps_a_ua, if_neg (by omega)]
theorem mv_bk_b {rb q i : Nat} {v : Int64} {s : ps_S} (h : (q = 1140 ∧ 6 * rb ≤ i ∧ i < 6 * rb + 6) ∨ (q = 1141 ∧ 4 * rb ≤ i ∧ i < 4 * rb + 4) ∨ (q = 1142 ∧ 8 * rb ≤ i ∧ i < 8 * rb + 8)) : mv_bk rb s (ps_ub s q i v) := by
  refine ⟨kqb kq_refl (by rcases h with h | h | h <;> rw [h.1] <;> rfl), fun j hj => ⟨rfl, rfl, rfl⟩, fun j hj => ⟨rfl, ?_⟩, fun j hj => ⟨rfl, ?_⟩, fun j hj => ?_, fun j hj => rfl⟩ <;> rw [ps_b_ub, if_neg (by omega)]
/-- the bank rb holds this -/
def mv_H (s : ps_S) (rb : Nat) (h : tx_H) : Prop := mv_E s rb h.1 ∧ (ps_a s 1137 rb).toInt = h.2.length ∧ h.2.length ≤ 8 ∧ ∀ (k : Nat) (w l : List Nat), h.2[k]? = some (w, l) → tx_w w ∧ ps_b s 1142 (8 * rb + k) = tx_m w ∧ mv_W s (21812 + 41 * (8 * rb + k)) l
theorem mv_H_kq {A F : List Nat} {s s' : ps_S} {rb : Nat} {h : tx_H} (H : mv_H s rb h) (K : kq A F s s') (hA : [1134, 1135, 1136, 1137, 1138, 1139, 1140, 1141, 1142].all (fun q => !A.contains q) = true) : mv_H s' rb h := by
  rw [List.all_eq_true] at hA
  have f : ∀ q, q ∈ [1134, 1135, 1136, 1137, 1138, 1139, 1140, 1141, 1142] → A.contains q = false := fun q hq => by
    have := hA q hq
    rw [Bool.not_eq_true'] at this
    exact this
  unfold mv_H mv_E mv_W at *
  rw [kq_a K 1134 (f _ (by decide)), kq_a K 1135 (f _ (by decide)), kq_a K 1136 (f _ (by decide)), kq_a K 1137 (f _ (by decide)), kq_a K 1138 (f _ (by decide)), kq_a K 1139 (f _ (by decide)), kq_b K 1140 (f _ (by decide)), kq_b K 1141 (f _ (by decide)), kq_b K 1142 (f _ (by decide))]
  exact H
theorem mv_W_po {s s' : ps_S} {at' to : Nat} {l : List Nat} (h : mv_W s at' l) (P : mv_po to s s') (hl : at' + 40 < to ∨ to + 40 < at') : mv_W s' at' l := by
  obtain ⟨h1, h2, h3⟩ := h
  refine ⟨by rw [P at' (by omega)]; exact h1, h2, fun k c hk => ?_⟩
  have hk2 := (List.getElem?_eq_some_iff.mp hk).1
  rw [P (at' + 1 + k) (by omega)]
  exact h3 k c hk
theorem mv_H_row {s s' : ps_S} {rb m : Nat} {h : tx_H} (H : mv_H s rb h) (hm : h.2.length ≤ m) (F : mv_fr2 (21812 + 41 * (8 * rb + m)) s s') : mv_H s' rb h := by
  obtain ⟨e1, e2, e3, e4⟩ := H
  refine ⟨mv_E_kq e1 F.1 (by decide), by rw [kq_a F.1 1137 (by decide)]; exact e2, e3, fun k w l hk => ?_⟩
  obtain ⟨z1, z2, z3⟩ := e4 k w l hk
  have hl := (List.getElem?_eq_some_iff.mp hk).1
  exact ⟨z1, by rw [kq_b F.1 1142 (by decide)]; exact z2, mv_W_po z3 F.2 (by omega)⟩
/-- at a line of a theory's text -/
def mv_L (s : ps_S) (rb : Nat) (T : Nat → Nat) (N : Nat) (h : tx_H) (p : Nat) : Prop := rb < 2 ∧ (ps_i s 1131 22).toInt = rb ∧ mv_T s T N ∧ mv_H s rb h ∧ p ≤ N ∧ mv_K s (tx_tok T N p) ∧ (ps_i s 1131 23).toInt = 0 ∧ mv_G s
theorem mv_L_adv {s s' : ps_S} {rb : Nat} {T : Nat → Nat} {N : Nat} {h : tx_H} {p q : Nat} (L : mv_L s rb T N h p) (hq : q ≤ N) (A : mv_A T N q s s') : mv_L s' rb T N h q := by
  obtain ⟨l1, l2, l3, l4, l5, l6, l7, l8⟩ := L
  obtain ⟨K, k⟩ := A
  exact ⟨l1, by rw [kq_i K 22 (by decide)]; exact l2, mv_T_kq l3 K (by decide) (by decide), mv_H_kq l4 K (by decide), hq, k, by rw [kq_i K 23 (by decide)]; exact l7, mv_G_kq l8 K (by decide) (by decide)⟩
def mr_ok (rb : Nat) (s s' : ps_S) (T : Nat → Nat) (N : Nat) (d : tx_D4) : Prop := ∃ h' p', d = (0, h', p', 0) ∧ mv_L s' rb T N h' p' ∧ mv_bk rb s s'
def mr_bad (rb : Nat) (s s' : ps_S) (d : tx_D4) : Prop := ∃ (h' : tx_H) (pl k : Nat), d = (4, h', pl, k) ∧ k ≠ 0 ∧ (ps_i s' 1131 5).toInt = k ∧ (ps_i s' 1131 6).toInt = pl ∧ mv_bk rb s s'
/-- a fault stands, whatever else is done -/
def mr_f (rb : Nat) (s s' : ps_S) (k pl : Nat) : Prop := k ≠ 0 ∧ (ps_i s' 1131 5).toInt = k ∧ (ps_i s' 1131 6).toInt = pl ∧ mv_bk rb s s'
theorem mr_f_tr {rb k pl : Nat} {s s1 s2 : ps_S} (h : mr_f rb s s1 k pl) (F : mv_bk rb s1 s2) (h5 : ps_i s2 1131 5 = ps_i s1 1131 5) (h6 : ps_i s2 1131 6 = ps_i s1 1131 6) : mr_f rb s s2 k pl := ⟨h.1, by rw [h5]; exact h.2.1, by rw [h6]; exact h.2.2.1, mv_bk_tr h.2.2.2 F⟩
theorem mr_f_mis {rb : Nat} {s s1 s' : ps_S} {tk : tx_K} (F : mv_bk rb s s1) (h5 : (ps_i s' 1131 5).toInt = (tx_bk tk : Nat)) (h6 : (ps_i s' 1131 6).toInt = tk.2.1) (K : kq [] [5, 6] s1 s') : mr_f rb s s' (tx_bk tk) tk.2.1 := ⟨(by unfold tx_bk; split <;> decide), h5, h6, mv_bk_tr F (mv_bk_kq K (by decide) (by decide))⟩
end
section
set_option maxRecDepth 100000
/-! the reference: tables grow; lines; theories -/
theorem mv_H_rel {s : ps_S} {rb a : Nat} {h : tx_H} {w : List Nat} {l2 : Int64} (H : mv_H s rb h) (hrb : rb < 2) (hlt : h.1.1.length < 6) (hw : tx_w w) (ha : a ≤ 2) (hl : l2 = tx_m w) (hx : (ps_a s 1138 (6 * rb + h.1.1.length)).toInt = a) : mv_H (ps_ua (ps_ub s 1140 (6 * rb + h.1.1.length) l2) 1135 rb (ps_a s 1135 rb + 1)) rb ((h.1.1 ++ [(w, a)], h.1.2), h.2) := by
  obtain ⟨⟨e1, e2, e3, e4, e5, e6⟩, f2, f3, f4⟩ := H
  have n1 : ∀ q i, q ≠ 1135 → ps_a (ps_ua (ps_ub s 1140 (6 * rb + h.1.1.length) l2) 1135 rb (ps_a s 1135 rb + 1)) q i = ps_a s q i := fun q i hq => by rw [ps_a_ua, if_neg (fun z => hq z.1)]; rfl
  have n2 : ∀ q i, q ≠ 1140 → ps_b (ps_ua (ps_ub s 1140 (6 * rb + h.1.1.length) l2) 1135 rb (ps_a s 1135 rb + 1)) q i = ps_b s q i := fun q i hq => by rw [ps_b_ua, ps_b_ub, if_neg (fun z => hq z.1)]
  have n3 : (ps_a (ps_ua (ps_ub s 1140 (6 * rb + h.1.1.length) l2) 1135 rb (ps_a s 1135 rb + 1)) 1135 rb).toInt = (h.1.1.length + 1 : Nat) := by
    rw [ps_a_ua, if_pos ⟨rfl, rfl⟩]
    exact xj1 e1 (by omega)
  refine ⟨⟨?_, ?_, ?_, ?_, fun k w' a' hk => ?_, fun k w' a' hk => ?_⟩, ?_, f3, fun k w' l' hk => ?_⟩
  · rw [n3, List.length_append]
    rfl
  · rw [n1 1136 rb (by decide)]
    exact e2
  · rw [List.length_append]
    show h.1.1.length + 1 ≤ 6
    omega
  · exact e4
  · rcases tx_snoc hk with ⟨z1, z2⟩ | ⟨z1, z2⟩
    · obtain ⟨y1, y2, y3, y4⟩ := e5 k w' a' z2
      refine ⟨y1, y2, ?_, by rw [n1 1138 _ (by decide)]; exact y4⟩
      rw [ps_b_ua, ps_b_ub, if_neg (by omega)]
      exact y3
    · cases z2
      refine ⟨hw, ha, ?_, by rw [n1 1138 _ (by decide), z1]; exact hx⟩
      rw [ps_b_ua, ps_b_ub, if_pos ⟨rfl, by rw [z1]⟩]
      exact hl
  · obtain ⟨y1, y2, y3, y4⟩ := e6 k w' a' hk
    exact ⟨y1, y2, by rw [n2 1141 _ (by decide)]; exact y3, by rw [n1 1139 _ (by decide)]; exact y4⟩
  · rw [n1 1137 rb (by decide)]
    exact f2
  · obtain ⟨y1, y2, y3⟩ := f4 k w' l' hk
    refine ⟨y1, by rw [n2 1142 _ (by decide)]; exact y2, ?_⟩
    have e : ps_a (ps_ua (ps_ub s 1140 (6 * rb + h.1.1.length) l2) 1135 rb (ps_a s 1135 rb + 1)) 1134 = ps_a s 1134 := funext (fun i => n1 1134 i (by decide))
    unfold mv_W at *
    rw [e]
    exact y3

theorem mv_H_fun {s : ps_S} {rb a : Nat} {h : tx_H} {w : List Nat} {l2 : Int64} (H : mv_H s rb h) (hrb : rb < 2) (hlt : h.1.2.length < 4) (hw : tx_w w) (ha : a ≤ 2) (hl : l2 = tx_m w) (hx : (ps_a s 1139 (4 * rb + h.1.2.length)).toInt = a) : mv_H (ps_ua (ps_ub s 1141 (4 * rb + h.1.2.length) l2) 1136 rb (ps_a s 1136 rb + 1)) rb ((h.1.1, h.1.2 ++ [(w, a)]), h.2) := by
  obtain ⟨⟨e1, e2, e3, e4, e5, e6⟩, f2, f3, f4⟩ := H
  have n1 : ∀ q i, q ≠ 1136 → ps_a (ps_ua (ps_ub s 1141 (4 * rb + h.1.2.length) l2) 1136 rb (ps_a s 1136 rb + 1)) q i = ps_a s q i := fun q i hq => by rw [ps_a_ua, if_neg (fun z => hq z.1)]; rfl
  have n2 : ∀ q i, q ≠ 1141 → ps_b (ps_ua (ps_ub s 1141 (4 * rb + h.1.2.length) l2) 1136 rb (ps_a s 1136 rb + 1)) q i = ps_b s q i := fun q i hq => by rw [ps_b_ua, ps_b_ub, if_neg (fun z => hq z.1)]
  have n3 : (ps_a (ps_ua (ps_ub s 1141 (4 * rb + h.1.2.length) l2) 1136 rb (ps_a s 1136 rb + 1)) 1136 rb).toInt = (h.1.2.length + 1 : Nat) := by
    rw [ps_a_ua, if_pos ⟨rfl, rfl⟩]
    exact xj1 e2 (by omega)
  refine ⟨⟨?_, ?_, ?_, ?_, fun k w' a' hk => ?_, fun k w' a' hk => ?_⟩, ?_, f3, fun k w' l' hk => ?_⟩
  · rw [n1 1135 rb (by decide)]
    exact e1
  · rw [n3, List.length_append]
    rfl
  · exact e3
  · rw [List.length_append]
    show h.1.2.length + 1 ≤ 4
    omega
  · obtain ⟨y1, y2, y3, y4⟩ := e5 k w' a' hk
    exact ⟨y1, y2, by rw [n2 1140 _ (by decide)]; exact y3, by rw [n1 1138 _ (by decide)]; exact y4⟩
  · rcases tx_snoc hk with ⟨z1, z2⟩ | ⟨z1, z2⟩
    · obtain ⟨y1, y2, y3, y4⟩ := e6 k w' a' z2
      refine ⟨y1, y2, ?_, by rw [n1 1139 _ (by decide)]; exact y4⟩
      rw [ps_b_ua, ps_b_ub, if_neg (by omega)]
      exact y3
    · cases z2
      refine ⟨hw, ha, ?_, by rw [n1 1139 _ (by decide), z1]; exact hx⟩
      rw [ps_b_ua, ps_b_ub, if_pos ⟨rfl, by rw [z1]⟩]
      exact hl
  · rw [n1 1137 rb (by decide)]
    exact f2
  · obtain ⟨y1, y2, y3⟩ := f4 k w' l' hk
    refine ⟨y1, by rw [n2 1142 _ (by decide)]; exact y2, ?_⟩
    have e : ps_a (ps_ua (ps_ub s 1141 (4 * rb + h.1.2.length) l2) 1136 rb (ps_a s 1136 rb + 1)) 1134 = ps_a s 1134 := funext (fun i => n1 1134 i (by decide))
    unfold mv_W at *
    rw [e]
    exact y3

theorem mv_H_trel {s : ps_S} {rb : Nat} {h : tx_H} {v : Int32} (H : mv_H s rb h) : mv_H (ps_ua s 1138 (6 * rb + h.1.1.length) v) rb h := by
  obtain ⟨⟨e1, e2, e3, e4, e5, e6⟩, f2, f3, f4⟩ := H
  have n1 : ∀ q i, q ≠ 1138 → ps_a (ps_ua s 1138 (6 * rb + h.1.1.length) v) q i = ps_a s q i := fun q i hq => by rw [ps_a_ua, if_neg (fun z => hq z.1)]
  refine ⟨⟨by rw [n1 1135 rb (by decide)]; exact e1, by rw [n1 1136 rb (by decide)]; exact e2, e3, e4, fun k w' a' hk => ?_, fun k w' a' hk => ?_⟩, by rw [n1 1137 rb (by decide)]; exact f2, f3, fun k w' l' hk => ?_⟩
  · obtain ⟨y1, y2, y3, y4⟩ := e5 k w' a' hk
    have hl := (List.getElem?_eq_some_iff.mp hk).1
    exact ⟨y1, y2, y3, by rw [ps_a_ua, if_neg (by omega)]; exact y4⟩
  · obtain ⟨y1, y2, y3, y4⟩ := e6 k w' a' hk
    exact ⟨y1, y2, y3, by rw [n1 1139 _ (by decide)]; exact y4⟩
  · obtain ⟨y1, y2, y3⟩ := f4 k w' l' hk
    refine ⟨y1, y2, ?_⟩
    have e : ps_a (ps_ua s 1138 (6 * rb + h.1.1.length) v) 1134 = ps_a s 1134 := funext (fun i => n1 1134 i (by decide))
    unfold mv_W at *
    rw [e]
    exact y3

theorem mv_H_tfun {s : ps_S} {rb : Nat} {h : tx_H} {v : Int32} (H : mv_H s rb h) : mv_H (ps_ua s 1139 (4 * rb + h.1.2.length) v) rb h := by
  obtain ⟨⟨e1, e2, e3, e4, e5, e6⟩, f2, f3, f4⟩ := H
  have n1 : ∀ q i, q ≠ 1139 → ps_a (ps_ua s 1139 (4 * rb + h.1.2.length) v) q i = ps_a s q i := fun q i hq => by rw [ps_a_ua, if_neg (fun z => hq z.1)]
  refine ⟨⟨by rw [n1 1135 rb (by decide)]; exact e1, by rw [n1 1136 rb (by decide)]; exact e2, e3, e4, fun k w' a' hk => ?_, fun k w' a' hk => ?_⟩, by rw [n1 1137 rb (by decide)]; exact f2, f3, fun k w' l' hk => ?_⟩
  · obtain ⟨y1, y2, y3, y4⟩ := e5 k w' a' hk
    exact ⟨y1, y2, y3, by rw [n1 1138 _ (by decide)]; exact y4⟩
  · obtain ⟨y1, y2, y3, y4⟩ := e6 k w' a' hk
    have hl := (List.getElem?_eq_some_iff.mp hk).1
    exact ⟨y1, y2, y3, by rw [ps_a_ua, if_neg (by omega)]; exact y4⟩
  · obtain ⟨y1, y2, y3⟩ := f4 k w' l' hk
    refine ⟨y1, y2, ?_⟩
    have e : ps_a (ps_ua s 1139 (4 * rb + h.1.2.length) v) 1134 = ps_a s 1134 := funext (fun i => n1 1134 i (by decide))
    unfold mv_W at *
    rw [e]
    exact y3

theorem mv_H_bax {s : ps_S} {rb : Nat} {h : tx_H} {v : Int64} (H : mv_H s rb h) : mv_H (ps_ub s 1142 (8 * rb + h.2.length) v) rb h := by
  obtain ⟨⟨e1, e2, e3, e4, e5, e6⟩, f2, f3, f4⟩ := H
  have n2 : ∀ q i, q ≠ 1142 → ps_b (ps_ub s 1142 (8 * rb + h.2.length) v) q i = ps_b s q i := fun q i hq => by rw [ps_b_ub, if_neg (fun z => hq z.1)]
  refine ⟨⟨e1, e2, e3, e4, fun k w' a' hk => ?_, fun k w' a' hk => ?_⟩, f2, f3, fun k w' l' hk => ?_⟩
  · obtain ⟨y1, y2, y3, y4⟩ := e5 k w' a' hk
    exact ⟨y1, y2, by rw [n2 1140 _ (by decide)]; exact y3, y4⟩
  · obtain ⟨y1, y2, y3, y4⟩ := e6 k w' a' hk
    exact ⟨y1, y2, by rw [n2 1141 _ (by decide)]; exact y3, y4⟩
  · obtain ⟨y1, y2, y3⟩ := f4 k w' l' hk
    have hl := (List.getElem?_eq_some_iff.mp hk).1
    exact ⟨y1, by rw [ps_b_ub, if_neg (by omega)]; exact y2, y3⟩
theorem mv_H_axm {s : ps_S} {rb : Nat} {h : tx_H} {w l : List Nat} (H : mv_H s rb h) (hlt : h.2.length < 8) (hw : tx_w w) (hn : ps_b s 1142 (8 * rb + h.2.length) = tx_m w) (hW : mv_W s (21812 + 41 * (8 * rb + h.2.length)) l) : mv_H (ps_ua s 1137 rb (ps_a s 1137 rb + 1)) rb (h.1, h.2 ++ [(w, l)]) := by
  obtain ⟨f1, f2, f3, f4⟩ := H
  have n1 : ∀ q i, q ≠ 1137 → ps_a (ps_ua s 1137 rb (ps_a s 1137 rb + 1)) q i = ps_a s q i := fun q i hq => by rw [ps_a_ua, if_neg (fun z => hq z.1)]
  have e : ps_a (ps_ua s 1137 rb (ps_a s 1137 rb + 1)) 1134 = ps_a s 1134 := funext (fun i => n1 1134 i (by decide))
  refine ⟨?_, ?_, ?_, fun k w' l' hk => ?_⟩
  · obtain ⟨e1, e2, e3, e4, e5, e6⟩ := f1
    refine ⟨by rw [n1 1135 rb (by decide)]; exact e1, by rw [n1 1136 rb (by decide)]; exact e2, e3, e4, fun k w' a' hk => ?_, fun k w' a' hk => ?_⟩
    · obtain ⟨y1, y2, y3, y4⟩ := e5 k w' a' hk
      exact ⟨y1, y2, y3, by rw [n1 1138 _ (by decide)]; exact y4⟩
    · obtain ⟨y1, y2, y3, y4⟩ := e6 k w' a' hk
      exact ⟨y1, y2, y3, by rw [n1 1139 _ (by decide)]; exact y4⟩
  · rw [ps_a_ua, if_pos ⟨rfl, rfl⟩, List.length_append]
    exact xj1 f2 (by omega)
  · rw [List.length_append]
    show h.2.length + 1 ≤ 8
    omega
  · rcases tx_snoc hk with ⟨z1, z2⟩ | ⟨z1, z2⟩
    · obtain ⟨y1, y2, y3⟩ := f4 k w' l' z2
      refine ⟨y1, y2, ?_⟩
      unfold mv_W at *
      rw [e]
      exact y3
    · cases z2
      refine ⟨hw, by rw [z1]; exact hn, ?_⟩
      rw [z1]
      unfold mv_W at *
      rw [e]
      exact hW
end
section
set_option maxRecDepth 100000
/-! the reference: lines -/
-- ProofBenchModel.axiomHere()I
theorem pl_205_0 {n : Nat} {s : ps_S} {Q : Option Value → ps_S → Prop} (h :
  pl_At n 205 2 [(0, .ref 1131), (1, .int 0)] [] s Q) : pl_At (n + 1) 205 0 [(0, .ref 1131)] [] s Q :=
  pl_wp_at (stops := [(2, [0, 1])]) (f := 4) h rfl

theorem pl_205_2 {n : Nat} {x1 : Int32} {s : ps_S} {Q : Option Value → ps_S → Prop} (h :
  (pm_in (ps_i s 1131 22) 2 = true →
    ((ps_a s 1137 (Int32.toNatClampNeg (ps_i s 1131 22))) ≤ x1 →
      Q (some (.int (-1))) s) ∧
    (x1 < (ps_a s 1137 (Int32.toNatClampNeg (ps_i s 1131 22))) →
      ((ps_i s 1131 9) ≠ 2 →
        pl_At n 205 2 [(0, .ref 1131), (1, .int (x1 + 1))] [] s Q) ∧
      ((ps_i s 1131 9) = 2 →
        (pm_in (((8 : Int32) * (ps_i s 1131 22)) + x1) 16 = true →
          ((lg_cmp (ps_b s 1142 (Int32.toNatClampNeg (((8 : Int32) * (ps_i s 1131 22)) + x1))) (ps_j s 1131 11)) ≠ 0 →
            pl_At n 205 2 [(0, .ref 1131), (1, .int (x1 + 1))] [] s Q) ∧
          ((lg_cmp (ps_b s 1142 (Int32.toNatClampNeg (((8 : Int32) * (ps_i s 1131 22)) + x1))) (ps_j s 1131 11)) = 0 →
            Q (some (.int x1)) s)))))) : pl_At (n + 1) 205 2 [(0, .ref 1131), (1, .int x1)] [] s Q :=
  pl_wp_at (stops := [(2, [0, 1])]) (f := 34) h rfl

-- ProofBenchModel.isFull()Z
theorem pl_203_0 {n : Nat} {s : ps_S} {Q : Option Value → ps_S → Prop} (h :
  pl_Cl n 195 [.ref 1131, .long (7497068 : Int64)] s (ps_rI (fun v1 s1 =>
    (v1 = 0 →
      pl_Cl n 195 [.ref 1131, .long (6714734 : Int64)] s1 (ps_rI (fun v2 s2 =>
        (v2 = 0 →
          pl_Cl n 195 [.ref 1131, .long (418632003437 : Int64)] s2 (ps_rI (fun v3 s3 =>
            (v3 = 0 →
              Q (some (.int 1)) s3) ∧
            (v3 ≠ 0 →
              (pm_in (ps_i s3 1131 22) 2 = true →
                ((ps_a s3 1137 (Int32.toNatClampNeg (ps_i s3 1131 22))) ≠ 8 →
                  Q (some (.int 0)) s3) ∧
                ((ps_a s3 1137 (Int32.toNatClampNeg (ps_i s3 1131 22))) = 8 →
                  Q (some (.int 1)) s3)))))) ∧
        (v2 ≠ 0 →
          (pm_in (ps_i s2 1131 22) 2 = true →
            ((ps_a s2 1136 (Int32.toNatClampNeg (ps_i s2 1131 22))) ≠ 4 →
              Q (some (.int 0)) s2) ∧
            ((ps_a s2 1136 (Int32.toNatClampNeg (ps_i s2 1131 22))) = 4 →
              Q (some (.int 1)) s2)))))) ∧
    (v1 ≠ 0 →
      (pm_in (ps_i s1 1131 22) 2 = true →
        ((ps_a s1 1135 (Int32.toNatClampNeg (ps_i s1 1131 22))) ≠ 6 →
          Q (some (.int 0)) s1) ∧
        ((ps_a s1 1135 (Int32.toNatClampNeg (ps_i s1 1131 22))) = 6 →
          Q (some (.int 1)) s1)))))) : pl_At (n + 1) 203 0 [(0, .ref 1131)] [] s Q :=
  pl_wp_at (stops := []) (f := 53) h rfl

-- ProofBenchModel.must(Z)V
theorem pl_197_0 {n : Nat} {x1 : Int32} {s : ps_S} {Q : Option Value → ps_S → Prop} (h :
  pl_Cl n 192 [.ref 1131] s (ps_rI (fun v1 s1 =>
    (v1 ≠ 0 →
      (x1 = 0 →
        pl_Cl n 196 [.ref 1131] s1 (ps_rV (fun s2 =>
          Q none s2))) ∧
      (x1 ≠ 0 →
        pl_Cl n 194 [.ref 1131] s1 (ps_rV (fun s3 =>
          Q none s3)))) ∧
    (v1 = 0 →
      Q none s1)))) : pl_At (n + 1) 197 0 [(0, .ref 1131), (1, .int x1)] [] s Q :=
  pl_wp_at (stops := []) (f := 15) h rfl

-- ProofBenchModel.readLine()V
theorem pl_204_0 {n : Nat} {s : ps_S} {Q : Option Value → ps_S → Prop} (h :
  pl_Cl n 195 [.ref 1131, .long (7497068 : Int64)] s (ps_rI (fun v1 s1 =>
    pl_Cl n 195 [.ref 1131, .long (418632003437 : Int64)] s1 (ps_rI (fun v2 s2 =>
      pl_Cl n 203 [.ref 1131] s2 (ps_rI (fun v3 s3 =>
        (v3 = 0 →
          pl_At n 204 27 [(0, .ref 1131), (1, .int v1), (2, .int v2)] [] s3 Q) ∧
        (v3 ≠ 0 →
          pl_Cl n 196 [.ref 1131] s3 (ps_rV (fun s4 =>
            pl_At n 204 27 [(0, .ref 1131), (1, .int v1), (2, .int v2)] [] s4 Q)))))))))) : pl_At (n + 1) 204 0 [(0, .ref 1131)] [] s Q :=
  pl_wp_at (stops := [(27, [0, 1, 2]), (82, [0, 1, 2]), (91, [0, 1, 2]), (213, [0, 1, 3]), (271, [0, 1, 3]), (282, [0, 1, 3]), (360, [0])]) (f := 15) h rfl

theorem pl_204_27 {n : Nat} {x1 : Int32} {x2 : Int32} {s : ps_S} {Q : Option Value → ps_S → Prop} (h :
  pl_Cl n 192 [.ref 1131] s (ps_rI (fun v1 s1 =>
    (v1 ≠ 0 →
      pl_Cl n 194 [.ref 1131] s1 (ps_rV (fun s2 =>
        ((ps_i s2 1131 9) = 2 →
          (x2 = 0 →
            pl_Cl n 206 [.ref 1131] s2 (ps_rI (fun v3 s3 =>
              (0 ≤ v3 →
                pl_At n 204 82 [(0, .ref 1131), (1, .int x1), (2, .int x2)] [] s3 Q) ∧
              (v3 < 0 →
                pl_Cl n 207 [.ref 1131] s3 (ps_rI (fun v4 s4 =>
                  (v4 < 0 →
                    pl_At n 204 91 [(0, .ref 1131), (1, .int x1), (2, .int x2)] [] s4 Q) ∧
                  (0 ≤ v4 →
                    pl_At n 204 82 [(0, .ref 1131), (1, .int x1), (2, .int x2)] [] s4 Q))))))) ∧
          (x2 ≠ 0 →
            pl_Cl n 205 [.ref 1131] s2 (ps_rI (fun v5 s5 =>
              (v5 < 0 →
                pl_At n 204 91 [(0, .ref 1131), (1, .int x1), (2, .int x2)] [] s5 Q) ∧
              (0 ≤ v5 →
                pl_At n 204 82 [(0, .ref 1131), (1, .int x1), (2, .int x2)] [] s5 Q))))) ∧
        ((ps_i s2 1131 9) ≠ 2 →
          pl_Cl n 196 [.ref 1131] s2 (ps_rV (fun s6 =>
            pl_At n 204 91 [(0, .ref 1131), (1, .int x1), (2, .int x2)] [] s6 Q)))))) ∧
    (v1 = 0 →
      Q none s1)))) : pl_At (n + 1) 204 27 [(0, .ref 1131), (1, .int x1), (2, .int x2)] [] s Q :=
  pl_wp_at (stops := [(27, [0, 1, 2]), (82, [0, 1, 2]), (91, [0, 1, 2]), (213, [0, 1, 3]), (271, [0, 1, 3]), (282, [0, 1, 3]), (360, [0])]) (f := 27) h rfl

theorem pl_204_82 {n : Nat} {x1 : Int32} {x2 : Int32} {s : ps_S} {Q : Option Value → ps_S → Prop} (h :
  pl_Cl n 191 [.ref 1131, .int 3, .int (ps_i s 1131 7)] s (ps_rV (fun s1 =>
    pl_At n 204 91 [(0, .ref 1131), (1, .int x1), (2, .int x2)] [] s1 Q))) : pl_At (n + 1) 204 82 [(0, .ref 1131), (1, .int x1), (2, .int x2)] [] s Q :=
  pl_wp_at (stops := [(27, [0, 1, 2]), (82, [0, 1, 2]), (91, [0, 1, 2]), (213, [0, 1, 3]), (271, [0, 1, 3]), (282, [0, 1, 3]), (360, [0])]) (f := 7) h rfl

theorem pl_204_91 {n : Nat} {x1 : Int32} {x2 : Int32} {s : ps_S} {Q : Option Value → ps_S → Prop} (h :
  pl_Cl n 192 [.ref 1131] s (ps_rI (fun v1 s1 =>
    (v1 ≠ 0 →
      pl_Cl n 194 [.ref 1131] s1 (ps_rV (fun s2 =>
        (x2 = 0 →
          ((ps_i s2 1131 9) = 4 →
            ((ps_i s2 1131 10) ≤ 2 →
              pl_At n 204 213 [(0, .ref 1131), (1, .int x1), (3, .long (ps_j s1 1131 11))] [] s2 Q) ∧
            (2 < (ps_i s2 1131 10) →
              pl_Cl n 191 [.ref 1131, .int 4, .int (ps_i s2 1131 7)] s2 (ps_rV (fun s3 =>
                pl_At n 204 213 [(0, .ref 1131), (1, .int x1), (3, .long (ps_j s1 1131 11))] [] s3 Q)))) ∧
          ((ps_i s2 1131 9) ≠ 4 →
            pl_Cl n 196 [.ref 1131] s2 (ps_rV (fun s4 =>
              pl_At n 204 213 [(0, .ref 1131), (1, .int x1), (3, .long (ps_j s1 1131 11))] [] s4 Q)))) ∧
        (x2 ≠ 0 →
          (pm_in (ps_i s2 1131 22) 2 = true →
            (pm_in (((8 : Int32) * (ps_i s2 1131 22)) + (ps_a s2 1137 (Int32.toNatClampNeg (ps_i s2 1131 22)))) 16 = true →
              (pm_in (ps_i (ps_ub s2 1142 (Int32.toNatClampNeg (((8 : Int32) * (ps_i s2 1131 22)) + (ps_a s2 1137 (Int32.toNatClampNeg (ps_i s2 1131 22))))) (ps_j s1 1131 11)) 1131 22) 2 = true →
                pl_Cl n 209 [.ref 1131, .int ((21812 : Int32) + ((41 : Int32) * (((8 : Int32) * (ps_i (ps_ub s2 1142 (Int32.toNatClampNeg (((8 : Int32) * (ps_i s2 1131 22)) + (ps_a s2 1137 (Int32.toNatClampNeg (ps_i s2 1131 22))))) (ps_j s1 1131 11)) 1131 22)) + (ps_a (ps_ub s2 1142 (Int32.toNatClampNeg (((8 : Int32) * (ps_i s2 1131 22)) + (ps_a s2 1137 (Int32.toNatClampNeg (ps_i s2 1131 22))))) (ps_j s1 1131 11)) 1137 (Int32.toNatClampNeg (ps_i (ps_ub s2 1142 (Int32.toNatClampNeg (((8 : Int32) * (ps_i s2 1131 22)) + (ps_a s2 1137 (Int32.toNatClampNeg (ps_i s2 1131 22))))) (ps_j s1 1131 11)) 1131 22)))))), .int 1, .int 1] (ps_ub s2 1142 (Int32.toNatClampNeg (((8 : Int32) * (ps_i s2 1131 22)) + (ps_a s2 1137 (Int32.toNatClampNeg (ps_i s2 1131 22))))) (ps_j s1 1131 11)) (ps_rV (fun s5 =>
                  (pm_in (ps_i s5 1131 22) 2 = true →
                    (pm_in (ps_i s5 1131 22) 2 = true →
                      pl_At n 204 360 [(0, .ref 1131)] [] (ps_ua s5 1137 (Int32.toNatClampNeg (ps_i s5 1131 22)) ((ps_a s5 1137 (Int32.toNatClampNeg (ps_i s5 1131 22))) + 1)) Q))))))))))) ∧
    (v1 = 0 →
      Q none s1)))) : pl_At (n + 1) 204 91 [(0, .ref 1131), (1, .int x1), (2, .int x2)] [] s Q :=
  pl_wp_at (stops := [(27, [0, 1, 2]), (82, [0, 1, 2]), (91, [0, 1, 2]), (213, [0, 1, 3]), (271, [0, 1, 3]), (282, [0, 1, 3]), (360, [0])]) (f := 71) h rfl

theorem pl_204_213 {n : Nat} {x1 : Int32} {l3 : Int64} {s : ps_S} {Q : Option Value → ps_S → Prop} (h :
  (x1 = 0 →
    (pm_in (ps_i s 1131 22) 2 = true →
      (pm_in (((4 : Int32) * (ps_i s 1131 22)) + (ps_a s 1136 (Int32.toNatClampNeg (ps_i s 1131 22)))) 8 = true →
        pl_At n 204 271 [(0, .ref 1131), (1, .int x1), (3, .long l3)] [] (ps_ua s 1139 (Int32.toNatClampNeg (((4 : Int32) * (ps_i s 1131 22)) + (ps_a s 1136 (Int32.toNatClampNeg (ps_i s 1131 22))))) (ps_i s 1131 10)) Q))) ∧
  (x1 ≠ 0 →
    (pm_in (ps_i s 1131 22) 2 = true →
      (pm_in (((6 : Int32) * (ps_i s 1131 22)) + (ps_a s 1135 (Int32.toNatClampNeg (ps_i s 1131 22)))) 12 = true →
        pl_At n 204 271 [(0, .ref 1131), (1, .int x1), (3, .long l3)] [] (ps_ua s 1138 (Int32.toNatClampNeg (((6 : Int32) * (ps_i s 1131 22)) + (ps_a s 1135 (Int32.toNatClampNeg (ps_i s 1131 22))))) (ps_i s 1131 10)) Q)))) : pl_At (n + 1) 204 213 [(0, .ref 1131), (1, .int x1), (3, .long l3)] [] s Q :=
  pl_wp_at (stops := [(27, [0, 1, 2]), (82, [0, 1, 2]), (91, [0, 1, 2]), (213, [0, 1, 3]), (271, [0, 1, 3]), (282, [0, 1, 3]), (360, [0])]) (f := 35) h rfl

theorem pl_204_271 {n : Nat} {x1 : Int32} {l3 : Int64} {s : ps_S} {Q : Option Value → ps_S → Prop} (h :
  pl_Cl n 192 [.ref 1131] s (ps_rI (fun v1 s1 =>
    (v1 = 0 →
      pl_At n 204 282 [(0, .ref 1131), (1, .int x1), (3, .long l3)] [] s1 Q) ∧
    (v1 ≠ 0 →
      pl_Cl n 194 [.ref 1131] s1 (ps_rV (fun s2 =>
        pl_At n 204 282 [(0, .ref 1131), (1, .int x1), (3, .long l3)] [] s2 Q)))))) : pl_At (n + 1) 204 271 [(0, .ref 1131), (1, .int x1), (3, .long l3)] [] s Q :=
  pl_wp_at (stops := [(27, [0, 1, 2]), (82, [0, 1, 2]), (91, [0, 1, 2]), (213, [0, 1, 3]), (271, [0, 1, 3]), (282, [0, 1, 3]), (360, [0])]) (f := 7) h rfl

theorem pl_204_282 {n : Nat} {x1 : Int32} {l3 : Int64} {s : ps_S} {Q : Option Value → ps_S → Prop} (h :
  (x1 = 0 →
    (pm_in (ps_i s 1131 22) 2 = true →
      (pm_in (((4 : Int32) * (ps_i s 1131 22)) + (ps_a s 1136 (Int32.toNatClampNeg (ps_i s 1131 22)))) 8 = true →
        (pm_in (ps_i (ps_ub s 1141 (Int32.toNatClampNeg (((4 : Int32) * (ps_i s 1131 22)) + (ps_a s 1136 (Int32.toNatClampNeg (ps_i s 1131 22))))) l3) 1131 22) 2 = true →
          (pm_in (ps_i (ps_ub s 1141 (Int32.toNatClampNeg (((4 : Int32) * (ps_i s 1131 22)) + (ps_a s 1136 (Int32.toNatClampNeg (ps_i s 1131 22))))) l3) 1131 22) 2 = true →
            pl_At n 204 360 [(0, .ref 1131)] [] (ps_ua (ps_ub s 1141 (Int32.toNatClampNeg (((4 : Int32) * (ps_i s 1131 22)) + (ps_a s 1136 (Int32.toNatClampNeg (ps_i s 1131 22))))) l3) 1136 (Int32.toNatClampNeg (ps_i (ps_ub s 1141 (Int32.toNatClampNeg (((4 : Int32) * (ps_i s 1131 22)) + (ps_a s 1136 (Int32.toNatClampNeg (ps_i s 1131 22))))) l3) 1131 22)) ((ps_a (ps_ub s 1141 (Int32.toNatClampNeg (((4 : Int32) * (ps_i s 1131 22)) + (ps_a s 1136 (Int32.toNatClampNeg (ps_i s 1131 22))))) l3) 1136 (Int32.toNatClampNeg (ps_i (ps_ub s 1141 (Int32.toNatClampNeg (((4 : Int32) * (ps_i s 1131 22)) + (ps_a s 1136 (Int32.toNatClampNeg (ps_i s 1131 22))))) l3) 1131 22))) + 1)) Q))))) ∧
  (x1 ≠ 0 →
    (pm_in (ps_i s 1131 22) 2 = true →
      (pm_in (((6 : Int32) * (ps_i s 1131 22)) + (ps_a s 1135 (Int32.toNatClampNeg (ps_i s 1131 22)))) 12 = true →
        (pm_in (ps_i (ps_ub s 1140 (Int32.toNatClampNeg (((6 : Int32) * (ps_i s 1131 22)) + (ps_a s 1135 (Int32.toNatClampNeg (ps_i s 1131 22))))) l3) 1131 22) 2 = true →
          (pm_in (ps_i (ps_ub s 1140 (Int32.toNatClampNeg (((6 : Int32) * (ps_i s 1131 22)) + (ps_a s 1135 (Int32.toNatClampNeg (ps_i s 1131 22))))) l3) 1131 22) 2 = true →
            pl_At n 204 360 [(0, .ref 1131)] [] (ps_ua (ps_ub s 1140 (Int32.toNatClampNeg (((6 : Int32) * (ps_i s 1131 22)) + (ps_a s 1135 (Int32.toNatClampNeg (ps_i s 1131 22))))) l3) 1135 (Int32.toNatClampNeg (ps_i (ps_ub s 1140 (Int32.toNatClampNeg (((6 : Int32) * (ps_i s 1131 22)) + (ps_a s 1135 (Int32.toNatClampNeg (ps_i s 1131 22))))) l3) 1131 22)) ((ps_a (ps_ub s 1140 (Int32.toNatClampNeg (((6 : Int32) * (ps_i s 1131 22)) + (ps_a s 1135 (Int32.toNatClampNeg (ps_i s 1131 22))))) l3) 1135 (Int32.toNatClampNeg (ps_i (ps_ub s 1140 (Int32.toNatClampNeg (((6 : Int32) * (ps_i s 1131 22)) + (ps_a s 1135 (Int32.toNatClampNeg (ps_i s 1131 22))))) l3) 1131 22))) + 1)) Q)))))) : pl_At (n + 1) 204 282 [(0, .ref 1131), (1, .int x1), (3, .long l3)] [] s Q :=
  pl_wp_at (stops := [(27, [0, 1, 2]), (82, [0, 1, 2]), (91, [0, 1, 2]), (213, [0, 1, 3]), (271, [0, 1, 3]), (282, [0, 1, 3]), (360, [0])]) (f := 51) h rfl

theorem pl_204_360 {n : Nat} {s : ps_S} {Q : Option Value → ps_S → Prop} (h :
  ((ps_i s 1131 9) ≠ 5 →
    pl_Cl n 197 [.ref 1131, .int 0] s (ps_rV (fun s1 =>
      Q none s1))) ∧
  ((ps_i s 1131 9) = 5 →
    pl_Cl n 197 [.ref 1131, .int 1] s (ps_rV (fun s2 =>
      Q none s2)))) : pl_At (n + 1) 204 360 [(0, .ref 1131)] [] s Q :=
  pl_wp_at (stops := [(27, [0, 1, 2]), (82, [0, 1, 2]), (91, [0, 1, 2]), (213, [0, 1, 3]), (271, [0, 1, 3]), (282, [0, 1, 3]), (360, [0])]) (f := 14) h rfl

theorem fm_205_2 {rb : Nat} {s : ps_S} {T : Nat → Nat} {N : Nat} {h : tx_H} {p : Nat} {R : Int32 → ps_S → Prop} (L : mv_L s rb T N h p) (k : ∀ v : Int32, tx_opt (if (tx_tok T N p).1 = 2 then tx_at (tx_A h) (tx_tok T N p).2.2.2.1 else none) v → R v s) : ∀ (n : Nat) {x1 : Int32} {i : Nat}, x1.toInt = i → i ≤ (tx_A h).length → ((tx_tok T N p).1 = 2 → ∀ j, j < i → (tx_A h)[j]? ≠ some (tx_tok T N p).2.2.2.1) → pl_At n 205 2 [(0, .ref 1131), (1, .int x1)] [] s (ps_rI R)
  | 0, _, _, _, _, _ => pl_At_0
  | n + 1, x1, i, hx, hi, hj => by
    obtain ⟨hrb, h22, -, hH, hp, hK, -, -⟩ := id L
    have h9 := hK.1
    have hwv := (tx_tok_ok (T := T) hp).2.2.2.1
    have hlen : (tx_A h).length = h.2.length := List.length_map ..
    have hcnt := hH.2.1
    have hmx := hH.2.2.1
    have c0 : (8 : Int32).toInt = 8 := by decide
    have e0 : (((8 : Int32) * (ps_i s 1131 22))).toInt = 8 * rb := by rw [xm01 h22 hrb, c0]
    have e1 : (((8 : Int32) * (ps_i s 1131 22)) + x1).toInt = (8 * rb + i : Nat) := by rw [xIa (by omega) (by omega)]; omega
    refine pl_205_2 ?_
    intro b11
    obtain ⟨b11, c11⟩ := pl_in b11
    rw [xtn h22]
    refine ⟨fun h12 => ?_, fun h12 => ?_⟩
    · have h12 : (ps_a s 1137 rb).toInt ≤ x1.toInt := xle h12
      refine k _ ⟨fun c hc => ?_, fun _ => rfl⟩
      split at hc
      · next z =>
        rw [tx_at_no (fun j hjl => hj z j (by omega))] at hc
        cases hc
      · cases hc
    · have h12 : x1.toInt < (ps_a s 1137 rb).toInt := xlt h12
      refine ⟨fun h20 => ?_, fun h20 => ?_⟩
      · have h20 : (ps_i s 1131 9).toInt ≠ (2 : Int) := xne h20
        exact fm_205_2 L k n (xj1 hx (by omega)) (by omega) (fun z => by omega)
      · have h20 : (ps_i s 1131 9).toInt = (2 : Int) := xeq h20
        intro b36
        obtain ⟨b36, c36⟩ := pl_in b36
        have h2 : (tx_tok T N p).1 = 2 := by omega
        obtain ⟨w0, hg1⟩ : ∃ w0, (tx_A h)[i]? = some w0 := ⟨(tx_A h)[i]'(by omega), List.getElem?_eq_getElem _⟩
        obtain ⟨hg2, hg3⟩ : tx_w w0 ∧ ps_b s 1142 (8 * rb + i) = tx_m w0 := by
          unfold tx_A at hg1
          rw [List.getElem?_map] at hg1
          obtain ⟨q, q1, rfl⟩ := Option.map_eq_some_iff.mp hg1
          obtain ⟨z1, z2, z3⟩ := hH.2.2.2 i q.1 q.2 q1
          exact ⟨z1, z2⟩
        refine ⟨fun h42 => ?_, fun h42 => ?_⟩
        · have h42 := lg_nz h42
          refine fm_205_2 L k n (xj1 hx (by omega)) (by omega) (fun _ j hjl => ?_)
          by_cases ej : j = i
          · rw [ej, hg1]
            intro z
            cases z
            exact h42 (by rw [xtn e1, hg3, hK.2.2.2.1 (Or.inl h2)])
          · exact hj h2 j (by omega)
        · have h42 := lg_z h42
          rw [xtn e1, hg3, hK.2.2.2.1 (Or.inl h2)] at h42
          have e := tx_at_is (by rw [hg1, tx_m_inj hg2 (hwv h2) h42]) (hj h2)
          refine k _ ⟨fun c hc => ?_, fun hc => ?_⟩
          · rw [if_pos h2, e] at hc
            cases hc
            exact hx
          · rw [if_pos h2, e] at hc
            cases hc
theorem fm_205 {n : Nat} {rb : Nat} {s : ps_S} {T : Nat → Nat} {N : Nat} {h : tx_H} {p : Nat} {R : Int32 → ps_S → Prop} (L : mv_L s rb T N h p) (k : ∀ v : Int32, tx_opt (if (tx_tok T N p).1 = 2 then tx_at (tx_A h) (tx_tok T N p).2.2.2.1 else none) v → R v s) : pl_Cl n 205 [.ref 1131] s (ps_rI R) := by
  cases n with
  | zero => exact pl_At_0
  | succ n =>
  show pl_At (n + 1) 205 0 [(0, .ref 1131)] [] s (ps_rI R)
  refine pl_205_0 ?_
  exact fm_205_2 L k n (i := 0) rfl (Nat.zero_le _) (fun _ j hj => by omega)

theorem fm_203 {n : Nat} {rb : Nat} {s : ps_S} {T : Nat → Nat} {N : Nat} {h : tx_H} {p : Nat} {R : Int32 → ps_S → Prop} (L : mv_L s rb T N h p) (k1 : ¬ ((tx_tok T N p).1 = 3 ∧ (((tx_tok T N p).2.2.2.2 = 8 ∧ h.1.1.length < 6) ∨ ((tx_tok T N p).2.2.2.2 = 9 ∧ h.1.2.length < 4) ∨ ((tx_tok T N p).2.2.2.2 = 10 ∧ h.2.length < 8))) → R 1 s) (k0 : ((tx_tok T N p).1 = 3 ∧ (((tx_tok T N p).2.2.2.2 = 8 ∧ h.1.1.length < 6) ∨ ((tx_tok T N p).2.2.2.2 = 9 ∧ h.1.2.length < 4) ∨ ((tx_tok T N p).2.2.2.2 = 10 ∧ h.2.length < 8))) → R 0 s) : pl_Cl n 203 [.ref 1131] s (ps_rI R) := by
  cases n with
  | zero => exact pl_At_0
  | succ n =>
  show pl_At (n + 1) 203 0 [(0, .ref 1131)] [] s (ps_rI R)
  obtain ⟨hrb, h22, -, hH, hp, hK, -, -⟩ := id L
  have a1 := hH.1.1
  have a2 := hH.1.2.1
  have a3 := hH.2.1
  have a4 := hH.1.2.2.1
  have a5 := hH.1.2.2.2.1
  have a6 := hH.2.2.1
  refine pl_203_0 ?_
  refine fm_195 (w := [114, 101, 108]) (q := 8) hK (by decide) (by decide +kernel) (fun q4 => ?_) (fun q4 => ?_)
  · refine ⟨fun h7 => ?_, fun h7 => ?_⟩
    · exact absurd h7 (by decide)
    · intro b18
      obtain ⟨b18, c18⟩ := pl_in b18
      refine ⟨fun h21 => ?_, fun h21 => ?_⟩
      · have h21 : (ps_a s 1135 (Int32.toNatClampNeg (ps_i s 1131 22))).toInt ≠ (6 : Int) := xne h21
        exact k0 (by rw [xtn h22] at h21; omega)
      · have h21 : (ps_a s 1135 (Int32.toNatClampNeg (ps_i s 1131 22))).toInt = (6 : Int) := xeq h21
        exact k1 (by rw [xtn h22] at h21; omega)
  · refine ⟨fun h7 => ?_, fun h7 => ?_⟩
    · refine fm_195 (w := [102, 117, 110]) (q := 9) hK (by decide) (by decide +kernel) (fun q34 => ?_) (fun q34 => ?_)
      · refine ⟨fun h37 => ?_, fun h37 => ?_⟩
        · exact absurd h37 (by decide)
        · intro b48
          obtain ⟨b48, c48⟩ := pl_in b48
          refine ⟨fun h50 => ?_, fun h50 => ?_⟩
          · have h50 : (ps_a s 1136 (Int32.toNatClampNeg (ps_i s 1131 22))).toInt ≠ (4 : Int) := xne h50
            exact k0 (by rw [xtn h22] at h50; omega)
          · have h50 : (ps_a s 1136 (Int32.toNatClampNeg (ps_i s 1131 22))).toInt = (4 : Int) := xeq h50
            exact k1 (by rw [xtn h22] at h50; omega)
      · refine ⟨fun h37 => ?_, fun h37 => ?_⟩
        · refine fm_195 (w := [97, 120, 105, 111, 109]) (q := 10) hK (by decide) (by decide +kernel) (fun q63 => ?_) (fun q63 => ?_)
          · refine ⟨fun h66 => ?_, fun h66 => ?_⟩
            · exact absurd h66 (by decide)
            · intro b77
              obtain ⟨b77, c77⟩ := pl_in b77
              refine ⟨fun h80 => ?_, fun h80 => ?_⟩
              · have h80 : (ps_a s 1137 (Int32.toNatClampNeg (ps_i s 1131 22))).toInt ≠ (8 : Int) := xne h80
                exact k0 (by rw [xtn h22] at h80; omega)
              · have h80 : (ps_a s 1137 (Int32.toNatClampNeg (ps_i s 1131 22))).toInt = (8 : Int) := xeq h80
                exact k1 (by rw [xtn h22] at h80; omega)
          · refine ⟨fun h66 => ?_, fun h66 => ?_⟩
            · exact k1 (by omega)
            · exact absurd h66 (by decide)
        · exact absurd h37 (by decide)
    · exact absurd h7 (by decide)

theorem fm_197g {n rb : Nat} {s : ps_S} {T : Nat → Nat} {N p : Nat} {x1 : Int32} {R : ps_S → Prop} (hG : mv_G s) (hT : mv_T s T N) (hp : p ≤ N) (hK : mv_K s (tx_tok T N p)) (k1 : x1.toInt ≠ 0 → ∀ s', mv_A T N (tx_tok T N p).2.2.1 s s' → R s') (k0 : x1.toInt = 0 → ∀ s', (ps_i s' 1131 5).toInt = (tx_bk (tx_tok T N p) : Nat) ∧ (ps_i s' 1131 6).toInt = (tx_tok T N p).2.1 ∧ kq [] [5, 6] s s' → R s') : pl_Cl n 197 [.ref 1131, .int x1] s (ps_rV R) := by
  cases n with
  | zero => exact pl_At_0
  | succ n =>
  show pl_At (n + 1) 197 0 [(0, .ref 1131), (1, .int x1)] [] s (ps_rV R)
  refine pl_197_0 ?_
  refine fm_192 (fun q1 => ?_) (fun q1 => ?_)
  · refine ⟨fun h4 => ?_, fun h4 => ?_⟩
    · refine ⟨fun h9 => ?_, fun h9 => ?_⟩
      · have h9 : x1.toInt = (0 : Int) := xeq h9
        refine fm_196 hG.1 hK (fun s20 q20 => ?_)
        exact k0 (by omega) _ q20
      · have h9 : x1.toInt ≠ (0 : Int) := xne h9
        refine fs_194 hT hK.2.2.1 (tx_tok_ok (T := T) hp).2.1 (fun s13 q13 => ?_)
        exact k1 (by omega) _ q13
    · exact absurd h4 (by decide)
  · refine ⟨fun h4 => ?_, fun h4 => ?_⟩
    · exact absurd h4 (by decide)
    · exact absurd hG.1 q1
theorem fm_197b {n : Nat} {s : ps_S} {x1 : Int32} {R : ps_S → Prop} (hb : (ps_i s 1131 5).toInt ≠ 0) (k : R s) : pl_Cl n 197 [.ref 1131, .int x1] s (ps_rV R) := by
  cases n with
  | zero => exact pl_At_0
  | succ n =>
  show pl_At (n + 1) 197 0 [(0, .ref 1131), (1, .int x1)] [] s (ps_rV R)
  refine pl_197_0 ?_
  exact fm_192 (fun z => absurd z hb) (fun _ => ⟨fun h => absurd rfl h, fun _ => k⟩)
end
section
set_option maxRecDepth 100000
/-! the reference: readLine -/
theorem fm_204_360b {n rb : Nat} {s0 s : ps_S} {R : ps_S → Prop} {d : tx_D4} {h' : tx_H} {pl kk : Nat} (hd : d = (4, h', pl, kk)) (hf : mr_f rb s0 s kk pl) (k0 : ∀ s', mr_bad rb s0 s' d → R s') : pl_At n 204 360 [(0, .ref 1131)] [] s (ps_rV R) := by
  cases n with
  | zero => exact pl_At_0
  | succ n =>
  have hb : (ps_i s 1131 5).toInt ≠ 0 := by have := hf.1; have := hf.2.1; omega
  refine pl_204_360 ?_
  refine ⟨fun h366 => ?_, fun h366 => ?_⟩
  · have h366 : (ps_i s 1131 9).toInt ≠ (5 : Int) := xne h366
    exact fm_197b hb (k0 _ ⟨h', pl, kk, hd, hf⟩)
  · have h366 : (ps_i s 1131 9).toInt = (5 : Int) := xeq h366
    exact fm_197b hb (k0 _ ⟨h', pl, kk, hd, hf⟩)
theorem fm_204_360 {n rb : Nat} {s0 s : ps_S} {T : Nat → Nat} {N : Nat} {R : ps_S → Prop} {d : tx_D4} {h : tx_H} {p : Nat} (L : mv_L s rb T N h p) (F : mv_bk rb s0 s) (hd : d = tx_semi T N h p) (k1 : ∀ s', mr_ok rb s0 s' T N d → R s') (k0 : ∀ s', mr_bad rb s0 s' d → R s') : pl_At n 204 360 [(0, .ref 1131)] [] s (ps_rV R) := by
  cases n with
  | zero => exact pl_At_0
  | succ n =>
  obtain ⟨hrb, h22, hT, hH, hp, hK, h23, hG⟩ := id L
  have h9 := hK.1
  refine pl_204_360 ?_
  refine ⟨fun h366 => ?_, fun h366 => ?_⟩
  · have h366 : (ps_i s 1131 9).toInt ≠ (5 : Int) := xne h366
    refine fm_197g (rb := rb) hG hT hp hK (fun z => absurd rfl z) (fun _ s' q => ?_)
    exact k0 _ ⟨h, _, _, hd.trans (tx_semi_no (by omega)), mr_f_mis F q.1 q.2.1 q.2.2⟩
  · have h366 : (ps_i s 1131 9).toInt = (5 : Int) := xeq h366
    refine fm_197g (rb := rb) hG hT hp hK (fun _ s' A => ?_) (fun z => absurd z (by decide))
    exact k1 _ ⟨h, _, hd.trans (tx_semi_ok (by omega)), mv_L_adv L (tx_tok_ok (T := T) hp).2.1 A, mv_bk_tr F (mv_bk_kq A.1 (by decide) (by decide))⟩

theorem fm_204_282b {n rb : Nat} {s0 s : ps_S} {R : ps_S → Prop} {d : tx_D4} {x1 : Int32} {l3 : Int64} {h' : tx_H} {pl kk : Nat} (hd : d = (4, h', pl, kk)) (hf : mr_f rb s0 s kk pl) (hrb : rb < 2) (h22 : (ps_i s 1131 22).toInt = rb) (hb1 : x1.toInt ≠ 0 → ∃ m : Nat, (ps_a s 1135 rb).toInt = m ∧ m < 6) (hb0 : x1.toInt = 0 → ∃ m : Nat, (ps_a s 1136 rb).toInt = m ∧ m < 4) (k0 : ∀ s', mr_bad rb s0 s' d → R s') : pl_At n 204 282 [(0, .ref 1131), (1, .int x1), (3, .long l3)] [] s (ps_rV R) := by
  cases n with
  | zero => exact pl_At_0
  | succ n =>
  have c4 : (4 : Int32).toInt = 4 := by decide
  have c6 : (6 : Int32).toInt = 6 := by decide
  have m4 : ((4 : Int32) * (ps_i s 1131 22)).toInt = 4 * rb := by rw [xm01 h22 hrb, c4]
  have m6 : ((6 : Int32) * (ps_i s 1131 22)).toInt = 6 * rb := by rw [xm01 h22 hrb, c6]
  refine pl_204_282 ?_
  refine ⟨fun h283 => ?_, fun h283 => ?_⟩
  · have h283 : x1.toInt = (0 : Int) := xeq h283
    intro b343
    obtain ⟨b343, c343⟩ := pl_in b343
    intro b346
    obtain ⟨b346, c346⟩ := pl_in b346
    intro b356
    obtain ⟨b356, c356⟩ := pl_in b356
    intro b359
    obtain ⟨b359, c359⟩ := pl_in b359
    obtain ⟨m, hm, hm4⟩ := hb0 (by omega)
    have e4 : (((4 : Int32) * (ps_i s 1131 22)) + (ps_a s 1136 rb)).toInt = (4 * rb + m : Nat) := by rw [xIa (by omega) (by omega)]; omega
    show pl_At _ 204 360 [(0, .ref 1131)] [] (ps_ua (ps_ub s 1141 (Int32.toNatClampNeg (((4 : Int32) * (ps_i s 1131 22)) + (ps_a s 1136 (Int32.toNatClampNeg (ps_i s 1131 22))))) l3) 1136 (Int32.toNatClampNeg (ps_i s 1131 22)) (ps_a s 1136 (Int32.toNatClampNeg (ps_i s 1131 22)) + 1)) _
    rw [xtn h22, xtn e4]
    exact fm_204_360b hd (mr_f_tr hf (mv_bk_tr (mv_bk_b (Or.inr (Or.inl ⟨rfl, by omega, by omega⟩))) (mv_bk_a (Or.inr (Or.inl ⟨rfl, rfl⟩)))) rfl rfl) k0
  · have h283 : x1.toInt ≠ (0 : Int) := xne h283
    intro b305
    obtain ⟨b305, c305⟩ := pl_in b305
    intro b308
    obtain ⟨b308, c308⟩ := pl_in b308
    intro b318
    obtain ⟨b318, c318⟩ := pl_in b318
    intro b321
    obtain ⟨b321, c321⟩ := pl_in b321
    obtain ⟨m, hm, hm4⟩ := hb1 (by omega)
    have e6 : (((6 : Int32) * (ps_i s 1131 22)) + (ps_a s 1135 rb)).toInt = (6 * rb + m : Nat) := by rw [xIa (by omega) (by omega)]; omega
    show pl_At _ 204 360 [(0, .ref 1131)] [] (ps_ua (ps_ub s 1140 (Int32.toNatClampNeg (((6 : Int32) * (ps_i s 1131 22)) + (ps_a s 1135 (Int32.toNatClampNeg (ps_i s 1131 22))))) l3) 1135 (Int32.toNatClampNeg (ps_i s 1131 22)) (ps_a s 1135 (Int32.toNatClampNeg (ps_i s 1131 22)) + 1)) _
    rw [xtn h22, xtn e6]
    exact fm_204_360b hd (mr_f_tr hf (mv_bk_tr (mv_bk_b (Or.inl ⟨rfl, by omega, by omega⟩)) (mv_bk_a (Or.inl ⟨rfl, rfl⟩))) rfl rfl) k0
theorem fm_204_271b {n rb : Nat} {s0 s : ps_S} {R : ps_S → Prop} {d : tx_D4} {x1 : Int32} {l3 : Int64} {h' : tx_H} {pl kk : Nat} (hd : d = (4, h', pl, kk)) (hf : mr_f rb s0 s kk pl) (hrb : rb < 2) (h22 : (ps_i s 1131 22).toInt = rb) (hb1 : x1.toInt ≠ 0 → ∃ m : Nat, (ps_a s 1135 rb).toInt = m ∧ m < 6) (hb0 : x1.toInt = 0 → ∃ m : Nat, (ps_a s 1136 rb).toInt = m ∧ m < 4) (k0 : ∀ s', mr_bad rb s0 s' d → R s') : pl_At n 204 271 [(0, .ref 1131), (1, .int x1), (3, .long l3)] [] s (ps_rV R) := by
  cases n with
  | zero => exact pl_At_0
  | succ n =>
  have hb : (ps_i s 1131 5).toInt ≠ 0 := by have := hf.1; have := hf.2.1; omega
  refine pl_204_271 ?_
  exact fm_192 (fun z => absurd z hb) (fun _ => ⟨fun _ => fm_204_282b hd hf hrb h22 hb1 hb0 k0, fun h => absurd rfl h⟩)
theorem fm_204_213b {n rb : Nat} {s0 s : ps_S} {R : ps_S → Prop} {d : tx_D4} {x1 : Int32} {l3 : Int64} {h' : tx_H} {pl kk : Nat} (hd : d = (4, h', pl, kk)) (hf : mr_f rb s0 s kk pl) (hrb : rb < 2) (h22 : (ps_i s 1131 22).toInt = rb) (hb1 : x1.toInt ≠ 0 → ∃ m : Nat, (ps_a s 1135 rb).toInt = m ∧ m < 6) (hb0 : x1.toInt = 0 → ∃ m : Nat, (ps_a s 1136 rb).toInt = m ∧ m < 4) (k0 : ∀ s', mr_bad rb s0 s' d → R s') : pl_At n 204 213 [(0, .ref 1131), (1, .int x1), (3, .long l3)] [] s (ps_rV R) := by
  cases n with
  | zero => exact pl_At_0
  | succ n =>
  have c4 : (4 : Int32).toInt = 4 := by decide
  have c6 : (6 : Int32).toInt = 6 := by decide
  have m4 : ((4 : Int32) * (ps_i s 1131 22)).toInt = 4 * rb := by rw [xm01 h22 hrb, c4]
  have m6 : ((6 : Int32) * (ps_i s 1131 22)).toInt = 6 * rb := by rw [xm01 h22 hrb, c6]
  refine pl_204_213 ?_
  refine ⟨fun h214 => ?_, fun h214 => ?_⟩
  · have h214 : x1.toInt = (0 : Int) := xeq h214
    intro b264
    obtain ⟨b264, c264⟩ := pl_in b264
    intro b270
    obtain ⟨b270, c270⟩ := pl_in b270
    obtain ⟨m, hm, hm4⟩ := hb0 (by omega)
    have e4 : (((4 : Int32) * (ps_i s 1131 22)) + (ps_a s 1136 rb)).toInt = (4 * rb + m : Nat) := by rw [xIa (by omega) (by omega)]; omega
    rw [xtn h22, xtn e4]
    exact fm_204_271b hd (mr_f_tr hf (mv_bk_a (Or.inr (Or.inr (Or.inr (Or.inr ⟨rfl, by omega, by omega⟩))))) rfl rfl) hrb h22 (fun z => by omega) (fun _ => ⟨m, hm, hm4⟩) k0
  · have h214 : x1.toInt ≠ (0 : Int) := xne h214
    intro b236
    obtain ⟨b236, c236⟩ := pl_in b236
    intro b242
    obtain ⟨b242, c242⟩ := pl_in b242
    obtain ⟨m, hm, hm4⟩ := hb1 (by omega)
    have e6 : (((6 : Int32) * (ps_i s 1131 22)) + (ps_a s 1135 rb)).toInt = (6 * rb + m : Nat) := by rw [xIa (by omega) (by omega)]; omega
    rw [xtn h22, xtn e6]
    exact fm_204_271b hd (mr_f_tr hf (mv_bk_a (Or.inr (Or.inr (Or.inr (Or.inl ⟨rfl, by omega, by omega⟩)))))  rfl rfl) hrb h22 (fun _ => ⟨m, hm, hm4⟩) (fun z => by omega) k0

theorem mv_L_w {rb : Nat} {s s' : ps_S} {T : Nat → Nat} {N : Nat} {h h' : tx_H} {p : Nat} (L : mv_L s rb T N h p) (H : mv_H s' rb h') (K : kq [1135, 1136, 1137, 1138, 1139, 1140, 1141, 1142] [] s s') : mv_L s' rb T N h' p := by
  obtain ⟨l1, l2, l3, l4, l5, l6, l7, l8⟩ := L
  exact ⟨l1, by rw [kq_i K 22 (by decide)]; exact l2, mv_T_kq l3 K (by decide) (by decide), H, l5, mv_K_kq l6 K (by decide), by rw [kq_i K 23 (by decide)]; exact l7, mv_G_kq l8 K (by decide) (by decide)⟩
theorem fm_204_282 {n rb : Nat} {s0 s : ps_S} {T : Nat → Nat} {N : Nat} {R : ps_S → Prop} {d : tx_D4} {x1 : Int32} {l3 : Int64} {rel : Bool} {h : tx_H} {p : Nat} (L : mv_L s rb T N h p) (F : mv_bk rb s0 s) (hx : x1.toInt = (if rel = true then 1 else 0)) (hlt : if rel = true then h.1.1.length < 6 else h.1.2.length < 4) {w : List Nat} {a : Nat} (hw : tx_w w) (ha : a ≤ 2) (hl : l3 = tx_m w) (hnum : (if rel = true then ps_a s 1138 (6 * rb + h.1.1.length) else ps_a s 1139 (4 * rb + h.1.2.length)).toInt = a) (hd : d = tx_semi T N (if rel = true then ((h.1.1 ++ [(w, a)], h.1.2), h.2) else ((h.1.1, h.1.2 ++ [(w, a)]), h.2)) p) (k1 : ∀ s', mr_ok rb s0 s' T N d → R s') (k0 : ∀ s', mr_bad rb s0 s' d → R s') : pl_At n 204 282 [(0, .ref 1131), (1, .int x1), (3, .long l3)] [] s (ps_rV R) := by
  cases n with
  | zero => exact pl_At_0
  | succ n =>
  obtain ⟨hrb, h22, hT, hH, hp, hK, h23, hG⟩ := id L
  have a1 := hH.1.1
  have a2 := hH.1.2.1
  have c4 : (4 : Int32).toInt = 4 := by decide
  have c6 : (6 : Int32).toInt = 6 := by decide
  have m4 : ((4 : Int32) * (ps_i s 1131 22)).toInt = 4 * rb := by rw [xm01 h22 hrb, c4]
  have m6 : ((6 : Int32) * (ps_i s 1131 22)).toInt = 6 * rb := by rw [xm01 h22 hrb, c6]
  refine pl_204_282 ?_
  refine ⟨fun h283 => ?_, fun h283 => ?_⟩
  · have h283 : x1.toInt = (0 : Int) := xeq h283
    intro b343
    obtain ⟨b343, c343⟩ := pl_in b343
    intro b346
    obtain ⟨b346, c346⟩ := pl_in b346
    intro b356
    obtain ⟨b356, c356⟩ := pl_in b356
    intro b359
    obtain ⟨b359, c359⟩ := pl_in b359
    have hr : rel = false := by
      cases rel with
      | false => rfl
      | true => rw [if_pos rfl] at hx; omega
    subst hr
    have hlt : h.1.2.length < 4 := hlt
    have hnum : (ps_a s 1139 (4 * rb + h.1.2.length)).toInt = a := hnum
    have e4 : (((4 : Int32) * (ps_i s 1131 22)) + (ps_a s 1136 rb)).toInt = (4 * rb + h.1.2.length : Nat) := by rw [xIa (by omega) (by omega)]; omega
    show pl_At _ 204 360 [(0, .ref 1131)] [] (ps_ua (ps_ub s 1141 (Int32.toNatClampNeg (((4 : Int32) * (ps_i s 1131 22)) + (ps_a s 1136 (Int32.toNatClampNeg (ps_i s 1131 22))))) l3) 1136 (Int32.toNatClampNeg (ps_i s 1131 22)) (ps_a s 1136 (Int32.toNatClampNeg (ps_i s 1131 22)) + 1)) _
    rw [xtn h22, xtn e4]
    exact fm_204_360 (mv_L_w L (mv_H_fun hH hrb hlt hw ha hl hnum) (kqa (kqb kq_refl rfl) rfl)) (mv_bk_tr F (mv_bk_tr (mv_bk_b (Or.inr (Or.inl ⟨rfl, by omega, by omega⟩))) (mv_bk_a (Or.inr (Or.inl ⟨rfl, rfl⟩))))) hd k1 k0
  · have h283 : x1.toInt ≠ (0 : Int) := xne h283
    intro b305
    obtain ⟨b305, c305⟩ := pl_in b305
    intro b308
    obtain ⟨b308, c308⟩ := pl_in b308
    intro b318
    obtain ⟨b318, c318⟩ := pl_in b318
    intro b321
    obtain ⟨b321, c321⟩ := pl_in b321
    have hr : rel = true := by
      cases rel with
      | true => rfl
      | false => rw [if_neg (by decide)] at hx; omega
    subst hr
    have hlt : h.1.1.length < 6 := hlt
    have hnum : (ps_a s 1138 (6 * rb + h.1.1.length)).toInt = a := hnum
    have e6 : (((6 : Int32) * (ps_i s 1131 22)) + (ps_a s 1135 rb)).toInt = (6 * rb + h.1.1.length : Nat) := by rw [xIa (by omega) (by omega)]; omega
    show pl_At _ 204 360 [(0, .ref 1131)] [] (ps_ua (ps_ub s 1140 (Int32.toNatClampNeg (((6 : Int32) * (ps_i s 1131 22)) + (ps_a s 1135 (Int32.toNatClampNeg (ps_i s 1131 22))))) l3) 1135 (Int32.toNatClampNeg (ps_i s 1131 22)) (ps_a s 1135 (Int32.toNatClampNeg (ps_i s 1131 22)) + 1)) _
    rw [xtn h22, xtn e6]
    exact fm_204_360 (mv_L_w L (mv_H_rel hH hrb hlt hw ha hl hnum) (kqa (kqb kq_refl rfl) rfl)) (mv_bk_tr F (mv_bk_tr (mv_bk_b (Or.inl ⟨rfl, by omega, by omega⟩)) (mv_bk_a (Or.inl ⟨rfl, rfl⟩)))) hd k1 k0
theorem fm_204_271 {n rb : Nat} {s0 s : ps_S} {T : Nat → Nat} {N : Nat} {R : ps_S → Prop} {d : tx_D4} {x1 : Int32} {l3 : Int64} {rel : Bool} {h : tx_H} {p : Nat} (L : mv_L s rb T N h p) (F : mv_bk rb s0 s) (hx : x1.toInt = (if rel = true then 1 else 0)) (hlt : if rel = true then h.1.1.length < 6 else h.1.2.length < 4) {w : List Nat} {a : Nat} (hw : tx_w w) (ha : a ≤ 2) (hl : l3 = tx_m w) (hnum : (if rel = true then ps_a s 1138 (6 * rb + h.1.1.length) else ps_a s 1139 (4 * rb + h.1.2.length)).toInt = a) (hd : d = tx_semi T N (if rel = true then ((h.1.1 ++ [(w, a)], h.1.2), h.2) else ((h.1.1, h.1.2 ++ [(w, a)]), h.2)) (tx_tok T N p).2.2.1) (k1 : ∀ s', mr_ok rb s0 s' T N d → R s') (k0 : ∀ s', mr_bad rb s0 s' d → R s') : pl_At n 204 271 [(0, .ref 1131), (1, .int x1), (3, .long l3)] [] s (ps_rV R) := by
  cases n with
  | zero => exact pl_At_0
  | succ n =>
  obtain ⟨hrb, h22, hT, hH, hp, hK, h23, hG⟩ := id L
  have hq := (tx_tok_ok (T := T) hp).2.1
  refine pl_204_271 ?_
  refine fm_192 (fun _ => ⟨fun h => absurd h (by decide), fun _ => ?_⟩) (fun z => absurd hG.1 z)
  refine fs_194 hT hK.2.2.1 hq (fun s2 A => ?_)
  exact fm_204_282 (mv_L_adv L hq A) (mv_bk_tr F (mv_bk_kq A.1 (by decide) (by decide))) hx hlt hw ha hl (by rw [kq_a A.1 1138 (by decide), kq_a A.1 1139 (by decide)]; exact hnum) hd k1 k0
theorem fm_204_213 {n rb : Nat} {s0 s : ps_S} {T : Nat → Nat} {N : Nat} {R : ps_S → Prop} {d : tx_D4} {x1 : Int32} {l3 : Int64} {rel : Bool} {h : tx_H} {p : Nat} (L : mv_L s rb T N h p) (F : mv_bk rb s0 s) (hx : x1.toInt = (if rel = true then 1 else 0)) (hlt : if rel = true then h.1.1.length < 6 else h.1.2.length < 4) {w : List Nat} {a : Nat} (hw : tx_w w) (ha : a ≤ 2) (hl : l3 = tx_m w) (hn : (ps_i s 1131 10).toInt = a) (hd : d = tx_semi T N (if rel = true then ((h.1.1 ++ [(w, a)], h.1.2), h.2) else ((h.1.1, h.1.2 ++ [(w, a)]), h.2)) (tx_tok T N p).2.2.1) (k1 : ∀ s', mr_ok rb s0 s' T N d → R s') (k0 : ∀ s', mr_bad rb s0 s' d → R s') : pl_At n 204 213 [(0, .ref 1131), (1, .int x1), (3, .long l3)] [] s (ps_rV R) := by
  cases n with
  | zero => exact pl_At_0
  | succ n =>
  obtain ⟨hrb, h22, hT, hH, hp, hK, h23, hG⟩ := id L
  have a1 := hH.1.1
  have a2 := hH.1.2.1
  have c4 : (4 : Int32).toInt = 4 := by decide
  have c6 : (6 : Int32).toInt = 6 := by decide
  have m4 : ((4 : Int32) * (ps_i s 1131 22)).toInt = 4 * rb := by rw [xm01 h22 hrb, c4]
  have m6 : ((6 : Int32) * (ps_i s 1131 22)).toInt = 6 * rb := by rw [xm01 h22 hrb, c6]
  refine pl_204_213 ?_
  refine ⟨fun h214 => ?_, fun h214 => ?_⟩
  · have h214 : x1.toInt = (0 : Int) := xeq h214
    intro b264
    obtain ⟨b264, c264⟩ := pl_in b264
    intro b270
    obtain ⟨b270, c270⟩ := pl_in b270
    have hr : rel = false := by
      cases rel with
      | false => rfl
      | true => rw [if_pos rfl] at hx; omega
    subst hr
    have hlt' : h.1.2.length < 4 := hlt
    have e4 : (((4 : Int32) * (ps_i s 1131 22)) + (ps_a s 1136 rb)).toInt = (4 * rb + h.1.2.length : Nat) := by rw [xIa (by omega) (by omega)]; omega
    rw [xtn h22, xtn e4]
    exact fm_204_271 (rel := false) (mv_L_w L (mv_H_tfun hH) (kqa kq_refl rfl)) (mv_bk_tr F (mv_bk_a (Or.inr (Or.inr (Or.inr (Or.inr ⟨rfl, by omega, by omega⟩)))))) hx hlt hw ha hl (by show (ps_a (ps_ua s 1139 (4 * rb + h.1.2.length) (ps_i s 1131 10)) 1139 (4 * rb + h.1.2.length)).toInt = a; rw [ps_a_ua, if_pos ⟨rfl, rfl⟩]; exact hn) hd k1 k0
  · have h214 : x1.toInt ≠ (0 : Int) := xne h214
    intro b236
    obtain ⟨b236, c236⟩ := pl_in b236
    intro b242
    obtain ⟨b242, c242⟩ := pl_in b242
    have hr : rel = true := by
      cases rel with
      | true => rfl
      | false => rw [if_neg (by decide)] at hx; omega
    subst hr
    have hlt' : h.1.1.length < 6 := hlt
    have e6 : (((6 : Int32) * (ps_i s 1131 22)) + (ps_a s 1135 rb)).toInt = (6 * rb + h.1.1.length : Nat) := by rw [xIa (by omega) (by omega)]; omega
    rw [xtn h22, xtn e6]
    exact fm_204_271 (rel := true) (mv_L_w L (mv_H_trel hH) (kqa kq_refl rfl)) (mv_bk_tr F (mv_bk_a (Or.inr (Or.inr (Or.inr (Or.inl ⟨rfl, by omega, by omega⟩)))))) hx hlt hw ha hl (by show (ps_a (ps_ua s 1138 (6 * rb + h.1.1.length) (ps_i s 1131 10)) 1138 (6 * rb + h.1.1.length)).toInt = a; rw [ps_a_ua, if_pos ⟨rfl, rfl⟩]; exact hn) hd k1 k0
end
section
set_option maxRecDepth 100000
/-! the reference: readLine -/
theorem tx_y1 {T : Nat → Nat} {N p : Nat} {h : tx_H} {rel : Bool} (e : (tx_tok T N p).1 ≠ 2) : tx_sym T N rel h p = (4, h, (tx_tok T N p).2.1, tx_bk (tx_tok T N p)) := by
  unfold tx_sym
  dsimp only
  rw [if_neg e]
theorem tx_y2 {T : Nat → Nat} {N p : Nat} {h : tx_H} {rel : Bool} (e : (tx_tok T N p).1 = 2) (e2 : ¬ (tx_at (h.1.1.map Prod.fst) (tx_tok T N p).2.2.2.1 = none ∧ tx_at (h.1.2.map Prod.fst) (tx_tok T N p).2.2.2.1 = none)) : tx_sym T N rel h p = (4, h, (tx_tok T N p).2.1, 3) := by
  unfold tx_sym
  dsimp only
  rw [if_pos e, if_neg e2]
theorem tx_y3 {T : Nat → Nat} {N p : Nat} {h : tx_H} {rel : Bool} (e : (tx_tok T N p).1 = 2) (e2 : (tx_at (h.1.1.map Prod.fst) (tx_tok T N p).2.2.2.1 = none ∧ tx_at (h.1.2.map Prod.fst) (tx_tok T N p).2.2.2.1 = none)) (e3 : (tx_tok T N (tx_tok T N p).2.2.1).1 ≠ 4) : tx_sym T N rel h p = (4, h, (tx_tok T N (tx_tok T N p).2.2.1).2.1, tx_bk (tx_tok T N (tx_tok T N p).2.2.1)) := by
  unfold tx_sym
  dsimp only
  rw [if_pos e, if_pos e2, if_neg e3]
theorem tx_y4 {T : Nat → Nat} {N p : Nat} {h : tx_H} {rel : Bool} (e : (tx_tok T N p).1 = 2) (e2 : (tx_at (h.1.1.map Prod.fst) (tx_tok T N p).2.2.2.1 = none ∧ tx_at (h.1.2.map Prod.fst) (tx_tok T N p).2.2.2.1 = none)) (e3 : (tx_tok T N (tx_tok T N p).2.2.1).1 = 4) (e4 : ¬ (tx_tok T N (tx_tok T N p).2.2.1).2.2.2.2 ≤ 2) : tx_sym T N rel h p = (4, h, (tx_tok T N (tx_tok T N p).2.2.1).2.1, 4) := by
  unfold tx_sym
  dsimp only
  rw [if_pos e, if_pos e2, if_pos e3, if_neg e4]
theorem tx_y5 {T : Nat → Nat} {N p : Nat} {h : tx_H} {rel : Bool} (e : (tx_tok T N p).1 = 2) (e2 : (tx_at (h.1.1.map Prod.fst) (tx_tok T N p).2.2.2.1 = none ∧ tx_at (h.1.2.map Prod.fst) (tx_tok T N p).2.2.2.1 = none)) (e3 : (tx_tok T N (tx_tok T N p).2.2.1).1 = 4) (e4 : (tx_tok T N (tx_tok T N p).2.2.1).2.2.2.2 ≤ 2) : tx_sym T N rel h p = tx_semi T N (if rel = true then ((h.1.1 ++ [((tx_tok T N p).2.2.2.1, (tx_tok T N (tx_tok T N p).2.2.1).2.2.2.2)], h.1.2), h.2) else ((h.1.1, h.1.2 ++ [((tx_tok T N p).2.2.2.1, (tx_tok T N (tx_tok T N p).2.2.1).2.2.2.2)]), h.2)) (tx_tok T N (tx_tok T N p).2.2.1).2.2.1 := by
  unfold tx_sym
  dsimp only
  rw [if_pos e, if_pos e2, if_pos e3, if_pos e4]
theorem tx_z1 {T : Nat → Nat} {N p : Nat} {h : tx_H} (e : (tx_tok T N p).1 ≠ 2) : tx_axm T N h p = (4, h, (tx_tok T N p).2.1, tx_bk (tx_tok T N p)) := by
  unfold tx_axm
  dsimp only
  rw [if_neg e]
theorem tx_z2 {T : Nat → Nat} {N p : Nat} {h : tx_H} (e : (tx_tok T N p).1 = 2) (e2 : tx_at (tx_A h) (tx_tok T N p).2.2.2.1 ≠ none) : tx_axm T N h p = (4, h, (tx_tok T N p).2.1, 3) := by
  unfold tx_axm
  dsimp only
  rw [if_pos e, if_neg e2]
theorem tx_z3 {T : Nat → Nat} {N p : Nat} {h : tx_H} (e : (tx_tok T N p).1 = 2) (e2 : tx_at (tx_A h) (tx_tok T N p).2.2.2.1 = none) {S' : List tx_F} {pl k : Nat} {l' : List Nat} {fr' : List (List Nat)} (g : gt_go (tx_st T N (h.1, true)) (1, [], (tx_tok T N p).2.2.1, [], [], 0) (4, S', pl, l', fr', k)) : tx_axm T N h p = (4, h, pl, k) := by
  unfold tx_axm
  dsimp only
  rw [if_pos e, if_pos e2, gt_end_is g rfl]
  rfl
theorem tx_z4 {T : Nat → Nat} {N p : Nat} {h : tx_H} (e : (tx_tok T N p).1 = 2) (e2 : tx_at (tx_A h) (tx_tok T N p).2.2.2.1 = none) {p' : Nat} {l' : List Nat} {fr' : List (List Nat)} (g : gt_go (tx_st T N (h.1, true)) (1, [], (tx_tok T N p).2.2.1, [], [], 0) (2, [], p', l', fr', 0)) : tx_axm T N h p = tx_semi T N (h.1, h.2 ++ [((tx_tok T N p).2.2.2.1, l')]) p' := by
  have g5 := gt_trans g (gt_one (show tx_st T N (h.1, true) (2, [], p', l', fr', 0) = (3, [], p', l', fr', 0) from rfl))
  unfold tx_axm
  dsimp only
  rw [if_pos e, if_pos e2, gt_end_is g5 rfl]
  rfl
theorem mr_b1 {x1 : Int32} {rel : Bool} {h : tx_H} {s : ps_S} {rb : Nat} (hx : x1.toInt = (if rel = true then 1 else 0)) (hlt : if rel = true then h.1.1.length < 6 else h.1.2.length < 4) (H : mv_H s rb h) : (x1.toInt ≠ 0 → ∃ m : Nat, (ps_a s 1135 rb).toInt = m ∧ m < 6) ∧ (x1.toInt = 0 → ∃ m : Nat, (ps_a s 1136 rb).toInt = m ∧ m < 4) := by
  cases rel with
  | true =>
    have hx : x1.toInt = 1 := hx
    exact ⟨fun _ => ⟨_, H.1.1, hlt⟩, fun z => by omega⟩
  | false =>
    have hx : x1.toInt = 0 := hx
    exact ⟨fun z => by omega, fun _ => ⟨_, H.1.2.1, hlt⟩⟩
theorem mr_ax {i a : Int32} {rb m : Nat} (hi : i.toInt = rb) (hrb : rb < 2) (ha : a.toInt = m) (hm : m < 8) : (((8 : Int32) * i) + a).toInt = (8 * rb + m : Nat) ∧ ((21812 : Int32) + ((41 : Int32) * (((8 : Int32) * i) + a))).toInt = (21812 + 41 * (8 * rb + m) : Nat) := by
  have c8 : (8 : Int32).toInt = 8 := by decide
  have c41 : (41 : Int32).toInt = 41 := by decide
  have c2 : (21812 : Int32).toInt = 21812 := by decide
  have m8 : ((8 : Int32) * i).toInt = 8 * rb := by rw [xm01 hi hrb, c8]
  have e8 : (((8 : Int32) * i) + a).toInt = (8 * rb + m : Nat) := by rw [xIa (by omega) (by omega)]; omega
  have e41 : ((41 : Int32) * (((8 : Int32) * i) + a)).toInt = 41 * (8 * rb + m : Nat) := by rw [xIm (by rw [c41, e8]; omega) (by rw [c41, e8]; omega), c41, e8]
  exact ⟨e8, by rw [xIa (by omega) (by omega)]; omega⟩
theorem fm_209u {n to rb ph : Nat} {s : ps_S} {T : Nat → Nat} {N : Nat} {E : tx_E} {p : Nat} {fr : List (List Nat)} {x1 x2 x3 : Int32} {R : ps_S → Prop} (hx1 : x1.toInt = to) (hph : (x2.toInt = 0 ∧ ph = 0) ∨ (x2.toInt ≠ 0 ∧ ph = 1)) (hx3 : x3.toInt = (if E.2 = true then 1 else 0)) (hrb : rb < 2) (h22 : (ps_i s 1131 22).toInt = rb) (hT : mv_T s T N) (hE : mv_E s rb E.1) (hp : p ≤ N) (hK : mv_K s (tx_tok T N p)) (hP : mv_P s fr) (hG : mv_G s) (k : ∀ s', mx_ok to rb ph s s' T N E p fr ∨ mx_bad to ph s s' T N E p fr → R s') : pl_Cl n 209 [.ref 1131, .int x1, .int x2, .int x3] s (ps_rV R) :=
  fm_209 hx1 hph hx3 hrb h22 hT hE hp hK hP hG (fun s' h => k s' (Or.inl h)) (fun s' h => k s' (Or.inr h))
theorem fm_204_91b {n rb : Nat} {s0 s : ps_S} {R : ps_S → Prop} {d : tx_D4} {x1 x2 : Int32} {h' : tx_H} {pl kk : Nat} (hd : d = (4, h', pl, kk)) (hf : mr_f rb s0 s kk pl) (k0 : ∀ s', mr_bad rb s0 s' d → R s') : pl_At n 204 91 [(0, .ref 1131), (1, .int x1), (2, .int x2)] [] s (ps_rV R) := by
  cases n with
  | zero => exact pl_At_0
  | succ n =>
  have hb : (ps_i s 1131 5).toInt ≠ 0 := by have := hf.1; have := hf.2.1; omega
  refine pl_204_91 ?_
  exact fm_192 (fun z => absurd z hb) (fun _ => ⟨fun h => absurd rfl h, fun _ => k0 _ ⟨h', pl, kk, hd, hf⟩⟩)
theorem fm_204_27b {n rb : Nat} {s0 s : ps_S} {R : ps_S → Prop} {d : tx_D4} {x1 x2 : Int32} {h' : tx_H} {pl kk : Nat} (hd : d = (4, h', pl, kk)) (hf : mr_f rb s0 s kk pl) (k0 : ∀ s', mr_bad rb s0 s' d → R s') : pl_At n 204 27 [(0, .ref 1131), (1, .int x1), (2, .int x2)] [] s (ps_rV R) := by
  cases n with
  | zero => exact pl_At_0
  | succ n =>
  have hb : (ps_i s 1131 5).toInt ≠ 0 := by have := hf.1; have := hf.2.1; omega
  refine pl_204_27 ?_
  exact fm_192 (fun z => absurd z hb) (fun _ => ⟨fun h => absurd rfl h, fun _ => k0 _ ⟨h', pl, kk, hd, hf⟩⟩)
theorem fm_204_82 {n rb : Nat} {s0 s : ps_S} {T : Nat → Nat} {N : Nat} {R : ps_S → Prop} {d : tx_D4} {x1 x2 : Int32} {h : tx_H} {p : Nat} (L : mv_L s rb T N h p) (F : mv_bk rb s0 s) (hd : d = (4, h, (tx_tok T N p).2.1, 3)) (k0 : ∀ s', mr_bad rb s0 s' d → R s') : pl_At n 204 82 [(0, .ref 1131), (1, .int x1), (2, .int x2)] [] s (ps_rV R) := by
  cases n with
  | zero => exact pl_At_0
  | succ n =>
  obtain ⟨hrb, h22, hT, hH, hp, hK, h23, hG⟩ := id L
  refine pl_204_82 ?_
  refine fm_191 hG.1 ?_
  exact fm_204_91b hd ⟨by decide, rfl, hK.2.1, mv_bk_tr F (mv_bk_kq (kqi (kqi kq_refl rfl) rfl : kq [] [5, 6] s _) (by decide) (by decide))⟩ k0

theorem fm_204_91s {n rb : Nat} {s0 s : ps_S} {T : Nat → Nat} {N : Nat} {R : ps_S → Prop} {d : tx_D4} {x1 x2 : Int32} {rel : Bool} {h : tx_H} {p : Nat} (L : mv_L s rb T N h p) (F : mv_bk rb s0 s) (ht : (tx_tok T N p).1 = 2) (hx2 : x2.toInt = 0) (hx : x1.toInt = (if rel = true then 1 else 0)) (hlt : if rel = true then h.1.1.length < 6 else h.1.2.length < 4) (hn : (tx_at (h.1.1.map Prod.fst) (tx_tok T N p).2.2.2.1 = none ∧ tx_at (h.1.2.map Prod.fst) (tx_tok T N p).2.2.2.1 = none)) (hd : d = tx_sym T N rel h p) (k1 : ∀ s', mr_ok rb s0 s' T N d → R s') (k0 : ∀ s', mr_bad rb s0 s' d → R s') : pl_At n 204 91 [(0, .ref 1131), (1, .int x1), (2, .int x2)] [] s (ps_rV R) := by
  cases n with
  | zero => exact pl_At_0
  | succ n =>
  obtain ⟨hrb, h22, hT, hH, hp, hK, h23, hG⟩ := id L
  have hq := (tx_tok_ok (T := T) hp).2.1
  have hw := (tx_tok_ok (T := T) hp).2.2.2.1 ht
  have hl := hK.2.2.2.1 (Or.inl ht)
  refine pl_204_91 ?_
  refine fm_192 (fun q92 => ?_) (fun q92 => ?_)
  · refine ⟨fun h95 => ?_, fun h95 => ?_⟩
    · refine fs_194 hT hK.2.2.1 hq (fun s105 q105 => ?_)
      have L2 := mv_L_adv L hq q105
      have F2 := mv_bk_tr F (mv_bk_kq q105.1 (by decide) (by decide))
      obtain ⟨-, j22, jT, jH, -, jK, j23, jG⟩ := id L2
      have j9 := jK.1
      refine ⟨fun h109 => ?_, fun h109 => ?_⟩
      · have h109 : x2.toInt = (0 : Int) := xeq h109
        refine ⟨fun h186 => ?_, fun h186 => ?_⟩
        · have h186 : (ps_i s105 1131 9).toInt = (4 : Int) := xeq h186
          refine ⟨fun h201 => ?_, fun h201 => ?_⟩
          · have h201 : (ps_i s105 1131 10).toInt ≤ (2 : Int) := xle h201
            exact fm_204_213 L2 F2 hx hlt hw (by have := jK.2.2.2.2 (by omega); omega) hl (jK.2.2.2.2 (by omega)) (hd.trans (tx_y5 ht hn (by omega) (by have := jK.2.2.2.2 (by omega); omega))) k1 k0
          · have h201 : (2 : Int) < (ps_i s105 1131 10).toInt := xlt h201
            refine fm_191 jG.1 ?_
            exact fm_204_213b (hd.trans (tx_y4 ht hn (by omega) (by have := jK.2.2.2.2 (by omega); omega))) ⟨by decide, rfl, jK.2.1, mv_bk_tr F2 (mv_bk_kq (kqi (kqi kq_refl rfl) rfl : kq [] [5, 6] s105 _) (by decide) (by decide))⟩ hrb j22 (mr_b1 hx hlt jH).1 (mr_b1 hx hlt jH).2 k0
        · have h186 : (ps_i s105 1131 9).toInt ≠ (4 : Int) := xne h186
          refine fm_196 jG.1 jK (fun s190 q190 => ?_)
          have e3 : (tx_tok T N (tx_tok T N p).2.2.1).1 ≠ 4 := by omega
          have b1 := mr_b1 hx hlt (mv_H_kq jH q190.2.2 (by decide))
          exact fm_204_213b (hd.trans (tx_y3 ht hn e3)) (mr_f_mis F2 q190.1 q190.2.1 q190.2.2) hrb (by rw [kq_i q190.2.2 22 (by decide)]; exact j22) b1.1 b1.2 k0
      · have h109 : x2.toInt ≠ (0 : Int) := xne h109
        intro b131
        obtain ⟨b131, c131⟩ := pl_in b131
        intro b134
        obtain ⟨b134, c134⟩ := pl_in b134
        intro b156
        obtain ⟨b156, c156⟩ := pl_in b156
        exfalso; omega
    · exact absurd h95 (by decide)
  · refine ⟨fun h95 => ?_, fun h95 => ?_⟩
    · exact absurd h95 (by decide)
    · exact absurd hG.1 q92
theorem fm_204_91a {n rb : Nat} {s0 s : ps_S} {T : Nat → Nat} {N : Nat} {R : ps_S → Prop} {d : tx_D4} {x1 x2 : Int32} {h : tx_H} {p : Nat} (L : mv_L s rb T N h p) (F : mv_bk rb s0 s) (ht : (tx_tok T N p).1 = 2) (hx2 : x2.toInt ≠ 0) (hlt : h.2.length < 8) (hn : tx_at (tx_A h) (tx_tok T N p).2.2.2.1 = none) (hd : d = tx_axm T N h p) (k1 : ∀ s', mr_ok rb s0 s' T N d → R s') (k0 : ∀ s', mr_bad rb s0 s' d → R s') : pl_At n 204 91 [(0, .ref 1131), (1, .int x1), (2, .int x2)] [] s (ps_rV R) := by
  cases n with
  | zero => exact pl_At_0
  | succ n =>
  obtain ⟨hrb, h22, hT, hH, hp, hK, h23, hG⟩ := id L
  have hq := (tx_tok_ok (T := T) hp).2.1
  have hw := (tx_tok_ok (T := T) hp).2.2.2.1 ht
  have hl := hK.2.2.2.1 (Or.inl ht)
  refine pl_204_91 ?_
  refine fm_192 (fun q92 => ?_) (fun q92 => ?_)
  · refine ⟨fun h95 => ?_, fun h95 => ?_⟩
    · refine fs_194 hT hK.2.2.1 hq (fun s105 q105 => ?_)
      have L2 := mv_L_adv L hq q105
      have F2 := mv_bk_tr F (mv_bk_kq q105.1 (by decide) (by decide))
      obtain ⟨-, j22, jT, jH, -, jK, j23, jG⟩ := id L2
      have j9 := jK.1
      refine ⟨fun h109 => ?_, fun h109 => ?_⟩
      · have h109 : x2.toInt = (0 : Int) := xeq h109
        refine ⟨fun h186 => ?_, fun h186 => ?_⟩
        · have h186 : (ps_i s105 1131 9).toInt = (4 : Int) := xeq h186
          refine ⟨fun h201 => ?_, fun h201 => ?_⟩
          · have h201 : (ps_i s105 1131 10).toInt ≤ (2 : Int) := xle h201
            exfalso; omega
          · have h201 : (2 : Int) < (ps_i s105 1131 10).toInt := xlt h201
            exfalso; omega
        · have h186 : (ps_i s105 1131 9).toInt ≠ (4 : Int) := xne h186
          exfalso; omega
      · have h109 : x2.toInt ≠ (0 : Int) := xne h109
        intro b131
        obtain ⟨b131, c131⟩ := pl_in b131
        intro b134
        obtain ⟨b134, c134⟩ := pl_in b134
        intro b156
        obtain ⟨b156, c156⟩ := pl_in b156
        rw [xtn j22, xtn (mr_ax j22 hrb jH.2.1 hlt).1]
        have L3 : mv_L (ps_ub s105 1142 (8 * rb + h.2.length) (ps_j s 1131 11)) rb T N h (tx_tok T N p).2.2.1 := mv_L_w L2 (mv_H_bax jH) (kqb kq_refl rfl)
        have F3 := mv_bk_tr F2 (mv_bk_b (v := ps_j s 1131 11) (i := 8 * rb + h.2.length) (Or.inr (Or.inr ⟨rfl, by omega, by omega⟩)))
        refine fm_209u (to := 21812 + 41 * (8 * rb + h.2.length)) (rb := rb) (ph := 1) (E := (h.1, true)) (p := (tx_tok T N p).2.2.1) (fr := []) (mr_ax j22 hrb (by show (ps_a s105 1137 (ps_i s105 1131 22).toNatClampNeg).toInt = _; rw [xtn j22]; exact jH.2.1) hlt).2 (Or.inr ⟨by decide, rfl⟩) rfl hrb j22 L3.2.2.1 L3.2.2.2.1.1 hq L3.2.2.2.2.2.1 ⟨j23, Nat.zero_le _, fun k w z => by cases z⟩ L3.2.2.2.2.2.2.2 (fun s162 q162 => ?_)
        intro b174
        obtain ⟨b174, c174⟩ := pl_in b174
        intro b177
        obtain ⟨b177, c177⟩ := pl_in b177
        rcases q162 with q | q
        · obtain ⟨p', l', fr', g1, g2, g3, g4⟩ := q
          have hfr : fr' = [] := tx_go_fr (E := (h.1, true)) rfl g1
          have H4 := mv_H_row L3.2.2.2.1 (Nat.le_refl _) g4
          have k22 := g2.2.1
          rw [xtn k22]
          have H5 := mv_H_axm H4 hlt hw (by rw [kq_b g4.1 1142 (by decide), ps_b_ub, if_pos ⟨rfl, rfl⟩]; exact hl) g3.2.2.2.2.2.2.1
          have K5 : kq [1137] [] s162 (ps_ua s162 1137 rb (ps_a s162 1137 rb + 1)) := kqa kq_refl rfl
          have L5 : mv_L (ps_ua s162 1137 rb (ps_a s162 1137 rb + 1)) rb T N (h.1, h.2 ++ [((tx_tok T N p).2.2.2.1, l')]) p' := ⟨hrb, k22, mv_T_kq g2.2.2.2.1 K5 (by decide) (by decide), H5, g3.1, mv_K_kq g3.2.2.1 K5 (by decide), (by have z := g3.2.2.2.2.2.2.2.1.1; rw [hfr] at z; exact z), mv_G_kq g3.2.2.2.2.2.2.2.2 K5 (by decide) (by decide)⟩
          exact fm_204_360 L5 (mv_bk_tr (mv_bk_tr F3 (mv_bk_row hlt g4)) (mv_bk_a (Or.inr (Or.inr (Or.inl ⟨rfl, rfl⟩))))) (hd.trans (tx_z4 ht hn g1)) k1 k0
        · obtain ⟨S', pl, l', fr', kk, g1, g2, g3, g4, g5⟩ := q
          have k22 : (ps_i s162 1131 22).toInt = rb := by rw [kq_i g5.1 22 (by decide)]; exact j22
          rw [xtn k22]
          exact fm_204_360b (hd.trans (tx_z3 ht hn g1)) (mr_f_tr ⟨g2, g3, g4, mv_bk_tr F3 (mv_bk_row hlt g5)⟩ (mv_bk_a (Or.inr (Or.inr (Or.inl ⟨rfl, rfl⟩)))) rfl rfl) k0
    · exact absurd h95 (by decide)
  · refine ⟨fun h95 => ?_, fun h95 => ?_⟩
    · exact absurd h95 (by decide)
    · exact absurd hG.1 q92

theorem fm_204_27 {n rb : Nat} {s0 s : ps_S} {T : Nat → Nat} {N : Nat} {R : ps_S → Prop} {d : tx_D4} {x1 x2 : Int32} {h : tx_H} {p : Nat} (L : mv_L s rb T N h p) (F : mv_bk rb s0 s) (hk : (x2.toInt ≠ 0 ∧ h.2.length < 8 ∧ d = tx_axm T N h (tx_tok T N p).2.2.1) ∨ ∃ rel : Bool, x2.toInt = 0 ∧ x1.toInt = (if rel = true then 1 else 0) ∧ (if rel = true then h.1.1.length < 6 else h.1.2.length < 4) ∧ d = tx_sym T N rel h (tx_tok T N p).2.2.1) (k1 : ∀ s', mr_ok rb s0 s' T N d → R s') (k0 : ∀ s', mr_bad rb s0 s' d → R s') : pl_At n 204 27 [(0, .ref 1131), (1, .int x1), (2, .int x2)] [] s (ps_rV R) := by
  cases n with
  | zero => exact pl_At_0
  | succ n =>
  obtain ⟨hrb, h22, hT, hH, hp, hK, h23, hG⟩ := id L
  have hq := (tx_tok_ok (T := T) hp).2.1
  refine pl_204_27 ?_
  refine fm_192 (fun q28 => ?_) (fun q28 => ?_)
  · refine ⟨fun h31 => ?_, fun h31 => ?_⟩
    · refine fs_194 hT hK.2.2.1 hq (fun s36 q36 => ?_)
      have L2 := mv_L_adv L hq q36
      have F2 := mv_bk_tr F (mv_bk_kq q36.1 (by decide) (by decide))
      obtain ⟨-, j22, jT, jH, jp, jK, j23, jG⟩ := id L2
      have j9 := jK.1
      refine ⟨fun h44 => ?_, fun h44 => ?_⟩
      · have h44 : (ps_i s36 1131 9).toInt = (2 : Int) := xeq h44
        refine ⟨fun h55 => ?_, fun h55 => ?_⟩
        · have h55 : x2.toInt = (0 : Int) := xeq h55
          refine fm_206 (E := (h.1, true)) hrb j22 jH.1 jp jK (fun v69 q69 => ?_)
          refine ⟨fun h72 => ?_, fun h72 => ?_⟩
          · have h72 : (0 : Int) ≤ v69.toInt := xle h72
            rcases hk with ⟨y0, y2, y3⟩ | ⟨rel, y0, y1, y2, y3⟩
            · exfalso; omega
            have h2 : (tx_tok T N (tx_tok T N p).2.2.1).1 = 2 := by omega
            rw [if_pos h2] at q69
            exact fm_204_82 L2 F2 (y3.trans (tx_y2 h2 (fun z => by have := (tx_opt_n q69).mpr z.1; omega))) k0
          · have h72 : v69.toInt < (0 : Int) := xlt h72
            refine fm_207 (E := (h.1, true)) hrb j22 jH.1 jp jK (fun v76 q76 => ?_)
            refine ⟨fun h79 => ?_, fun h79 => ?_⟩
            · have h79 : v76.toInt < (0 : Int) := xlt h79
              rcases hk with ⟨y0, y2, y3⟩ | ⟨rel, y0, y1, y2, y3⟩
              · exfalso; omega
              have h2 : (tx_tok T N (tx_tok T N p).2.2.1).1 = 2 := by omega
              rw [if_pos h2] at q69 q76
              exact fm_204_91s L2 F2 h2 y0 y1 y2 ⟨(tx_opt_n q69).mp (by omega), (tx_opt_n q76).mp (by omega)⟩ y3 k1 k0
            · have h79 : (0 : Int) ≤ v76.toInt := xle h79
              rcases hk with ⟨y0, y2, y3⟩ | ⟨rel, y0, y1, y2, y3⟩
              · exfalso; omega
              have h2 : (tx_tok T N (tx_tok T N p).2.2.1).1 = 2 := by omega
              rw [if_pos h2] at q76
              exact fm_204_82 L2 F2 (y3.trans (tx_y2 h2 (fun z => by have := (tx_opt_n q76).mpr z.2; omega))) k0
        · have h55 : x2.toInt ≠ (0 : Int) := xne h55
          refine fm_205 L2 (fun v59 q59 => ?_)
          refine ⟨fun h62 => ?_, fun h62 => ?_⟩
          · have h62 : v59.toInt < (0 : Int) := xlt h62
            have hk2 : h.2.length < 8 ∧ d = tx_axm T N h (tx_tok T N p).2.2.1 := by
              rcases hk with ⟨y0, y2, y3⟩ | ⟨rel, y0, y1, y2, y3⟩
              · exact ⟨y2, y3⟩
              · exfalso; omega
            obtain ⟨y2, y3⟩ := hk2
            have y0 : x2.toInt ≠ 0 := by omega
            have h2 : (tx_tok T N (tx_tok T N p).2.2.1).1 = 2 := by omega
            rw [if_pos h2] at q59
            exact fm_204_91a L2 F2 h2 y0 y2 ((tx_opt_n q59).mp (by omega)) y3 k1 k0
          · have h62 : (0 : Int) ≤ v59.toInt := xle h62
            have hk2 : h.2.length < 8 ∧ d = tx_axm T N h (tx_tok T N p).2.2.1 := by
              rcases hk with ⟨y0, y2, y3⟩ | ⟨rel, y0, y1, y2, y3⟩
              · exact ⟨y2, y3⟩
              · exfalso; omega
            obtain ⟨y2, y3⟩ := hk2
            have y0 : x2.toInt ≠ 0 := by omega
            have h2 : (tx_tok T N (tx_tok T N p).2.2.1).1 = 2 := by omega
            rw [if_pos h2] at q59
            exact fm_204_82 L2 F2 (y3.trans (tx_z2 h2 (fun z => by have := (tx_opt_n q59).mpr z; omega))) k0
      · have h44 : (ps_i s36 1131 9).toInt ≠ (2 : Int) := xne h44
        refine fm_196 jG.1 jK (fun s48 q48 => ?_)
        have hd : d = (4, h, (tx_tok T N (tx_tok T N p).2.2.1).2.1, tx_bk (tx_tok T N (tx_tok T N p).2.2.1)) := by
          rcases hk with ⟨y0, y2, y3⟩ | ⟨rel, y0, y1, y2, y3⟩
          · exact y3.trans (tx_z1 (by omega))
          · exact y3.trans (tx_y1 (by omega))
        exact fm_204_91b hd (mr_f_mis F2 q48.1 q48.2.1 q48.2.2) k0
    · exact absurd h31 (by decide)
  · refine ⟨fun h31 => ?_, fun h31 => ?_⟩
    · exact absurd h31 (by decide)
    · exact absurd hG.1 q28
theorem fm_204 {n rb : Nat} {s0 s : ps_S} {T : Nat → Nat} {N : Nat} {R : ps_S → Prop} {d : tx_D4} {h : tx_H} {p : Nat} (L : mv_L s rb T N h p) (F : mv_bk rb s0 s) (h0 : (tx_tok T N p).1 ≠ 0) (hd : d = tx_ln T N (0, h, p, 0)) (k1 : ∀ s', mr_ok rb s0 s' T N d → R s') (k0 : ∀ s', mr_bad rb s0 s' d → R s') : pl_Cl n 204 [.ref 1131] s (ps_rV R) := by
  cases n with
  | zero => exact pl_At_0
  | succ n =>
  show pl_At (n + 1) 204 0 [(0, .ref 1131)] [] s (ps_rV R)
  obtain ⟨hrb, h22, hT, hH, hp, hK, h23, hG⟩ := id L
  refine pl_204_0 ?_
  refine fm_195 (w := [114, 101, 108]) (q := 8) hK (by decide) (by decide +kernel) (fun q4 => ?_) (fun q4 => ?_)
  · refine fm_195 (w := [97, 120, 105, 111, 109]) (q := 10) hK (by decide) (by decide +kernel) (fun q12 => ?_) (fun q12 => ?_)
    · refine fm_203 L (fun q17 => ?_) (fun q17 => ?_)
      · refine ⟨fun h20 => ?_, fun h20 => ?_⟩
        · exact absurd h20 (by decide)
        · refine fm_196 hG.1 hK (fun s24 q24 => ?_)
          exact fm_204_27b (hd.trans (tx_l_bad h0 q17)) (mr_f_mis F q24.1 q24.2.1 q24.2.2) k0
      · refine ⟨fun h20 => ?_, fun h20 => ?_⟩
        · exfalso; omega
        · exact absurd h20 (by decide)
    · refine fm_203 L (fun q17 => ?_) (fun q17 => ?_)
      · refine ⟨fun h20 => ?_, fun h20 => ?_⟩
        · exact absurd h20 (by decide)
        · refine fm_196 hG.1 hK (fun s24 q24 => ?_)
          exact fm_204_27b (hd.trans (tx_l_bad h0 q17)) (mr_f_mis F q24.1 q24.2.1 q24.2.2) k0
      · refine ⟨fun h20 => ?_, fun h20 => ?_⟩
        · exact fm_204_27 L F (Or.inr ⟨true, rfl, rfl, (show h.1.1.length < 6 by omega), hd.trans (tx_l_rel q4.1 q4.2 (by omega))⟩) k1 k0
        · exact absurd h20 (by decide)
  · refine fm_195 (w := [97, 120, 105, 111, 109]) (q := 10) hK (by decide) (by decide +kernel) (fun q12 => ?_) (fun q12 => ?_)
    · refine fm_203 L (fun q17 => ?_) (fun q17 => ?_)
      · refine ⟨fun h20 => ?_, fun h20 => ?_⟩
        · exact absurd h20 (by decide)
        · refine fm_196 hG.1 hK (fun s24 q24 => ?_)
          exact fm_204_27b (hd.trans (tx_l_bad h0 q17)) (mr_f_mis F q24.1 q24.2.1 q24.2.2) k0
      · refine ⟨fun h20 => ?_, fun h20 => ?_⟩
        · exact fm_204_27 L F (Or.inl ⟨by decide, by omega, hd.trans (tx_l_axm q12.1 q12.2 (by omega))⟩) k1 k0
        · exact absurd h20 (by decide)
    · refine fm_203 L (fun q17 => ?_) (fun q17 => ?_)
      · refine ⟨fun h20 => ?_, fun h20 => ?_⟩
        · exact absurd h20 (by decide)
        · refine fm_196 hG.1 hK (fun s24 q24 => ?_)
          exact fm_204_27b (hd.trans (tx_l_bad h0 q17)) (mr_f_mis F q24.1 q24.2.1 q24.2.2) k0
      · refine ⟨fun h20 => ?_, fun h20 => ?_⟩
        · exact fm_204_27 L F (Or.inr ⟨false, rfl, rfl, (show h.1.2.length < 4 by omega), hd.trans (tx_l_fun (by omega) (by omega) (by omega))⟩) k1 k0
        · exact absurd h20 (by decide)
end
section
set_option maxRecDepth 100000
/-! the reference: theory -/
-- ProofBenchModel.beginText()V
theorem pl_198_0 {n : Nat} {s : ps_S} {Q : Option Value → ps_S → Prop} (h :
  pl_At n 198 20 [(0, .ref 1131), (1, .int 0)] [] (ps_ui (ps_ui (ps_ui s 1131 5 0) 1131 6 (-1)) 1131 4 (ps_i (ps_ui (ps_ui s 1131 5 0) 1131 6 (-1)) 1131 3)) Q) : pl_At (n + 1) 198 0 [(0, .ref 1131)] [] s Q :=
  pl_wp_at (stops := [(20, [0, 1])]) (f := 14) h rfl

theorem pl_198_20 {n : Nat} {x1 : Int32} {s : ps_S} {Q : Option Value → ps_S → Prop} (h :
  ((ps_i s 1131 4) ≤ x1 →
    pl_Cl n 194 [.ref 1131] (ps_ui (ps_ui (ps_ui (ps_ui s 1131 3 0) 1131 8 0) 1131 23 0) 1131 22 (ps_i (ps_ui (ps_ui (ps_ui s 1131 3 0) 1131 8 0) 1131 23 0) 1131 21)) (ps_rV (fun s1 =>
      Q none s1))) ∧
  (x1 < (ps_i s 1131 4) →
    (pm_in x1 1620 = true →
      (pm_in x1 1600 = true →
        pl_At n 198 20 [(0, .ref 1131), (1, .int (x1 + 1))] [] (ps_ua s 1133 (Int32.toNatClampNeg x1) (Int8.toInt32 (Int32.toInt8 (ps_a s 1132 (Int32.toNatClampNeg x1))))) Q)))) : pl_At (n + 1) 198 20 [(0, .ref 1131), (1, .int x1)] [] s Q :=
  pl_wp_at (stops := [(20, [0, 1])]) (f := 32) h rfl

-- ProofBenchModel.begin()V
theorem pl_202_0 {n : Nat} {s : ps_S} {Q : Option Value → ps_S → Prop} (h :
  (pm_in (25748 : Int32) 27400 = true →
    (pm_in (25789 : Int32) 27400 = true →
      Q none (ps_ua (ps_ua (ps_ui (ps_ui (ps_ui (ps_ui s 1131 47 0) 1131 48 (-1)) 1131 49 (-1)) 1131 54 0) 1134 (Int32.toNatClampNeg (25748 : Int32)) 0) 1134 (Int32.toNatClampNeg (25789 : Int32)) 0)))) : pl_At (n + 1) 202 0 [(0, .ref 1131)] [] s Q :=
  pl_wp_at (stops := []) (f := 25) h rfl

-- ProofBenchModel.theory()I
theorem pl_201_0 {n : Nat} {s : ps_S} {Q : Option Value → ps_S → Prop} (h :
  pl_Cl n 198 [.ref 1131] s (ps_rV (fun s1 =>
    (pm_in (ps_i (ps_ui s1 1131 22 ((1 : Int32) - (ps_i s1 1131 21))) 1131 22) 2 = true →
      (pm_in (ps_i (ps_ua (ps_ui s1 1131 22 ((1 : Int32) - (ps_i s1 1131 21))) 1135 (Int32.toNatClampNeg (ps_i (ps_ui s1 1131 22 ((1 : Int32) - (ps_i s1 1131 21))) 1131 22)) 0) 1131 22) 2 = true →
        (pm_in (ps_i (ps_ua (ps_ua (ps_ui s1 1131 22 ((1 : Int32) - (ps_i s1 1131 21))) 1135 (Int32.toNatClampNeg (ps_i (ps_ui s1 1131 22 ((1 : Int32) - (ps_i s1 1131 21))) 1131 22)) 0) 1136 (Int32.toNatClampNeg (ps_i (ps_ua (ps_ui s1 1131 22 ((1 : Int32) - (ps_i s1 1131 21))) 1135 (Int32.toNatClampNeg (ps_i (ps_ui s1 1131 22 ((1 : Int32) - (ps_i s1 1131 21))) 1131 22)) 0) 1131 22)) 0) 1131 22) 2 = true →
          pl_At n 201 44 [(0, .ref 1131)] [] (ps_ua (ps_ua (ps_ua (ps_ui s1 1131 22 ((1 : Int32) - (ps_i s1 1131 21))) 1135 (Int32.toNatClampNeg (ps_i (ps_ui s1 1131 22 ((1 : Int32) - (ps_i s1 1131 21))) 1131 22)) 0) 1136 (Int32.toNatClampNeg (ps_i (ps_ua (ps_ui s1 1131 22 ((1 : Int32) - (ps_i s1 1131 21))) 1135 (Int32.toNatClampNeg (ps_i (ps_ui s1 1131 22 ((1 : Int32) - (ps_i s1 1131 21))) 1131 22)) 0) 1131 22)) 0) 1137 (Int32.toNatClampNeg (ps_i (ps_ua (ps_ua (ps_ui s1 1131 22 ((1 : Int32) - (ps_i s1 1131 21))) 1135 (Int32.toNatClampNeg (ps_i (ps_ui s1 1131 22 ((1 : Int32) - (ps_i s1 1131 21))) 1131 22)) 0) 1136 (Int32.toNatClampNeg (ps_i (ps_ua (ps_ui s1 1131 22 ((1 : Int32) - (ps_i s1 1131 21))) 1135 (Int32.toNatClampNeg (ps_i (ps_ui s1 1131 22 ((1 : Int32) - (ps_i s1 1131 21))) 1131 22)) 0) 1131 22)) 0) 1131 22)) 0) Q)))))) : pl_At (n + 1) 201 0 [(0, .ref 1131)] [] s Q :=
  pl_wp_at (stops := [(44, [0]), (65, [0]), (88, [0, 1])]) (f := 28) h rfl

theorem pl_201_44 {n : Nat} {s : ps_S} {Q : Option Value → ps_S → Prop} (h :
  pl_Cl n 192 [.ref 1131] s (ps_rI (fun v1 s1 =>
    (v1 = 0 →
      pl_At n 201 65 [(0, .ref 1131)] [] s1 Q) ∧
    (v1 ≠ 0 →
      ((ps_i s1 1131 9) = 0 →
        pl_At n 201 65 [(0, .ref 1131)] [] s1 Q) ∧
      ((ps_i s1 1131 9) ≠ 0 →
        pl_Cl n 204 [.ref 1131] s1 (ps_rV (fun s2 =>
          pl_At n 201 44 [(0, .ref 1131)] [] s2 Q))))))) : pl_At (n + 1) 201 44 [(0, .ref 1131)] [] s Q :=
  pl_wp_at (stops := [(44, [0]), (65, [0]), (88, [0, 1])]) (f := 11) h rfl

theorem pl_201_65 {n : Nat} {s : ps_S} {Q : Option Value → ps_S → Prop} (h :
  pl_Cl n 192 [.ref 1131] s (ps_rI (fun v1 s1 =>
    (v1 ≠ 0 →
      pl_Cl n 202 [.ref 1131] (ps_ui s1 1131 21 (ps_i s1 1131 22)) (ps_rV (fun s2 =>
        pl_At n 201 88 [(0, .ref 1131), (1, .int 0)] [] s2 Q))) ∧
    (v1 = 0 →
      Q (some (.int (-1))) s1)))) : pl_At (n + 1) 201 65 [(0, .ref 1131)] [] s Q :=
  pl_wp_at (stops := [(44, [0]), (65, [0]), (88, [0, 1])]) (f := 15) h rfl

theorem pl_201_88 {n : Nat} {x1 : Int32} {s : ps_S} {Q : Option Value → ps_S → Prop} (h :
  (3 ≤ x1 →
    (pm_in (ps_i s 1131 21) 2 = true →
      Q (some (.int (ps_a s 1137 (Int32.toNatClampNeg (ps_i s 1131 21))))) s)) ∧
  (x1 < 3 →
    (pm_in x1 3 = true →
      pl_At n 201 88 [(0, .ref 1131), (1, .int (x1 + 1))] [] (ps_ua s 1176 (Int32.toNatClampNeg x1) (-1)) Q))) : pl_At (n + 1) 201 88 [(0, .ref 1131), (1, .int x1)] [] s Q :=
  pl_wp_at (stops := [(44, [0]), (65, [0]), (88, [0, 1])]) (f := 18) h rfl

theorem xb8 (x : Int32) : (x.toInt8.toInt32 &&& 255) = x &&& 255 := by
  apply Int32.toBitVec_inj.mp
  rw [Int32.toBitVec_and, Int32.toBitVec_and]
  apply BitVec.eq_of_getLsbD_eq
  intro i hi
  rw [BitVec.getLsbD_and, BitVec.getLsbD_and]
  by_cases h : i < 8
  · have e : (x.toInt8.toInt32).toBitVec.getLsbD i = x.toBitVec.getLsbD i := by
      show ((x.toBitVec.signExtend 8).signExtend 32).getLsbD i = _
      simp only [BitVec.getLsbD_signExtend]
      simp [h, hi]
    rw [e]
  · have e : (255 : Int32).toBitVec.getLsbD i = false := by
      exact (show ∀ i, i < 32 → ¬ i < 8 → (255#32).getLsbD i = false by decide) i hi h
    rw [e, Bool.and_false, Bool.and_false]
def mTF : List Nat := [3, 4, 22, 21, 47, 48, 49, 54, 32, 5, 6, 7, 8, 9, 10, 11, 23, 29, 30, 31]
def mTB : List Nat := 1133 :: 1176 :: mTA
def mb_F : List Nat := [3, 4, 5, 6, 7, 8, 9, 10, 11, 22, 23]
/-- after beginText -/
def mb_ok (b : Nat) (T : Nat → Nat) (N : Nat) (s s' : ps_S) : Prop := kq [1133] mb_F s s' ∧ mv_T s' T N ∧ mv_K s' (tx_tok T N 0) ∧ mv_G s' ∧ (ps_i s' 1131 23).toInt = 0 ∧ (ps_i s' 1131 22).toInt = b ∧ (ps_i s' 1131 3).toInt = 0
theorem fm_198_20 {b : Nat} {s0 : ps_S} {T : Nat → Nat} {N : Nat} {R : ps_S → Prop} (h21 : (ps_i s0 1131 21).toInt = b) (hN : N ≤ 1600) (hT : ∀ k, k < N → (ps_a s0 1132 k &&& 255).toInt = T k) (k : ∀ s', mb_ok b T N s0 s' → R s') : ∀ (n : Nat) {s : ps_S} {x1 : Int32} {i : Nat}, x1.toInt = i → i ≤ N → (ps_i s 1131 4).toInt = N → mv_G s → kq [1133] [4, 5, 6] s0 s → (∀ j, j < i → (ps_a s 1133 j &&& 255).toInt = T j) → pl_At n 198 20 [(0, .ref 1131), (1, .int x1)] [] s (ps_rV R)
  | 0, _, _, _, _, _, _, _, _, _ => pl_At_0
  | n + 1, s, x1, i, hx, hi, h4, hG, K, hj => by
    refine pl_198_20 ?_
    refine ⟨fun h25 => ?_, fun h25 => ?_⟩
    · have h25 : (ps_i s 1131 4).toInt ≤ x1.toInt := xle h25
      refine fs_194 (T := T) (N := N) (p := 0) (show mv_T _ T N from ⟨h4, hN, fun k hk => hj k (by omega)⟩) rfl (Nat.zero_le _) (fun s70 q70 => ?_)
      obtain ⟨K2, k2⟩ := q70
      have K3 : kq [1133] mb_F s0 s70 := kqt (kqi (kqi (kqi (kqi (kqt kq_refl K (by decide) (by decide)) rfl) rfl) rfl) rfl) K2 (by decide) (by decide)
      refine k _ ⟨K3, mv_T_kq (show mv_T (ps_ui (ps_ui (ps_ui (ps_ui s 1131 3 0) 1131 8 0) 1131 23 0) 1131 22 (ps_i s 1131 21)) T N from ⟨h4, hN, fun k hk => hj k (by omega)⟩) K2 (by decide) (by decide), k2, mv_G_kq (show mv_G (ps_ui (ps_ui (ps_ui (ps_ui s 1131 3 0) 1131 8 0) 1131 23 0) 1131 22 (ps_i s 1131 21)) from hG) K2 (by decide) (by decide), by rw [kq_i K2 23 (by decide)]; rfl, ?_, by rw [kq_i K2 3 (by decide)]; rfl⟩
      rw [kq_i K2 22 (by decide)]
      show (ps_i s 1131 21).toInt = b
      rw [kq_i K 21 (by decide)]
      exact h21
    · have h25 : x1.toInt < (ps_i s 1131 4).toInt := xlt h25
      intro b38
      obtain ⟨b38, c38⟩ := pl_in b38
      intro b39
      obtain ⟨b39, c39⟩ := pl_in b39
      rw [xtn hx]
      refine fm_198_20 h21 hN hT k n (xj1 hx (by omega)) (by omega) h4 hG (kqa K rfl) (fun j hj2 => ?_)
      rw [ps_a_ua]
      by_cases e : j = i
      · rw [if_pos ⟨rfl, e⟩, xb8, e, kq_a K 1132 (by decide)]
        exact hT i (by omega)
      · rw [if_neg (fun z => e z.2)]
        exact hj j (by omega)
theorem fm_198 {n b : Nat} {s : ps_S} {T : Nat → Nat} {N : Nat} {R : ps_S → Prop} (h21 : (ps_i s 1131 21).toInt = b) (h3 : (ps_i s 1131 3).toInt = N) (hN : N ≤ 1600) (hT : ∀ k, k < N → (ps_a s 1132 k &&& 255).toInt = T k) (k : ∀ s', mb_ok b T N s s' → R s') : pl_Cl n 198 [.ref 1131] s (ps_rV R) := by
  cases n with
  | zero => exact pl_At_0
  | succ n =>
  show pl_At (n + 1) 198 0 [(0, .ref 1131)] [] s (ps_rV R)
  refine pl_198_0 ?_
  exact fm_198_20 h21 hN hT k n (i := 0) rfl (Nat.zero_le _) h3 ⟨rfl, rfl⟩ (kqi (kqi (kqi kq_refl rfl) rfl) rfl) (fun j hj => absurd hj (Nat.not_lt_zero _))
theorem fm_202 {n : Nat} {s : ps_S} {R : ps_S → Prop} (k : R (ps_ua (ps_ua (ps_ui (ps_ui (ps_ui (ps_ui s 1131 47 0) 1131 48 (-1)) 1131 49 (-1)) 1131 54 0) 1134 25748 0) 1134 25789 0)) : pl_Cl n 202 [.ref 1131] s (ps_rV R) := by
  cases n with
  | zero => exact pl_At_0
  | succ n =>
  show pl_At (n + 1) 202 0 [(0, .ref 1131)] [] s (ps_rV R)
  refine pl_202_0 ?_
  intro b28
  obtain ⟨b28, c28⟩ := pl_in b28
  intro b37
  obtain ⟨b37, c37⟩ := pl_in b37
  exact k
theorem mv_H_bk {rb b : Nat} {s s' : ps_S} {h : tx_H} (hrb : rb < 2) (hb : b < 2) (hne : b ≠ rb) (H : mv_H s b h) (B : mv_bk rb s s') : mv_H s' b h := by
  obtain ⟨-, b1, b2, b3, b4, b5⟩ := B
  obtain ⟨⟨e1, e2, e3, e4, e5, e6⟩, f2, f3, f4⟩ := H
  obtain ⟨c1, c2, c3⟩ := b1 b hne
  refine ⟨⟨by rw [c1]; exact e1, by rw [c2]; exact e2, e3, e4, fun k w a hk => ?_, fun k w a hk => ?_⟩, by rw [c3]; exact f2, f3, fun k w l hk => ?_⟩
  · have hl := (List.getElem?_eq_some_iff.mp hk).1
    obtain ⟨y1, y2, y3, y4⟩ := e5 k w a hk
    obtain ⟨d1, d2⟩ := b2 (6 * b + k) (by omega)
    exact ⟨y1, y2, by rw [d2]; exact y3, by rw [d1]; exact y4⟩
  · have hl := (List.getElem?_eq_some_iff.mp hk).1
    obtain ⟨y1, y2, y3, y4⟩ := e6 k w a hk
    obtain ⟨d1, d2⟩ := b3 (4 * b + k) (by omega)
    exact ⟨y1, y2, by rw [d2]; exact y3, by rw [d1]; exact y4⟩
  · have hl := (List.getElem?_eq_some_iff.mp hk).1
    obtain ⟨y1, y2, y3, y4, y5⟩ := f4 k w l hk
    refine ⟨y1, by rw [b4 (8 * b + k) (by omega)]; exact y2, by rw [b5 _ (by omega)]; exact y3, y4, fun q c hq => ?_⟩
    have hq2 := (List.getElem?_eq_some_iff.mp hq).1
    rw [b5 _ (by omega)]
    exact y5 q c hq
theorem mv_H_nil {s : ps_S} {rb : Nat} {v : Int32} : mv_H (ps_ua (ps_ua (ps_ua (ps_ui s 1131 22 v) 1135 rb 0) 1136 rb 0) 1137 rb 0) rb (([], []), []) := by
  refine ⟨⟨?_, ?_, Nat.zero_le _, Nat.zero_le _, (fun k w a hk => by cases hk), (fun k w a hk => by cases hk)⟩, ?_, Nat.zero_le _, (fun k w l hk => by cases hk)⟩
  · rw [ps_a_ua, if_neg (fun z => absurd z.1 (by decide)), ps_a_ua, if_neg (fun z => absurd z.1 (by decide)), ps_a_ua, if_pos ⟨rfl, rfl⟩]
    rfl
  · rw [ps_a_ua, if_neg (fun z => absurd z.1 (by decide)), ps_a_ua, if_pos ⟨rfl, rfl⟩]
    rfl
  · rw [ps_a_ua, if_pos ⟨rfl, rfl⟩]
    rfl
/-- what theory() leaves: the machine's end, the bank that holds it -/
def mt_fr (b : Nat) (s s' : ps_S) : Prop := kq mTB mTF s s' ∧ (∀ hb, mv_H s b hb → mv_H s' b hb) ∧ (ps_i s' 1131 3).toInt = 0
def mt_ok (b : Nat) (T : Nat → Nat) (N : Nat) (s s' : ps_S) (v : Int32) : Prop := ∃ h p, gt_go (tx_ln T N) (0, (([], []), []), 0, 0) (3, h, p, 0) ∧ v.toInt = h.2.length ∧ mv_H s' (1 - b) h ∧ (ps_i s' 1131 21).toInt = (1 - b : Nat) ∧ mv_G s' ∧ mt_fr b s s' ∧ ((ps_i s' 1131 47).toInt = 0 ∧ (ps_i s' 1131 48).toInt = -1 ∧ (ps_i s' 1131 49).toInt = -1 ∧ (ps_i s' 1131 54).toInt = 0 ∧ ps_a s' 1134 25748 = 0 ∧ ps_a s' 1134 25789 = 0 ∧ ∀ i, i < 3 → ps_a s' 1176 i = -1)
def mt_bad (b : Nat) (T : Nat → Nat) (N : Nat) (s s' : ps_S) (v : Int32) : Prop := ∃ h pl kk, gt_go (tx_ln T N) (0, (([], []), []), 0, 0) (4, h, pl, kk) ∧ v.toInt = -1 ∧ kk ≠ 0 ∧ (ps_i s' 1131 5).toInt = kk ∧ (ps_i s' 1131 6).toInt = pl ∧ (ps_i s' 1131 21).toInt = b ∧ mt_fr b s s'
theorem mt_fr_bk {rb b : Nat} {s s1 s2 : ps_S} (hrb : rb < 2) (hb : b < 2) (hne : b ≠ rb) (F : mt_fr b s s1) (B : mv_bk rb s1 s2) : mt_fr b s s2 := ⟨kqt F.1 B.1 (by decide) (by decide), fun hb' H => mv_H_bk hrb hb hne (F.2.1 hb' H) B, by rw [kq_i B.1 3 (by decide)]; exact F.2.2⟩
theorem fm_204u {n rb : Nat} {s : ps_S} {T : Nat → Nat} {N : Nat} {R : ps_S → Prop} {h : tx_H} {p : Nat} (L : mv_L s rb T N h p) (h0 : (tx_tok T N p).1 ≠ 0) (k : ∀ s', mr_ok rb s s' T N (tx_ln T N (0, h, p, 0)) ∨ mr_bad rb s s' (tx_ln T N (0, h, p, 0)) → R s') : pl_Cl n 204 [.ref 1131] s (ps_rV R) :=
  fm_204 L mv_bk_refl h0 rfl (fun s' z => k s' (Or.inl z)) (fun s' z => k s' (Or.inr z))

theorem fm_201_65b {b : Nat} {s0 : ps_S} {T : Nat → Nat} {N : Nat} {R : Int32 → ps_S → Prop} (hb : b < 2) (k1 : ∀ v s', mt_ok b T N s0 s' v → R v s') (k0 : ∀ v s', mt_bad b T N s0 s' v → R v s') {n : Nat} {s : ps_S} {h : tx_H} {pl kk : Nat} (g : gt_go (tx_ln T N) (0, (([], []), []), 0, 0) (4, h, pl, kk)) (hk : kk ≠ 0) (h5 : (ps_i s 1131 5).toInt = kk) (h6 : (ps_i s 1131 6).toInt = pl) (h21 : (ps_i s 1131 21).toInt = b) (F : mt_fr b s0 s) : pl_At n 201 65 [(0, .ref 1131)] [] s (ps_rI R) := by
  cases n with
  | zero => exact pl_At_0
  | succ n =>
  refine pl_201_65 ?_
  exact fm_192 (fun z => by omega) (fun _ => ⟨fun z => absurd rfl z, fun _ => k0 _ _ ⟨h, pl, kk, g, rfl, hk, h5, h6, h21, F⟩⟩)
theorem fm_201_44b {b : Nat} {s0 : ps_S} {T : Nat → Nat} {N : Nat} {R : Int32 → ps_S → Prop} (hb : b < 2) (k1 : ∀ v s', mt_ok b T N s0 s' v → R v s') (k0 : ∀ v s', mt_bad b T N s0 s' v → R v s') {n : Nat} {s : ps_S} {h : tx_H} {pl kk : Nat} (g : gt_go (tx_ln T N) (0, (([], []), []), 0, 0) (4, h, pl, kk)) (hk : kk ≠ 0) (h5 : (ps_i s 1131 5).toInt = kk) (h6 : (ps_i s 1131 6).toInt = pl) (h21 : (ps_i s 1131 21).toInt = b) (F : mt_fr b s0 s) : pl_At n 201 44 [(0, .ref 1131)] [] s (ps_rI R) := by
  cases n with
  | zero => exact pl_At_0
  | succ n =>
  refine pl_201_44 ?_
  exact fm_192 (fun z => by omega) (fun _ => ⟨fun _ => fm_201_65b hb k1 k0 g hk h5 h6 h21 F, fun z => absurd rfl z⟩)
theorem fm_201_88 {b : Nat} {s0 : ps_S} {T : Nat → Nat} {N : Nat} {R : Int32 → ps_S → Prop} (hb : b < 2) (k1 : ∀ v s', mt_ok b T N s0 s' v → R v s') (k0 : ∀ v s', mt_bad b T N s0 s' v → R v s') {h : tx_H} {p : Nat} (g : gt_go (tx_ln T N) (0, (([], []), []), 0, 0) (3, h, p, 0)) : ∀ (n : Nat) {s : ps_S} {x1 : Int32} {i : Nat}, x1.toInt = i → i ≤ 3 → mv_H s (1 - b) h → (ps_i s 1131 21).toInt = (1 - b : Nat) → mv_G s → mt_fr b s0 s → ((ps_i s 1131 47).toInt = 0 ∧ (ps_i s 1131 48).toInt = -1 ∧ (ps_i s 1131 49).toInt = -1 ∧ (ps_i s 1131 54).toInt = 0 ∧ ps_a s 1134 25748 = 0 ∧ ps_a s 1134 25789 = 0 ∧ ∀ j, j < i → ps_a s 1176 j = -1) → pl_At n 201 88 [(0, .ref 1131), (1, .int x1)] [] s (ps_rI R)
  | 0, _, _, _, _, _, _, _, _, _, _ => pl_At_0
  | n + 1, s, x1, i, hx, hi, H, h21, hG, F, ⟨c1, c2, c3, c4, c5, c6, c7⟩ => by
    refine pl_201_88 ?_
    refine ⟨fun h90 => ?_, fun h90 => ?_⟩
    · have h90 : (3 : Int) ≤ x1.toInt := xle h90
      intro b114
      obtain ⟨b114, c114⟩ := pl_in b114
      rw [xtn h21]
      exact k1 _ _ ⟨h, p, g, H.2.1, H, h21, hG, F, c1, c2, c3, c4, c5, c6, fun j hj => c7 j (by omega)⟩
    · have h90 : x1.toInt < (3 : Int) := xlt h90
      intro b99
      obtain ⟨b99, c99⟩ := pl_in b99
      rw [xtn hx]
      have K : kq [1176] [] s (ps_ua s 1176 i (-1)) := kqa kq_refl rfl
      refine fm_201_88 hb k1 k0 g n (xj1 hx (by omega)) (by omega) (mv_H_kq H K (by decide)) h21 hG ⟨kqt F.1 K (by decide) (by decide), fun hb' z => mv_H_kq (F.2.1 hb' z) K (by decide), F.2.2⟩ ⟨c1, c2, c3, c4, c5, c6, fun j hj => ?_⟩
      rw [ps_a_ua]
      by_cases e : j = i
      · rw [if_pos ⟨rfl, e⟩]
      · rw [if_neg (fun z => e z.2)]
        exact c7 j (by omega)
theorem fm_201_65 {b : Nat} {s0 : ps_S} {T : Nat → Nat} {N : Nat} {R : Int32 → ps_S → Prop} (hb : b < 2) (k1 : ∀ v s', mt_ok b T N s0 s' v → R v s') (k0 : ∀ v s', mt_bad b T N s0 s' v → R v s') {n : Nat} {s : ps_S} {h : tx_H} {p : Nat} (g : gt_go (tx_ln T N) (0, (([], []), []), 0, 0) (3, h, p, 0)) (L : mv_L s (1 - b) T N h p) (F : mt_fr b s0 s) : pl_At n 201 65 [(0, .ref 1131)] [] s (ps_rI R) := by
  cases n with
  | zero => exact pl_At_0
  | succ n =>
  obtain ⟨hrb, h22, hT, hH, hp, hK, h23, hG⟩ := id L
  refine pl_201_65 ?_
  refine fm_192 (fun _ => ⟨fun _ => ?_, fun z => absurd z (by decide)⟩) (fun z => absurd hG.1 z)
  refine fm_202 ?_
  have K1 : kq [] [21, 47, 48, 49, 54] s (ps_ui (ps_ui (ps_ui (ps_ui (ps_ui s 1131 21 (ps_i s 1131 22)) 1131 47 0) 1131 48 (-1)) 1131 49 (-1)) 1131 54 0) := kqi (kqi (kqi (kqi (kqi kq_refl rfl) rfl) rfl) rfl) rfl
  generalize hq : (ps_ui (ps_ui (ps_ui (ps_ui (ps_ui s 1131 21 (ps_i s 1131 22)) 1131 47 0) 1131 48 (-1)) 1131 49 (-1)) 1131 54 0) = s1 at K1 ⊢
  have K2 : kq [1134] [] s1 (ps_ua (ps_ua s1 1134 25748 0) 1134 25789 0) := kqa (kqa kq_refl rfl) rfl
  have P2 : ∀ i, i < 25748 → ps_a (ps_ua (ps_ua s1 1134 25748 0) 1134 25789 0) 1134 i = ps_a s1 1134 i := fun i hi => by rw [ps_a_ua, if_neg (by omega), ps_a_ua, if_neg (by omega)]
  have HH : ∀ (c : Nat) (h' : tx_H), c < 2 → mv_H s1 c h' → mv_H (ps_ua (ps_ua s1 1134 25748 0) 1134 25789 0) c h' := fun c h' hc H => by
    obtain ⟨f1, f2, f3, f4⟩ := H
    refine ⟨mv_E_kq f1 K2 (by decide), by rw [kq_a K2 1137 (by decide)]; exact f2, f3, fun k w l hk => ?_⟩
    obtain ⟨y1, y2, y3, y4, y5⟩ := f4 k w l hk
    have hl := (List.getElem?_eq_some_iff.mp hk).1
    refine ⟨y1, y2, by rw [P2 _ (by omega)]; exact y3, y4, fun q c hq => ?_⟩
    have hq2 := (List.getElem?_eq_some_iff.mp hq).1
    rw [P2 _ (by omega)]
    exact y5 q c hq
  refine fm_201_88 hb k1 k0 g n (i := 0) rfl (Nat.zero_le _) (HH _ _ hrb (mv_H_kq hH K1 (by decide))) (by rw [kq_i K2 21 (by decide), ← hq]; exact h22) (mv_G_kq (mv_G_kq hG K1 (by decide) (by decide)) K2 (by decide) (by decide)) ⟨kqt (kqt F.1 K1 (by decide) (by decide)) K2 (by decide) (by decide), fun hb' z => HH b hb' hb (mv_H_kq (F.2.1 hb' z) K1 (by decide)), by rw [kq_i K2 3 (by decide), kq_i K1 3 (by decide)]; exact F.2.2⟩ ⟨?_, ?_, ?_, ?_, ?_, ?_, fun j hj => absurd hj (Nat.not_lt_zero _)⟩
  · rw [kq_i K2 47 (by decide), ← hq]; rfl
  · rw [kq_i K2 48 (by decide), ← hq]; rfl
  · rw [kq_i K2 49 (by decide), ← hq]; rfl
  · rw [kq_i K2 54 (by decide), ← hq]; rfl
  · rw [ps_a_ua, if_neg (by decide), ps_a_ua, if_pos ⟨rfl, rfl⟩]
  · rw [ps_a_ua, if_pos ⟨rfl, rfl⟩]
theorem fm_201_44 {b : Nat} {s0 : ps_S} {T : Nat → Nat} {N : Nat} {R : Int32 → ps_S → Prop} (hb : b < 2) (k1 : ∀ v s', mt_ok b T N s0 s' v → R v s') (k0 : ∀ v s', mt_bad b T N s0 s' v → R v s') : ∀ (n : Nat) {s : ps_S} {h : tx_H} {p : Nat}, gt_go (tx_ln T N) (0, (([], []), []), 0, 0) (0, h, p, 0) → mv_L s (1 - b) T N h p → (ps_i s 1131 21).toInt = b → mt_fr b s0 s → pl_At n 201 44 [(0, .ref 1131)] [] s (ps_rI R)
  | 0, _, _, _, _, _, _, _ => pl_At_0
  | n + 1, s, h, p, g, L, h21, F => by
    obtain ⟨hrb, h22, hT, hH, hp, hK, h23, hG⟩ := id L
    have h9 := hK.1
    have hne : b ≠ 1 - b := by omega
    refine pl_201_44 ?_
    refine fm_192 (fun q45 => ?_) (fun q45 => ?_)
    · refine ⟨fun h48 => ?_, fun h48 => ?_⟩
      · exact absurd h48 (by decide)
      · refine ⟨fun h55 => ?_, fun h55 => ?_⟩
        · have h55 : (ps_i s 1131 9).toInt = (0 : Int) := xeq h55
          exact fm_201_65 hb k1 k0 (gt_trans g (gt_one (tx_l_end (by omega)))) L F
        · have h55 : (ps_i s 1131 9).toInt ≠ (0 : Int) := xne h55
          refine fm_204u L (by omega) (fun s59 q59 => ?_)
          rcases q59 with ⟨h2, p2, e, L2, B⟩ | ⟨h2, pl, kk, e, e1, e2, e3, B⟩
          · exact fm_201_44 hb k1 k0 n (gt_trans g (gt_one e)) L2 (by rw [kq_i B.1 21 (by decide)]; exact h21) (mt_fr_bk hrb hb hne F B)
          · exact fm_201_44b hb k1 k0 (gt_trans g (gt_one e)) e1 e2 e3 (by rw [kq_i B.1 21 (by decide)]; exact h21) (mt_fr_bk hrb hb hne F B)
    · refine ⟨fun h48 => ?_, fun h48 => ?_⟩
      · exact absurd hG.1 q45
      · exact absurd h48 (by decide)
theorem fm_201 {n b : Nat} {s : ps_S} {T : Nat → Nat} {N : Nat} {R : Int32 → ps_S → Prop} (hb : b < 2) (h21 : (ps_i s 1131 21).toInt = b) (h3 : (ps_i s 1131 3).toInt = N) (hN : N ≤ 1600) (hT : ∀ k, k < N → (ps_a s 1132 k &&& 255).toInt = T k) (k1 : ∀ v s', mt_ok b T N s s' v → R v s') (k0 : ∀ v s', mt_bad b T N s s' v → R v s') : pl_Cl n 201 [.ref 1131] s (ps_rI R) := by
  cases n with
  | zero => exact pl_At_0
  | succ n =>
  show pl_At (n + 1) 201 0 [(0, .ref 1131)] [] s (ps_rI R)
  refine pl_201_0 ?_
  refine fm_198 h21 h3 hN hT (fun s1 q1 => ?_)
  intro b23
  obtain ⟨b23, c23⟩ := pl_in b23
  intro b33
  obtain ⟨b33, c33⟩ := pl_in b33
  intro b43
  obtain ⟨b43, c43⟩ := pl_in b43
  have c1 : (1 : Int32).toInt = 1 := by decide
  obtain ⟨K1, t1, t2, t3, t4, t5, t6⟩ := q1
  have j21 : (ps_i s1 1131 21).toInt = b := by rw [kq_i K1 21 (by decide)]; exact h21
  have e22 : ((1 : Int32) - (ps_i s1 1131 21)).toInt = (1 - b : Nat) := by rw [xIs (by omega) (by omega)]; omega
  show pl_At _ 201 44 [(0, .ref 1131)] [] (ps_ua (ps_ua (ps_ua (ps_ui s1 1131 22 ((1 : Int32) - (ps_i s1 1131 21))) 1135 (Int32.toNatClampNeg ((1 : Int32) - (ps_i s1 1131 21))) 0) 1136 (Int32.toNatClampNeg ((1 : Int32) - (ps_i s1 1131 21))) 0) 1137 (Int32.toNatClampNeg ((1 : Int32) - (ps_i s1 1131 21))) 0) _
  rw [xtn e22]
  generalize ((1 : Int32) - (ps_i s1 1131 21)) = v22 at e22 ⊢
  have K2 : kq [] [22] s1 (ps_ui s1 1131 22 v22) := kqi kq_refl rfl
  have B2 : mv_bk (1 - b) (ps_ui s1 1131 22 v22) (ps_ua (ps_ua (ps_ua (ps_ui s1 1131 22 v22) 1135 (1 - b) 0) 1136 (1 - b) 0) 1137 (1 - b) 0) := mv_bk_tr (mv_bk_tr (mv_bk_a (Or.inl ⟨rfl, rfl⟩)) (mv_bk_a (Or.inr (Or.inl ⟨rfl, rfl⟩)))) (mv_bk_a (Or.inr (Or.inr (Or.inl ⟨rfl, rfl⟩))))
  have F1 : mt_fr b s (ps_ui s1 1131 22 v22) := ⟨kqt (kqt kq_refl K1 (by decide) (by decide)) K2 (by decide) (by decide), fun hb' z => mv_H_kq (mv_H_kq z K1 (by decide)) K2 (by decide), t6⟩
  have K3 : kq [1135, 1136, 1137] [] (ps_ui s1 1131 22 v22) (ps_ua (ps_ua (ps_ua (ps_ui s1 1131 22 v22) 1135 (1 - b) 0) 1136 (1 - b) 0) 1137 (1 - b) 0) := kqa (kqa (kqa kq_refl rfl) rfl) rfl
  have K4 := kqt (A := [1135, 1136, 1137]) (F := [22]) (kqt kq_refl K2 (by decide) (by decide)) K3 (by decide) (by decide)
  exact fm_201_44 hb k1 k0 n gt_refl ⟨by omega, e22, mv_T_kq t1 K4 (by decide) (by decide), mv_H_nil, Nat.zero_le _, mv_K_kq t2 K4 (by decide), t4, mv_G_kq t3 K4 (by decide) (by decide)⟩ j21 (mt_fr_bk (by omega) hb (by omega) F1 B2)
end
section
set_option maxRecDepth 100000
/-! the class's side once more: what its calls keep besides: the tape's bytes, the words that stand for themselves, the first ten arities of both theories -/
def yP (m s : ps_S) : Prop := ps_a s 1 = ps_a m 1 ∧ ps_b s 904 = ps_b m 904 ∧ (∀ i, i < 10 → ps_a s 6 i = ps_a m 6 i ∧ ps_a s 30 i = ps_a m 30 i) ∧ (ps_r s 0 2 = 2 ∨ ps_r s 0 2 = 26) ∧ (ps_r s 0 3 = 2 ∨ ps_r s 0 3 = 26)
def yJ (m : ps_S) (t : Int32) (s : ps_S) : Prop := xJ m t s ∧ yP m s
def xOb (r : Nat) : Bool := Nat.blt r 1131 && !Nat.beq r 6 && !Nat.beq r 30 && !Nat.beq r 904
def xO (r : Nat) : Prop := r < 1131 ∧ r ≠ 6 ∧ r ≠ 30 ∧ r ≠ 904
theorem xO_b {r : Nat} (h : xOb r = true) : xO r := by
  unfold xOb at h
  rw [Bool.and_eq_true, Bool.and_eq_true, Bool.and_eq_true] at h
  obtain ⟨⟨⟨h1, h2⟩, h3⟩, h4⟩ := h
  refine ⟨Nat.le_of_ble_eq_true h1, fun e => ?_, fun e => ?_, fun e => ?_⟩
  · subst e; cases h2
  · subst e; cases h3
  · subst e; cases h4
theorem yq_a {r t : Nat} (h : ps_ar r t = true) (h2 : xOb r = true) : ps_ar r t = true ∧ xO r := ⟨h, xO_b h2⟩
def yck (r : Nat) : Bool := match pm_wx r with
  | .inr (c, fs) => Nat.blt 11 c || (List.range fs.length).all (fun q => match fs[q]? with
    | some (.ref x) => !(Nat.beq x 6 || Nat.beq x 30 || Nat.beq x 904) || (Nat.beq c 9 && Nat.beq q 3) || (Nat.beq c 10 && Nat.beq q 0)
    | _ => true)
  | .inl _ => true
def yall (a : Nat) : Nat → Bool
  | 0 => true
  | n + 1 => yck (a + n) && yall a n
theorem yall_ok {a : Nat} : ∀ {n : Nat}, yall a n = true → ∀ r, a ≤ r → r < a + n → yck r = true
  | 0, _, r, h1, h2 => by omega
  | n + 1, h, r, h1, h2 => by
    unfold yall at h
    rw [Bool.and_eq_true] at h
    by_cases e : r = a + n
    · rw [e]; exact h.1
    · exact yall_ok h.2 r h1 (by omega)
set_option maxRecDepth 1000000
theorem yall_0 : yall 0 150 = true := by decide +kernel
theorem yall_150 : yall 150 150 = true := by decide +kernel
theorem yall_300 : yall 300 150 = true := by decide +kernel
theorem yall_450 : yall 450 150 = true := by decide +kernel
theorem yall_600 : yall 600 150 = true := by decide +kernel
theorem yall_750 : yall 750 150 = true := by decide +kernel
theorem yall_900 : yall 900 150 = true := by decide +kernel
theorem yall_1050 : yall 1050 81 = true := by decide +kernel
set_option maxRecDepth 100000
theorem yck_all {r : Nat} (h : r < 1131) : yck r = true := by
  by_cases h150 : r < 150
  · exact yall_ok yall_0 r (by omega) (by omega)
  by_cases h300 : r < 300
  · exact yall_ok yall_150 r (by omega) (by omega)
  by_cases h450 : r < 450
  · exact yall_ok yall_300 r (by omega) (by omega)
  by_cases h600 : r < 600
  · exact yall_ok yall_450 r (by omega) (by omega)
  by_cases h750 : r < 750
  · exact yall_ok yall_600 r (by omega) (by omega)
  by_cases h900 : r < 900
  · exact yall_ok yall_750 r (by omega) (by omega)
  by_cases h1050 : r < 1050
  · exact yall_ok yall_900 r (by omega) (by omega)
  exact yall_ok yall_1050 r (by omega) (by omega)
theorem yex {r c q : Nat} (hc : c < 12) (h9 : ¬ (c = 9 ∧ q = 3)) (h10 : ¬ (c = 10 ∧ q = 0)) (h : ps_is r c = true) : ps_c0 r q ≠ 6 ∧ ps_c0 r q ≠ 30 ∧ ps_c0 r q ≠ 904 := by
  have k1 := yck_all (xis_lt hc h)
  obtain ⟨h1, h2⟩ := ps_is_lt (by omega) h
  unfold ps_K at h2
  unfold yck at k1
  unfold ps_c0
  cases e : pm_wx r with
  | inl a =>
    obtain ⟨t, n, f⟩ := a
    rw [e] at h2
    cases h2
  | inr a =>
    obtain ⟨c', fs⟩ := a
    rw [e] at h2 k1
    cases h2
    dsimp only at k1 ⊢
    rw [pm_blt_f (by omega), Bool.false_or, List.all_eq_true] at k1
    split
    · next x ex =>
      have hq : q < fs.length := by
        have := List.getElem?_eq_some_iff.mp ex
        exact this.1
      have k2 := k1 q (List.mem_range.mpr hq)
      rw [ex] at k2
      dsimp only at k2
      refine ⟨fun z => ?_, fun z => ?_, fun z => ?_⟩ <;>
      · subst z
        rw [Bool.or_eq_true, Bool.or_eq_true, Bool.and_eq_true, Bool.and_eq_true] at k2
        rcases k2 with (k2 | k2) | k2
        · cases k2
        · exact h9 ⟨Nat.eq_of_beq_eq_true k2.1, Nat.eq_of_beq_eq_true k2.2⟩
        · exact h10 ⟨Nat.eq_of_beq_eq_true k2.1, Nat.eq_of_beq_eq_true k2.2⟩
    · exact ⟨by decide, by decide, by decide⟩
theorem yk_0_0 {r : Nat} (h : ps_is r 0 = true) : ps_ar (ps_c0 r 0) 0 = true ∧ xO (ps_c0 r 0) := ⟨(xk_0_0 h).1, (xk_0_0 h).2, yex (c := 0) (by decide) (by decide) (by decide) h⟩
theorem yk_0_1 {r : Nat} (h : ps_is r 0 = true) : ps_ar (ps_c0 r 1) 0 = true ∧ xO (ps_c0 r 1) := ⟨(xk_0_1 h).1, (xk_0_1 h).2, yex (c := 0) (by decide) (by decide) (by decide) h⟩
theorem yk_0_3 {r : Nat} (h : ps_is r 0 = true) : ps_ar (ps_c0 r 3) 0 = true ∧ xO (ps_c0 r 3) := ⟨(xk_0_3 h).1, (xk_0_3 h).2, yex (c := 0) (by decide) (by decide) (by decide) h⟩
theorem yk_0_4 {r : Nat} (h : ps_is r 0 = true) : ps_ar (ps_c0 r 4) 0 = true ∧ xO (ps_c0 r 4) := ⟨(xk_0_4 h).1, (xk_0_4 h).2, yex (c := 0) (by decide) (by decide) (by decide) h⟩
theorem yk_0_7 {r : Nat} (h : ps_is r 0 = true) : ps_ar (ps_c0 r 7) 0 = true ∧ xO (ps_c0 r 7) := ⟨(xk_0_7 h).1, (xk_0_7 h).2, yex (c := 0) (by decide) (by decide) (by decide) h⟩
theorem yk_0_8 {r : Nat} (h : ps_is r 0 = true) : ps_ar (ps_c0 r 8) 0 = true ∧ xO (ps_c0 r 8) := ⟨(xk_0_8 h).1, (xk_0_8 h).2, yex (c := 0) (by decide) (by decide) (by decide) h⟩
theorem yk_0_9 {r : Nat} (h : ps_is r 0 = true) : ps_ar (ps_c0 r 9) 0 = true ∧ xO (ps_c0 r 9) := ⟨(xk_0_9 h).1, (xk_0_9 h).2, yex (c := 0) (by decide) (by decide) (by decide) h⟩
theorem yk_0_12 {r : Nat} (h : ps_is r 0 = true) : ps_ar (ps_c0 r 12) 3 = true ∧ xO (ps_c0 r 12) := ⟨(xk_0_12 h).1, (xk_0_12 h).2, yex (c := 0) (by decide) (by decide) (by decide) h⟩
theorem yk_0_13 {r : Nat} (h : ps_is r 0 = true) : ps_ar (ps_c0 r 13) 3 = true ∧ xO (ps_c0 r 13) := ⟨(xk_0_13 h).1, (xk_0_13 h).2, yex (c := 0) (by decide) (by decide) (by decide) h⟩
theorem yk_1_1 {r : Nat} (h : ps_is r 1 = true) : ps_ar (ps_c0 r 1) 0 = true ∧ xO (ps_c0 r 1) := ⟨(xk_1_1 h).1, (xk_1_1 h).2, yex (c := 1) (by decide) (by decide) (by decide) h⟩
theorem yk_1_3 {r : Nat} (h : ps_is r 1 = true) : ps_ar (ps_c0 r 3) 0 = true ∧ xO (ps_c0 r 3) := ⟨(xk_1_3 h).1, (xk_1_3 h).2, yex (c := 1) (by decide) (by decide) (by decide) h⟩
theorem yk_1_5 {r : Nat} (h : ps_is r 1 = true) : ps_ar (ps_c0 r 5) 0 = true ∧ xO (ps_c0 r 5) := ⟨(xk_1_5 h).1, (xk_1_5 h).2, yex (c := 1) (by decide) (by decide) (by decide) h⟩
theorem yk_3_1 {r : Nat} (h : ps_is r 3 = true) : ps_ar (ps_c0 r 1) 3 = true ∧ xO (ps_c0 r 1) := ⟨(xk_3_1 h).1, (xk_3_1 h).2, yex (c := 3) (by decide) (by decide) (by decide) h⟩
theorem yk_3_3 {r : Nat} (h : ps_is r 3 = true) : ps_ar (ps_c0 r 3) 3 = true ∧ xO (ps_c0 r 3) := ⟨(xk_3_3 h).1, (xk_3_3 h).2, yex (c := 3) (by decide) (by decide) (by decide) h⟩
theorem yk_4_4 {r : Nat} (h : ps_is r 4 = true) : ps_ar (ps_c0 r 4) 0 = true ∧ xO (ps_c0 r 4) := ⟨(xk_4_4 h).1, (xk_4_4 h).2, yex (c := 4) (by decide) (by decide) (by decide) h⟩
theorem yk_4_5 {r : Nat} (h : ps_is r 4 = true) : ps_ar (ps_c0 r 5) 0 = true ∧ xO (ps_c0 r 5) := ⟨(xk_4_5 h).1, (xk_4_5 h).2, yex (c := 4) (by decide) (by decide) (by decide) h⟩
theorem yk_4_6 {r : Nat} (h : ps_is r 4 = true) : ps_ar (ps_c0 r 6) 0 = true ∧ xO (ps_c0 r 6) := ⟨(xk_4_6 h).1, (xk_4_6 h).2, yex (c := 4) (by decide) (by decide) (by decide) h⟩
theorem yk_4_7 {r : Nat} (h : ps_is r 4 = true) : ps_ar (ps_c0 r 7) 0 = true ∧ xO (ps_c0 r 7) := ⟨(xk_4_7 h).1, (xk_4_7 h).2, yex (c := 4) (by decide) (by decide) (by decide) h⟩
theorem yk_5_0 {r : Nat} (h : ps_is r 5 = true) : ps_ar (ps_c0 r 0) 0 = true ∧ xO (ps_c0 r 0) := ⟨(xk_5_0 h).1, (xk_5_0 h).2, yex (c := 5) (by decide) (by decide) (by decide) h⟩
theorem yk_6_0 {r : Nat} (h : ps_is r 6 = true) : ps_ar (ps_c0 r 0) 0 = true ∧ xO (ps_c0 r 0) := ⟨(xk_6_0 h).1, (xk_6_0 h).2, yex (c := 6) (by decide) (by decide) (by decide) h⟩
theorem yk_6_1 {r : Nat} (h : ps_is r 6 = true) : ps_ar (ps_c0 r 1) 0 = true ∧ xO (ps_c0 r 1) := ⟨(xk_6_1 h).1, (xk_6_1 h).2, yex (c := 6) (by decide) (by decide) (by decide) h⟩
theorem yk_6_2 {r : Nat} (h : ps_is r 6 = true) : ps_ar (ps_c0 r 2) 0 = true ∧ xO (ps_c0 r 2) := ⟨(xk_6_2 h).1, (xk_6_2 h).2, yex (c := 6) (by decide) (by decide) (by decide) h⟩
theorem yk_7_2 {r : Nat} (h : ps_is r 7 = true) : ps_ar (ps_c0 r 2) 0 = true ∧ xO (ps_c0 r 2) := ⟨(xk_7_2 h).1, (xk_7_2 h).2, yex (c := 7) (by decide) (by decide) (by decide) h⟩
theorem yk_7_3 {r : Nat} (h : ps_is r 7 = true) : ps_ar (ps_c0 r 3) 0 = true ∧ xO (ps_c0 r 3) := ⟨(xk_7_3 h).1, (xk_7_3 h).2, yex (c := 7) (by decide) (by decide) (by decide) h⟩
theorem yk_7_4 {r : Nat} (h : ps_is r 7 = true) : ps_ar (ps_c0 r 4) 0 = true ∧ xO (ps_c0 r 4) := ⟨(xk_7_4 h).1, (xk_7_4 h).2, yex (c := 7) (by decide) (by decide) (by decide) h⟩
theorem yk_8_1 {r : Nat} (h : ps_is r 8 = true) : ps_ar (ps_c0 r 1) 0 = true ∧ xO (ps_c0 r 1) := ⟨(xk_8_1 h).1, (xk_8_1 h).2, yex (c := 8) (by decide) (by decide) (by decide) h⟩
theorem yk_8_7 {r : Nat} (h : ps_is r 8 = true) : ps_ar (ps_c0 r 7) 0 = true ∧ xO (ps_c0 r 7) := ⟨(xk_8_7 h).1, (xk_8_7 h).2, yex (c := 8) (by decide) (by decide) (by decide) h⟩
theorem yk_9_0 {r : Nat} (h : ps_is r 9 = true) : ps_ar (ps_c0 r 0) 3 = true ∧ xO (ps_c0 r 0) := ⟨(xk_9_0 h).1, (xk_9_0 h).2, yex (c := 9) (by decide) (by decide) (by decide) h⟩
theorem yk_9_1 {r : Nat} (h : ps_is r 9 = true) : ps_ar (ps_c0 r 1) 3 = true ∧ xO (ps_c0 r 1) := ⟨(xk_9_1 h).1, (xk_9_1 h).2, yex (c := 9) (by decide) (by decide) (by decide) h⟩
theorem yk_9_2 {r : Nat} (h : ps_is r 9 = true) : ps_ar (ps_c0 r 2) 3 = true ∧ xO (ps_c0 r 2) := ⟨(xk_9_2 h).1, (xk_9_2 h).2, yex (c := 9) (by decide) (by decide) (by decide) h⟩
theorem yw_i {m s : ps_S} {t : Int32} {r c q : Nat} {v : Int32} (hc : c < 11) (h : ps_is r c = true) (J : yJ m t s) : yJ m t (ps_ui s r q v) := ⟨xw_i hc h J.1, J.2⟩
theorem yw_j {m s : ps_S} {t : Int32} {r c q : Nat} {v : Int64} (hc : c < 11) (h : ps_is r c = true) (J : yJ m t s) : yJ m t (ps_uj s r q v) := ⟨xw_j hc h J.1, J.2⟩
theorem yw_tape {m s : ps_S} {t v : Int32} (J : yJ m t s) : yJ m v (ps_ui s 0 1 v) := ⟨xw_tape J.1, J.2⟩
theorem yw_rc {m s : ps_S} {t : Int32} {r q v c : Nat} (hc : c ≠ 11) (p : ps_is r c = true) (J' : xJ m t (ps_ur s r q v)) (J : yJ m t s) : yJ m t (ps_ur s r q v) := by
  have hr : r ≠ 0 := fun z => by
    subst z
    exact hc (xis_c p (show ps_is 0 11 = true from rfl))
  refine ⟨J', J.2.1, J.2.2.1, J.2.2.2.1, ?_, ?_⟩
  · rw [ps_r_ur, if_neg (fun z => hr z.1.symm)]; exact J.2.2.2.2.1
  · rw [ps_r_ur, if_neg (fun z => hr z.1.symm)]; exact J.2.2.2.2.2
theorem yw_rq {m s : ps_S} {t : Int32} {r q v : Nat} (hq : q ≠ 2 ∧ q ≠ 3) (J' : xJ m t (ps_ur s r q v)) (J : yJ m t s) : yJ m t (ps_ur s r q v) := by
  refine ⟨J', J.2.1, J.2.2.1, J.2.2.2.1, ?_, ?_⟩
  · rw [ps_r_ur, if_neg (fun z => hq.1 z.2.symm)]; exact J.2.2.2.2.1
  · rw [ps_r_ur, if_neg (fun z => hq.2 z.2.symm)]; exact J.2.2.2.2.2
theorem yw_r2 {m s : ps_S} {t : Int32} {r q v : Nat} (hv : v = 2 ∨ v = 26) (J' : xJ m t (ps_ur s r q v)) (J : yJ m t s) : yJ m t (ps_ur s r q v) := by
  refine ⟨J', J.2.1, J.2.2.1, J.2.2.2.1, ?_, ?_⟩
  · rw [ps_r_ur]; split
    · exact hv
    · exact J.2.2.2.2.1
  · rw [ps_r_ur]; split
    · exact hv
    · exact J.2.2.2.2.2
theorem yr_2 {m s : ps_S} {t : Int32} (J : yJ m t s) : ps_r s 0 2 = 2 ∨ ps_r s 0 2 = 26 := J.2.2.2.2.1
theorem yr_3 {m s : ps_S} {t : Int32} (J : yJ m t s) : ps_r s 0 3 = 2 ∨ ps_r s 0 3 = 26 := J.2.2.2.2.2
theorem yw_a {m s : ps_S} {t : Int32} {r q : Nat} {v : Int32} (p : ps_ar r 0 = true ∧ xO r) (J : yJ m t s) : yJ m t (ps_ua s r q v) := by
  obtain ⟨J1, h1, h2, h3, h4, h5⟩ := J
  obtain ⟨p1, p2, p3, p4, p5⟩ := p
  have hr : r ≠ 1 := fun z => by subst z; exact absurd p1 (by decide)
  refine ⟨xw_a p2 J1, ?_, h2, fun i hi => ⟨?_, ?_⟩, h4, h5⟩
  · rw [← h1]
    funext j
    rw [ps_a_ua, if_neg (fun z => hr z.1.symm)]
  · rw [ps_a_ua, if_neg (fun z => p3 z.1.symm)]
    exact (h3 i hi).1
  · rw [ps_a_ua, if_neg (fun z => p4 z.1.symm)]
    exact (h3 i hi).2
theorem yw_b {m s : ps_S} {t : Int32} {r q : Nat} {v : Int64} (p : ps_ar r 3 = true ∧ xO r) (J : yJ m t s) : yJ m t (ps_ub s r q v) := by
  obtain ⟨J1, h1, h2, h3, h4, h5⟩ := J
  obtain ⟨p1, p2, p3, p4, p5⟩ := p
  refine ⟨xw_b p2 J1, h1, ?_, h3, h4, h5⟩
  rw [← h2]
  funext j
  rw [ps_b_ub, if_neg (fun z => p5 z.1.symm)]
def yth (a : Nat) : Nat → Bool
  | 0 => true
  | n + 1 => (!ps_is (a + n) 9 || [2, 26, 70, 480, 908, 965].contains (a + n)) && yth a n
theorem yth_ok {a : Nat} : ∀ {n : Nat}, yth a n = true → ∀ r, a ≤ r → r < a + n → ps_is r 9 = true → r ∈ [2, 26, 70, 480, 908, 965]
  | 0, _, r, h1, h2, _ => by omega
  | n + 1, h, r, h1, h2, h3 => by
    unfold yth at h
    rw [Bool.and_eq_true] at h
    by_cases e : r = a + n
    · have g := h.1
      rw [← e, h3, Bool.or_eq_true] at g
      rcases g with g | g
      · cases g
      · exact List.contains_iff_mem.mp g
    · exact yth_ok h.2 r h1 (by omega) h3
set_option maxRecDepth 1000000
theorem yth_0 : yth 0 150 = true := by decide +kernel
theorem yth_150 : yth 150 150 = true := by decide +kernel
theorem yth_300 : yth 300 150 = true := by decide +kernel
theorem yth_450 : yth 450 150 = true := by decide +kernel
theorem yth_600 : yth 600 150 = true := by decide +kernel
theorem yth_750 : yth 750 150 = true := by decide +kernel
theorem yth_900 : yth 900 150 = true := by decide +kernel
theorem yth_1050 : yth 1050 81 = true := by decide +kernel
set_option maxRecDepth 100000
/-- the theories -/
theorem y_th {r : Nat} (h : ps_is r 9 = true) : r ∈ [2, 26, 70, 480, 908, 965] := by
  have hr := xis_lt (by decide) h
  by_cases h150 : r < 150
  · exact yth_ok yth_0 r (by omega) (by omega) h
  by_cases h300 : r < 300
  · exact yth_ok yth_150 r (by omega) (by omega) h
  by_cases h450 : r < 450
  · exact yth_ok yth_300 r (by omega) (by omega) h
  by_cases h600 : r < 600
  · exact yth_ok yth_450 r (by omega) (by omega) h
  by_cases h750 : r < 750
  · exact yth_ok yth_600 r (by omega) (by omega) h
  by_cases h900 : r < 900
  · exact yth_ok yth_750 r (by omega) (by omega) h
  by_cases h1050 : r < 1050
  · exact yth_ok yth_900 r (by omega) (by omega) h
  exact yth_ok yth_1050 r (by omega) (by omega) h
theorem yt_ix {r q : Nat} {n b : Int32} (h : ps_is r 9 = true) (hb : (b = 10 ∧ q = 0) ∨ (b = 20 ∧ q = 1)) (h0 : 0 ≤ n) (h1 : n < nI (ps_ln (ps_c0 r q))) : 10 ≤ (b + n).toInt := by
  have f0 : (0 : Int) ≤ n.toInt := xle h0
  have e : ps_ln (ps_c0 r q) ≤ 6 := by
    have hq : q = 0 ∨ q = 1 := by omega
    exact (show ∀ r, r ∈ [2, 26, 70, 480, 908, 965] → ∀ q, q < 2 → ps_ln (ps_c0 r q) ≤ 6 by decide) r (y_th h) q (by omega)
  have f1 : n.toInt < (nI (ps_ln (ps_c0 r q))).toInt := xlt h1
  rw [nI_toInt (by omega)] at f1
  have c10 : (10 : Int32).toInt = 10 := by decide
  have c20 : (20 : Int32).toInt = 20 := by decide
  rcases hb with ⟨rfl, -⟩ | ⟨rfl, -⟩
  · rw [xI_add (by omega) (by omega)]; omega
  · rw [xI_add (by omega) (by omega)]; omega
theorem yw_t {m s : ps_S} {t : Int32} {r q : Nat} {v : Int32} (h : ps_ar r 0 = true ∧ r < 1131) (hq : 10 ≤ q) (J : yJ m t s) : yJ m t (ps_ua s r q v) := by
  obtain ⟨J1, h1, h2, h3, h4, h5⟩ := J
  have hr : r ≠ 1 := fun z => by subst z; exact absurd h.1 (by decide)
  refine ⟨xw_a h.2 J1, ?_, h2, fun i hi => ⟨?_, ?_⟩, h4, h5⟩
  · rw [← h1]
    funext j
    rw [ps_a_ua, if_neg (fun z => by omega)]
  · rw [ps_a_ua, if_neg (fun z => by omega)]
    exact (h3 i hi).1
  · rw [ps_a_ua, if_neg (fun z => by omega)]
    exact (h3 i hi).2
theorem ys_183t {m s : ps_S} {t : Int32} {d : Nat} {r0 : Nat} {x1 : Int32} {x2 : Int32} {f : ps_S → Prop} (h : ps_is r0 9 = true) (hx : 10 ≤ x1.toInt) (J : yJ m t s) (k : ∀ (s' : ps_S), yJ m t s' → ps_i s' = ps_i s → f s') : ps_Cl d 183 [.ref (ps_c0 r0 3), .int x1, .int x2] s (ps_rV f) := by
  have h0 := xk_9_3 h
  have hq : 10 ≤ Int32.toNatClampNeg x1 := by
    show 10 ≤ x1.toInt.toNat
    omega
  exact pg_183_0 (And.intro (fun f1 => (k s J rfl)) (fun f1 => (ps_nk_i (xn_l (h0).1) (And.intro (fun f2 => (k s J rfl)) (fun f2 => (ps_nk_i (xn_0 (h0).1) (ps_nd_i (xg_in f1 f2) (k (ps_ua s (ps_c0 r0 3) (Int32.toNatClampNeg x1) x2) (yw_t h0 hq J) rfl))))))))
def ysF (d : Nat) (x : Int32) : Prop := ∀ (m s : ps_S) (t : Int32) (r0 : Nat) (f : Int32 → ps_S → Prop), ps_is r0 3 = true → yJ m t s → (∀ (v : Int32) (s' : ps_S), v &&& 1 = v → yJ m t s' → f v s') → ps_Cl (d + 8) 70 [.ref r0, .int x] s (ps_rI f)
def ysT (d : Nat) (x : Int32) : Prop := ∀ (m s : ps_S) (t : Int32) (r0 : Nat) (f : Int32 → ps_S → Prop), ps_is r0 3 = true → yJ m t s → (∀ (v : Int32) (s' : ps_S), v &&& 1 = v → yJ m t s' → f v s') → ps_Cl (d + 8) 76 [.ref r0, .int x] s (ps_rI f)
def ysS (d : Nat) (x : Int32) : Prop := ∀ (m s : ps_S) (t : Int32) (r0 : Nat) (x1 x2 : Int32) (f : Int32 → ps_S → Prop), ps_is r0 0 = true → yJ m t s → (∀ (v : Int32) (s' : ps_S), v &&& 1 = v → yJ m t s' → f v s') → ps_Cl (d + 8) 15 [.ref r0, .int x1, .int x2, .int x] s (ps_rI f)
def ysG (d : Nat) (x : Int32) : Prop := ∀ (m s : ps_S) (t : Int32) (r0 : Nat) (x1 x2 : Int32) (f : Int32 → ps_S → Prop), ps_is r0 0 = true → yJ m t s → (∀ (v : Int32), f v s) → ps_Cl (d + 8) 18 [.ref r0, .int x1, .int x2, .int x] s (ps_rI f)
end
section
set_option maxRecDepth 100000
theorem ys_1_2 {m s : ps_S} {t : Int32} {d : Nat} {r0 : Nat} {x1 : Int32} {Q : Option Value → ps_S → Prop} (h0 : ps_is r0 0 = true) (e0 : 0 ≤ x1) (J : yJ m t s) (k : ∀ (s' : ps_S), yJ m t s' → Q none s') : ps_At d 1 2 [(0, .ref r0), (1, .int x1)] [] s Q :=
  xs_up (P := fun x1 => ∀ (s : ps_S), ps_is r0 0 = true → 0 ≤ x1 → yJ m t s → ps_At d 1 2 [(0, .ref r0), (1, .int x1)] [] s Q) (fun x1 ih s h0 e0 J => pg_1_2 (ps_nk_i h0 (ps_nk_i (xn_l ((yk_0_12 h0)).1) (And.intro (fun f1 => (k s J)) (fun f1 => (ps_nk_i h0 (ps_nk_i (xn_3 ((yk_0_12 h0)).1) (ps_nd_i (xg_in e0 f1) (ih ((x1 + 1)) (xs_lt f1) (ps_ub s (ps_c0 r0 12) (Int32.toNatClampNeg x1) 0) h0 (xs_nn e0 f1) (yw_b ((yk_0_12 h0)) J)))))))))) x1 s h0 e0 J

theorem ys_1 {m s : ps_S} {t : Int32} {d : Nat} {r0 : Nat} {f : ps_S → Prop} (h0 : ps_is r0 0 = true) (J : yJ m t s) (k : ∀ (s' : ps_S), yJ m t s' → f s') : ps_Cl d 1 [.ref r0] s (ps_rV f) :=
  pg_1_0 (ys_1_2 (d := d) (r0 := r0) (x1 := 0)  h0 (by decide) J k )

theorem ys_183 {m s : ps_S} {t : Int32} {d : Nat} {r0 : Nat} {x1 : Int32} {x2 : Int32} {f : ps_S → Prop} (h0 : ps_ar r0 0 = true ∧ xO r0) (J : yJ m t s) (k : ∀ (s' : ps_S), yJ m t s' → ps_i s' = ps_i s → f s') : ps_Cl d 183 [.ref r0, .int x1, .int x2] s (ps_rV f) :=
  pg_183_0 (And.intro (fun f1 => (k s J rfl)) (fun f1 => (ps_nk_i (xn_l (h0).1) (And.intro (fun f2 => (k s J rfl)) (fun f2 => (ps_nk_i (xn_0 (h0).1) (ps_nd_i (xg_in f1 f2) (k (ps_ua s r0 (Int32.toNatClampNeg x1) x2) (yw_a (h0) J) rfl))))))))

theorem ys_136 {m s : ps_S} {t : Int32} {d : Nat} {r0 : Nat} {x1 : Int32} {f : Int32 → ps_S → Prop} (h0 : ps_is r0 9 = true) (J : yJ m t s) (k : ∀ (v : Int32), f v s) : ps_Cl d 136 [.ref r0, .int x1] s (ps_rI f) :=
  pg_136_0 (And.intro (fun f1 => (k 0)) (fun f1 => (ps_nk_i h0 (ps_nk_i (xn_l ((xk_9_3 h0)).1) (And.intro (fun f2 => (k 0)) (fun f2 => (ps_nk_i h0 (ps_nk_i (xn_0 ((xk_9_3 h0)).1) (ps_nd_i (xg_in f1 f2) (k (ps_a s (ps_c0 r0 3) (Int32.toNatClampNeg x1))))))))))))

theorem ys_7_33 {m s : ps_S} {t : Int32} {d : Nat} {r0 : Nat} {x1 : Int32} {x3 : Int32} {x4 : Int32} {Q : Option Value → ps_S → Prop} (h0 : ps_is r0 0 = true) (J : yJ m t s) (k : ∀ (s' : ps_S), yJ m t s' → Q none s') : ps_At (d + 1) 7 33 [(0, .ref r0), (1, .int x1), (3, .int x3), (4, .int x4)] [] s Q :=
  xs_up (P := fun x4 => ∀ (s : ps_S), ps_is r0 0 = true → yJ m t s → ps_At (d + 1) 7 33 [(0, .ref r0), (1, .int x1), (3, .int x3), (4, .int x4)] [] s Q) (fun x4 ih s h0 J => pg_7_33 (d := d) (And.intro (fun f1 => (k s J)) (fun f1 => (ps_nk_i h0 (ps_nk_i h0 (ys_183 (yk_0_0 h0) J (fun s1 J1 e1 => (ps_nk_i h0 (ps_nk_i h0 (ih ((x4 + 1)) (xs_lt f1) (ps_ui s1 r0 2 ((ps_i s1 r0 2) + 1)) h0 (yw_i (c := 0) (by decide) h0 J1))))))))))) x4 s h0 J

theorem ys_7 {m s : ps_S} {t : Int32} {d : Nat} {r0 : Nat} {x1 : Int32} {x2 : Int32} {f : ps_S → Prop} (h0 : ps_is r0 0 = true) (J : yJ m t s) (k : ∀ (s' : ps_S), yJ m t s' → f s') : ps_Cl (d + 1) 7 [.ref r0, .int x1, .int x2] s (ps_rV f) :=
  pg_7_0 (d := d) (And.intro (fun f1 => (And.intro (fun f2 => (ps_nk_i h0 (ps_nk_i h0 (ys_7_33 (d := d) (r0 := r0) (x1 := x1) (x3 := ((ps_i s r0 11) * (ps_i s r0 11))) (x4 := 0)  h0 J k )))) (fun f2 => (ps_nk_i h0 (ys_7_33 (d := d) (r0 := r0) (x1 := x1) (x3 := (ps_i s r0 11)) (x4 := 0)  h0 J k ))))) (fun f1 => (ys_7_33 (d := d) (r0 := r0) (x1 := x1) (x3 := 1) (x4 := 0)  h0 J k )))

theorem ys_182 {m s : ps_S} {t : Int32} {d : Nat} {r0 : Nat} {x1 : Int32} {f : Int32 → ps_S → Prop} (h0 : ps_ar r0 0 = true ∧ xO r0) (J : yJ m t s) (k : ∀ (v : Int32), f v s) : ps_Cl d 182 [.ref r0, .int x1] s (ps_rI f) :=
  pg_182_0 (And.intro (fun f1 => (k (-1))) (fun f1 => (ps_nk_i (xn_l (h0).1) (And.intro (fun f2 => (k (-1))) (fun f2 => (ps_nk_i (xn_0 (h0).1) (ps_nd_i (xg_in f1 f2) (k (ps_a s r0 (Int32.toNatClampNeg x1))))))))))

theorem ys_6_114 {m s : ps_S} {t : Int32} {d : Nat} {r0 : Nat} {l3 : Int64} {x5 : Int32} {Q : Option Value → ps_S → Prop} (h0 : ps_is r0 0 = true) (J : yJ m t s) (k : ∀ (v : Int64) (s' : ps_S), yJ m t s' → Q (some (.long v)) s') : ps_At (d + 2) 6 114 [(0, .ref r0), (3, .long l3), (5, .int x5)] [] s Q :=
  xs_up (P := fun x5 => ∀ (l3 : Int64) (s : ps_S), ps_is r0 0 = true → yJ m t s → ps_At (d + 2) 6 114 [(0, .ref r0), (3, .long l3), (5, .int x5)] [] s Q) (fun x5 ih l3 s h0 J => pg_6_114 (d := d + 1) (ps_nk_i h0 (And.intro (fun f1 => (k l3 s J)) (fun f1 => (ps_nk_i h0 (ys_182 (yk_0_0 h0) J (fun v1 => (ih ((x5 + 1)) (xs_lt f1) ((if (1099511627776 : Int64) < (l3 * (Int32.toInt64 v1)) then (1099511627776 : Int64) else (l3 * (Int32.toInt64 v1)))) s h0 J)))))))) x5 l3 s h0 J

theorem ys_6_64 {m s : ps_S} {t : Int32} {d : Nat} {r0 : Nat} {x2 : Int32} {x3 : Int32} {Q : Option Value → ps_S → Prop} (h0 : ps_is r0 0 = true) (J : yJ m t s) (k : ∀ (v : Int64) (s' : ps_S), yJ m t s' → Q (some (.long v)) s') : ps_At (d + 2) 6 64 [(0, .ref r0), (2, .int x2), (3, .int x3)] [] s Q :=
  xs_up (P := fun x3 => ∀ (s : ps_S), ps_is r0 0 = true → yJ m t s → ps_At (d + 2) 6 64 [(0, .ref r0), (2, .int x2), (3, .int x3)] [] s Q) (fun x3 ih s h0 J => pg_6_64 (d := d + 1) (ps_nk_i h0 (ps_nk_i (xj_0_16 (J).1 h0) (And.intro (fun f1 => (ys_6_114 (d := d) (r0 := r0) (l3 := 1) (x5 := 0)  h0 J k )) (fun f1 => (ps_nk_i h0 (ps_nk_i h0 (ys_183 (yk_0_4 h0) J (fun s1 J1 e1 => (ps_nk_i h0 (ps_nk_i (xj_0_16 (J1).1 h0) (ys_136 (xj_0_16 (J1).1 h0) J1 (fun v2 => (ps_nk_i h0 (ys_7 h0 J1 (fun s3 J3 => (ih ((x3 + 1)) (xs_lt f1) s3 h0 J3))))))))))))))))) x3 s h0 J

theorem ys_6_17 {m s : ps_S} {t : Int32} {d : Nat} {r0 : Nat} {x2 : Int32} {x3 : Int32} {Q : Option Value → ps_S → Prop} (h0 : ps_is r0 0 = true) (J : yJ m t s) (k : ∀ (v : Int64) (s' : ps_S), yJ m t s' → Q (some (.long v)) s') : ps_At (d + 2) 6 17 [(0, .ref r0), (2, .int x2), (3, .int x3)] [] s Q :=
  xs_up (P := fun x3 => ∀ (s : ps_S), ps_is r0 0 = true → yJ m t s → ps_At (d + 2) 6 17 [(0, .ref r0), (2, .int x2), (3, .int x3)] [] s Q) (fun x3 ih s h0 J => pg_6_17 (d := d + 1) (ps_nk_i h0 (ps_nk_i (xj_0_16 (J).1 h0) (And.intro (fun f1 => (ys_6_64 (d := d) (r0 := r0) (x2 := x2) (x3 := 0)  h0 J k )) (fun f1 => (ps_nk_i h0 (ps_nk_i h0 (ys_183 (yk_0_3 h0) J (fun s1 J1 e1 => (ps_nk_i h0 (ps_nk_i (xj_0_16 (J1).1 h0) (ys_136 (xj_0_16 (J1).1 h0) J1 (fun v2 => (ps_nk_i h0 (ys_7 h0 J1 (fun s3 J3 => (ih ((x3 + 1)) (xs_lt f1) s3 h0 J3))))))))))))))))) x3 s h0 J

theorem ys_6 {m s : ps_S} {t : Int32} {d : Nat} {r0 : Nat} {r1 : Nat} {x2 : Int32} {f : Int64 → ps_S → Prop} (h0 : ps_is r0 0 = true) (h1 : ps_is r1 9 = true) (J : yJ m t s) (k : ∀ (v : Int64) (s' : ps_S), yJ m t s' → f v s') : ps_Cl (d + 2) 6 [.ref r0, .ref r1, .int x2] s (ps_rJ f) :=
  pg_6_0 (d := d + 1) (ps_nk_i h0 (ps_nk_i h0 (ps_nk_i h0 (ys_6_17 (d := d) (r0 := r0) (x2 := x2) (x3 := 0)  h0 (yw_i (c := 0) (by decide) h0 (yw_i (c := 0) (by decide) h0 (yw_rc (c := 0) (by decide) h0 (xw_0_16 h0 h1 (J).1) J))) k ))))

theorem ys_2 {m s : ps_S} {t : Int32} {d : Nat} {r0 : Nat} {r1 : Nat} {x2 : Int32} {f : Int32 → ps_S → Prop} (h0 : ps_is r0 0 = true) (h1 : ps_is r1 9 = true) (J : yJ m t s) (k : ∀ (v : Int32) (s' : ps_S), yJ m t s' → f v s') : ps_Cl (d + 3) 2 [.ref r0, .ref r1, .int x2] s (ps_rI f) :=
  pg_2_0 (d := d + 2) (ps_nk_i h0 (ys_6 h0 h1 J (fun v1 s1 J1 => (And.intro (fun f1 => (k (Int64.toInt32 v1) s1 J1)) (fun f1 => (k (-2) s1 J1))))))

theorem ys_10 {m s : ps_S} {t : Int32} {d : Nat} {r0 : Nat} {x1 : Int32} {f : Nat → ps_S → Prop} (h0 : ps_is r0 0 = true) (J : yJ m t s) (k : ∀ (v : Nat), ps_is v 6 = true → f v s) : ps_Cl d 10 [.ref r0, .int x1] s (ps_rA f) :=
  pg_10_0 (And.intro (fun f1 => (ps_nk_i h0 (k (ps_c0 r0 6) ((xk_0_6 h0))))) (fun f1 => (ps_nk_i h0 (ps_nk_i (xn_l ((xk_0_5 h0)).1) (And.intro (fun f2 => (ps_nk_i h0 (k (ps_c0 r0 6) ((xk_0_6 h0))))) (fun f2 => (ps_nk_i h0 (ps_nk_i (xn_5 ((xk_0_5 h0)).1) (ps_nd_i (xg_in f1 f2) (k (ps_e0 (ps_c0 r0 5) (Int32.toNatClampNeg x1)) ((xe_5 ((xk_0_5 h0)).1 (xg_in f1 f2)))))))))))))

theorem ys_135 {m s : ps_S} {t : Int32} {d : Nat} {r0 : Nat} {x1 : Int32} {f : Nat → ps_S → Prop} (h0 : ps_is r0 9 = true) (J : yJ m t s) (k : ∀ (v : Nat), ps_is v 5 = true → f v s) : ps_Cl d 135 [.ref r0, .int x1] s (ps_rA f) :=
  pg_135_0 (And.intro (fun f1 => (ps_nk_i h0 (k (ps_c0 r0 5) ((xk_9_5 h0))))) (fun f1 => (ps_nk_i h0 (ps_nk_i (xn_l ((xk_9_4 h0)).1) (And.intro (fun f2 => (ps_nk_i h0 (k (ps_c0 r0 5) ((xk_9_5 h0))))) (fun f2 => (ps_nk_i h0 (ps_nk_i (xn_4 ((xk_9_4 h0)).1) (ps_nd_i (xg_in f1 f2) (k (ps_e0 (ps_c0 r0 4) (Int32.toNatClampNeg x1)) ((xe_4 ((xk_9_4 h0)).1 (xg_in f1 f2)))))))))))))

theorem ys_92 {m s : ps_S} {t : Int32} {d : Nat} {r0 : Nat} {x1 : Int32} {f : Int32 → ps_S → Prop} (h0 : ps_is r0 5 = true) (J : yJ m t s) (k : ∀ (v : Int32), f v s) : ps_Cl d 92 [.ref r0, .int x1] s (ps_rI f) :=
  pg_92_0 (And.intro (fun f1 => (k (-1))) (fun f1 => (ps_nk_i h0 (And.intro (fun f2 => (k (-1))) (fun f2 => (ps_nk_i h0 (ps_nk_i (xn_l ((yk_5_0 h0)).1) (And.intro (fun f3 => (k (-1))) (fun f3 => (ps_nk_i h0 (ps_nk_i (xn_0 ((yk_5_0 h0)).1) (ps_nd_i (xg_in f1 f3) (k (ps_a s (ps_c0 r0 0) (Int32.toNatClampNeg x1)))))))))))))))

theorem ys_104 {m s : ps_S} {t : Int32} {d : Nat} {r0 : Nat} {x1 : Int32} {f : Int32 → ps_S → Prop} (h0 : ps_is r0 6 = true) (J : yJ m t s) (k : ∀ (v : Int32), f v s) : ps_Cl d 104 [.ref r0, .int x1] s (ps_rI f) :=
  pg_104_0 (And.intro (fun f1 => (k (-1))) (fun f1 => (ps_nk_i h0 (ps_nk_i (xn_l ((yk_6_0 h0)).1) (And.intro (fun f2 => (k (-1))) (fun f2 => (ps_nk_i h0 (ps_nk_i (xn_0 ((yk_6_0 h0)).1) (ps_nd_i (xg_in f1 f2) (k (ps_a s (ps_c0 r0 0) (Int32.toNatClampNeg x1))))))))))))

theorem ys_105 {m s : ps_S} {t : Int32} {d : Nat} {r0 : Nat} {x1 : Int32} {f : Int32 → ps_S → Prop} (h0 : ps_is r0 6 = true) (J : yJ m t s) (k : ∀ (v : Int32), f v s) : ps_Cl d 105 [.ref r0, .int x1] s (ps_rI f) :=
  pg_105_0 (And.intro (fun f1 => (k 0)) (fun f1 => (ps_nk_i h0 (ps_nk_i (xn_l ((yk_6_2 h0)).1) (And.intro (fun f2 => (k 0)) (fun f2 => (ps_nk_i h0 (ps_nk_i (xn_0 ((yk_6_2 h0)).1) (ps_nd_i (xg_in f1 f2) (k (ps_a s (ps_c0 r0 2) (Int32.toNatClampNeg x1))))))))))))

theorem ys_184 {m s : ps_S} {t : Int32} {d : Nat} {x0 : Int32} {f : Int32 → ps_S → Prop} (J : yJ m t s) (k : ∀ (v : Int32), v &&& 1 = v → f v s) : ps_Cl d 184 [.int x0] s (ps_rI f) :=
  pg_184_0 (And.intro (fun f1 => (k 1 (by decide))) (fun f1 => (And.intro (fun f2 => (k 0 (by decide))) (fun f2 => (k 1 (by decide))))))

theorem ys_103_55 {m s : ps_S} {t : Int32} {d : Nat} {r0 : Nat} {r1 : Nat} {r2 : Nat} {x3 : Int32} {x4 : Int32} {x5 : Int32} {Q : Option Value → ps_S → Prop} (h0 : ps_is r0 6 = true) (h1 : ps_is r1 5 = true) (h2 : ps_is r2 9 = true) (J : yJ m t s) (k : ∀ (s' : ps_S), yJ m t s' → Q none s') (K35 : ∀ (s : ps_S), ps_is r0 6 = true → ps_is r1 5 = true → ps_is r2 9 = true → yJ m t s → ps_At (d + 1) 103 35 [(0, .ref r0), (1, .ref r1), (2, .ref r2), (3, .int (x3 + (-1)))] [] s Q) : ps_At (d + 1) 103 55 [(0, .ref r0), (1, .ref r1), (2, .ref r2), (3, .int x3), (4, .int x4), (5, .int x5)] [] s Q :=
  xs_dn (P := fun x5 => ∀ (x4 : Int32) (s : ps_S), ps_is r0 6 = true → ps_is r1 5 = true → ps_is r2 9 = true → yJ m t s → ps_At (d + 1) 103 55 [(0, .ref r0), (1, .ref r1), (2, .ref r2), (3, .int x3), (4, .int x4), (5, .int x5)] [] s Q) (fun x5 ih x4 s h0 h1 h2 J => pg_103_55 (d := d) (And.intro (fun f1 => (ps_nk_i h0 (ys_183 (yk_6_0 h0) J (fun s1 J1 e1 => (K35 s1 h0 h1 h2 J1))))) (fun f1 => (ps_nk_i h0 (ys_104 h0 J (fun v2 => (ih ((x5 + (-1))) (xs_gt f1) (v2) s h0 h1 h2 J))))))) x5 x4 s h0 h1 h2 J

theorem ys_103_176 {m s : ps_S} {t : Int32} {d : Nat} {r0 : Nat} {r1 : Nat} {r2 : Nat} {x3 : Int32} {x4 : Int32} {x5 : Int32} {x6 : Int32} {x7 : Int32} {Q : Option Value → ps_S → Prop} (h0 : ps_is r0 6 = true) (h1 : ps_is r1 5 = true) (h2 : ps_is r2 9 = true) (J : yJ m t s) (k : ∀ (s' : ps_S), yJ m t s' → Q none s') (K92 : ∀ (s : ps_S), ps_is r0 6 = true → ps_is r1 5 = true → ps_is r2 9 = true → yJ m t s → ps_At (d + 1) 103 92 [(0, .ref r0), (1, .ref r1), (2, .ref r2), (3, .int (x3 + 1))] [] s Q) : ps_At (d + 1) 103 176 [(0, .ref r0), (1, .ref r1), (2, .ref r2), (3, .int x3), (4, .int x4), (5, .int x5), (6, .int x6), (7, .int x7)] [] s Q :=
  xs_dn (P := fun x7 => ∀ (x6 : Int32) (s : ps_S), ps_is r0 6 = true → ps_is r1 5 = true → ps_is r2 9 = true → yJ m t s → ps_At (d + 1) 103 176 [(0, .ref r0), (1, .ref r1), (2, .ref r2), (3, .int x3), (4, .int x4), (5, .int x5), (6, .int x6), (7, .int x7)] [] s Q) (fun x7 ih x6 s h0 h1 h2 J => pg_103_176 (d := d) (And.intro (fun f1 => (K92 s h0 h1 h2 J)) (fun f1 => (ps_nk_i h0 (ys_183 (yk_6_1 h0) J (fun s1 J1 e1 => (ps_nk_i h0 (ys_183 (yk_6_2 h0) J1 (fun s2 J2 e2 => (ps_nk_i h0 (ys_104 h0 J2 (fun v3 => (ih ((x7 + (-1))) (xs_gt f1) (v3) s2 h0 h1 h2 J2))))))))))))) x7 x6 s h0 h1 h2 J

theorem ys_103_92 {m s : ps_S} {t : Int32} {d : Nat} {r0 : Nat} {r1 : Nat} {r2 : Nat} {x3 : Int32} {Q : Option Value → ps_S → Prop} (h0 : ps_is r0 6 = true) (h1 : ps_is r1 5 = true) (h2 : ps_is r2 9 = true) (J : yJ m t s) (k : ∀ (s' : ps_S), yJ m t s' → Q none s') : ps_At (d + 1) 103 92 [(0, .ref r0), (1, .ref r1), (2, .ref r2), (3, .int x3)] [] s Q :=
  xs_up (P := fun x3 => ∀ (s : ps_S), ps_is r0 6 = true → ps_is r1 5 = true → ps_is r2 9 = true → yJ m t s → ps_At (d + 1) 103 92 [(0, .ref r0), (1, .ref r1), (2, .ref r2), (3, .int x3)] [] s Q) (fun x3 ih s h0 h1 h2 J => pg_103_92 (d := d) (ps_nk_i h1 (And.intro (fun f1 => (k s J)) (fun f1 => (ps_nk_i h0 (ys_182 (yk_6_1 h0) J (fun v1 => (ps_nk_i h0 (ys_105 h0 J (fun v2 => (ps_nk_i h1 (ys_92 h1 J (fun v3 => (ys_184  J (fun v4 b4 => (And.intro (fun f2 => (ps_nk_i h0 (ps_nk_i h0 (ps_nk_i h0 (ps_nk_i h0 (ps_nk_i h1 (ys_92 h1 (yw_i (c := 6) (by decide) h0 (yw_i (c := 6) (by decide) h0 J)) (fun v5 => (ps_nk_i h2 (ys_136 h2 (yw_i (c := 6) (by decide) h0 (yw_i (c := 6) (by decide) h0 J)) (fun v6 => (ys_103_176 (d := d) (r0 := r0) (r1 := r1) (r2 := r2) (x3 := x3) (x4 := v1) (x5 := (v2 + 0)) (x6 := (x3 + 1)) (x7 := v6)  h0 h1 h2 (yw_i (c := 6) (by decide) h0 (yw_i (c := 6) (by decide) h0 J)) k (fun s9 h0z h1z h2z J9 => ih (x3 + 1) (xs_lt f1) s9 h0z h1z h2z J9))))))))))))) (fun f2 => (ps_nk_i h0 (ps_nk_i h0 (ps_nk_i h0 (ps_nk_i h0 (ps_nk_i h1 (ys_92 h1 (yw_i (c := 6) (by decide) h0 (yw_i (c := 6) (by decide) h0 J)) (fun v7 => (ps_nk_i h2 (ys_136 h2 (yw_i (c := 6) (by decide) h0 (yw_i (c := 6) (by decide) h0 J)) (fun v8 => (ys_103_176 (d := d) (r0 := r0) (r1 := r1) (r2 := r2) (x3 := x3) (x4 := v1) (x5 := (v2 + 1)) (x6 := (x3 + 1)) (x7 := v8)  h0 h1 h2 (yw_i (c := 6) (by decide) h0 (yw_i (c := 6) (by decide) h0 J)) k (fun s9 h0z h1z h2z J9 => ih (x3 + 1) (xs_lt f1) s9 h0z h1z h2z J9))))))))))))))))))))))))))))) x3 s h0 h1 h2 J

theorem ys_103_35 {m s : ps_S} {t : Int32} {d : Nat} {r0 : Nat} {r1 : Nat} {r2 : Nat} {x3 : Int32} {Q : Option Value → ps_S → Prop} (h0 : ps_is r0 6 = true) (h1 : ps_is r1 5 = true) (h2 : ps_is r2 9 = true) (J : yJ m t s) (k : ∀ (s' : ps_S), yJ m t s' → Q none s') : ps_At (d + 1) 103 35 [(0, .ref r0), (1, .ref r1), (2, .ref r2), (3, .int x3)] [] s Q :=
  xs_dn (P := fun x3 => ∀ (s : ps_S), ps_is r0 6 = true → ps_is r1 5 = true → ps_is r2 9 = true → yJ m t s → ps_At (d + 1) 103 35 [(0, .ref r0), (1, .ref r1), (2, .ref r2), (3, .int x3)] [] s Q) (fun x3 ih s h0 h1 h2 J => pg_103_35 (d := d) (And.intro (fun f1 => (ys_103_92 (d := d) (r0 := r0) (r1 := r1) (r2 := r2) (x3 := 0)  h0 h1 h2 J k )) (fun f1 => (ps_nk_i h1 (ys_92 h1 J (fun v1 => (ps_nk_i h2 (ys_136 h2 J (fun v2 => (ys_103_55 (d := d) (r0 := r0) (r1 := r1) (r2 := r2) (x3 := x3) (x4 := (x3 + 1)) (x5 := v2)  h0 h1 h2 J k (fun s9 h0z h1z h2z J9 => ih (x3 + (-1)) (xs_ge f1) s9 h0z h1z h2z J9))))))))))) x3 s h0 h1 h2 J

theorem ys_103 {m s : ps_S} {t : Int32} {d : Nat} {r0 : Nat} {r1 : Nat} {r2 : Nat} {f : ps_S → Prop} (h0 : ps_is r0 6 = true) (h1 : ps_is r1 5 = true) (h2 : ps_is r2 9 = true) (J : yJ m t s) (k : ∀ (s' : ps_S), yJ m t s' → f s') : ps_Cl (d + 1) 103 [.ref r0, .ref r1, .ref r2] s (ps_rV f) :=
  pg_103_0 (d := d) (ps_nk_i h0 (ps_nk_i h0 (ps_nk_i h0 (ys_183 (yk_6_1 h0) (yw_i (c := 6) (by decide) h0 (yw_i (c := 6) (by decide) h0 J)) (fun s1 J1 e1 => (ps_nk_i h0 (ys_183 (yk_6_2 h0) J1 (fun s2 J2 e2 => (ps_nk_i h1 (ys_103_35 (d := d) (r0 := r0) (r1 := r1) (r2 := r2) (x3 := ((ps_i s2 r1 1) - 1))  h0 h1 h2 J2 k ))))))))))

theorem ys_9_2 {m s : ps_S} {t : Int32} {d : Nat} {r0 : Nat} {x1 : Int32} {Q : Option Value → ps_S → Prop} (h0 : ps_is r0 0 = true) (J : yJ m t s) (k : ∀ (s' : ps_S), yJ m t s' → Q none s') : ps_At (d + 2) 9 2 [(0, .ref r0), (1, .int x1)] [] s Q :=
  xs_up (P := fun x1 => ∀ (s : ps_S), ps_is r0 0 = true → yJ m t s → ps_At (d + 2) 9 2 [(0, .ref r0), (1, .int x1)] [] s Q) (fun x1 ih s h0 J => pg_9_2 (d := d + 1) (ps_nk_i h0 (ps_nk_i (xj_0_16 (J).1 h0) (And.intro (fun f1 => (k s J)) (fun f1 => (ps_nk_i h0 (ys_10 h0 J (fun v1 g1 => (ps_nk_i h0 (ps_nk_i (xj_0_16 (J).1 h0) (ys_135 (xj_0_16 (J).1 h0) J (fun v2 g2 => (ps_nk_i h0 (ps_nk_i g1 (ys_103 g1 g2 (xj_0_16 (J).1 h0) J (fun s3 J3 => (ih ((x1 + 1)) (xs_lt f1) s3 h0 J3))))))))))))))))) x1 s h0 J

theorem ys_9 {m s : ps_S} {t : Int32} {d : Nat} {r0 : Nat} {f : ps_S → Prop} (h0 : ps_is r0 0 = true) (J : yJ m t s) (k : ∀ (s' : ps_S), yJ m t s' → f s') : ps_Cl (d + 2) 9 [.ref r0] s (ps_rV f) :=
  pg_9_0 (d := d + 1) (ys_9_2 (d := d) (r0 := r0) (x1 := 0)  h0 J k )

theorem ys_8_9 {m s : ps_S} {t : Int32} {d : Nat} {r0 : Nat} {x2 : Int32} {x3 : Int32} {Q : Option Value → ps_S → Prop} (h0 : ps_is r0 0 = true) (J : yJ m t s) (k : ∀ (s' : ps_S), yJ m t s' → Q none s') : ps_At (d + 1) 8 9 [(0, .ref r0), (2, .int x2), (3, .int x3)] [] s Q :=
  xs_dn (P := fun x3 => ∀ (x2 : Int32) (s : ps_S), ps_is r0 0 = true → yJ m t s → ps_At (d + 1) 8 9 [(0, .ref r0), (2, .int x2), (3, .int x3)] [] s Q) (fun x3 ih x2 s h0 J => pg_8_9 (d := d) (And.intro (fun f1 => (k s J)) (fun f1 => (ps_nk_i h0 (ys_182 (yk_0_0 h0) J (fun v1 => (And.intro (fun f2 => (ih ((x3 + (-1))) (xs_ge f1) (x2) s h0 J)) (fun f2 => (ps_nk_i h0 (ps_nd_i (xg_nz f2) (ys_183 (yk_0_1 h0) J (fun s2 J2 e2 => (ps_nd_i (xg_nz f2) (ih ((x3 + (-1))) (xs_ge f1) ((x2 / v1)) s2 h0 J2)))))))))))))) x3 x2 s h0 J

theorem ys_8 {m s : ps_S} {t : Int32} {d : Nat} {r0 : Nat} {x1 : Int32} {f : ps_S → Prop} (h0 : ps_is r0 0 = true) (J : yJ m t s) (k : ∀ (s' : ps_S), yJ m t s' → f s') : ps_Cl (d + 1) 8 [.ref r0, .int x1] s (ps_rV f) :=
  pg_8_0 (d := d) (ps_nk_i h0 (ys_8_9 (d := d) (r0 := r0) (x2 := x1) (x3 := ((ps_i s r0 2) - 1))  h0 J k ))

theorem ys_185 {m s : ps_S} {t : Int32} {d : Nat} {x0 : Int32} {f : Int32 → ps_S → Prop} (J : yJ m t s) (k : ∀ (v : Int32), v &&& 1 = v → f v s) : ps_Cl d 185 [.int x0] s (ps_rI f) :=
  pg_185_0 (And.intro (fun f1 => (k 0 (by decide))) (fun f1 => (And.intro (fun f2 => (k 0 (by decide))) (fun f2 => (k 1 (by decide))))))

theorem yr_19 {m s : ps_S} {t : Int32} {d : Nat} {r0 : Nat} {x1 : Int32} {x2 : Int32} {x3 : Int32} {f : Int32 → ps_S → Prop} (HG : ysG d (x3 + 1)) (h0 : ps_is r0 0 = true) (J : yJ m t s) (k : ∀ (v : Int32), f v s) : ps_Cl (d + 9) 19 [.ref r0, .int x1, .int x2, .int x3] s (ps_rI f) :=
  pg_19_0 (d := d + 8) (ps_nk_i h0 (ps_nk_i h0 (ps_nk_i (xj_0_14 (J).1 h0) (ys_92 (xj_0_14 (J).1 h0) J (fun v1 => (ps_nk_i (xj_0_16 (J).1 h0) (ys_136 (xj_0_16 (J).1 h0) J (fun v2 => (And.intro (fun f1 => (ps_nk_i h0 (HG _ _ _ _ _ _ _ h0 J (fun v3 => (And.intro (fun f2 => (ps_nk_i h0 (ps_nk_i h0 (ps_nk_i (xj_0_15 (J).1 h0) (ys_104 (xj_0_15 (J).1 h0) J (fun v4 => (ps_nk_i h0 (HG _ _ _ _ _ _ _ h0 J (fun v5 => (k ((v3 * (ps_i s r0 11)) + v5))))))))))) (fun f2 => (k v3))))))) (fun f1 => (k 0)))))))))))

theorem yr_18 {m s : ps_S} {t : Int32} {d : Nat} {r0 : Nat} {x1 : Int32} {x2 : Int32} {x3 : Int32} {f : Int32 → ps_S → Prop} (H : x3 ≤ 12 → ysG d (x3 + 1)) (h0 : ps_is r0 0 = true) (J : yJ m t s) (k : ∀ (v : Int32), f v s) : ps_Cl (d + 10) 18 [.ref r0, .int x1, .int x2, .int x3] s (ps_rI f) :=
  pg_18_0 (d := d + 9) (And.intro (fun f1 => (ps_nk_i h0 (ps_nk_i (xj_0_14 (J).1 h0) (ys_92 (xj_0_14 (J).1 h0) J (fun v1 => (And.intro (fun f2 => (ys_185  J (fun v2 b2 => (And.intro (fun f3 => (ps_nk_i h0 (ps_nk_i h0 (ys_182 (yk_0_4 h0) J (fun v3 => (ps_nk_i h0 (yr_19 (H f1) h0 J (fun v4 => (ys_182 (yk_0_1 h0) J (fun v5 => (k v5))))))))))) (fun f3 => (ps_nk_i h0 (ys_182 (yk_0_7 h0) J (fun v6 => (k v6))))))))) (fun f2 => (ps_nk_i h0 (ys_182 (yk_0_8 h0) J (fun v7 => (k v7))))))))))) (fun f1 => (k 0)))

theorem yr_16 {m s : ps_S} {t : Int32} {d : Nat} {r0 : Nat} {x1 : Int32} {x2 : Int32} {x3 : Int32} {f : Int32 → ps_S → Prop} (HS : ysS d x3) (h0 : ps_is r0 0 = true) (J : yJ m t s) (k : ∀ (v : Int32) (s' : ps_S), v &&& 1 = v → yJ m t s' → f v s') : ps_Cl (d + 9) 16 [.ref r0, .int x1, .int x2, .int x3] s (ps_rI f) :=
  pg_16_0 (d := d + 8) (ps_nk_i h0 (HS _ _ _ _ _ _ _ h0 J (fun v1 s1 b1 J1 => (ps_nk_i h0 (ps_nk_i (xj_0_14 (J1).1 h0) (ys_92 (xj_0_14 (J1).1 h0) J1 (fun v2 => (And.intro (fun f1 => (And.intro (fun f2 => (k 0 s1 (by decide) J1)) (fun f2 => (ps_nk_i h0 (ps_nk_i (xj_0_15 (J1).1 h0) (ys_104 (xj_0_15 (J1).1 h0) J1 (fun v3 => (ps_nk_i h0 (HS _ _ _ _ _ _ _ h0 J1 (fun v4 s4 b4 J4 => (And.intro (fun f3 => (k 0 s4 (by decide) J4)) (fun f3 => (k 1 s4 (by decide) J4))))))))))))) (fun f1 => (And.intro (fun f4 => (And.intro (fun f5 => (k 1 s1 (by decide) J1)) (fun f5 => (ps_nk_i h0 (ps_nk_i (xj_0_15 (J1).1 h0) (ys_104 (xj_0_15 (J1).1 h0) J1 (fun v5 => (ps_nk_i h0 (HS _ _ _ _ _ _ _ h0 J1 (fun v6 s6 b6 J6 => (And.intro (fun f6 => (k 0 s6 (by decide) J6)) (fun f6 => (k 1 s6 (by decide) J6))))))))))))) (fun f4 => (And.intro (fun f7 => (k 1 s1 (by decide) J1)) (fun f7 => (ps_nk_i h0 (ps_nk_i (xj_0_15 (J1).1 h0) (ys_104 (xj_0_15 (J1).1 h0) J1 (fun v7 => (ps_nk_i h0 (HS _ _ _ _ _ _ _ h0 J1 (fun v8 s8 b8 J8 => (And.intro (fun f8 => (k 0 s8 (by decide) J8)) (fun f8 => (k 1 s8 (by decide) J8)))))))))))))))))))))))

theorem yr_17_22 {m s : ps_S} {t : Int32} {d : Nat} {r0 : Nat} {x1 : Int32} {x2 : Int32} {x3 : Int32} {x4 : Int32} {x5 : Int32} {Q : Option Value → ps_S → Prop} (HS : ysS d (x3 + 1)) (h0 : ps_is r0 0 = true) (e0 : x4 &&& 1 = x4) (J : yJ m t s) (k : ∀ (v : Int32) (s' : ps_S), v &&& 1 = v → yJ m t s' → Q (some (.int v)) s') : ps_At (d + 9) 17 22 [(0, .ref r0), (1, .int x1), (2, .int x2), (3, .int x3), (4, .int x4), (5, .int x5)] [] s Q :=
  xs_up (P := fun x5 => ∀ (s : ps_S), ps_is r0 0 = true → x4 &&& 1 = x4 → yJ m t s → ps_At (d + 9) 17 22 [(0, .ref r0), (1, .int x1), (2, .int x2), (3, .int x3), (4, .int x4), (5, .int x5)] [] s Q) (fun x5 ih s h0 e0 J => pg_17_22 (d := d + 8) (ps_nk_i h0 (And.intro (fun f1 => (ps_nd_i (decide_eq_true e0) ((k x4 s (of_decide_eq_true (decide_eq_true e0)) J)))) (fun f1 => (ps_nk_i h0 (ys_183 (yk_0_7 h0) J (fun s1 J1 e1 => (ps_nk_i h0 (HS _ _ _ _ _ _ _ h0 J1 (fun v2 s2 b2 J2 => (And.intro (fun f2 => (ih ((x5 + 1)) (xs_lt f1) s2 h0 e0 J2)) (fun f2 => (And.intro (fun f3 => (k 0 s2 (by decide) J2)) (fun f3 => (k 1 s2 (by decide) J2))))))))))))))) x5 s h0 e0 J

theorem yr_17 {m s : ps_S} {t : Int32} {d : Nat} {r0 : Nat} {x1 : Int32} {x2 : Int32} {x3 : Int32} {f : Int32 → ps_S → Prop} (HS : ysS d (x3 + 1)) (h0 : ps_is r0 0 = true) (J : yJ m t s) (k : ∀ (v : Int32) (s' : ps_S), v &&& 1 = v → yJ m t s' → f v s') : ps_Cl (d + 9) 17 [.ref r0, .int x1, .int x2, .int x3] s (ps_rI f) :=
  pg_17_0 (d := d + 8) (ps_nk_i h0 (ps_nk_i (xj_0_14 (J).1 h0) (ys_92 (xj_0_14 (J).1 h0) J (fun v1 => (And.intro (fun f1 => (yr_17_22 (d := d) (r0 := r0) (x1 := x1) (x2 := x2) (x3 := x3) (x4 := 0) (x5 := 0) HS h0 (by decide) J k )) (fun f1 => (yr_17_22 (d := d) (r0 := r0) (x1 := x1) (x2 := x2) (x3 := x3) (x4 := 1) (x5 := 0) HS h0 (by decide) J k )))))))

theorem yr_15 {m s : ps_S} {t : Int32} {d : Nat} {r0 : Nat} {x1 : Int32} {x2 : Int32} {x3 : Int32} {f : Int32 → ps_S → Prop} (HS : x3 ≤ 12 → ysS d (x3 + 1)) (HG : ∀ e, x3 ≤ 12 → ysG (d + e) (x3 + 1)) (h0 : ps_is r0 0 = true) (J : yJ m t s) (k : ∀ (v : Int32) (s' : ps_S), v &&& 1 = v → yJ m t s' → f v s') : ps_Cl (d + 10) 15 [.ref r0, .int x1, .int x2, .int x3] s (ps_rI f) :=
  pg_15_0 (d := d + 9) (And.intro (fun f1 => (ps_nk_i h0 (ps_nk_i (xj_0_14 (J).1 h0) (ys_92 (xj_0_14 (J).1 h0) J (fun v1 => (And.intro (fun f2 => (k 0 s (by decide) J)) (fun f2 => (And.intro (fun f3 => (ps_nk_i h0 (yr_16 (HS f1) h0 J (fun v2 s2 b2 J2 => (ps_nd_i (decide_eq_true b2) ((k v2 s2 (of_decide_eq_true (decide_eq_true b2)) J2))))))) (fun f3 => (And.intro (fun f4 => (ps_nk_i h0 (yr_16 (HS f1) h0 J (fun v3 s3 b3 J3 => (ps_nd_i (decide_eq_true b3) ((k v3 s3 (of_decide_eq_true (decide_eq_true b3)) J3))))))) (fun f4 => (And.intro (fun f5 => (ps_nk_i h0 (yr_16 (HS f1) h0 J (fun v4 s4 b4 J4 => (ps_nd_i (decide_eq_true b4) ((k v4 s4 (of_decide_eq_true (decide_eq_true b4)) J4))))))) (fun f5 => (And.intro (fun f6 => (ps_nk_i h0 (yr_17 (HS f1) h0 J (fun v5 s5 b5 J5 => (ps_nd_i (decide_eq_true b5) ((k v5 s5 (of_decide_eq_true (decide_eq_true b5)) J5))))))) (fun f6 => (And.intro (fun f7 => (ps_nk_i h0 (yr_17 (HS f1) h0 J (fun v6 s6 b6 J6 => (ps_nd_i (decide_eq_true b6) ((k v6 s6 (of_decide_eq_true (decide_eq_true b6)) J6))))))) (fun f7 => (And.intro (fun f8 => (ps_nk_i h0 ((HG 1 f1) _ _ _ _ _ _ _ h0 J (fun v7 => (ps_nk_i h0 (ps_nk_i (xj_0_15 (J).1 h0) (ys_104 (xj_0_15 (J).1 h0) J (fun v8 => (ps_nk_i h0 ((HG 1 f1) _ _ _ _ _ _ _ h0 J (fun v9 => (And.intro (fun f9 => (k 0 s (by decide) J)) (fun f9 => (k 1 s (by decide) J)))))))))))))) (fun f8 => (ps_nk_i h0 (ps_nk_i h0 (ys_182 (yk_0_3 h0) J (fun v10 => (ps_nk_i h0 (yr_19 (HG 0 f1) h0 J (fun v11 => (ys_182 (yk_0_1 h0) J (fun v12 => (And.intro (fun f10 => (k 0 s (by decide) J)) (fun f10 => (k 1 s (by decide) J))))))))))))))))))))))))))))))) (fun f1 => (k 0 s (by decide) J)))

theorem yr_G : ∀ (k : Nat) (x : Int32) (d : Nat), 0 ≤ x.toInt → x.toInt ≤ 13 → 13 - x.toInt ≤ k → 2 * k + 2 ≤ d → ysG d x := by
  intro k
  induction k with
  | zero =>
    intro x d h0 h1 h2 h3
    obtain ⟨e, rfl⟩ : ∃ e, d = e + 2 := ⟨d - 2, by omega⟩
    have e1 : (12 : Int32).toInt = 12 := by decide
    have hx : ¬ x ≤ 12 := by rw [Int32.le_iff_toInt_le, e1]; omega
    exact fun m s t r0 x1 x2 f h J k => yr_18 (d := e) (fun q => absurd q hx) h J k
  | succ k ih =>
    intro x d h0 h1 h2 h3
    obtain ⟨e, rfl⟩ : ∃ e, d = e + 2 := ⟨d - 2, by omega⟩
    have e1 : (12 : Int32).toInt = 12 := by decide
    have s1 : x ≤ 12 → ysG e (x + 1) := fun q => by
      rw [Int32.le_iff_toInt_le, e1] at q
      have ex : (x + 1).toInt = x.toInt + 1 := by rw [xI_add (by rw [xone]; omega) (by rw [xone]; omega), xone]
      exact ih (x + 1) e (by omega) (by omega) (by omega) (by omega)
    exact fun m s t r0 x1 x2 f h J k => yr_18 (d := e) s1 h J k
theorem yr_S : ∀ (k : Nat) (x : Int32) (d : Nat), 0 ≤ x.toInt → x.toInt ≤ 13 → 13 - x.toInt ≤ k → 2 * k + 2 ≤ d → ysS d x := by
  intro k
  induction k with
  | zero =>
    intro x d h0 h1 h2 h3
    obtain ⟨e, rfl⟩ : ∃ e, d = e + 2 := ⟨d - 2, by omega⟩
    have e1 : (12 : Int32).toInt = 12 := by decide
    have hx : ¬ x ≤ 12 := by rw [Int32.le_iff_toInt_le, e1]; omega
    exact fun m s t r0 x1 x2 f h J k => yr_15 (d := e) (fun q => absurd q hx) (fun _ q => absurd q hx) h J k
  | succ k ih =>
    intro x d h0 h1 h2 h3
    obtain ⟨e, rfl⟩ : ∃ e, d = e + 2 := ⟨d - 2, by omega⟩
    have e1 : (12 : Int32).toInt = 12 := by decide
    have ex : x ≤ 12 → (x + 1).toInt = x.toInt + 1 ∧ x.toInt ≤ 12 := fun q => by
      rw [Int32.le_iff_toInt_le, e1] at q
      exact ⟨by rw [xI_add (by rw [xone]; omega) (by rw [xone]; omega), xone], q⟩
    exact fun m s t r0 x1 x2 f h J k' => yr_15 (d := e) (fun q => ih (x + 1) e (by have := ex q; omega) (by have := ex q; omega) (by have := ex q; omega) (by omega)) (fun i q => yr_G k (x + 1) (e + i) (by have := ex q; omega) (by have := ex q; omega) (by have := ex q; omega) (by omega)) h J k'
theorem ys_15 {m s : ps_S} {t x1 x2 : Int32} {d r0 : Nat} {f : Int32 → ps_S → Prop} (h0 : ps_is r0 0 = true) (J : yJ m t s) (k : ∀ (v : Int32) (s' : ps_S), v &&& 1 = v → yJ m t s' → f v s') : ps_Cl (d + 36) 15 [.ref r0, .int x1, .int x2, .int 0] s (ps_rI f) :=
  (yr_S 13 0 (d + 28) (by decide) (by decide) (by decide) (by omega)) m s t r0 x1 x2 f h0 J k

theorem ys_12_7 {m s : ps_S} {t : Int32} {d : Nat} {r0 : Nat} {x2 : Int32} {Q : Option Value → ps_S → Prop} (h0 : ps_is r0 0 = true) (J : yJ m t s) (k : ∀ (v : Int32) (s' : ps_S), v &&& 1 = v → yJ m t s' → Q (some (.int v)) s') : ps_At (d + 37) 12 7 [(0, .ref r0), (2, .int x2)] [] s Q :=
  xs_up (P := fun x2 => ∀ (s : ps_S), ps_is r0 0 = true → yJ m t s → ps_At (d + 37) 12 7 [(0, .ref r0), (2, .int x2)] [] s Q) (fun x2 ih s h0 J => pg_12_7 (d := d + 36) (ps_nk_i h0 (ps_nk_i (xj_0_16 (J).1 h0) (And.intro (fun f1 => (k 1 s (by decide) J)) (fun f1 => (ps_nk_i h0 (ps_nk_i (xj_0_16 (J).1 h0) (ys_135 (xj_0_16 (J).1 h0) J (fun v1 g1 => (ps_nk_i h0 (ps_nk_i h0 (ys_10 h0 (yw_rc (c := 0) (by decide) h0 (xw_0_14 h0 g1 (J).1) J) (fun v2 g2 => (ps_nk_i h0 (ps_nk_i h0 (ys_15 h0 (yw_rc (c := 0) (by decide) h0 (xw_0_15 h0 g2 ((yw_rc (c := 0) (by decide) h0 (xw_0_14 h0 g1 (J).1) J)).1) (yw_rc (c := 0) (by decide) h0 (xw_0_14 h0 g1 (J).1) J)) (fun v3 s3 b3 J3 => (And.intro (fun f2 => (ih ((x2 + 1)) (xs_lt f1) s3 h0 J3)) (fun f2 => (k 0 s3 (by decide) J3)))))))))))))))))))) x2 s h0 J

theorem ys_12 {m s : ps_S} {t : Int32} {d : Nat} {r0 : Nat} {x1 : Int32} {f : Int32 → ps_S → Prop} (h0 : ps_is r0 0 = true) (J : yJ m t s) (k : ∀ (v : Int32) (s' : ps_S), v &&& 1 = v → yJ m t s' → f v s') : ps_Cl (d + 37) 12 [.ref r0, .int x1] s (ps_rI f) :=
  pg_12_0 (d := d + 36) (ps_nk_i h0 (ys_8 h0 J (fun s1 J1 => (ys_12_7 (d := d) (r0 := r0) (x2 := 0)  h0 J1 k ))))

theorem ys_11_106 {m s : ps_S} {t : Int32} {d : Nat} {r0 : Nat} {x2 : Int32} {l3 : Int64} {Q : Option Value → ps_S → Prop} (h0 : ps_is r0 0 = true) (e0 : 0 ≤ x2) (e1 : x2 < (nI (ps_ln (ps_c0 r0 13)))) (J : yJ m t s) (k : ∀ (v : Int32) (s' : ps_S), v &&& 1 = v → yJ m t s' → Q (some (.int v)) s') : ps_At (d + 38) 11 106 [(0, .ref r0), (2, .int x2), (3, .long l3)] [] s Q :=
  pg_11_106 (d := d + 37) (ps_nk_i h0 (ps_nk_i (xn_3 ((yk_0_13 h0)).1) (ps_nd_i (xg_in e0 e1) (And.intro (fun f1 => (k 0 s (by decide) J)) (fun f1 => (k 1 s (by decide) J))))))

theorem ys_11 {m s : ps_S} {t : Int32} {d : Nat} {r0 : Nat} {x1 : Int32} {f : Int32 → ps_S → Prop} (h0 : ps_is r0 0 = true) (J : yJ m t s) (k : ∀ (v : Int32) (s' : ps_S), v &&& 1 = v → yJ m t s' → f v s') : ps_Cl (d + 38) 11 [.ref r0, .int x1] s (ps_rI f) :=
  pg_11_0 (d := d + 37) (ps_nk_i h0 (And.intro (fun f1 => (k 0 s (by decide) J)) (fun f1 => (ps_nk_i h0 (ps_nk_i (xn_l ((yk_0_12 h0)).1) (And.intro (fun f2 => (k 0 s (by decide) J)) (fun f2 => (ps_nk_i h0 (ps_nk_i (xn_l ((yk_0_13 h0)).1) (And.intro (fun f3 => (ps_nk_i h0 (ps_nk_i (xn_3 ((yk_0_12 h0)).1) (ps_nd_i (xg_in f1 f2) (And.intro (fun f4 => (ys_11_106 (d := d) (r0 := r0) (x2 := ((((ps_i s r0 11) - 1) * 64) + (x1 / 64))) (l3 := ((1 : Int64) <<< (Int32.toInt64 (x1 - (x1 / 64) * 64) &&& 63)))  h0 f1 f3 J k )) (fun f4 => (ps_nk_i h0 (ps_nk_i (xn_3 ((yk_0_12 h0)).1) (ps_nd_i (xg_in f1 f2) (ps_nk_i (xn_3 ((yk_0_12 h0)).1) (ps_nd_i (xg_in f1 f2) (ps_nk_i h0 (ps_nk_i h0 (ys_12 h0 (yw_b ((yk_0_12 h0)) J) (fun v1 s1 b1 J1 => (And.intro (fun f5 => (ps_nk_i h0 (ps_nk_i (xn_3 ((yk_0_13 h0)).1) (ps_nd_i (xg_in f1 f3) (ps_nk_i (xn_3 ((yk_0_13 h0)).1) (ps_nd_i (xg_in f1 f3) (ys_11_106 (d := d) (r0 := r0) (x2 := ((((ps_i s r0 11) - 1) * 64) + (x1 / 64))) (l3 := ((1 : Int64) <<< (Int32.toInt64 (x1 - (x1 / 64) * 64) &&& 63)))  h0 f1 f3 (yw_b ((yk_0_13 h0)) J1) k ))))))) (fun f5 => (ps_nk_i h0 (ps_nk_i (xn_3 ((yk_0_13 h0)).1) (ps_nd_i (xg_in f1 f3) (ps_nk_i (xn_3 ((yk_0_13 h0)).1) (ps_nd_i (xg_in f1 f3) (ys_11_106 (d := d) (r0 := r0) (x2 := ((((ps_i s r0 11) - 1) * 64) + (x1 / 64))) (l3 := ((1 : Int64) <<< (Int32.toInt64 (x1 - (x1 / 64) * 64) &&& 63)))  h0 f1 f3 (yw_b ((yk_0_13 h0)) J1) k ))))))))))))))))))))))) (fun f3 => (k 0 s (by decide) J))))))))))))

theorem ys_3_17 {m s : ps_S} {t : Int32} {d : Nat} {r0 : Nat} {x3 : Int32} {x4 : Int32} {x5 : Int32} {Q : Option Value → ps_S → Prop} (h0 : ps_is r0 0 = true) (J : yJ m t s) (k : ∀ (v : Int32) (s' : ps_S), yJ m t s' → Q (some (.int v)) s') : ps_At (d + 39) 3 17 [(0, .ref r0), (3, .int x3), (4, .int x4), (5, .int x5)] [] s Q :=
  xs_up (P := fun x5 => ∀ (x4 : Int32) (s : ps_S), ps_is r0 0 = true → yJ m t s → ps_At (d + 39) 3 17 [(0, .ref r0), (3, .int x3), (4, .int x4), (5, .int x5)] [] s Q) (fun x5 ih x4 s h0 J => pg_3_17 (d := d + 38) (And.intro (fun f1 => (And.intro (fun f2 => (k x4 s J)) (fun f2 => (k (-2) s J)))) (fun f1 => (ps_nk_i h0 (ys_11 h0 J (fun v1 s1 b1 J1 => (And.intro (fun f3 => (ih ((x5 + 1)) (xs_lt f1) (x4) s1 h0 J1)) (fun f3 => (ih ((x5 + 1)) (xs_lt f1) ((x4 + 1)) s1 h0 J1))))))))) x5 x4 s h0 J

theorem ys_3 {m s : ps_S} {t : Int32} {d : Nat} {r0 : Nat} {r1 : Nat} {x2 : Int32} {f : Int32 → ps_S → Prop} (h0 : ps_is r0 0 = true) (h1 : ps_is r1 9 = true) (J : yJ m t s) (k : ∀ (v : Int32) (s' : ps_S), yJ m t s' → f v s') : ps_Cl (d + 39) 3 [.ref r0, .ref r1, .int x2] s (ps_rI f) :=
  pg_3_0 (d := d + 38) (ps_nk_i h0 (ys_2 h0 h1 J (fun v1 s1 J1 => (ps_nk_i h0 (ys_9 h0 J1 (fun s2 J2 => (ys_3_17 (d := d) (r0 := r0) (x3 := v1) (x4 := 0) (x5 := 0)  h0 J2 k )))))))
end
section
set_option maxRecDepth 100000
theorem ys_100_2 {m s : ps_S} {t : Int32} {d : Nat} {r0 : Nat} {x1 : Int32} {x2 : Int32} {Q : Option Value → ps_S → Prop} (h0 : ps_is r0 5 = true) (J : yJ m t s) (k : ∀ (v : Int32), v &&& 1 = v → Q (some (.int v)) s) : ps_At (d + 1) 100 2 [(0, .ref r0), (1, .int x1), (2, .int x2)] [] s Q :=
  xs_up (P := fun x2 => ps_is r0 5 = true → ps_At (d + 1) 100 2 [(0, .ref r0), (1, .int x1), (2, .int x2)] [] s Q) (fun x2 ih h0 => pg_100_2 (d := d) (ps_nk_i h0 (And.intro (fun f1 => (k 0 (by decide))) (fun f1 => (ps_nk_i h0 (ys_92 h0 J (fun v1 => (And.intro (fun f2 => (ih ((x2 + 1)) (xs_lt f1) h0)) (fun f2 => (k 1 (by decide))))))))))) x2 h0

theorem ys_100 {m s : ps_S} {t : Int32} {d : Nat} {r0 : Nat} {x1 : Int32} {f : Int32 → ps_S → Prop} (h0 : ps_is r0 5 = true) (J : yJ m t s) (k : ∀ (v : Int32), v &&& 1 = v → f v s) : ps_Cl (d + 1) 100 [.ref r0, .int x1] s (ps_rI f) :=
  pg_100_0 (d := d) (ys_100_2 (d := d) (r0 := r0) (x1 := x1) (x2 := 0)  h0 J k )

theorem ys_13_7 {m s : ps_S} {t : Int32} {d : Nat} {r0 : Nat} {r1 : Nat} {x2 : Int32} {Q : Option Value → ps_S → Prop} (h0 : ps_is r0 0 = true) (h1 : ps_is r1 5 = true) (J : yJ m t s) (k : ∀ (s' : ps_S), yJ m t s' → Q none s') : ps_At (d + 2) 13 7 [(0, .ref r0), (1, .ref r1), (2, .int x2)] [] s Q :=
  xs_up (P := fun x2 => ∀ (s : ps_S), ps_is r0 0 = true → ps_is r1 5 = true → yJ m t s → ps_At (d + 2) 13 7 [(0, .ref r0), (1, .ref r1), (2, .int x2)] [] s Q) (fun x2 ih s h0 h1 J => pg_13_7 (d := d + 1) (And.intro (fun f1 => (k s J)) (fun f1 => (ps_nk_i h1 (ys_100 h1 J (fun v1 b1 => (And.intro (fun f2 => (ih ((x2 + 1)) (xs_lt f1) s h0 h1 J)) (fun f2 => (ps_nk_i h0 (ps_nk_i h0 (ys_183 (yk_0_9 h0) J (fun s2 J2 e2 => (ps_nk_i h0 (ps_nk_i h0 (ih ((x2 + 1)) (xs_lt f1) (ps_ui s2 r0 10 ((ps_i s2 r0 10) + 1)) h0 h1 (yw_i (c := 0) (by decide) h0 J2)))))))))))))))) x2 s h0 h1 J

theorem ys_13 {m s : ps_S} {t : Int32} {d : Nat} {r0 : Nat} {r1 : Nat} {f : ps_S → Prop} (h0 : ps_is r0 0 = true) (h1 : ps_is r1 5 = true) (J : yJ m t s) (k : ∀ (s' : ps_S), yJ m t s' → f s') : ps_Cl (d + 2) 13 [.ref r0, .ref r1] s (ps_rV f) :=
  pg_13_0 (d := d + 1) (ps_nk_i h0 (ys_13_7 (d := d) (r0 := r0) (r1 := r1) (x2 := 0)  h0 h1 (yw_i (c := 0) (by decide) h0 J) k ))

theorem ys_14_105 {m s : ps_S} {t : Int32} {d : Nat} {r0 : Nat} {x2 : Int32} {x3 : Int32} {Q : Option Value → ps_S → Prop} (h0 : ps_is r0 0 = true) (J : yJ m t s) (k : ∀ (v : Int32) (s' : ps_S), v &&& 1 = v → yJ m t s' → Q (some (.int v)) s') (K40 : ∀ (s : ps_S), ps_is r0 0 = true → yJ m t s → ps_At (d + 37) 14 40 [(0, .ref r0), (2, .int x2), (3, .int (x3 + 1))] [] s Q) : ps_At (d + 37) 14 105 [(0, .ref r0), (2, .int x2), (3, .int x3)] [] s Q :=
  pg_14_105 (d := d + 36) (ps_nk_i h0 (ys_15 h0 J (fun v1 s1 b1 J1 => (And.intro (fun f1 => (K40 s1 h0 J1)) (fun f1 => (k 0 s1 (by decide) J1))))))

theorem ys_14_51 {m s : ps_S} {t : Int32} {d : Nat} {r0 : Nat} {x2 : Int32} {x3 : Int32} {x4 : Int32} {x5 : Int32} {Q : Option Value → ps_S → Prop} (h0 : ps_is r0 0 = true) (J : yJ m t s) (k : ∀ (v : Int32) (s' : ps_S), v &&& 1 = v → yJ m t s' → Q (some (.int v)) s') (K40 : ∀ (s : ps_S), ps_is r0 0 = true → yJ m t s → ps_At (d + 37) 14 40 [(0, .ref r0), (2, .int x2), (3, .int (x3 + 1))] [] s Q) : ps_At (d + 37) 14 51 [(0, .ref r0), (2, .int x2), (3, .int x3), (4, .int x4), (5, .int x5)] [] s Q :=
  xs_up (P := fun x5 => ∀ (x4 : Int32) (s : ps_S), ps_is r0 0 = true → yJ m t s → ps_At (d + 37) 14 51 [(0, .ref r0), (2, .int x2), (3, .int x3), (4, .int x4), (5, .int x5)] [] s Q) (fun x5 ih x4 s h0 J => pg_14_51 (d := d + 36) (ps_nk_i h0 (And.intro (fun f1 => (ys_14_105 (d := d) (r0 := r0) (x2 := x2) (x3 := x3)  h0 J k K40)) (fun f1 => (ps_nk_i h0 (And.intro (fun f2 => (ys_14_105 (d := d) (r0 := r0) (x2 := x2) (x3 := x3)  h0 J k K40)) (fun f2 => (ps_nk_i h0 (ps_nk_i h0 (ys_182 (yk_0_9 h0) J (fun v1 => (ps_nk_i h0 (ps_nd_i (xg_nz f2) (ys_183 (yk_0_8 h0) J (fun s2 J2 e2 => (ps_nk_i h0 (ps_nd_i (xg_nz (by rw [e2]; exact f2)) (ih ((x5 + 1)) (xs_lt f1) ((x4 / (ps_i s2 r0 11))) s2 h0 J2)))))))))))))))))) x5 x4 s h0 J

theorem ys_14_40 {m s : ps_S} {t : Int32} {d : Nat} {r0 : Nat} {x2 : Int32} {x3 : Int32} {Q : Option Value → ps_S → Prop} (h0 : ps_is r0 0 = true) (J : yJ m t s) (k : ∀ (v : Int32) (s' : ps_S), v &&& 1 = v → yJ m t s' → Q (some (.int v)) s') : ps_At (d + 37) 14 40 [(0, .ref r0), (2, .int x2), (3, .int x3)] [] s Q :=
  xs_up (P := fun x3 => ∀ (s : ps_S), ps_is r0 0 = true → yJ m t s → ps_At (d + 37) 14 40 [(0, .ref r0), (2, .int x2), (3, .int x3)] [] s Q) (fun x3 ih s h0 J => pg_14_40 (d := d + 36) (And.intro (fun f1 => (k 1 s (by decide) J)) (fun f1 => (ys_14_51 (d := d) (r0 := r0) (x2 := x2) (x3 := x3) (x4 := x3) (x5 := 0)  h0 J k (fun s9 h0z J9 => ih (x3 + 1) (xs_lt f1) s9 h0z J9))))) x3 s h0 J

theorem ys_14_17 {m s : ps_S} {t : Int32} {d : Nat} {r0 : Nat} {x2 : Int32} {x3 : Int32} {Q : Option Value → ps_S → Prop} (h0 : ps_is r0 0 = true) (J : yJ m t s) (k : ∀ (v : Int32) (s' : ps_S), v &&& 1 = v → yJ m t s' → Q (some (.int v)) s') : ps_At (d + 37) 14 17 [(0, .ref r0), (2, .int x2), (3, .int x3)] [] s Q :=
  xs_up (P := fun x3 => ∀ (x2 : Int32) (s : ps_S), ps_is r0 0 = true → yJ m t s → ps_At (d + 37) 14 17 [(0, .ref r0), (2, .int x2), (3, .int x3)] [] s Q) (fun x3 ih x2 s h0 J => pg_14_17 (d := d + 36) (ps_nk_i h0 (And.intro (fun f1 => (ys_14_40 (d := d) (r0 := r0) (x2 := x2) (x3 := 0)  h0 J k )) (fun f1 => (ps_nk_i h0 (ih ((x3 + 1)) (xs_lt f1) ((x2 * (ps_i s r0 11))) s h0 J)))))) x3 x2 s h0 J

theorem ys_14 {m s : ps_S} {t : Int32} {d : Nat} {r0 : Nat} {r1 : Nat} {f : Int32 → ps_S → Prop} (h0 : ps_is r0 0 = true) (h1 : ps_is r1 5 = true) (J : yJ m t s) (k : ∀ (v : Int32) (s' : ps_S), v &&& 1 = v → yJ m t s' → f v s') : ps_Cl (d + 37) 14 [.ref r0, .ref r1] s (ps_rI f) :=
  pg_14_0 (d := d + 36) (ps_nk_i h0 (ps_nk_i h0 (ps_nk_i h0 (ys_14_17 (d := d) (r0 := r0) (x2 := 1) (x3 := 0)  h0 (yw_rc (c := 0) (by decide) h0 (xw_0_15 h0 (xk_0_6 h0) ((yw_rc (c := 0) (by decide) h0 (xw_0_14 h0 h1 (J).1) J)).1) (yw_rc (c := 0) (by decide) h0 (xw_0_14 h0 h1 (J).1) J)) k ))))

theorem ys_4 {m s : ps_S} {t : Int32} {d : Nat} {r0 : Nat} {r1 : Nat} {r2 : Nat} {x3 : Int32} {x4 : Int32} {f : Int32 → ps_S → Prop} (h0 : ps_is r0 0 = true) (h1 : ps_is r1 9 = true) (h2 : ps_is r2 5 = true) (J : yJ m t s) (k : ∀ (v : Int32) (s' : ps_S), yJ m t s' → f v s') : ps_Cl (d + 38) 4 [.ref r0, .ref r1, .ref r2, .int x3, .int x4] s (ps_rI f) :=
  pg_4_0 (d := d + 37) (ps_nk_i h0 (ys_6 h0 h1 J (fun v1 s1 J1 => (And.intro (fun f1 => (ps_nk_i h0 (ys_13 h0 h2 J1 (fun s2 J2 => (And.intro (fun f2 => (k (-2) s2 J2)) (fun f2 => (ps_nk_i h0 (And.intro (fun f3 => (ps_nk_i h0 (ps_nk_i h0 (ps_nk_i (xk_0_6 h0) (ys_103 (xk_0_6 h0) h2 (xj_0_16 (J2).1 h0) J2 (fun s3 J3 => (ps_nk_i h0 (ys_8 h0 J3 (fun s4 J4 => (ps_nk_i h0 (ys_14 h0 h2 J4 (fun v5 s5 b5 J5 => (And.intro (fun f4 => (k 0 s5 J5)) (fun f4 => (k 1 s5 J5))))))))))))))) (fun f3 => (k (-2) s2 J2)))))))))) (fun f1 => (k (-1) s1 J1))))))

theorem ys_5_50 {m s : ps_S} {t : Int32} {d : Nat} {r0 : Nat} {r2 : Nat} {x4 : Int32} {x5 : Int32} {Q : Option Value → ps_S → Prop} (h0 : ps_is r0 0 = true) (h2 : ps_is r2 5 = true) (J : yJ m t s) (k : ∀ (v : Int32) (s' : ps_S), yJ m t s' → Q (some (.int v)) s') : ps_At (d + 39) 5 50 [(0, .ref r0), (2, .ref r2), (4, .int x4), (5, .int x5)] [] s Q :=
  xs_up (P := fun x5 => ∀ (s : ps_S), ps_is r0 0 = true → ps_is r2 5 = true → yJ m t s → ps_At (d + 39) 5 50 [(0, .ref r0), (2, .ref r2), (4, .int x4), (5, .int x5)] [] s Q) (fun x5 ih s h0 h2 J => pg_5_50 (d := d + 38) (And.intro (fun f1 => (k (-1) s J)) (fun f1 => (ps_nk_i h0 (ys_11 h0 J (fun v1 s1 b1 J1 => (And.intro (fun f2 => (ih ((x5 + 1)) (xs_lt f1) s1 h0 h2 J1)) (fun f2 => (ps_nk_i h0 (ys_8 h0 J1 (fun s2 J2 => (ps_nk_i h0 (ys_14 h0 h2 J2 (fun v3 s3 b3 J3 => (And.intro (fun f3 => (ih ((x5 + 1)) (xs_lt f1) s3 h0 h2 J3)) (fun f3 => (k x5 s3 J3))))))))))))))))) x5 s h0 h2 J

theorem ys_5 {m s : ps_S} {t : Int32} {d : Nat} {r0 : Nat} {r1 : Nat} {r2 : Nat} {x3 : Int32} {f : Int32 → ps_S → Prop} (h0 : ps_is r0 0 = true) (h1 : ps_is r1 9 = true) (h2 : ps_is r2 5 = true) (J : yJ m t s) (k : ∀ (v : Int32) (s' : ps_S), yJ m t s' → f v s') : ps_Cl (d + 39) 5 [.ref r0, .ref r1, .ref r2, .int x3] s (ps_rI f) :=
  pg_5_0 (d := d + 38) (ps_nk_i h0 (ys_2 h0 h1 J (fun v1 s1 J1 => (ps_nk_i h0 (ys_13 h0 h2 J1 (fun s2 J2 => (And.intro (fun f1 => (k (-2) s2 J2)) (fun f1 => (ps_nk_i h0 (And.intro (fun f2 => (ps_nk_i h0 (ys_9 h0 J2 (fun s3 J3 => (ps_nk_i h0 (ps_nk_i h0 (ps_nk_i (xk_0_6 h0) (ys_103 (xk_0_6 h0) h2 (xj_0_16 (J3).1 h0) J3 (fun s4 J4 => (ys_5_50 (d := d) (r0 := r0) (r2 := r2) (x4 := v1) (x5 := 0)  h0 h2 J4 k )))))))))) (fun f2 => (k (-2) s2 J2))))))))))))

theorem ys_99_3 {m s : ps_S} {t : Int32} {d : Nat} {r0 : Nat} {x1 : Int32} {x2 : Int32} {r3 : Nat} {x4 : Int32} {x5 : Int32} {Q : Option Value → ps_S → Prop} (h0 : ps_is r0 5 = true) (h3 : ps_is r3 5 = true) (J : yJ m t s) (k : ∀ (v : Int32), v &&& 1 = v → Q (some (.int v)) s) : ps_At (d + 1) 99 3 [(0, .ref r0), (1, .int x1), (2, .int x2), (3, .ref r3), (4, .int x4), (5, .int x5)] [] s Q :=
  xs_up (P := fun x5 => ps_is r0 5 = true → ps_is r3 5 = true → ps_At (d + 1) 99 3 [(0, .ref r0), (1, .int x1), (2, .int x2), (3, .ref r3), (4, .int x4), (5, .int x5)] [] s Q) (fun x5 ih h0 h3 => pg_99_3 (d := d) (And.intro (fun f1 => (k 1 (by decide))) (fun f1 => (ps_nk_i h0 (ys_92 h0 J (fun v1 => (ps_nk_i h3 (ys_92 h3 J (fun v2 => (And.intro (fun f2 => (ih ((x5 + 1)) (xs_lt f1) h0 h3)) (fun f2 => (k 0 (by decide))))))))))))) x5 h0 h3

theorem ys_99 {m s : ps_S} {t : Int32} {d : Nat} {r0 : Nat} {x1 : Int32} {x2 : Int32} {r3 : Nat} {x4 : Int32} {f : Int32 → ps_S → Prop} (h0 : ps_is r0 5 = true) (h3 : ps_is r3 5 = true) (J : yJ m t s) (k : ∀ (v : Int32), v &&& 1 = v → f v s) : ps_Cl (d + 1) 99 [.ref r0, .int x1, .int x2, .ref r3, .int x4] s (ps_rI f) :=
  pg_99_0 (d := d) (ys_99_3 (d := d) (r0 := r0) (x1 := x1) (x2 := x2) (r3 := r3) (x4 := x4) (x5 := x1)  h0 h3 J k )

theorem ys_22_2 {m s : ps_S} {t : Int32} {d : Nat} {r0 : Nat} {r1 : Nat} {x2 : Int32} {x3 : Int32} {Q : Option Value → ps_S → Prop} (h0 : ps_is r0 1 = true) (h1 : ps_is r1 5 = true) (J : yJ m t s) (k : ∀ (v : Int32) (s' : ps_S), yJ m t s' → Q (some (.int v)) s') : ps_At (d + 2) 22 2 [(0, .ref r0), (1, .ref r1), (2, .int x2), (3, .int x3)] [] s Q :=
  xs_up (P := fun x3 => ∀ (s : ps_S), ps_is r0 1 = true → ps_is r1 5 = true → yJ m t s → ps_At (d + 2) 22 2 [(0, .ref r0), (1, .ref r1), (2, .int x2), (3, .int x3)] [] s Q) (fun x3 ih s h0 h1 J => pg_22_2 (d := d + 1) (ps_nk_i h0 (And.intro (fun f1 => (ps_nk_i h0 (ps_nk_i h0 (ys_183 (yk_1_3 h0) J (fun s1 J1 e1 => (ps_nk_i h0 (ps_nk_i h0 (ps_nk_i h0 (k ((ps_i (ps_ui s1 r0 4 ((ps_i s1 r0 4) + 1)) r0 4) - 1) (ps_ui s1 r0 4 ((ps_i s1 r0 4) + 1)) (yw_i (c := 1) (by decide) h0 J1)))))))))) (fun f1 => (ps_nk_i h0 (ps_nk_i (xk_1_0 h0) (ys_104 (xk_1_0 h0) J (fun v2 => (ps_nk_i h0 (ys_182 (yk_1_3 h0) J (fun v3 => (ps_nk_i h1 (ys_99 h1 h1 J (fun v4 b4 => (And.intro (fun f2 => (ih ((x3 + 1)) (xs_lt f1) s h0 h1 J)) (fun f2 => (k x3 s J))))))))))))))))) x3 s h0 h1 J

theorem ys_22 {m s : ps_S} {t : Int32} {d : Nat} {r0 : Nat} {r1 : Nat} {x2 : Int32} {f : Int32 → ps_S → Prop} (h0 : ps_is r0 1 = true) (h1 : ps_is r1 5 = true) (J : yJ m t s) (k : ∀ (v : Int32) (s' : ps_S), yJ m t s' → f v s') : ps_Cl (d + 2) 22 [.ref r0, .ref r1, .int x2] s (ps_rI f) :=
  pg_22_0 (d := d + 1) (ys_22_2 (d := d) (r0 := r0) (r1 := r1) (x2 := x2) (x3 := 0)  h0 h1 J k )

theorem ys_21_21 {m s : ps_S} {t : Int32} {d : Nat} {r0 : Nat} {r1 : Nat} {x3 : Int32} {Q : Option Value → ps_S → Prop} (h0 : ps_is r0 1 = true) (h1 : ps_is r1 5 = true) (J : yJ m t s) (k : ∀ (s' : ps_S), yJ m t s' → Q none s') : ps_At (d + 3) 21 21 [(0, .ref r0), (1, .ref r1), (3, .int x3)] [] s Q :=
  xs_up (P := fun x3 => ∀ (s : ps_S), ps_is r0 1 = true → ps_is r1 5 = true → yJ m t s → ps_At (d + 3) 21 21 [(0, .ref r0), (1, .ref r1), (3, .int x3)] [] s Q) (fun x3 ih s h0 h1 J => pg_21_21 (d := d + 2) (ps_nk_i h1 (And.intro (fun f1 => (k s J)) (fun f1 => (ps_nk_i h1 (ys_92 h1 J (fun v1 => (And.intro (fun f2 => (ps_nk_i h0 (ps_nk_i h0 (And.intro (fun f3 => (ps_nk_i h1 (ys_92 h1 J (fun v2 => (ys_183 (yk_1_1 h0) J (fun s3 J3 e3 => (ps_nk_i h0 (ps_nk_i h0 (And.intro (fun f4 => (ih ((x3 + 1)) (xs_lt f1) (ps_ui s3 r0 2 ((ps_i s3 r0 2) + 1)) h0 h1 (yw_i (c := 1) (by decide) h0 J3))) (fun f4 => (ps_nk_i h0 (ps_nk_i (xk_1_0 h0) (ys_104 (xk_1_0 h0) (yw_i (c := 1) (by decide) h0 J3) (fun v4 => (ih ((if (x3 + 1) < v4 then v4 else (x3 + 1))) (xs_max f1) (ps_ui s3 r0 2 ((ps_i s3 r0 2) + 1)) h0 h1 (yw_i (c := 1) (by decide) h0 J3)))))))))))))))) (fun f3 => (ps_nk_i h0 (ys_22 h0 h1 J (fun v5 s5 J5 => (ys_183 (yk_1_1 h0) J5 (fun s6 J6 e6 => (ps_nk_i h0 (ps_nk_i h0 (And.intro (fun f5 => (ih ((x3 + 1)) (xs_lt f1) (ps_ui s6 r0 2 ((ps_i s6 r0 2) + 1)) h0 h1 (yw_i (c := 1) (by decide) h0 J6))) (fun f5 => (ps_nk_i h0 (ps_nk_i (xk_1_0 h0) (ys_104 (xk_1_0 h0) (yw_i (c := 1) (by decide) h0 J6) (fun v7 => (ih ((if (x3 + 1) < v7 then v7 else (x3 + 1))) (xs_max f1) (ps_ui s6 r0 2 ((ps_i s6 r0 2) + 1)) h0 h1 (yw_i (c := 1) (by decide) h0 J6)))))))))))))))))))) (fun f2 => (ps_nk_i h0 (ps_nk_i h0 (And.intro (fun f6 => (ps_nk_i h1 (ys_92 h1 J (fun v8 => (ys_183 (yk_1_1 h0) J (fun s9 J9 e9 => (ps_nk_i h0 (ps_nk_i h0 (And.intro (fun f7 => (ih ((x3 + 1)) (xs_lt f1) (ps_ui s9 r0 2 ((ps_i s9 r0 2) + 1)) h0 h1 (yw_i (c := 1) (by decide) h0 J9))) (fun f7 => (ps_nk_i h0 (ps_nk_i (xk_1_0 h0) (ys_104 (xk_1_0 h0) (yw_i (c := 1) (by decide) h0 J9) (fun v10 => (ih ((if (x3 + 1) < v10 then v10 else (x3 + 1))) (xs_max f1) (ps_ui s9 r0 2 ((ps_i s9 r0 2) + 1)) h0 h1 (yw_i (c := 1) (by decide) h0 J9)))))))))))))))) (fun f6 => (ps_nk_i h0 (ys_22 h0 h1 J (fun v11 s11 J11 => (ys_183 (yk_1_1 h0) J11 (fun s12 J12 e12 => (ps_nk_i h0 (ps_nk_i h0 (And.intro (fun f8 => (ih ((x3 + 1)) (xs_lt f1) (ps_ui s12 r0 2 ((ps_i s12 r0 2) + 1)) h0 h1 (yw_i (c := 1) (by decide) h0 J12))) (fun f8 => (ps_nk_i h0 (ps_nk_i (xk_1_0 h0) (ys_104 (xk_1_0 h0) (yw_i (c := 1) (by decide) h0 J12) (fun v13 => (ih ((if (x3 + 1) < v13 then v13 else (x3 + 1))) (xs_max f1) (ps_ui s12 r0 2 ((ps_i s12 r0 2) + 1)) h0 h1 (yw_i (c := 1) (by decide) h0 J12)))))))))))))))))))))))))))) x3 s h0 h1 J

theorem ys_21 {m s : ps_S} {t : Int32} {d : Nat} {r0 : Nat} {r1 : Nat} {r2 : Nat} {f : ps_S → Prop} (h0 : ps_is r0 1 = true) (h1 : ps_is r1 5 = true) (h2 : ps_is r2 9 = true) (J : yJ m t s) (k : ∀ (s' : ps_S), yJ m t s' → f s') : ps_Cl (d + 3) 21 [.ref r0, .ref r1, .ref r2] s (ps_rV f) :=
  pg_21_0 (d := d + 2) (ps_nk_i h0 (ps_nk_i (xk_1_0 h0) (ys_103 (xk_1_0 h0) h1 h2 J (fun s1 J1 => (ps_nk_i h0 (ps_nk_i h0 (ys_21_21 (d := d) (r0 := r0) (r1 := r1) (x3 := 0)  h0 h1 (yw_i (c := 1) (by decide) h0 (yw_i (c := 1) (by decide) h0 J1)) k )))))))

theorem ys_25 {m s : ps_S} {t : Int32} {d : Nat} {r0 : Nat} {f : Int32 → ps_S → Prop} (h0 : ps_is r0 1 = true) (J : yJ m t s) (k : ∀ (v : Int32), f v s) : ps_Cl d 25 [.ref r0] s (ps_rI f) :=
  pg_25_0 (ps_nk_i h0 (k ((1 : Int32) <<< ((if (12 : Int32) < (ps_i s r0 4) then (12 : Int32) else (ps_i s r0 4)) &&& 31))))

theorem ys_28 {m s : ps_S} {t : Int32} {d : Nat} {r0 : Nat} {x1 : Int32} {f : ps_S → Prop} (h0 : ps_is r0 1 = true) (J : yJ m t s) (k : ∀ (s' : ps_S), yJ m t s' → f s') : ps_Cl (d + 1) 28 [.ref r0, .int x1] s (ps_rV f) :=
  pg_28_0 (d := d) (ps_nk_i h0 (ps_nk_i h0 (ys_183 (yk_1_5 h0) J (fun s1 J1 e1 => (ps_nk_i h0 (ps_nk_i h0 (k (ps_ui s1 r0 6 ((ps_i s1 r0 6) + 1)) (yw_i (c := 1) (by decide) h0 J1))))))))

theorem ys_29 {m s : ps_S} {t : Int32} {d : Nat} {r0 : Nat} {f : Int32 → ps_S → Prop} (h0 : ps_is r0 1 = true) (J : yJ m t s) (k : ∀ (v : Int32) (s' : ps_S), yJ m t s' → f v s') : ps_Cl (d + 1) 29 [.ref r0] s (ps_rI f) :=
  pg_29_0 (d := d) (ps_nk_i h0 (ps_nk_i h0 (ps_nk_i h0 (ps_nk_i h0 (ys_182 (yk_1_5 h0) (yw_i (c := 1) (by decide) h0 J) (fun v1 => (k v1 (ps_ui s r0 6 ((ps_i s r0 6) - 1)) (yw_i (c := 1) (by decide) h0 J))))))))

theorem ys_27 {m s : ps_S} {t : Int32} {d : Nat} {x0 : Int32} {x1 : Int32} {x2 : Int32} {f : Int32 → ps_S → Prop} (J : yJ m t s) (k : ∀ (v : Int32), f v s) : ps_Cl d 27 [.int x0, .int x1, .int x2] s (ps_rI f) :=
  pg_27_0 (And.intro (fun f1 => (k (x1 &&& x2))) (fun f1 => (And.intro (fun f2 => (k (x1 ||| x2))) (fun f2 => (k (((1 : Int32) - x1) ||| x2))))))

theorem ys_26_12 {m s : ps_S} {t : Int32} {d : Nat} {r0 : Nat} {x1 : Int32} {x2 : Int32} {Q : Option Value → ps_S → Prop} (h0 : ps_is r0 1 = true) (J : yJ m t s) (k : ∀ (v : Int32) (s' : ps_S), v &&& 1 = v → yJ m t s' → Q (some (.int v)) s') : ps_At (d + 2) 26 12 [(0, .ref r0), (1, .int x1), (2, .int x2)] [] s Q :=
  xs_dn (P := fun x2 => ∀ (s : ps_S), ps_is r0 1 = true → yJ m t s → ps_At (d + 2) 26 12 [(0, .ref r0), (1, .int x1), (2, .int x2)] [] s Q) (fun x2 ih s h0 J => pg_26_12 (d := d + 1) (And.intro (fun f1 => (ps_nk_i h0 (ys_29 h0 J (fun v1 s1 J1 => (And.intro (fun f2 => (k 0 s1 (by decide) J1)) (fun f2 => (k 1 s1 (by decide) J1))))))) (fun f1 => (ps_nk_i h0 (ys_182 (yk_1_1 h0) J (fun v2 => (And.intro (fun f3 => (And.intro (fun f4 => (ps_nk_i h0 (ys_29 h0 J (fun v3 s3 J3 => (ps_nk_i h0 (ys_29 h0 J3 (fun v4 s4 J4 => (ys_27  J4 (fun v5 => (ps_nk_i h0 (ys_28 h0 J4 (fun s6 J6 => (ih ((x2 + (-1))) (xs_ge f1) s6 h0 J6))))))))))))) (fun f4 => (ps_nk_i h0 (ys_28 h0 J (fun s7 J7 => (ih ((x2 + (-1))) (xs_ge f1) s7 h0 J7))))))) (fun f3 => (ps_nk_i h0 (ps_nk_i h0 (ys_28 h0 J (fun s8 J8 => (ih ((x2 + (-1))) (xs_ge f1) s8 h0 J8))))))))))))) x2 s h0 J

theorem ys_26 {m s : ps_S} {t : Int32} {d : Nat} {r0 : Nat} {x1 : Int32} {f : Int32 → ps_S → Prop} (h0 : ps_is r0 1 = true) (J : yJ m t s) (k : ∀ (v : Int32) (s' : ps_S), v &&& 1 = v → yJ m t s' → f v s') : ps_Cl (d + 2) 26 [.ref r0, .int x1] s (ps_rI f) :=
  pg_26_0 (d := d + 1) (ps_nk_i h0 (ps_nk_i h0 (ys_26_12 (d := d) (r0 := r0) (x1 := x1) (x2 := ((ps_i (ps_ui s r0 6 0) r0 2) - 1))  h0 (yw_i (c := 1) (by decide) h0 J) k )))

theorem ys_23_4 {m s : ps_S} {t : Int32} {d : Nat} {r0 : Nat} {x1 : Int32} {x2 : Int32} {Q : Option Value → ps_S → Prop} (h0 : ps_is r0 1 = true) (J : yJ m t s) (k : ∀ (v : Int32) (s' : ps_S), yJ m t s' → Q (some (.int v)) s') : ps_At (d + 3) 23 4 [(0, .ref r0), (1, .int x1), (2, .int x2)] [] s Q :=
  xs_up (P := fun x2 => ∀ (x1 : Int32) (s : ps_S), ps_is r0 1 = true → yJ m t s → ps_At (d + 3) 23 4 [(0, .ref r0), (1, .int x1), (2, .int x2)] [] s Q) (fun x2 ih x1 s h0 J => pg_23_4 (d := d + 2) (ps_nk_i h0 (ys_25 h0 J (fun v1 => (And.intro (fun f1 => (k x1 s J)) (fun f1 => (ps_nk_i h0 (ys_26 h0 J (fun v2 s2 b2 J2 => (And.intro (fun f2 => (ih ((x2 + 1)) (xs_lt f1) (x1) s2 h0 J2)) (fun f2 => (ih ((x2 + 1)) (xs_lt f1) ((x1 + 1)) s2 h0 J2)))))))))))) x2 x1 s h0 J

theorem ys_23 {m s : ps_S} {t : Int32} {d : Nat} {r0 : Nat} {f : Int32 → ps_S → Prop} (h0 : ps_is r0 1 = true) (J : yJ m t s) (k : ∀ (v : Int32) (s' : ps_S), yJ m t s' → f v s') : ps_Cl (d + 3) 23 [.ref r0] s (ps_rI f) :=
  pg_23_0 (d := d + 2) (ys_23_4 (d := d) (r0 := r0) (x1 := 0) (x2 := 0)  h0 J k )

theorem ys_24_2 {m s : ps_S} {t : Int32} {d : Nat} {r0 : Nat} {x1 : Int32} {Q : Option Value → ps_S → Prop} (h0 : ps_is r0 1 = true) (J : yJ m t s) (k : ∀ (v : Int32) (s' : ps_S), yJ m t s' → Q (some (.int v)) s') : ps_At (d + 3) 24 2 [(0, .ref r0), (1, .int x1)] [] s Q :=
  xs_up (P := fun x1 => ∀ (s : ps_S), ps_is r0 1 = true → yJ m t s → ps_At (d + 3) 24 2 [(0, .ref r0), (1, .int x1)] [] s Q) (fun x1 ih s h0 J => pg_24_2 (d := d + 2) (ps_nk_i h0 (ys_25 h0 J (fun v1 => (And.intro (fun f1 => (k (-1) s J)) (fun f1 => (ps_nk_i h0 (ys_26 h0 J (fun v2 s2 b2 J2 => (And.intro (fun f2 => (ih ((x1 + 1)) (xs_lt f1) s2 h0 J2)) (fun f2 => (k x1 s2 J2)))))))))))) x1 s h0 J

theorem ys_24 {m s : ps_S} {t : Int32} {d : Nat} {r0 : Nat} {f : Int32 → ps_S → Prop} (h0 : ps_is r0 1 = true) (J : yJ m t s) (k : ∀ (v : Int32) (s' : ps_S), yJ m t s' → f v s') : ps_Cl (d + 3) 24 [.ref r0] s (ps_rI f) :=
  pg_24_0 (d := d + 2) (ys_24_2 (d := d) (r0 := r0) (x1 := 0)  h0 J k )

theorem ys_31 {m s : ps_S} {t : Int32} {d : Nat} {r0 : Nat} {f : ps_S → Prop} (h0 : ps_is r0 2 = true) (J : yJ m t s) (k : ∀ (s' : ps_S), yJ m t s' → f s') : ps_Cl d 31 [.ref r0] s (ps_rV f) :=
  pg_31_0 (ps_nk_i h0 (ps_nk_i h0 (ps_nk_i h0 (k (ps_ui (ps_ui (ps_ui s r0 7 0) r0 8 0) r0 9 0) (yw_i (c := 2) (by decide) h0 (yw_i (c := 2) (by decide) h0 (yw_i (c := 2) (by decide) h0 J)))))))

theorem ys_32 {m s : ps_S} {t : Int32} {d : Nat} {r0 : Nat} {x1 : Int32} {f : Int32 → ps_S → Prop} (h0 : ps_is r0 2 = true) (J : yJ m t s) (k : ∀ (v : Int32), v &&& 1 = v → f v s) : ps_Cl d 32 [.ref r0, .int x1] s (ps_rI f) :=
  pg_32_0 (And.intro (fun f1 => (k 0 (by decide))) (fun f1 => (ps_nk_i h0 (And.intro (fun f2 => (k 0 (by decide))) (fun f2 => (k 1 (by decide)))))))

theorem ys_33 {m s : ps_S} {t : Int32} {d : Nat} {r0 : Nat} {x1 : Int32} {f : Nat → ps_S → Prop} (h0 : ps_is r0 2 = true) (J : yJ m t s) (k : ∀ (v : Nat), ps_is v 8 = true → f v s) : ps_Cl d 33 [.ref r0, .int x1] s (ps_rA f) :=
  pg_33_0 (And.intro (fun f1 => (ps_nk_i h0 (k (ps_c0 r0 1) ((xk_2_1 h0))))) (fun f1 => (ps_nk_i h0 (ps_nk_i (xn_l ((xk_2_0 h0)).1) (And.intro (fun f2 => (ps_nk_i h0 (k (ps_c0 r0 1) ((xk_2_1 h0))))) (fun f2 => (ps_nk_i h0 (ps_nk_i (xn_7 ((xk_2_0 h0)).1) (ps_nd_i (xg_in f1 f2) (k (ps_e0 (ps_c0 r0 0) (Int32.toNatClampNeg x1)) ((xe_7 ((xk_2_0 h0)).1 (xg_in f1 f2)))))))))))))

theorem ys_121 {m s : ps_S} {t : Int32} {d : Nat} {r0 : Nat} {x1 : Int32} {f : Int32 → ps_S → Prop} (h0 : ps_is r0 8 = true) (J : yJ m t s) (k : ∀ (v : Int32), f v s) : ps_Cl (d + 1) 121 [.ref r0, .int x1] s (ps_rI f) :=
  pg_121_0 (d := d) (ps_nk_i h0 (ys_182 (yk_8_1 h0) J (fun v1 => (k v1))))

theorem ys_109 {m s : ps_S} {t : Int32} {d : Nat} {r0 : Nat} {x1 : Int32} {f : Int32 → ps_S → Prop} (h0 : ps_is r0 7 = true) (J : yJ m t s) (k : ∀ (v : Int32), v &&& 1 = v → f v s) : ps_Cl d 109 [.ref r0, .int x1] s (ps_rI f) :=
  pg_109_0 (And.intro (fun f1 => (k 0 (by decide))) (fun f1 => (ps_nk_i h0 (And.intro (fun f2 => (k 0 (by decide))) (fun f2 => (k 1 (by decide)))))))

theorem ys_115 {m s : ps_S} {t : Int32} {d : Nat} {x0 : Int32} {f : Int32 → ps_S → Prop} (J : yJ m t s) (k : ∀ (v : Int32), f v s) : ps_Cl d 115 [.int x0] s (ps_rI f) :=
  pg_115_0 (And.intro (fun f1 => (k 0)) (fun f1 => (And.intro (fun f2 => (k 1)) (fun f2 => (And.intro (fun f3 => (k 1)) (fun f3 => (And.intro (fun f4 => (k 1)) (fun f4 => (And.intro (fun f5 => (k 0)) (fun f5 => (And.intro (fun f6 => (k 0)) (fun f6 => (And.intro (fun f7 => (k 1)) (fun f7 => (And.intro (fun f8 => (k 2)) (fun f8 => (And.intro (fun f9 => (k 1)) (fun f9 => (And.intro (fun f10 => (k 1)) (fun f10 => (And.intro (fun f11 => (k 1)) (fun f11 => (And.intro (fun f12 => (k 1)) (fun f12 => (And.intro (fun f13 => (k 3)) (fun f13 => (And.intro (fun f14 => (k 2)) (fun f14 => (And.intro (fun f15 => (k 1)) (fun f15 => (And.intro (fun f16 => (k 1)) (fun f16 => (And.intro (fun f17 => (k 1)) (fun f17 => (And.intro (fun f18 => (k 1)) (fun f18 => (And.intro (fun f19 => (k 2)) (fun f19 => (And.intro (fun f20 => (k 2)) (fun f20 => (k 1)))))))))))))))))))))))))))))))))))))))))

theorem ys_116 {m s : ps_S} {t : Int32} {d : Nat} {x0 : Int32} {f : Int32 → ps_S → Prop} (J : yJ m t s) (k : ∀ (v : Int32), f v s) : ps_Cl (d + 1) 116 [.int x0] s (ps_rI f) :=
  pg_116_0 (d := d) (And.intro (fun f1 => (ys_115  J (fun v1 => (k v1)))) (fun f1 => (k 0)))

theorem ys_36_22 {m s : ps_S} {t : Int32} {d : Nat} {r1 : Nat} {x2 : Int32} {x4 : Int32} {Q : Option Value → ps_S → Prop} (h1 : ps_is r1 8 = true) (J : yJ m t s) (k : ∀ (v : Int32), v &&& 1 = v → Q (some (.int v)) s) : ps_At (d + 2) 36 22 [(1, .ref r1), (2, .int x2), (4, .int x4)] [] s Q :=
  xs_up (P := fun x4 => ps_is r1 8 = true → ps_At (d + 2) 36 22 [(1, .ref r1), (2, .int x2), (4, .int x4)] [] s Q) (fun x4 ih h1 => pg_36_22 (d := d + 1) (ps_nk_i h1 (ys_116  J (fun v1 => (And.intro (fun f1 => (k 1 (by decide))) (fun f1 => (ps_nk_i h1 (ys_121 h1 J (fun v2 => (And.intro (fun f2 => (ih ((x4 + 1)) (xs_lt f1) h1)) (fun f2 => (k 0 (by decide))))))))))))) x4 h1

theorem ys_36 {m s : ps_S} {t : Int32} {d : Nat} {r0 : Nat} {r1 : Nat} {x2 : Int32} {r3 : Nat} {f : Int32 → ps_S → Prop} (h0 : ps_is r0 2 = true) (h1 : ps_is r1 8 = true) (h3 : ps_is r3 7 = true) (J : yJ m t s) (k : ∀ (v : Int32), v &&& 1 = v → f v s) : ps_Cl (d + 2) 36 [.ref r0, .ref r1, .int x2, .ref r3] s (ps_rI f) :=
  pg_36_0 (d := d + 1) (ps_nk_i h1 (And.intro (fun f1 => (ys_36_22 (d := d) (r1 := r1) (x2 := x2) (x4 := 0)  h1 J k )) (fun f1 => (ps_nk_i h1 (ys_121 h1 J (fun v1 => (ps_nk_i h3 (ys_109 h3 J (fun v2 b2 => (ps_nd_i (decide_eq_true b2) ((k v2 (of_decide_eq_true (decide_eq_true b2))))))))))))))

theorem ys_38 {m s : ps_S} {t : Int32} {d : Nat} {r0 : Nat} {x1 : Int32} {f : Nat → ps_S → Prop} (h0 : ps_is r0 2 = true) (J : yJ m t s) (k : ∀ (v : Nat), ps_is v 5 = true → f v s) : ps_Cl d 38 [.ref r0, .int x1] s (ps_rA f) :=
  pg_38_0 (And.intro (fun f1 => (ps_nk_i h0 (k (ps_c0 r0 3) ((xk_2_3 h0))))) (fun f1 => (ps_nk_i h0 (ps_nk_i (xn_l ((xk_2_2 h0)).1) (And.intro (fun f2 => (ps_nk_i h0 (k (ps_c0 r0 3) ((xk_2_3 h0))))) (fun f2 => (ps_nk_i h0 (ps_nk_i (xn_4 ((xk_2_2 h0)).1) (ps_nd_i (xg_in f1 f2) (k (ps_e0 (ps_c0 r0 2) (Int32.toNatClampNeg x1)) ((xe_4 ((xk_2_2 h0)).1 (xg_in f1 f2)))))))))))))

theorem ys_91 {m s : ps_S} {t : Int32} {d : Nat} {r0 : Nat} {f : ps_S → Prop} (h0 : ps_is r0 5 = true) (J : yJ m t s) (k : ∀ (s' : ps_S), yJ m t s' → f s') : ps_Cl d 91 [.ref r0] s (ps_rV f) :=
  pg_91_0 (ps_nk_i h0 (ps_nk_i h0 (k (ps_ui (ps_ui s r0 1 0) r0 2 0) (yw_i (c := 5) (by decide) h0 (yw_i (c := 5) (by decide) h0 J)))))
end
section
set_option maxRecDepth 100000
theorem ys_37 {m s : ps_S} {t : Int32} {d : Nat} {r0 : Nat} {r1 : Nat} {x2 : Int32} {f : Nat → ps_S → Prop} (h0 : ps_is r0 2 = true) (h1 : ps_is r1 8 = true) (J : yJ m t s) (k : ∀ (v : Nat), ps_is v 8 = true → f v s) : ps_Cl (d + 2) 37 [.ref r0, .ref r1, .int x2] s (ps_rA f) :=
  pg_37_0 (d := d + 1) (ps_nk_i h1 (ys_121 h1 J (fun v1 => (ps_nk_i h0 (ys_33 h0 J (fun v2 g2 => (k v2 (g2))))))))

theorem ys_93 {m s : ps_S} {t : Int32} {d : Nat} {r0 : Nat} {x1 : Int32} {f : ps_S → Prop} (h0 : ps_is r0 5 = true) (J : yJ m t s) (k : ∀ (s' : ps_S), yJ m t s' → f s') : ps_Cl d 93 [.ref r0, .int x1] s (ps_rV f) :=
  pg_93_0 (ps_nk_i h0 (And.intro (fun f1 => (ps_nk_i h0 (k (ps_ui s r0 2 1) (yw_i (c := 5) (by decide) h0 J)))) (fun f1 => (ps_nk_i h0 (ps_nk_i h0 (ps_nk_i (xn_l ((yk_5_0 h0)).1) (And.intro (fun f2 => (ps_nk_i h0 (k (ps_ui s r0 2 1) (yw_i (c := 5) (by decide) h0 J)))) (fun f2 => (ps_nk_i h0 (ps_nk_i h0 (ps_nk_i (xn_0 ((yk_5_0 h0)).1) (ps_nd_i (xg_in f1 f2) (ps_nk_i h0 (ps_nk_i h0 (k (ps_ui (ps_ua s (ps_c0 r0 0) (Int32.toNatClampNeg (ps_i s r0 1)) x1) r0 1 ((ps_i (ps_ua s (ps_c0 r0 0) (Int32.toNatClampNeg (ps_i s r0 1)) x1) r0 1) + 1)) (yw_i (c := 5) (by decide) h0 (yw_a ((yk_5_0 h0)) J)))))))))))))))))

theorem ys_94_3 {m s : ps_S} {t : Int32} {d : Nat} {r0 : Nat} {r1 : Nat} {x3 : Int32} {x4 : Int32} {Q : Option Value → ps_S → Prop} (h0 : ps_is r0 5 = true) (h1 : ps_is r1 5 = true) (J : yJ m t s) (k : ∀ (s' : ps_S), yJ m t s' → Q none s') : ps_At (d + 1) 94 3 [(0, .ref r0), (1, .ref r1), (3, .int x3), (4, .int x4)] [] s Q :=
  xs_up (P := fun x4 => ∀ (s : ps_S), ps_is r0 5 = true → ps_is r1 5 = true → yJ m t s → ps_At (d + 1) 94 3 [(0, .ref r0), (1, .ref r1), (3, .int x3), (4, .int x4)] [] s Q) (fun x4 ih s h0 h1 J => pg_94_3 (d := d) (And.intro (fun f1 => (k s J)) (fun f1 => (ps_nk_i h1 (ys_92 h1 J (fun v1 => (ps_nk_i h0 (ys_93 h0 J (fun s2 J2 => (ih ((x4 + 1)) (xs_lt f1) s2 h0 h1 J2)))))))))) x4 s h0 h1 J

theorem ys_94 {m s : ps_S} {t : Int32} {d : Nat} {r0 : Nat} {r1 : Nat} {x2 : Int32} {x3 : Int32} {f : ps_S → Prop} (h0 : ps_is r0 5 = true) (h1 : ps_is r1 5 = true) (J : yJ m t s) (k : ∀ (s' : ps_S), yJ m t s' → f s') : ps_Cl (d + 1) 94 [.ref r0, .ref r1, .int x2, .int x3] s (ps_rV f) :=
  pg_94_0 (d := d) (ys_94_3 (d := d) (r0 := r0) (r1 := r1) (x3 := x3) (x4 := x2)  h0 h1 J k )

theorem ys_95 {m s : ps_S} {t : Int32} {d : Nat} {r0 : Nat} {r1 : Nat} {f : ps_S → Prop} (h0 : ps_is r0 5 = true) (h1 : ps_is r1 5 = true) (J : yJ m t s) (k : ∀ (s' : ps_S), yJ m t s' → f s') : ps_Cl (d + 2) 95 [.ref r0, .ref r1] s (ps_rV f) :=
  pg_95_0 (d := d + 1) (ps_nk_i h0 (ys_91 h0 J (fun s1 J1 => (ps_nk_i h1 (ps_nk_i h0 (ys_94 h0 h1 J1 (fun s2 J2 => (k s2 J2))))))))

theorem ys_123 {m s : ps_S} {t : Int32} {d : Nat} {r0 : Nat} {x1 : Int32} {f : ps_S → Prop} (h0 : ps_is r0 8 = true) (J : yJ m t s) (k : ∀ (s' : ps_S), yJ m t s' → f s') : ps_Cl d 123 [.ref r0, .int x1] s (ps_rV f) :=
  pg_123_0 (ps_nk_i h0 (And.intro (fun f1 => (ps_nk_i h0 (k (ps_ui s r0 9 1) (yw_i (c := 8) (by decide) h0 J)))) (fun f1 => (ps_nk_i h0 (ps_nk_i h0 (ps_nk_i (xn_l ((yk_8_7 h0)).1) (And.intro (fun f2 => (ps_nk_i h0 (k (ps_ui s r0 9 1) (yw_i (c := 8) (by decide) h0 J)))) (fun f2 => (ps_nk_i h0 (ps_nk_i h0 (ps_nk_i (xn_0 ((yk_8_7 h0)).1) (ps_nd_i (xg_in f1 f2) (ps_nk_i h0 (ps_nk_i h0 (k (ps_ui (ps_ua s (ps_c0 r0 7) (Int32.toNatClampNeg (ps_i s r0 8)) x1) r0 8 ((ps_i (ps_ua s (ps_c0 r0 7) (Int32.toNatClampNeg (ps_i s r0 8)) x1) r0 8) + 1)) (yw_i (c := 8) (by decide) h0 (yw_a ((yk_8_7 h0)) J)))))))))))))))))

theorem ys_110 {m s : ps_S} {t : Int32} {d : Nat} {r0 : Nat} {x1 : Int32} {f : Nat → ps_S → Prop} (h0 : ps_is r0 7 = true) (J : yJ m t s) (k : ∀ (v : Nat), ps_is v 5 = true → f v s) : ps_Cl d 110 [.ref r0, .int x1] s (ps_rA f) :=
  pg_110_0 (And.intro (fun f1 => (ps_nk_i h0 (k (ps_c0 r0 1) ((xk_7_1 h0))))) (fun f1 => (ps_nk_i h0 (ps_nk_i (xn_l ((xk_7_0 h0)).1) (And.intro (fun f2 => (ps_nk_i h0 (k (ps_c0 r0 1) ((xk_7_1 h0))))) (fun f2 => (ps_nk_i h0 (ps_nk_i (xn_4 ((xk_7_0 h0)).1) (ps_nd_i (xg_in f1 f2) (k (ps_e0 (ps_c0 r0 0) (Int32.toNatClampNeg x1)) ((xe_4 ((xk_7_0 h0)).1 (xg_in f1 f2)))))))))))))

theorem ys_97 {m s : ps_S} {t : Int32} {d : Nat} {r0 : Nat} {x1 : Int32} {r2 : Nat} {r3 : Nat} {f : ps_S → Prop} (h0 : ps_is r0 5 = true) (h2 : ps_is r2 5 = true) (h3 : ps_is r3 5 = true) (J : yJ m t s) (k : ∀ (s' : ps_S), yJ m t s' → f s') : ps_Cl (d + 2) 97 [.ref r0, .int x1, .ref r2, .ref r3] s (ps_rV f) :=
  pg_97_0 (d := d + 1) (ps_nk_i h0 (ys_91 h0 J (fun s1 J1 => (ps_nk_i h0 (ys_93 h0 J1 (fun s2 J2 => (ps_nk_i h2 (ps_nk_i h0 (ys_94 h0 h2 J2 (fun s3 J3 => (ps_nk_i h3 (ps_nk_i h0 (ys_94 h0 h3 J3 (fun s4 J4 => (k s4 J4)))))))))))))))

theorem ys_43 {m s : ps_S} {t : Int32} {d : Nat} {r0 : Nat} {r1 : Nat} {x2 : Int32} {r3 : Nat} {f : Int32 → ps_S → Prop} (h0 : ps_is r0 2 = true) (h1 : ps_is r1 8 = true) (h3 : ps_is r3 7 = true) (J : yJ m t s) (k : ∀ (v : Int32) (s' : ps_S), yJ m t s' → f v s') : ps_Cl (d + 3) 43 [.ref r0, .ref r1, .int x2, .ref r3] s (ps_rI f) :=
  pg_43_0 (d := d + 2) (ps_nk_i h1 (And.intro (fun f1 => (ps_nk_i h1 (ps_nk_i h0 (ps_nk_i h1 (ps_nk_i (xj_2_6 (J).1 h0) (ys_135 (xj_2_6 (J).1 h0) J (fun v1 g1 => (ps_nk_i (xk_8_6 h1) (ys_95 (xk_8_6 h1) g1 J (fun s2 J2 => (ps_nk_i h1 (ps_nk_i h1 (k 0 (ps_ui s2 r1 10 ((1 : Int32) <<< ((ps_i s2 r1 2) &&& 31))) (yw_i (c := 8) (by decide) h1 J2)))))))))))))) (fun f1 => (And.intro (fun f2 => (ps_nk_i h1 (ps_nk_i h1 (ps_nk_i (xk_8_6 h1) (ys_95 (xk_8_6 h1) (xk_8_5 h1) J (fun s3 J3 => (ps_nk_i h1 (ys_123 h1 J3 (fun s4 J4 => (k 0 s4 J4)))))))))) (fun f2 => (And.intro (fun f3 => (ps_nk_i h1 (ps_nk_i h1 (ys_121 h1 J (fun v5 => (ps_nk_i h3 (ys_110 h3 J (fun v6 g6 => (ps_nk_i (xk_8_6 h1) (ys_95 (xk_8_6 h1) g6 J (fun s7 J7 => (ps_nk_i h1 (ys_121 h1 J7 (fun v8 => (ps_nk_i h1 (k 0 (ps_ui s7 r1 11 ((1 : Int32) <<< (v8 &&& 31))) (yw_i (c := 8) (by decide) h1 J7))))))))))))))))) (fun f3 => (ps_nk_i h1 (ps_nk_i h1 (ps_nk_i h1 (ps_nk_i (xk_8_6 h1) (ys_97 (xk_8_6 h1) (xk_8_4 h1) (xk_8_4 h1) J (fun s9 J9 => (k 0 s9 J9))))))))))))))

theorem ys_44 {m s : ps_S} {t : Int32} {d : Nat} {r0 : Nat} {r1 : Nat} {r2 : Nat} {f : Int32 → ps_S → Prop} (h0 : ps_is r0 2 = true) (h1 : ps_is r1 8 = true) (h2 : ps_is r2 5 = true) (J : yJ m t s) (k : ∀ (v : Int32) (s' : ps_S), yJ m t s' → f v s') : ps_Cl (d + 3) 44 [.ref r0, .ref r1, .ref r2] s (ps_rI f) :=
  pg_44_0 (d := d + 2) (ps_nk_i h1 (And.intro (fun f1 => (ps_nk_i h1 (ps_nk_i h0 (ys_37 h0 h1 J (fun v1 g1 => (ps_nk_i g1 (ps_nk_i (xk_8_6 h1) (ys_97 (xk_8_6 h1) h2 (xk_8_6 g1) J (fun s2 J2 => (k 0 s2 J2)))))))))) (fun f1 => (And.intro (fun f2 => (ps_nk_i h1 (ps_nk_i h1 (ps_nk_i (xk_8_6 h1) (ys_97 (xk_8_6 h1) (xk_8_5 h1) h2 J (fun s3 J3 => (ps_nk_i h0 (ys_38 h0 J3 (fun v4 g4 => (ps_nk_i h1 (ps_nk_i g4 (ys_95 g4 (xk_8_5 h1) J3 (fun s5 J5 => (k 0 s5 J5)))))))))))))) (fun f2 => (And.intro (fun f3 => (ps_nk_i h1 (ps_nk_i h1 (ps_nk_i (xk_8_6 h1) (ys_97 (xk_8_6 h1) (xk_8_5 h1) h2 J (fun s6 J6 => (ps_nk_i h0 (ys_38 h0 J6 (fun v7 g7 => (ps_nk_i h1 (ps_nk_i g7 (ys_95 g7 (xk_8_5 h1) J6 (fun s8 J8 => (k 0 s8 J8)))))))))))))) (fun f3 => (And.intro (fun f4 => (ps_nk_i h1 (ps_nk_i h1 (ps_nk_i (xk_8_6 h1) (ys_97 (xk_8_6 h1) h2 (xk_8_5 h1) J (fun s9 J9 => (k 0 s9 J9))))))) (fun f4 => (And.intro (fun f5 => (ps_nk_i h1 (ps_nk_i h1 (ps_nk_i (xk_8_6 h1) (ys_97 (xk_8_6 h1) (xk_8_5 h1) h2 J (fun s10 J10 => (k 0 s10 J10))))))) (fun f5 => (ps_nk_i h1 (ps_nk_i h1 (ps_nk_i (xk_8_6 h1) (ys_97 (xk_8_6 h1) (xk_8_5 h1) h2 J (fun s11 J11 => (ps_nk_i h0 (ys_38 h0 J11 (fun v12 g12 => (ps_nk_i h1 (ps_nk_i g12 (ys_95 g12 (xk_8_5 h1) J11 (fun s13 J13 => (k 0 s13 J13))))))))))))))))))))))))

theorem ys_96 {m s : ps_S} {t : Int32} {d : Nat} {r0 : Nat} {r1 : Nat} {x2 : Int32} {x3 : Int32} {f : ps_S → Prop} (h0 : ps_is r0 5 = true) (h1 : ps_is r1 5 = true) (J : yJ m t s) (k : ∀ (s' : ps_S), yJ m t s' → f s') : ps_Cl (d + 2) 96 [.ref r0, .ref r1, .int x2, .int x3] s (ps_rV f) :=
  pg_96_0 (d := d + 1) (ps_nk_i h0 (ys_91 h0 J (fun s1 J1 => (ps_nk_i h0 (ys_94 h0 h1 J1 (fun s2 J2 => (k s2 J2)))))))

theorem ys_45 {m s : ps_S} {t : Int32} {d : Nat} {r0 : Nat} {r1 : Nat} {r2 : Nat} {f : Int32 → ps_S → Prop} (h0 : ps_is r0 2 = true) (h1 : ps_is r1 8 = true) (h2 : ps_is r2 5 = true) (J : yJ m t s) (k : ∀ (v : Int32) (s' : ps_S), yJ m t s' → f v s') : ps_Cl (d + 3) 45 [.ref r0, .ref r1, .ref r2] s (ps_rI f) :=
  pg_45_0 (d := d + 2) (ps_nk_i h2 (ys_92 h2 J (fun v1 => (And.intro (fun f1 => (ps_nk_i h0 (ps_nk_i h0 (ps_nk_i (xk_2_5 h0) (ys_103 (xk_2_5 h0) h2 (xj_2_6 (J).1 h0) J (fun s2 J2 => (ps_nk_i h0 (ps_nk_i (xk_2_5 h0) (ys_104 (xk_2_5 h0) J2 (fun v3 => (ps_nk_i h1 (And.intro (fun f2 => (ps_nk_i h1 (ps_nk_i h2 (ps_nk_i (xk_8_6 h1) (ys_96 (xk_8_6 h1) h2 J2 (fun s4 J4 => (k 0 s4 J4))))))) (fun f2 => (ps_nk_i h1 (ps_nk_i (xk_8_6 h1) (ys_96 (xk_8_6 h1) h2 J2 (fun s5 J5 => (k 0 s5 J5)))))))))))))))))) (fun f1 => (k 2 s J))))))

theorem ys_98_29 {m s : ps_S} {t : Int32} {d : Nat} {r0 : Nat} {r1 : Nat} {x2 : Int32} {Q : Option Value → ps_S → Prop} (h0 : ps_is r0 5 = true) (h1 : ps_is r1 5 = true) (J : yJ m t s) (k : ∀ (v : Int32), v &&& 1 = v → Q (some (.int v)) s) : ps_At (d + 1) 98 29 [(0, .ref r0), (1, .ref r1), (2, .int x2)] [] s Q :=
  xs_up (P := fun x2 => ps_is r0 5 = true → ps_is r1 5 = true → ps_At (d + 1) 98 29 [(0, .ref r0), (1, .ref r1), (2, .int x2)] [] s Q) (fun x2 ih h0 h1 => pg_98_29 (d := d) (ps_nk_i h0 (And.intro (fun f1 => (k 1 (by decide))) (fun f1 => (ps_nk_i h0 (ys_92 h0 J (fun v1 => (ps_nk_i h1 (ys_92 h1 J (fun v2 => (And.intro (fun f2 => (ih ((x2 + 1)) (xs_lt f1) h0 h1)) (fun f2 => (k 0 (by decide)))))))))))))) x2 h0 h1

theorem ys_98 {m s : ps_S} {t : Int32} {d : Nat} {r0 : Nat} {r1 : Nat} {f : Int32 → ps_S → Prop} (h0 : ps_is r0 5 = true) (h1 : ps_is r1 5 = true) (J : yJ m t s) (k : ∀ (v : Int32), v &&& 1 = v → f v s) : ps_Cl (d + 1) 98 [.ref r0, .ref r1] s (ps_rI f) :=
  pg_98_0 (d := d) (ps_nk_i h0 (And.intro (fun f1 => (k 0 (by decide))) (fun f1 => (ps_nk_i h1 (And.intro (fun f2 => (k 0 (by decide))) (fun f2 => (ps_nk_i h0 (ps_nk_i h1 (And.intro (fun f3 => (ys_98_29 (d := d) (r0 := r0) (r1 := r1) (x2 := 0)  h0 h1 J k )) (fun f3 => (k 0 (by decide))))))))))))

theorem ys_46 {m s : ps_S} {t : Int32} {d : Nat} {r0 : Nat} {r1 : Nat} {r2 : Nat} {f : Int32 → ps_S → Prop} (h0 : ps_is r0 2 = true) (h1 : ps_is r1 8 = true) (h2 : ps_is r2 5 = true) (J : yJ m t s) (k : ∀ (v : Int32) (s' : ps_S), yJ m t s' → f v s') : ps_Cl (d + 3) 46 [.ref r0, .ref r1, .ref r2] s (ps_rI f) :=
  pg_46_0 (d := d + 2) (ps_nk_i h0 (ys_37 h0 h1 J (fun v1 g1 => (ps_nk_i g1 (ps_nk_i h2 (ys_92 h2 J (fun v2 => (And.intro (fun f1 => (k 2 s J)) (fun f1 => (ps_nk_i h0 (ys_37 h0 h1 J (fun v3 g3 => (ps_nk_i g3 (ps_nk_i (xk_8_6 g1) (ys_98 (xk_8_6 g1) (xk_8_6 g3) J (fun v4 b4 => (And.intro (fun f2 => (ps_nk_i h0 (ps_nk_i h0 (ps_nk_i (xk_2_5 h0) (ys_103 (xk_2_5 h0) h2 (xj_2_6 (J).1 h0) J (fun s5 J5 => (ps_nk_i h0 (ps_nk_i (xk_2_5 h0) (ys_104 (xk_2_5 h0) J5 (fun v6 => (ps_nk_i h0 (ys_38 h0 J5 (fun v7 g7 => (ps_nk_i g7 (ys_96 g7 h2 J5 (fun s8 J8 => (ps_nk_i h0 (ys_38 h0 J8 (fun v9 g9 => (ps_nk_i h2 (ps_nk_i g9 (ys_96 g9 h2 J8 (fun s10 J10 => (ps_nk_i h1 (ps_nk_i (xk_8_6 h1) (ys_95 (xk_8_6 h1) (xk_8_6 g1) J10 (fun s11 J11 => (k 0 s11 J11)))))))))))))))))))))))))))) (fun f2 => (k 2 s J)))))))))))))))))))

theorem ys_47 {m s : ps_S} {t : Int32} {d : Nat} {r0 : Nat} {r1 : Nat} {r2 : Nat} {r3 : Nat} {f : Int32 → ps_S → Prop} (h0 : ps_is r0 2 = true) (h1 : ps_is r1 8 = true) (h2 : ps_is r2 5 = true) (h3 : ps_is r3 5 = true) (J : yJ m t s) (k : ∀ (v : Int32) (s' : ps_S), yJ m t s' → f v s') : ps_Cl (d + 3) 47 [.ref r0, .ref r1, .ref r2, .ref r3] s (ps_rI f) :=
  pg_47_0 (d := d + 2) (ps_nk_i h0 (ps_nk_i h0 (ps_nk_i (xk_2_5 h0) (ys_103 (xk_2_5 h0) h2 (xj_2_6 (J).1 h0) J (fun s1 J1 => (ps_nk_i h0 (ps_nk_i (xk_2_5 h0) (ys_104 (xk_2_5 h0) J1 (fun v2 => (ps_nk_i h2 (ys_92 h2 J1 (fun v3 => (And.intro (fun f1 => (k 2 s1 J1)) (fun f1 => (ps_nk_i h3 (And.intro (fun f2 => (k 2 s1 J1)) (fun f2 => (ps_nk_i h2 (ys_99 h2 h3 J1 (fun v4 b4 => (And.intro (fun f3 => (ps_nk_i h1 (ps_nk_i h2 (ps_nk_i (xk_8_6 h1) (ys_96 (xk_8_6 h1) h2 J1 (fun s5 J5 => (k 0 s5 J5))))))) (fun f3 => (k 2 s1 J1)))))))))))))))))))))))

theorem ys_122 {m s : ps_S} {t : Int32} {d : Nat} {r0 : Nat} {x1 : Int32} {f : Int32 → ps_S → Prop} (h0 : ps_is r0 8 = true) (J : yJ m t s) (k : ∀ (v : Int32), f v s) : ps_Cl (d + 1) 122 [.ref r0, .int x1] s (ps_rI f) :=
  pg_122_0 (d := d) (ps_nk_i h0 (And.intro (fun f1 => (k (-1))) (fun f1 => (ps_nk_i h0 (ys_182 (yk_8_7 h0) J (fun v1 => (k v1)))))))

theorem ys_51_3 {m s : ps_S} {t : Int32} {d : Nat} {r0 : Nat} {r1 : Nat} {x2 : Int32} {r3 : Nat} {x4 : Int32} {Q : Option Value → ps_S → Prop} (h0 : ps_is r0 2 = true) (h1 : ps_is r1 8 = true) (h3 : ps_is r3 5 = true) (J : yJ m t s) (k : ∀ (v : Int32), v &&& 1 = v → Q (some (.int v)) s) : ps_At (d + 2) 51 3 [(0, .ref r0), (1, .ref r1), (2, .int x2), (3, .ref r3), (4, .int x4)] [] s Q :=
  xs_up (P := fun x4 => ps_is r0 2 = true → ps_is r1 8 = true → ps_is r3 5 = true → ps_At (d + 2) 51 3 [(0, .ref r0), (1, .ref r1), (2, .int x2), (3, .ref r3), (4, .int x4)] [] s Q) (fun x4 ih h0 h1 h3 => pg_51_3 (d := d + 1) (ps_nk_i h1 (And.intro (fun f1 => (k 0 (by decide))) (fun f1 => (ps_nk_i h1 (ys_122 h1 J (fun v1 => (ps_nk_i h0 (ys_33 h0 J (fun v2 g2 => (ps_nk_i g2 (ps_nk_i (xk_8_6 g2) (ys_98 (xk_8_6 g2) h3 J (fun v3 b3 => (And.intro (fun f2 => (ih ((x4 + 1)) (xs_lt f1) h0 h1 h3)) (fun f2 => (ps_nk_i (xk_8_6 g2) (ys_100 (xk_8_6 g2) J (fun v4 b4 => (And.intro (fun f3 => (ih ((x4 + 1)) (xs_lt f1) h0 h1 h3)) (fun f3 => (k 1 (by decide))))))))))))))))))))))) x4 h0 h1 h3

theorem ys_51 {m s : ps_S} {t : Int32} {d : Nat} {r0 : Nat} {r1 : Nat} {x2 : Int32} {r3 : Nat} {f : Int32 → ps_S → Prop} (h0 : ps_is r0 2 = true) (h1 : ps_is r1 8 = true) (h3 : ps_is r3 5 = true) (J : yJ m t s) (k : ∀ (v : Int32), v &&& 1 = v → f v s) : ps_Cl (d + 2) 51 [.ref r0, .ref r1, .int x2, .ref r3] s (ps_rI f) :=
  pg_51_0 (d := d + 1) (ys_51_3 (d := d) (r0 := r0) (r1 := r1) (x2 := x2) (r3 := r3) (x4 := 0)  h0 h1 h3 J k )

theorem ys_49_52 {m s : ps_S} {t : Int32} {d : Nat} {r0 : Nat} {r1 : Nat} {r2 : Nat} {x3 : Int32} {Q : Option Value → ps_S → Prop} (h0 : ps_is r0 2 = true) (h1 : ps_is r1 8 = true) (h2 : ps_is r2 5 = true) (J : yJ m t s) (k : ∀ (v : Int32) (s' : ps_S), yJ m t s' → Q (some (.int v)) s') : ps_At (d + 3) 49 52 [(0, .ref r0), (1, .ref r1), (2, .ref r2), (3, .int x3)] [] s Q :=
  xs_up (P := fun x3 => ∀ (s : ps_S), ps_is r0 2 = true → ps_is r1 8 = true → ps_is r2 5 = true → yJ m t s → ps_At (d + 3) 49 52 [(0, .ref r0), (1, .ref r1), (2, .ref r2), (3, .int x3)] [] s Q) (fun x3 ih s h0 h1 h2 J => pg_49_52 (d := d + 2) (ps_nk_i h2 (And.intro (fun f1 => (k 0 s J)) (fun f1 => (ps_nk_i h1 (ps_nk_i h2 (ys_92 h2 J (fun v1 => (ps_nk_i h1 (And.intro (fun f2 => (ps_nk_i h2 (ys_92 h2 J (fun v2 => (ps_nk_i (xk_8_6 h1) (ys_93 (xk_8_6 h1) J (fun s3 J3 => (ih ((x3 + 1)) (xs_lt f1) s3 h0 h1 h2 J3)))))))) (fun f2 => (ps_nk_i h0 (ps_nk_i (xk_2_5 h0) (ys_105 (xk_2_5 h0) J (fun v4 => (ps_nk_i (xk_8_6 h1) (ys_93 (xk_8_6 h1) J (fun s5 J5 => (ih ((x3 + 1)) (xs_lt f1) s5 h0 h1 h2 J5))))))))))))))))))) x3 s h0 h1 h2 J

theorem ys_49 {m s : ps_S} {t : Int32} {d : Nat} {r0 : Nat} {r1 : Nat} {r2 : Nat} {f : Int32 → ps_S → Prop} (h0 : ps_is r0 2 = true) (h1 : ps_is r1 8 = true) (h2 : ps_is r2 5 = true) (J : yJ m t s) (k : ∀ (v : Int32) (s' : ps_S), yJ m t s' → f v s') : ps_Cl (d + 3) 49 [.ref r0, .ref r1, .ref r2] s (ps_rI f) :=
  pg_49_0 (d := d + 2) (ps_nk_i h0 (ys_37 h0 h1 J (fun v1 g1 => (ps_nk_i h1 (ps_nk_i h0 (ps_nk_i h0 (ys_51 h0 g1 (xk_2_3 h0) J (fun v2 b2 => (And.intro (fun f1 => (ps_nk_i h0 (ps_nk_i h0 (ps_nk_i (xk_2_5 h0) (ys_103 (xk_2_5 h0) h2 (xj_2_6 (J).1 h0) J (fun s3 J3 => (ps_nk_i h1 (ps_nk_i (xk_8_6 h1) (ys_91 (xk_8_6 h1) J3 (fun s4 J4 => (ps_nk_i h1 (ps_nk_i (xk_8_6 h1) (ys_93 (xk_8_6 h1) J4 (fun s5 J5 => (ys_49_52 (d := d) (r0 := r0) (r1 := r1) (r2 := r2) (x3 := 0)  h0 h1 h2 J5 k ))))))))))))))) (fun f1 => (k 3 s J)))))))))))

theorem ys_52_19 {m s : ps_S} {t : Int32} {d : Nat} {r0 : Nat} {r1 : Nat} {r2 : Nat} {r3 : Nat} {x4 : Int32} {Q : Option Value → ps_S → Prop} (h0 : ps_is r0 2 = true) (h1 : ps_is r1 5 = true) (h2 : ps_is r2 5 = true) (h3 : ps_is r3 5 = true) (J : yJ m t s) (k : ∀ (s' : ps_S), yJ m t s' → Q none s') : ps_At (d + 2) 52 19 [(0, .ref r0), (1, .ref r1), (2, .ref r2), (3, .ref r3), (4, .int x4)] [] s Q :=
  xs_up (P := fun x4 => ∀ (s : ps_S), ps_is r0 2 = true → ps_is r1 5 = true → ps_is r2 5 = true → ps_is r3 5 = true → yJ m t s → ps_At (d + 2) 52 19 [(0, .ref r0), (1, .ref r1), (2, .ref r2), (3, .ref r3), (4, .int x4)] [] s Q) (fun x4 ih s h0 h1 h2 h3 J => pg_52_19 (d := d + 1) (ps_nk_i h2 (And.intro (fun f1 => (k s J)) (fun f1 => (ps_nk_i h2 (ys_92 h2 J (fun v1 => (ps_nk_i h0 (ps_nk_i (xk_2_5 h0) (ys_105 (xk_2_5 h0) J (fun v2 => (And.intro (fun f2 => (ps_nk_i h2 (ys_92 h2 J (fun v3 => (ps_nk_i h1 (ys_93 h1 J (fun s4 J4 => (ih ((x4 + 1)) (xs_lt f1) s4 h0 h1 h2 h3 J4)))))))) (fun f2 => (ps_nk_i h3 (ps_nk_i h1 (ys_94 h1 h3 J (fun s5 J5 => (ih ((x4 + 1)) (xs_lt f1) s5 h0 h1 h2 h3 J5)))))))))))))))))) x4 s h0 h1 h2 h3 J

theorem ys_52 {m s : ps_S} {t : Int32} {d : Nat} {r0 : Nat} {r1 : Nat} {r2 : Nat} {r3 : Nat} {f : ps_S → Prop} (h0 : ps_is r0 2 = true) (h1 : ps_is r1 5 = true) (h2 : ps_is r2 5 = true) (h3 : ps_is r3 5 = true) (J : yJ m t s) (k : ∀ (s' : ps_S), yJ m t s' → f s') : ps_Cl (d + 2) 52 [.ref r0, .ref r1, .ref r2, .ref r3] s (ps_rV f) :=
  pg_52_0 (d := d + 1) (ps_nk_i h0 (ps_nk_i h0 (ps_nk_i (xk_2_5 h0) (ys_103 (xk_2_5 h0) h2 (xj_2_6 (J).1 h0) J (fun s1 J1 => (ps_nk_i h1 (ys_91 h1 J1 (fun s2 J2 => (ys_52_19 (d := d) (r0 := r0) (r1 := r1) (r2 := r2) (r3 := r3) (x4 := 1)  h0 h1 h2 h3 J2 k )))))))))

theorem ys_50 {m s : ps_S} {t : Int32} {d : Nat} {r0 : Nat} {r1 : Nat} {r2 : Nat} {f : Int32 → ps_S → Prop} (h0 : ps_is r0 2 = true) (h1 : ps_is r1 8 = true) (h2 : ps_is r2 5 = true) (J : yJ m t s) (k : ∀ (v : Int32) (s' : ps_S), yJ m t s' → f v s') : ps_Cl (d + 3) 50 [.ref r0, .ref r1, .ref r2] s (ps_rI f) :=
  pg_50_0 (d := d + 2) (ps_nk_i h2 (ys_92 h2 J (fun v1 => (And.intro (fun f1 => (ps_nk_i h1 (ps_nk_i h1 (ps_nk_i h0 (ys_52 h0 (xk_8_6 h1) h2 (xk_8_4 h1) J (fun s2 J2 => (k 0 s2 J2))))))) (fun f1 => (k 2 s J))))))

theorem ys_53 {m s : ps_S} {t : Int32} {d : Nat} {r0 : Nat} {r1 : Nat} {r2 : Nat} {f : Int32 → ps_S → Prop} (h0 : ps_is r0 2 = true) (h1 : ps_is r1 8 = true) (h2 : ps_is r2 5 = true) (J : yJ m t s) (k : ∀ (v : Int32) (s' : ps_S), yJ m t s' → f v s') : ps_Cl (d + 3) 53 [.ref r0, .ref r1, .ref r2] s (ps_rI f) :=
  pg_53_0 (d := d + 2) (ps_nk_i h1 (ps_nk_i (xk_8_5 h1) (ys_92 (xk_8_5 h1) J (fun v1 => (And.intro (fun f1 => (ps_nk_i h0 (ps_nk_i h1 (ps_nk_i h1 (ps_nk_i h0 (ys_52 h0 (xk_2_4 h0) (xk_8_5 h1) (xk_8_4 h1) J (fun s2 J2 => (ps_nk_i h0 (ps_nk_i (xk_2_4 h0) (ys_98 (xk_2_4 h0) h2 J2 (fun v3 b3 => (And.intro (fun f2 => (ps_nk_i h1 (ps_nk_i h1 (ps_nk_i (xk_8_6 h1) (ys_95 (xk_8_6 h1) (xk_8_5 h1) J2 (fun s4 J4 => (k 0 s4 J4))))))) (fun f2 => (k 4 s2 J2)))))))))))))) (fun f1 => (k 4 s J)))))))

theorem ys_54_68 {m s : ps_S} {t : Int32} {d : Nat} {r0 : Nat} {r1 : Nat} {r3 : Nat} {Q : Option Value → ps_S → Prop} (h0 : ps_is r0 2 = true) (h1 : ps_is r1 8 = true) (h3 : ps_is r3 8 = true) (J : yJ m t s) (k : ∀ (v : Int32) (s' : ps_S), yJ m t s' → Q (some (.int v)) s') : ps_At (d + 3) 54 68 [(0, .ref r0), (1, .ref r1), (3, .ref r3)] [] s Q :=
  pg_54_68 (d := d + 2) (And.intro (fun f1 => (k 3 s J)) (fun f1 => (ps_nk_i h1 (ps_nk_i h0 (ys_38 h0 J (fun v1 g1 => (ps_nk_i h0 (ys_51 h0 h3 g1 J (fun v2 b2 => (And.intro (fun f2 => (ps_nk_i h1 (ps_nk_i h3 (ps_nk_i (xk_8_6 h1) (ys_95 (xk_8_6 h1) (xk_8_6 h3) J (fun s3 J3 => (k 0 s3 J3))))))) (fun f2 => (k 3 s J))))))))))))

theorem ys_54 {m s : ps_S} {t : Int32} {d : Nat} {r0 : Nat} {r1 : Nat} {r2 : Nat} {r3 : Nat} {f : Int32 → ps_S → Prop} (h0 : ps_is r0 2 = true) (h1 : ps_is r1 8 = true) (h2 : ps_is r2 5 = true) (h3 : ps_is r3 8 = true) (J : yJ m t s) (k : ∀ (v : Int32) (s' : ps_S), yJ m t s' → f v s') : ps_Cl (d + 3) 54 [.ref r0, .ref r1, .ref r2, .ref r3] s (ps_rI f) :=
  pg_54_0 (d := d + 2) (ps_nk_i h2 (ys_92 h2 J (fun v1 => (And.intro (fun f1 => (ps_nk_i h1 (ps_nk_i (xk_8_4 h1) (ys_91 (xk_8_4 h1) J (fun s2 J2 => (ps_nk_i h1 (ps_nk_i h1 (ps_nk_i (xk_8_4 h1) (ys_93 (xk_8_4 h1) J2 (fun s3 J3 => (ps_nk_i h0 (ys_38 h0 J3 (fun v4 g4 => (ps_nk_i h1 (ps_nk_i h0 (ys_52 h0 g4 h2 (xk_8_4 h1) J3 (fun s5 J5 => (ps_nk_i h1 (ps_nk_i h2 (ys_100 h2 J5 (fun v6 b6 => (And.intro (fun f2 => (ys_54_68 (d := d) (r0 := r0) (r1 := r1) (r3 := r3)  h0 h1 h3 J5 k )) (fun f2 => (ps_nk_i h3 (ps_nk_i h1 (ps_nk_i (xk_8_6 h3) (ys_100 (xk_8_6 h3) J5 (fun v7 b7 => (And.intro (fun f3 => (And.intro (fun f4 => (k 3 s5 J5)) (fun f4 => (ps_nk_i h1 (ps_nk_i h0 (ys_38 h0 J5 (fun v8 g8 => (ps_nk_i h0 (ys_51 h0 h3 g8 J5 (fun v9 b9 => (And.intro (fun f5 => (ps_nk_i h1 (ps_nk_i h3 (ps_nk_i (xk_8_6 h1) (ys_95 (xk_8_6 h1) (xk_8_6 h3) J5 (fun s10 J10 => (k 0 s10 J10))))))) (fun f5 => (k 3 s5 J5))))))))))))) (fun f3 => (ys_54_68 (d := d) (r0 := r0) (r1 := r1) (r3 := r3)  h0 h1 h3 J5 k ))))))))))))))))))))))))))))))) (fun f1 => (k 2 s J))))))

theorem ys_56_117 {m s : ps_S} {t : Int32} {d : Nat} {r1 : Nat} {r2 : Nat} {r3 : Nat} {x4 : Int32} {x5 : Int32} {x6 : Int32} {x7 : Int32} {x8 : Int32} {x9 : Int32} {Q : Option Value → ps_S → Prop} (h1 : ps_is r1 5 = true) (h2 : ps_is r2 5 = true) (h3 : ps_is r3 5 = true) (J : yJ m t s) (k : ∀ (v : Int32) (s' : ps_S), v &&& 1 = v → yJ m t s' → Q (some (.int v)) s') (K46 : ∀ (x7 : Int32) (x8 : Int32) (s : ps_S), ps_is r1 5 = true → ps_is r2 5 = true → ps_is r3 5 = true → yJ m t s → ps_At (d + 2) 56 46 [(1, .ref r1), (2, .ref r2), (3, .ref r3), (4, .int x4), (5, .int x5), (6, .int x6), (7, .int x7), (8, .int x8), (9, .int (x9 + 1))] [] s Q) : ps_At (d + 2) 56 117 [(1, .ref r1), (2, .ref r2), (3, .ref r3), (4, .int x4), (5, .int x5), (6, .int x6), (7, .int x7), (8, .int x8), (9, .int x9)] [] s Q :=
  pg_56_117 (d := d + 1) (ps_nk_i h1 (ys_92 h1 J (fun v1 => (ps_nk_i h3 (ys_92 h3 J (fun v2 => (And.intro (fun f1 => (k 0 s (by decide) J)) (fun f1 => (K46 ((x7 + 1)) ((x8 + 1)) s h1 h2 h3 J)))))))))

theorem ys_56_149 {m s : ps_S} {t : Int32} {d : Nat} {r1 : Nat} {r3 : Nat} {x7 : Int32} {x8 : Int32} {Q : Option Value → ps_S → Prop} (h1 : ps_is r1 5 = true) (h3 : ps_is r3 5 = true) (J : yJ m t s) (k : ∀ (v : Int32) (s' : ps_S), v &&& 1 = v → yJ m t s' → Q (some (.int v)) s') : ps_At (d + 2) 56 149 [(1, .ref r1), (3, .ref r3), (7, .int x7), (8, .int x8)] [] s Q :=
  pg_56_149 (d := d + 1) (ps_nk_i h1 (And.intro (fun f1 => (k 0 s (by decide) J)) (fun f1 => (ps_nk_i h3 (And.intro (fun f2 => (k 0 s (by decide) J)) (fun f2 => (k 1 s (by decide) J)))))))

theorem ys_56_46 {m s : ps_S} {t : Int32} {d : Nat} {r1 : Nat} {r2 : Nat} {r3 : Nat} {x4 : Int32} {x5 : Int32} {x6 : Int32} {x7 : Int32} {x8 : Int32} {x9 : Int32} {Q : Option Value → ps_S → Prop} (h1 : ps_is r1 5 = true) (h2 : ps_is r2 5 = true) (h3 : ps_is r3 5 = true) (J : yJ m t s) (k : ∀ (v : Int32) (s' : ps_S), v &&& 1 = v → yJ m t s' → Q (some (.int v)) s') : ps_At (d + 2) 56 46 [(1, .ref r1), (2, .ref r2), (3, .ref r3), (4, .int x4), (5, .int x5), (6, .int x6), (7, .int x7), (8, .int x8), (9, .int x9)] [] s Q :=
  xs_up (P := fun x9 => ∀ (x7 : Int32) (x8 : Int32) (s : ps_S), ps_is r1 5 = true → ps_is r2 5 = true → ps_is r3 5 = true → yJ m t s → ps_At (d + 2) 56 46 [(1, .ref r1), (2, .ref r2), (3, .ref r3), (4, .int x4), (5, .int x5), (6, .int x6), (7, .int x7), (8, .int x8), (9, .int x9)] [] s Q) (fun x9 ih x7 x8 s h1 h2 h3 J => pg_56_46 (d := d + 1) (And.intro (fun f1 => (ys_56_149 (d := d) (r1 := r1) (r3 := r3) (x7 := x7) (x8 := x8)  h1 h3 J k )) (fun f1 => (ps_nk_i h1 (And.intro (fun f2 => (ys_56_149 (d := d) (r1 := r1) (r3 := r3) (x7 := x7) (x8 := x8)  h1 h3 J k )) (fun f2 => (ps_nk_i h3 (And.intro (fun f3 => (ys_56_149 (d := d) (r1 := r1) (r3 := r3) (x7 := x7) (x8 := x8)  h1 h3 J k )) (fun f3 => (ps_nk_i h2 (ys_99 h2 h3 J (fun v1 b1 => (And.intro (fun f4 => (ys_56_117 (d := d) (r1 := r1) (r2 := r2) (r3 := r3) (x4 := x4) (x5 := x5) (x6 := x6) (x7 := x7) (x8 := x8) (x9 := x9)  h1 h2 h3 J k (fun x7 x8 s9 h1z h2z h3z J9 => ih (x9 + 1) (xs_lt f1) x7 x8 s9 h1z h2z h3z J9))) (fun f4 => (ps_nk_i h2 (ps_nk_i h2 (ys_99 h2 h1 J (fun v2 b2 => (And.intro (fun f5 => (ys_56_117 (d := d) (r1 := r1) (r2 := r2) (r3 := r3) (x4 := x4) (x5 := x5) (x6 := x6) (x7 := x7) (x8 := x8) (x9 := x9)  h1 h2 h3 J k (fun x7 x8 s9 h1z h2z h3z J9 => ih (x9 + 1) (xs_lt f1) x7 x8 s9 h1z h2z h3z J9))) (fun f5 => (ih ((x9 + 1)) (xs_lt f1) ((x7 + x6)) ((x8 + x5)) s h1 h2 h3 J))))))))))))))))))))) x9 x7 x8 s h1 h2 h3 J

theorem ys_56 {m s : ps_S} {t : Int32} {d : Nat} {r0 : Nat} {r1 : Nat} {r2 : Nat} {r3 : Nat} {f : Int32 → ps_S → Prop} (h0 : ps_is r0 2 = true) (h1 : ps_is r1 5 = true) (h2 : ps_is r2 5 = true) (h3 : ps_is r3 5 = true) (J : yJ m t s) (k : ∀ (v : Int32) (s' : ps_S), v &&& 1 = v → yJ m t s' → f v s') : ps_Cl (d + 2) 56 [.ref r0, .ref r1, .ref r2, .ref r3] s (ps_rI f) :=
  pg_56_0 (d := d + 1) (ps_nk_i h0 (ps_nk_i h0 (ps_nk_i (xk_2_5 h0) (ys_103 (xk_2_5 h0) h2 (xj_2_6 (J).1 h0) J (fun s1 J1 => (ps_nk_i h0 (ps_nk_i (xk_2_5 h0) (ys_104 (xk_2_5 h0) J1 (fun v2 => (ps_nk_i h2 (ys_56_46 (d := d) (r1 := r1) (r2 := r2) (r3 := r3) (x4 := v2) (x5 := (v2 - 1)) (x6 := ((ps_i s1 r2 1) - v2)) (x7 := 0) (x8 := 0) (x9 := 0)  h1 h2 h3 J1 k )))))))))))

theorem ys_55 {m s : ps_S} {t : Int32} {d : Nat} {r0 : Nat} {r1 : Nat} {r2 : Nat} {r3 : Nat} {f : Int32 → ps_S → Prop} (h0 : ps_is r0 2 = true) (h1 : ps_is r1 8 = true) (h2 : ps_is r2 5 = true) (h3 : ps_is r3 5 = true) (J : yJ m t s) (k : ∀ (v : Int32) (s' : ps_S), yJ m t s' → f v s') : ps_Cl (d + 3) 55 [.ref r0, .ref r1, .ref r2, .ref r3] s (ps_rI f) :=
  pg_55_0 (d := d + 2) (ps_nk_i h2 (ys_92 h2 J (fun v1 => (And.intro (fun f1 => (ps_nk_i h1 (ps_nk_i h0 (ys_56 h0 (xk_8_5 h1) h2 h3 J (fun v2 s2 b2 J2 => (And.intro (fun f2 => (ps_nk_i h1 (ps_nk_i h1 (ps_nk_i (xk_8_6 h1) (ys_95 (xk_8_6 h1) (xk_8_5 h1) J2 (fun s3 J3 => (k 0 s3 J3))))))) (fun f2 => (k 4 s2 J2)))))))) (fun f1 => (k 2 s J))))))

theorem ys_48 {m s : ps_S} {t : Int32} {d : Nat} {r0 : Nat} {r1 : Nat} {r2 : Nat} {f : Int32 → ps_S → Prop} (h0 : ps_is r0 2 = true) (h1 : ps_is r1 8 = true) (h2 : ps_is r2 5 = true) (J : yJ m t s) (k : ∀ (v : Int32) (s' : ps_S), yJ m t s' → f v s') : ps_Cl (d + 3) 48 [.ref r0, .ref r1, .ref r2] s (ps_rI f) :=
  pg_48_0 (d := d + 2) (ps_nk_i h2 (ys_92 h2 J (fun v1 => (And.intro (fun f1 => (ps_nk_i h1 (ps_nk_i h1 (ps_nk_i (xk_8_6 h1) (ys_95 (xk_8_6 h1) (xk_8_5 h1) J (fun s2 J2 => (ps_nk_i h1 (And.intro (fun f2 => (k 0 s2 J2)) (fun f2 => (ps_nk_i h0 (ys_38 h0 J2 (fun v3 g3 => (ps_nk_i g3 (ys_91 g3 J2 (fun s4 J4 => (ps_nk_i h0 (ys_38 h0 J4 (fun v5 g5 => (ps_nk_i g5 (ys_93 g5 J4 (fun s6 J6 => (ps_nk_i h0 (ys_38 h0 J6 (fun v7 g7 => (ps_nk_i h1 (ps_nk_i h1 (ps_nk_i (xk_8_5 h1) (ps_nk_i g7 (ys_94 g7 (xk_8_5 h1) J6 (fun s8 J8 => (ps_nk_i h0 (ys_38 h0 J8 (fun v9 g9 => (ps_nk_i g9 (ys_93 g9 J8 (fun s10 J10 => (k 0 s10 J10))))))))))))))))))))))))))))))))))))) (fun f1 => (k 2 s J))))))

theorem ys_42 {m s : ps_S} {t : Int32} {d : Nat} {r0 : Nat} {r1 : Nat} {x2 : Int32} {r3 : Nat} {f : Int32 → ps_S → Prop} (h0 : ps_is r0 2 = true) (h1 : ps_is r1 8 = true) (h3 : ps_is r3 7 = true) (J : yJ m t s) (k : ∀ (v : Int32) (s' : ps_S), yJ m t s' → f v s') : ps_Cl (d + 4) 42 [.ref r0, .ref r1, .int x2, .ref r3] s (ps_rI f) :=
  pg_42_0 (d := d + 3) (ps_nk_i h0 (ys_37 h0 h1 J (fun v1 g1 => (ps_nk_i g1 (ps_nk_i h1 (And.intro (fun f1 => (ps_nk_i h0 (ys_43 h0 h1 h3 J (fun v2 s2 J2 => (k v2 s2 J2))))) (fun f1 => (And.intro (fun f2 => (ps_nk_i h0 (ys_48 h0 h1 (xk_8_6 g1) J (fun v3 s3 J3 => (k v3 s3 J3))))) (fun f2 => (And.intro (fun f3 => (ps_nk_i h0 (ys_48 h0 h1 (xk_8_6 g1) J (fun v4 s4 J4 => (k v4 s4 J4))))) (fun f3 => (And.intro (fun f4 => (ps_nk_i h0 (ys_48 h0 h1 (xk_8_6 g1) J (fun v5 s5 J5 => (k v5 s5 J5))))) (fun f4 => (And.intro (fun f5 => (ps_nk_i h0 (ys_43 h0 h1 h3 J (fun v6 s6 J6 => (k v6 s6 J6))))) (fun f5 => (And.intro (fun f6 => (ps_nk_i h0 (ys_43 h0 h1 h3 J (fun v7 s7 J7 => (k v7 s7 J7))))) (fun f6 => (And.intro (fun f7 => (ps_nk_i h0 (ys_43 h0 h1 h3 J (fun v8 s8 J8 => (k v8 s8 J8))))) (fun f7 => (And.intro (fun f8 => (ps_nk_i h0 (ys_44 h0 h1 (xk_8_6 g1) J (fun v9 s9 J9 => (k v9 s9 J9))))) (fun f8 => (And.intro (fun f9 => (ps_nk_i h0 (ys_45 h0 h1 (xk_8_6 g1) J (fun v10 s10 J10 => (k v10 s10 J10))))) (fun f9 => (And.intro (fun f10 => (ps_nk_i h0 (ys_45 h0 h1 (xk_8_6 g1) J (fun v11 s11 J11 => (k v11 s11 J11))))) (fun f10 => (And.intro (fun f11 => (ps_nk_i h0 (ys_44 h0 h1 (xk_8_6 g1) J (fun v12 s12 J12 => (k v12 s12 J12))))) (fun f11 => (And.intro (fun f12 => (ps_nk_i h0 (ys_44 h0 h1 (xk_8_6 g1) J (fun v13 s13 J13 => (k v13 s13 J13))))) (fun f12 => (And.intro (fun f13 => (ps_nk_i h0 (ys_46 h0 h1 (xk_8_6 g1) J (fun v14 s14 J14 => (k v14 s14 J14))))) (fun f13 => (And.intro (fun f14 => (ps_nk_i h0 (ys_37 h0 h1 J (fun v15 g15 => (ps_nk_i g15 (ps_nk_i h0 (ys_47 h0 h1 (xk_8_6 g1) (xk_8_6 g15) J (fun v16 s16 J16 => (k v16 s16 J16))))))))) (fun f14 => (And.intro (fun f15 => (ps_nk_i h0 (ys_44 h0 h1 (xk_8_6 g1) J (fun v17 s17 J17 => (k v17 s17 J17))))) (fun f15 => (And.intro (fun f16 => (ps_nk_i h0 (ys_49 h0 h1 (xk_8_6 g1) J (fun v18 s18 J18 => (k v18 s18 J18))))) (fun f16 => (And.intro (fun f17 => (ps_nk_i h0 (ys_50 h0 h1 (xk_8_6 g1) J (fun v19 s19 J19 => (k v19 s19 J19))))) (fun f17 => (And.intro (fun f18 => (ps_nk_i h0 (ys_53 h0 h1 (xk_8_6 g1) J (fun v20 s20 J20 => (k v20 s20 J20))))) (fun f18 => (And.intro (fun f19 => (ps_nk_i h0 (ys_37 h0 h1 J (fun v21 g21 => (ps_nk_i h0 (ys_54 h0 h1 (xk_8_6 g1) g21 J (fun v22 s22 J22 => (k v22 s22 J22)))))))) (fun f19 => (And.intro (fun f20 => (ps_nk_i h0 (ys_37 h0 h1 J (fun v23 g23 => (ps_nk_i g23 (ps_nk_i h0 (ys_55 h0 h1 (xk_8_6 g1) (xk_8_6 g23) J (fun v24 s24 J24 => (k v24 s24 J24))))))))) (fun f20 => (ps_nk_i h0 (ys_48 h0 h1 (xk_8_6 g1) J (fun v25 s25 J25 => (k v25 s25 J25)))))))))))))))))))))))))))))))))))))))))))))))))
end
section
set_option maxRecDepth 100000
theorem ys_124 {m s : ps_S} {t : Int32} {d : Nat} {r0 : Nat} {r1 : Nat} {f : ps_S → Prop} (h0 : ps_is r0 8 = true) (h1 : ps_is r1 8 = true) (J : yJ m t s) (k : ∀ (s' : ps_S), yJ m t s' → f s') : ps_Cl d 124 [.ref r0, .ref r1] s (ps_rV f) :=
  pg_124_0 (ps_nk_i h0 (ps_nk_i h1 (ps_nk_i h0 (ps_nk_i h0 (ps_nk_i h1 (ps_nk_i h0 (ps_nk_i h0 (ps_nk_i h1 (ps_nk_i h0 (k (ps_uj (ps_ui (ps_ui s r0 10 ((ps_i s r0 10) ||| (ps_i s r1 10))) r0 11 ((ps_i (ps_ui s r0 10 ((ps_i s r0 10) ||| (ps_i s r1 10))) r0 11) ||| (ps_i (ps_ui s r0 10 ((ps_i s r0 10) ||| (ps_i s r1 10))) r1 11))) r0 12 ((ps_j (ps_ui (ps_ui s r0 10 ((ps_i s r0 10) ||| (ps_i s r1 10))) r0 11 ((ps_i (ps_ui s r0 10 ((ps_i s r0 10) ||| (ps_i s r1 10))) r0 11) ||| (ps_i (ps_ui s r0 10 ((ps_i s r0 10) ||| (ps_i s r1 10))) r1 11))) r0 12) ||| (ps_j (ps_ui (ps_ui s r0 10 ((ps_i s r0 10) ||| (ps_i s r1 10))) r0 11 ((ps_i (ps_ui s r0 10 ((ps_i s r0 10) ||| (ps_i s r1 10))) r0 11) ||| (ps_i (ps_ui s r0 10 ((ps_i s r0 10) ||| (ps_i s r1 10))) r1 11))) r1 12))) (yw_j (c := 8) (by decide) h0 (yw_i (c := 8) (by decide) h0 (yw_i (c := 8) (by decide) h0 J)))))))))))))

theorem ys_40_2 {m s : ps_S} {t : Int32} {d : Nat} {r0 : Nat} {r1 : Nat} {r2 : Nat} {x3 : Int32} {Q : Option Value → ps_S → Prop} (h0 : ps_is r0 2 = true) (h1 : ps_is r1 8 = true) (h2 : ps_is r2 5 = true) (J : yJ m t s) (k : ∀ (v : Int32), v &&& 1 = v → Q (some (.int v)) s) : ps_At (d + 2) 40 2 [(0, .ref r0), (1, .ref r1), (2, .ref r2), (3, .int x3)] [] s Q :=
  xs_up (P := fun x3 => ps_is r0 2 = true → ps_is r1 8 = true → ps_is r2 5 = true → ps_At (d + 2) 40 2 [(0, .ref r0), (1, .ref r1), (2, .ref r2), (3, .int x3)] [] s Q) (fun x3 ih h0 h1 h2 => pg_40_2 (d := d + 1) (ps_nk_i h1 (And.intro (fun f1 => (k 0 (by decide))) (fun f1 => (ps_nk_i h1 (ys_122 h1 J (fun v1 => (ps_nk_i h0 (ys_33 h0 J (fun v2 g2 => (ps_nk_i g2 (ps_nk_i (xk_8_6 g2) (ys_98 (xk_8_6 g2) h2 J (fun v3 b3 => (And.intro (fun f2 => (ih ((x3 + 1)) (xs_lt f1) h0 h1 h2)) (fun f2 => (k 1 (by decide)))))))))))))))))) x3 h0 h1 h2

theorem ys_40 {m s : ps_S} {t : Int32} {d : Nat} {r0 : Nat} {r1 : Nat} {r2 : Nat} {f : Int32 → ps_S → Prop} (h0 : ps_is r0 2 = true) (h1 : ps_is r1 8 = true) (h2 : ps_is r2 5 = true) (J : yJ m t s) (k : ∀ (v : Int32), v &&& 1 = v → f v s) : ps_Cl (d + 2) 40 [.ref r0, .ref r1, .ref r2] s (ps_rI f) :=
  pg_40_0 (d := d + 1) (ys_40_2 (d := d) (r0 := r0) (r1 := r1) (r2 := r2) (x3 := 0)  h0 h1 h2 J k )

theorem ys_39_3 {m s : ps_S} {t : Int32} {d : Nat} {r0 : Nat} {r1 : Nat} {r2 : Nat} {r3 : Nat} {x4 : Int32} {Q : Option Value → ps_S → Prop} (h0 : ps_is r0 2 = true) (h1 : ps_is r1 8 = true) (h2 : ps_is r2 8 = true) (h3 : ps_is r3 5 = true) (J : yJ m t s) (k : ∀ (s' : ps_S), yJ m t s' → Q none s') : ps_At (d + 3) 39 3 [(0, .ref r0), (1, .ref r1), (2, .ref r2), (3, .ref r3), (4, .int x4)] [] s Q :=
  xs_up (P := fun x4 => ∀ (s : ps_S), ps_is r0 2 = true → ps_is r1 8 = true → ps_is r2 8 = true → ps_is r3 5 = true → yJ m t s → ps_At (d + 3) 39 3 [(0, .ref r0), (1, .ref r1), (2, .ref r2), (3, .ref r3), (4, .int x4)] [] s Q) (fun x4 ih s h0 h1 h2 h3 J => pg_39_3 (d := d + 2) (ps_nk_i h2 (And.intro (fun f1 => (k s J)) (fun f1 => (ps_nk_i h2 (ys_122 h2 J (fun v1 => (ps_nk_i h0 (ys_33 h0 J (fun v2 g2 => (ps_nk_i g2 (ps_nk_i (xk_8_6 g2) (ys_98 (xk_8_6 g2) h3 J (fun v3 b3 => (And.intro (fun f2 => (ih ((x4 + 1)) (xs_lt f1) s h0 h1 h2 h3 J)) (fun f2 => (ps_nk_i h0 (ys_40 h0 h1 (xk_8_6 g2) J (fun v4 b4 => (And.intro (fun f3 => (ih ((x4 + 1)) (xs_lt f1) s h0 h1 h2 h3 J)) (fun f3 => (ps_nk_i h1 (ys_123 h1 J (fun s5 J5 => (ih ((x4 + 1)) (xs_lt f1) s5 h0 h1 h2 h3 J5))))))))))))))))))))))))) x4 s h0 h1 h2 h3 J

theorem ys_39 {m s : ps_S} {t : Int32} {d : Nat} {r0 : Nat} {r1 : Nat} {r2 : Nat} {r3 : Nat} {f : ps_S → Prop} (h0 : ps_is r0 2 = true) (h1 : ps_is r1 8 = true) (h2 : ps_is r2 8 = true) (h3 : ps_is r3 5 = true) (J : yJ m t s) (k : ∀ (s' : ps_S), yJ m t s' → f s') : ps_Cl (d + 3) 39 [.ref r0, .ref r1, .ref r2, .ref r3] s (ps_rV f) :=
  pg_39_0 (d := d + 2) (ys_39_3 (d := d) (r0 := r0) (r1 := r1) (r2 := r2) (r3 := r3) (x4 := 0)  h0 h1 h2 h3 J k )

theorem ys_106 {m s : ps_S} {t : Int32} {d : Nat} {r0 : Nat} {f : Int32 → ps_S → Prop} (h0 : ps_is r0 6 = true) (J : yJ m t s) (k : ∀ (v : Int32), v &&& 1 = v → f v s) : ps_Cl d 106 [.ref r0] s (ps_rI f) :=
  pg_106_0 (ps_nk_i h0 (And.intro (fun f1 => (k 1 (by decide))) (fun f1 => (ps_nk_i h0 (And.intro (fun f2 => (k 0 (by decide))) (fun f2 => (k 1 (by decide))))))))

theorem ys_41 {m s : ps_S} {t : Int32} {d : Nat} {r0 : Nat} {r1 : Nat} {f : Int32 → ps_S → Prop} (h0 : ps_is r0 2 = true) (h1 : ps_is r1 8 = true) (J : yJ m t s) (k : ∀ (v : Int32) (s' : ps_S), v &&& 1 = v → yJ m t s' → f v s') : ps_Cl (d + 2) 41 [.ref r0, .ref r1] s (ps_rI f) :=
  pg_41_0 (d := d + 1) (ps_nk_i h1 (ps_nk_i (xk_8_6 h1) (And.intro (fun f1 => (k 1 s (by decide) J)) (fun f1 => (ps_nk_i h1 (And.intro (fun f2 => (ps_nk_i h0 (ps_nk_i h1 (ps_nk_i h0 (ps_nk_i (xk_2_5 h0) (ys_103 (xk_2_5 h0) (xk_8_6 h1) (xj_2_6 (J).1 h0) J (fun s1 J1 => (ps_nk_i h0 (ps_nk_i (xk_2_5 h0) (ys_106 (xk_2_5 h0) J1 (fun v2 b2 => (ps_nd_i (decide_eq_true b2) ((k v2 s1 (of_decide_eq_true (decide_eq_true b2)) J1)))))))))))))) (fun f2 => (k 1 s (by decide) J))))))))

theorem ys_35_73 {m s : ps_S} {t : Int32} {d : Nat} {r0 : Nat} {r3 : Nat} {x5 : Int32} {Q : Option Value → ps_S → Prop} (h0 : ps_is r0 2 = true) (h3 : ps_is r3 8 = true) (J : yJ m t s) (k : ∀ (v : Int32) (s' : ps_S), yJ m t s' → Q (some (.int v)) s') : ps_At (d + 5) 35 73 [(0, .ref r0), (3, .ref r3), (5, .int x5)] [] s Q :=
  xs_up (P := fun x5 => ∀ (s : ps_S), ps_is r0 2 = true → ps_is r3 8 = true → yJ m t s → ps_At (d + 5) 35 73 [(0, .ref r0), (3, .ref r3), (5, .int x5)] [] s Q) (fun x5 ih s h0 h3 J => pg_35_73 (d := d + 4) (ps_nk_i h3 (ys_116  J (fun v1 => (And.intro (fun f1 => (ps_nk_i h0 (ys_41 h0 h3 J (fun v2 s2 b2 J2 => (And.intro (fun f2 => (k 0 s2 J2)) (fun f2 => (k 5 s2 J2))))))) (fun f1 => (ps_nk_i h0 (ys_37 h0 h3 J (fun v3 g3 => (ps_nk_i h3 (ys_124 h3 g3 J (fun s4 J4 => (ps_nk_i h0 (ys_37 h0 h3 J4 (fun v5 g5 => (ps_nk_i h0 (ys_38 h0 J4 (fun v6 g6 => (ps_nk_i h0 (ys_39 h0 h3 g5 g6 J4 (fun s7 J7 => (ih ((x5 + 1)) (xs_lt f1) s7 h0 h3 J7)))))))))))))))))))))) x5 s h0 h3 J

theorem ys_35_21 {m s : ps_S} {t : Int32} {d : Nat} {r0 : Nat} {x1 : Int32} {r2 : Nat} {r3 : Nat} {x4 : Int32} {Q : Option Value → ps_S → Prop} (h0 : ps_is r0 2 = true) (h2 : ps_is r2 7 = true) (h3 : ps_is r3 8 = true) (J : yJ m t s) (k : ∀ (v : Int32) (s' : ps_S), yJ m t s' → Q (some (.int v)) s') : ps_At (d + 5) 35 21 [(0, .ref r0), (1, .int x1), (2, .ref r2), (3, .ref r3), (4, .int x4)] [] s Q :=
  xs_up (P := fun x4 => ∀ (s : ps_S), ps_is r0 2 = true → ps_is r2 7 = true → ps_is r3 8 = true → yJ m t s → ps_At (d + 5) 35 21 [(0, .ref r0), (1, .int x1), (2, .ref r2), (3, .ref r3), (4, .int x4)] [] s Q) (fun x4 ih s h0 h2 h3 J => pg_35_21 (d := d + 4) (ps_nk_i h0 (ps_nk_i (xn_l ((xk_2_2 h0)).1) (And.intro (fun f1 => (ps_nk_i h0 (ys_42 h0 h3 h2 J (fun v1 s1 J1 => (And.intro (fun f2 => (ps_nk_i h3 (ys_35_73 (d := d) (r0 := r0) (r3 := r3) (x5 := 0)  h0 h3 (yw_j (c := 8) (by decide) h3 J1) k ))) (fun f2 => (k v1 s1 J1))))))) (fun f1 => (ps_nk_i h0 (ys_38 h0 J (fun v2 g2 => (ps_nk_i g2 (ys_91 g2 J (fun s3 J3 => (ih ((x4 + 1)) (xs_lt f1) s3 h0 h2 h3 J3)))))))))))) x4 s h0 h2 h3 J

theorem ys_35 {m s : ps_S} {t : Int32} {d : Nat} {r0 : Nat} {x1 : Int32} {r2 : Nat} {f : Int32 → ps_S → Prop} (h0 : ps_is r0 2 = true) (h2 : ps_is r2 7 = true) (J : yJ m t s) (k : ∀ (v : Int32) (s' : ps_S), yJ m t s' → f v s') : ps_Cl (d + 5) 35 [.ref r0, .int x1, .ref r2] s (ps_rI f) :=
  pg_35_0 (d := d + 4) (ps_nk_i h0 (ys_33 h0 J (fun v1 g1 => (ps_nk_i h0 (ys_36 h0 g1 h2 J (fun v2 b2 => (And.intro (fun f1 => (ys_35_21 (d := d) (r0 := r0) (x1 := x1) (r2 := r2) (r3 := v1) (x4 := 0)  h0 h2 g1 J k )) (fun f1 => (k 1 s J)))))))))

theorem ys_34_7 {m s : ps_S} {t : Int32} {d : Nat} {r0 : Nat} {r2 : Nat} {x3 : Int32} {Q : Option Value → ps_S → Prop} (h0 : ps_is r0 2 = true) (h2 : ps_is r2 7 = true) (J : yJ m t s) (k : ∀ (s' : ps_S), yJ m t s' → Q none s') : ps_At (d + 6) 34 7 [(0, .ref r0), (2, .ref r2), (3, .int x3)] [] s Q :=
  xs_up (P := fun x3 => ∀ (s : ps_S), ps_is r0 2 = true → ps_is r2 7 = true → yJ m t s → ps_At (d + 6) 34 7 [(0, .ref r0), (2, .ref r2), (3, .int x3)] [] s Q) (fun x3 ih s h0 h2 J => pg_34_7 (d := d + 5) (ps_nk_i h0 (And.intro (fun f1 => (k s J)) (fun f1 => (ps_nk_i h0 (ys_35 h0 h2 J (fun v1 s1 J1 => (ps_nk_i h0 (ps_nk_i h0 (And.intro (fun f2 => (ps_nk_i h0 (ih ((x3 + 1)) (xs_lt f1) (ps_ui (ps_ui s1 r0 9 v1) r0 8 (x3 + 1)) h0 h2 (yw_i (c := 2) (by decide) h0 (yw_i (c := 2) (by decide) h0 J1))))) (fun f2 => (k (ps_ui s1 r0 9 v1) (yw_i (c := 2) (by decide) h0 J1))))))))))))) x3 s h0 h2 J

theorem ys_34 {m s : ps_S} {t : Int32} {d : Nat} {r0 : Nat} {r1 : Nat} {r2 : Nat} {f : ps_S → Prop} (h0 : ps_is r0 2 = true) (h1 : ps_is r1 9 = true) (h2 : ps_is r2 7 = true) (J : yJ m t s) (k : ∀ (s' : ps_S), yJ m t s' → f s') : ps_Cl (d + 6) 34 [.ref r0, .ref r1, .ref r2] s (ps_rV f) :=
  pg_34_0 (d := d + 5) (ps_nk_i h0 (ys_34_7 (d := d) (r0 := r0) (r2 := r2) (x3 := 0)  h0 h2 (yw_rc (c := 2) (by decide) h0 (xw_2_6 h0 h1 (J).1) J) k ))

theorem ys_126 {m s : ps_S} {t : Int32} {d : Nat} {r0 : Nat} {f : ps_S → Prop} (h0 : ps_is r0 9 = true) (J : yJ m t s) (k : ∀ (s' : ps_S), yJ m t s' → f s') : ps_Cl d 126 [.ref r0] s (ps_rV f) :=
  pg_126_0 (ps_nk_i h0 (ps_nk_i h0 (ps_nk_i h0 (k (ps_ui (ps_ui (ps_ui s r0 6 0) r0 7 0) r0 8 0) (yw_i (c := 9) (by decide) h0 (yw_i (c := 9) (by decide) h0 (yw_i (c := 9) (by decide) h0 J)))))))

theorem ys_143 {m s : ps_S} {t : Int32} {d : Nat} {r0 : Nat} {x1 : Int32} {f : Int32 → ps_S → Prop} (h0 : ps_is r0 10 = true) (J : yJ m t s) (k : ∀ (v : Int32), f v s) : ps_Cl d 143 [.ref r0, .int x1] s (ps_rI f) :=
  pg_143_0 (And.intro (fun f1 => (k (-1))) (fun f1 => (ps_nk_i h0 (And.intro (fun f2 => (k (-1))) (fun f2 => (ps_nk_i h0 (ps_nk_i (xn_l ((xj_10_1 (J).1 h0)).1) (And.intro (fun f3 => (k (-1))) (fun f3 => (ps_nk_i h0 (ps_nk_i (xn_1 ((xj_10_1 (J).1 h0)).1) (ps_nd_i (xg_in f1 f3) (k ((ps_a s (ps_r s r0 1) (Int32.toNatClampNeg x1)) &&& 255))))))))))))))

theorem ys_145 {m s : ps_S} {t : Int32} {d : Nat} {x0 : Int32} {f : Int32 → ps_S → Prop} (J : yJ m t s) (k : ∀ (v : Int32), v &&& 1 = v → f v s) : ps_Cl d 145 [.int x0] s (ps_rI f) :=
  pg_145_0 (And.intro (fun f1 => (k 1 (by decide))) (fun f1 => (And.intro (fun f2 => (k 0 (by decide))) (fun f2 => (k 1 (by decide))))))

theorem ys_146 {m s : ps_S} {t : Int32} {d : Nat} {x0 : Int32} {f : Int32 → ps_S → Prop} (J : yJ m t s) (k : ∀ (v : Int32), v &&& 1 = v → f v s) : ps_Cl d 146 [.int x0] s (ps_rI f) :=
  pg_146_0 (And.intro (fun f1 => (k 0 (by decide))) (fun f1 => (And.intro (fun f2 => (k 0 (by decide))) (fun f2 => (k 1 (by decide))))))

theorem ys_144 {m s : ps_S} {t : Int32} {d : Nat} {l0 : Int64} {x2 : Int32} {f : Int64 → ps_S → Prop} (J : yJ m t s) (k : ∀ (v : Int64), f v s) : ps_Cl d 144 [.long l0, .int x2] s (ps_rJ f) :=
  pg_144_0 (k ((((l0 * (32 : Int64)) + (Int32.toInt64 x2)) - (97 : Int64)) + 1))

theorem ys_141_78 {m s : ps_S} {t : Int32} {d : Nat} {r0 : Nat} {x2 : Int32} {Q : Option Value → ps_S → Prop} (h0 : ps_is r0 10 = true) (e0 : 0 ≤ x2) (J : yJ m t s) (k : ∀ (s' : ps_S), yJ m t s' → Q none s') : ps_At (d + 1) 141 78 [(0, .ref r0), (2, .int x2)] [] s Q :=
  xs_up (P := fun x2 => ∀ (s : ps_S), ps_is r0 10 = true → 0 ≤ x2 → yJ m t s → ps_At (d + 1) 141 78 [(0, .ref r0), (2, .int x2)] [] s Q) (fun x2 ih s h0 e0 J => pg_141_78 (d := d) (ps_nk_i h0 (ps_nk_i (xn_l ((xk_10_0 h0)).1) (And.intro (fun f1 => (k s J)) (fun f1 => (ps_nk_i h0 (And.intro (fun f2 => (k s J)) (fun f2 => (ps_nk_i h0 (ps_nk_i (xn_3 ((xk_10_0 h0)).1) (ps_nd_i (xg_in e0 f1) (ps_nk_i h0 (And.intro (fun f3 => (ih ((x2 + 1)) (xs_lt f1) s h0 (xs_nn e0 f1) J)) (fun f3 => (ps_nk_i h0 (ps_nk_i h0 (ih ((x2 + 1)) (xs_lt f1) (ps_ui (ps_ui s r0 4 3) r0 6 x2) h0 (xs_nn e0 f1) (yw_i (c := 10) (by decide) h0 (yw_i (c := 10) (by decide) h0 J))))))))))))))))))) x2 s h0 e0 J

theorem ys_141_51 {m s : ps_S} {t : Int32} {d : Nat} {r0 : Nat} {x1 : Int32} {Q : Option Value → ps_S → Prop} (h0 : ps_is r0 10 = true) (J : yJ m t s) (k : ∀ (s' : ps_S), yJ m t s' → Q none s') : ps_At (d + 1) 141 51 [(0, .ref r0), (1, .int x1)] [] s Q :=
  pg_141_51 (d := d) (ps_nk_i h0 (ps_nk_i h0 (And.intro (fun f1 => (ps_nk_i h0 (ys_141_78 (d := d) (r0 := r0) (x2 := 0)  h0 (by decide) (yw_i (c := 10) (by decide) h0 (yw_i (c := 10) (by decide) h0 J)) k ))) (fun f1 => (ps_nk_i h0 (ys_141_78 (d := d) (r0 := r0) (x2 := 0)  h0 (by decide) (yw_i (c := 10) (by decide) h0 (yw_i (c := 10) (by decide) h0 J)) k ))))))

theorem ys_141_10 {m s : ps_S} {t : Int32} {d : Nat} {r0 : Nat} {x1 : Int32} {Q : Option Value → ps_S → Prop} (h0 : ps_is r0 10 = true) (J : yJ m t s) (k : ∀ (s' : ps_S), yJ m t s' → Q none s') : ps_At (d + 1) 141 10 [(0, .ref r0), (1, .int x1)] [] s Q :=
  xs_up (P := fun x1 => ∀ (s : ps_S), ps_is r0 10 = true → yJ m t s → ps_At (d + 1) 141 10 [(0, .ref r0), (1, .int x1)] [] s Q) (fun x1 ih s h0 J => pg_141_10 (d := d) (ps_nk_i h0 (And.intro (fun f1 => (ys_141_51 (d := d) (r0 := r0) (x1 := x1)  h0 J k )) (fun f1 => (ps_nk_i h0 (ys_143 h0 J (fun v1 => (ys_146  J (fun v2 b2 => (And.intro (fun f2 => (ys_141_51 (d := d) (r0 := r0) (x1 := x1)  h0 J k )) (fun f2 => (ps_nk_i h0 (ps_nk_i h0 (ys_143 h0 J (fun v3 => (ys_144  J (fun v4 => (ps_nk_i h0 (ih ((x1 + 1)) (xs_lt f1) (ps_uj s r0 8 v4) h0 (yw_j (c := 10) (by decide) h0 J)))))))))))))))))))) x1 s h0 J

theorem ys_141 {m s : ps_S} {t : Int32} {d : Nat} {r0 : Nat} {f : ps_S → Prop} (h0 : ps_is r0 10 = true) (J : yJ m t s) (k : ∀ (s' : ps_S), yJ m t s' → f s') : ps_Cl (d + 1) 141 [.ref r0] s (ps_rV f) :=
  pg_141_0 (d := d) (ps_nk_i h0 (ps_nk_i h0 (ys_141_10 (d := d) (r0 := r0) (x1 := (ps_i s r0 5))  h0 (yw_j (c := 10) (by decide) h0 J) k )))

theorem ys_147 {m s : ps_S} {t : Int32} {d : Nat} {x0 : Int32} {f : Int32 → ps_S → Prop} (J : yJ m t s) (k : ∀ (v : Int32), v &&& 1 = v → f v s) : ps_Cl d 147 [.int x0] s (ps_rI f) :=
  pg_147_0 (And.intro (fun f1 => (k 0 (by decide))) (fun f1 => (And.intro (fun f2 => (k 0 (by decide))) (fun f2 => (k 1 (by decide))))))

theorem ys_142_55 {m s : ps_S} {t : Int32} {d : Nat} {r0 : Nat} {x1 : Int32} {Q : Option Value → ps_S → Prop} (h0 : ps_is r0 10 = true) (J : yJ m t s) (k : ∀ (s' : ps_S), yJ m t s' → Q none s') : ps_At (d + 1) 142 55 [(0, .ref r0), (1, .int x1)] [] s Q :=
  pg_142_55 (d := d) (ps_nk_i h0 (ps_nk_i h0 (And.intro (fun f1 => (ps_nk_i h0 (k (ps_ui (ps_ui s r0 3 x1) r0 4 1) (yw_i (c := 10) (by decide) h0 (yw_i (c := 10) (by decide) h0 J))))) (fun f1 => (ps_nk_i h0 (ys_143 h0 (yw_i (c := 10) (by decide) h0 J) (fun v1 => (ys_146  (yw_i (c := 10) (by decide) h0 J) (fun v2 b2 => (And.intro (fun f2 => (ps_nk_i h0 (k (ps_ui (ps_ui s r0 3 x1) r0 4 4) (yw_i (c := 10) (by decide) h0 (yw_i (c := 10) (by decide) h0 J))))) (fun f2 => (ps_nk_i h0 (k (ps_ui (ps_ui s r0 3 x1) r0 4 1) (yw_i (c := 10) (by decide) h0 (yw_i (c := 10) (by decide) h0 J)))))))))))))))

theorem ys_142_10 {m s : ps_S} {t : Int32} {d : Nat} {r0 : Nat} {x1 : Int32} {Q : Option Value → ps_S → Prop} (h0 : ps_is r0 10 = true) (J : yJ m t s) (k : ∀ (s' : ps_S), yJ m t s' → Q none s') : ps_At (d + 1) 142 10 [(0, .ref r0), (1, .int x1)] [] s Q :=
  xs_up (P := fun x1 => ∀ (s : ps_S), ps_is r0 10 = true → yJ m t s → ps_At (d + 1) 142 10 [(0, .ref r0), (1, .int x1)] [] s Q) (fun x1 ih s h0 J => pg_142_10 (d := d) (ps_nk_i h0 (And.intro (fun f1 => (ys_142_55 (d := d) (r0 := r0) (x1 := x1)  h0 J k )) (fun f1 => (ps_nk_i h0 (ys_143 h0 J (fun v1 => (ys_147  J (fun v2 b2 => (And.intro (fun f2 => (ys_142_55 (d := d) (r0 := r0) (x1 := x1)  h0 J k )) (fun f2 => (ps_nk_i h0 (ps_nk_i h0 (ys_143 h0 J (fun v3 => (ps_nk_i h0 (ih ((x1 + 1)) (xs_lt f1) (ps_ui s r0 7 ((((ps_i s r0 7) * 10) + v3) - 48)) h0 (yw_i (c := 10) (by decide) h0 J)))))))))))))))))) x1 s h0 J

theorem ys_142 {m s : ps_S} {t : Int32} {d : Nat} {r0 : Nat} {f : ps_S → Prop} (h0 : ps_is r0 10 = true) (J : yJ m t s) (k : ∀ (s' : ps_S), yJ m t s' → f s') : ps_Cl (d + 1) 142 [.ref r0] s (ps_rV f) :=
  pg_142_0 (d := d) (ps_nk_i h0 (ps_nk_i h0 (ys_142_10 (d := d) (r0 := r0) (x1 := (ps_i s r0 5))  h0 (yw_i (c := 10) (by decide) h0 J) k )))

theorem ys_140_30 {m s : ps_S} {t : Int32} {d : Nat} {r0 : Nat} {x1 : Int32} {Q : Option Value → ps_S → Prop} (h0 : ps_is r0 10 = true) (J : yJ m t s) (k : ∀ (s' : ps_S), yJ m t s' → Q none s') : ps_At (d + 2) 140 30 [(0, .ref r0), (1, .int x1)] [] s Q :=
  pg_140_30 (d := d + 1) (ps_nk_i h0 (ps_nk_i h0 (ps_nk_i h0 (ys_143 h0 (yw_i (c := 10) (by decide) h0 (yw_i (c := 10) (by decide) h0 J)) (fun v1 => (ps_nk_i h0 (And.intro (fun f1 => (ys_146  (yw_i (c := 10) (by decide) h0 (yw_i (c := 10) (by decide) h0 J)) (fun v2 b2 => (And.intro (fun f2 => (ys_147  (yw_i (c := 10) (by decide) h0 (yw_i (c := 10) (by decide) h0 J)) (fun v3 b3 => (And.intro (fun f3 => (And.intro (fun f4 => (ps_nk_i h0 (ps_nk_i h0 (k (ps_ui (ps_ui (ps_ui (ps_ui s r0 5 x1) r0 6 (-1)) r0 4 1) r0 3 (x1 + 1)) (yw_i (c := 10) (by decide) h0 (yw_i (c := 10) (by decide) h0 (yw_i (c := 10) (by decide) h0 (yw_i (c := 10) (by decide) h0 J)))))))) (fun f4 => (ps_nk_i h0 (ps_nk_i h0 (k (ps_ui (ps_ui (ps_ui (ps_ui s r0 5 x1) r0 6 (-1)) r0 4 5) r0 3 (x1 + 1)) (yw_i (c := 10) (by decide) h0 (yw_i (c := 10) (by decide) h0 (yw_i (c := 10) (by decide) h0 (yw_i (c := 10) (by decide) h0 J)))))))))) (fun f3 => (ps_nk_i h0 (ys_142 h0 (yw_i (c := 10) (by decide) h0 (yw_i (c := 10) (by decide) h0 J)) (fun s4 J4 => (k s4 J4))))))))) (fun f2 => (ps_nk_i h0 (ys_141 h0 (yw_i (c := 10) (by decide) h0 (yw_i (c := 10) (by decide) h0 J)) (fun s5 J5 => (k s5 J5))))))))) (fun f1 => (ps_nk_i h0 (ps_nk_i h0 (k (ps_ui (ps_ui (ps_ui (ps_ui s r0 5 x1) r0 6 (-1)) r0 4 0) r0 3 x1) (yw_i (c := 10) (by decide) h0 (yw_i (c := 10) (by decide) h0 (yw_i (c := 10) (by decide) h0 (yw_i (c := 10) (by decide) h0 J)))))))))))))))

theorem ys_140_5 {m s : ps_S} {t : Int32} {d : Nat} {r0 : Nat} {x1 : Int32} {Q : Option Value → ps_S → Prop} (h0 : ps_is r0 10 = true) (J : yJ m t s) (k : ∀ (s' : ps_S), yJ m t s' → Q none s') : ps_At (d + 2) 140 5 [(0, .ref r0), (1, .int x1)] [] s Q :=
  xs_up (P := fun x1 => ∀ (s : ps_S), ps_is r0 10 = true → yJ m t s → ps_At (d + 2) 140 5 [(0, .ref r0), (1, .int x1)] [] s Q) (fun x1 ih s h0 J => pg_140_5 (d := d + 1) (ps_nk_i h0 (And.intro (fun f1 => (ys_140_30 (d := d) (r0 := r0) (x1 := x1)  h0 J k )) (fun f1 => (ps_nk_i h0 (ys_143 h0 J (fun v1 => (ys_145  J (fun v2 b2 => (And.intro (fun f2 => (ys_140_30 (d := d) (r0 := r0) (x1 := x1)  h0 J k )) (fun f2 => (ih ((x1 + 1)) (xs_lt f1) s h0 J)))))))))))) x1 s h0 J

theorem ys_140 {m s : ps_S} {t : Int32} {d : Nat} {r0 : Nat} {f : ps_S → Prop} (h0 : ps_is r0 10 = true) (J : yJ m t s) (k : ∀ (s' : ps_S), yJ m t s' → f s') : ps_Cl (d + 2) 140 [.ref r0] s (ps_rV f) :=
  pg_140_0 (d := d + 1) (ps_nk_i h0 (ys_140_5 (d := d) (r0 := r0) (x1 := (ps_i s r0 3))  h0 J k ))

theorem ys_139 {m s : ps_S} {t : Int32} {d : Nat} {r0 : Nat} {r1 : Nat} {x2 : Int32} {f : ps_S → Prop} (h0 : ps_is r0 10 = true) (h1 : ps_ar r1 1 = true ∧ r1 < 1131) (J : yJ m t s) (k : ∀ (s' : ps_S), yJ m t s' → f s') : ps_Cl (d + 3) 139 [.ref r0, .ref r1, .int x2] s (ps_rV f) :=
  pg_139_0 (d := d + 2) (ps_nk_i h0 (ps_nk_i h0 (ps_nk_i h0 (ps_nk_i h0 (ys_140 h0 (yw_i (c := 10) (by decide) h0 (yw_i (c := 10) (by decide) h0 (yw_rc (c := 10) (by decide) h0 (xw_10_1 h0 h1 (J).1) J))) (fun s1 J1 => (k s1 J1)))))))

theorem ys_61 {m s : ps_S} {t : Int32} {d : Nat} {r0 : Nat} {r1 : Nat} {x2 : Int32} {r3 : Nat} {f : ps_S → Prop} (h0 : ps_is r0 3 = true) (h1 : ps_ar r1 1 = true ∧ r1 < 1131) (h3 : ps_is r3 9 = true) (J : yJ m t s) (k : ∀ (s' : ps_S), yJ m t s' → f s') : ps_Cl (d + 4) 61 [.ref r0, .ref r1, .int x2, .ref r3] s (ps_rV f) :=
  pg_61_0 (d := d + 3) (ps_nk_i h0 (ps_nk_i h0 (ps_nk_i h0 (ps_nk_i h0 (ps_nk_i h0 (ps_nk_i h0 (ps_nk_i h0 (ps_nk_i (xk_3_0 h0) (ys_139 (xk_3_0 h0) h1 (yw_i (c := 3) (by decide) h0 (yw_i (c := 3) (by decide) h0 (yw_i (c := 3) (by decide) h0 (yw_i (c := 3) (by decide) h0 (yw_i (c := 3) (by decide) h0 (yw_rc (c := 3) (by decide) h0 (xw_3_5 h0 h3 (J).1) J)))))) (fun s1 J1 => (k s1 J1)))))))))))

theorem ys_132 {m s : ps_S} {t : Int32} {d : Nat} {r0 : Nat} {x1 : Int32} {f : Int32 → ps_S → Prop} (h0 : ps_is r0 9 = true) (J : yJ m t s) (k : ∀ (v : Int32), v &&& 1 = v → f v s) : ps_Cl d 132 [.ref r0, .int x1] s (ps_rI f) :=
  pg_132_0 (And.intro (fun f1 => (ps_nk_i h0 (And.intro (fun f2 => (k 0 (by decide))) (fun f2 => (k 1 (by decide)))))) (fun f1 => (And.intro (fun f3 => (ps_nk_i h0 (And.intro (fun f4 => (k 0 (by decide))) (fun f4 => (k 1 (by decide)))))) (fun f3 => (ps_nk_i h0 (And.intro (fun f5 => (k 0 (by decide))) (fun f5 => (k 1 (by decide)))))))))

theorem ys_62 {m s : ps_S} {t : Int32} {d : Nat} {r0 : Nat} {x1 : Int32} {f : Int32 → ps_S → Prop} (h0 : ps_is r0 3 = true) (J : yJ m t s) (k : ∀ (v : Int32) (s' : ps_S), v &&& 1 = v → yJ m t s' → f v s') : ps_Cl d 62 [.ref r0, .int x1] s (ps_rI f) :=
  pg_62_0 (ps_nk_i h0 (ps_nk_i (xk_3_0 h0) (And.intro (fun f1 => (ps_nk_i h0 (ps_nk_i h0 (ps_nk_i (xk_3_0 h0) (ps_nk_i h0 (k 0 (ps_ui (ps_ui s r0 9 x1) r0 10 (ps_i (ps_ui s r0 9 x1) (ps_c0 r0 0) 5)) (by decide) (yw_i (c := 3) (by decide) h0 (yw_i (c := 3) (by decide) h0 J)))))))) (fun f1 => (ps_nk_i h0 (ps_nk_i h0 (ps_nk_i (xk_3_0 h0) (ps_nk_i h0 (k 0 (ps_ui (ps_ui s r0 9 1) r0 10 (ps_i (ps_ui s r0 9 1) (ps_c0 r0 0) 5)) (by decide) (yw_i (c := 3) (by decide) h0 (yw_i (c := 3) (by decide) h0 J)))))))))))

theorem ys_131_3 {m s : ps_S} {t : Int32} {d : Nat} {r0 : Nat} {x1 : Int32} {l2 : Int64} {x4 : Int32} {Q : Option Value → ps_S → Prop} (h0 : ps_ar r0 3 = true ∧ xO r0) (e0 : 0 ≤ x4) (J : yJ m t s) (k : ∀ (v : Int32), Q (some (.int v)) s) : ps_At d 131 3 [(0, .ref r0), (1, .int x1), (2, .long l2), (4, .int x4)] [] s Q :=
  xs_up (P := fun x4 => ps_ar r0 3 = true ∧ xO r0 → 0 ≤ x4 → ps_At d 131 3 [(0, .ref r0), (1, .int x1), (2, .long l2), (4, .int x4)] [] s Q) (fun x4 ih h0 e0 => pg_131_3 (And.intro (fun f1 => (k (-1))) (fun f1 => (ps_nk_i (xn_l (h0).1) (And.intro (fun f2 => (k (-1))) (fun f2 => (ps_nk_i (xn_3 (h0).1) (ps_nd_i (xg_in e0 f2) (And.intro (fun f3 => (ih ((x4 + 1)) (xs_lt f1) h0 (xs_nn e0 f1))) (fun f3 => (k x4))))))))))) x4 h0 e0

theorem ys_131 {m s : ps_S} {t : Int32} {d : Nat} {r0 : Nat} {x1 : Int32} {l2 : Int64} {f : Int32 → ps_S → Prop} (h0 : ps_ar r0 3 = true ∧ xO r0) (J : yJ m t s) (k : ∀ (v : Int32), f v s) : ps_Cl d 131 [.ref r0, .int x1, .long l2] s (ps_rI f) :=
  pg_131_0 (ys_131_3 (d := d) (r0 := r0) (x1 := x1) (l2 := l2) (x4 := 0)  h0 (by decide) J k )

theorem ys_129 {m s : ps_S} {t : Int32} {d : Nat} {r0 : Nat} {l1 : Int64} {f : Int32 → ps_S → Prop} (h0 : ps_is r0 9 = true) (J : yJ m t s) (k : ∀ (v : Int32), f v s) : ps_Cl (d + 1) 129 [.ref r0, .long l1] s (ps_rI f) :=
  pg_129_0 (d := d) (ps_nk_i h0 (ps_nk_i h0 (ys_131 (yk_9_2 h0) J (fun v1 => (k v1)))))

theorem ys_130 {m s : ps_S} {t : Int32} {d : Nat} {r0 : Nat} {l1 : Int64} {f : Int32 → ps_S → Prop} (h0 : ps_is r0 9 = true) (J : yJ m t s) (k : ∀ (v : Int32), v &&& 1 = v → f v s) : ps_Cl (d + 1) 130 [.ref r0, .long l1] s (ps_rI f) :=
  pg_130_0 (d := d) (ps_nk_i h0 (ps_nk_i h0 (ys_131 (yk_9_0 h0) J (fun v1 => (And.intro (fun f1 => (k 1 (by decide))) (fun f1 => (ps_nk_i h0 (ps_nk_i h0 (ys_131 (yk_9_1 h0) J (fun v2 => (And.intro (fun f2 => (k 0 (by decide))) (fun f2 => (k 1 (by decide))))))))))))))

theorem ys_77 {m s : ps_S} {t : Int32} {d : Nat} {r0 : Nat} {f : Int32 → ps_S → Prop} (h0 : ps_is r0 3 = true) (J : yJ m t s) (k : ∀ (v : Int32), v &&& 1 = v → f v s) : ps_Cl (d + 2) 77 [.ref r0] s (ps_rI f) :=
  pg_77_0 (d := d + 1) (ps_nk_i h0 (ps_nk_i (xk_3_0 h0) (And.intro (fun f1 => (k 0 (by decide))) (fun f1 => (ps_nk_i h0 (ps_nk_i h0 (ps_nk_i (xk_3_0 h0) (ps_nk_i (xj_3_5 (J).1 h0) (ys_130 (xj_3_5 (J).1 h0) J (fun v1 b1 => (And.intro (fun f2 => (k 0 (by decide))) (fun f2 => (k 1 (by decide))))))))))))))

theorem ys_73 {m s : ps_S} {t : Int32} {d : Nat} {r0 : Nat} {x1 : Int32} {x2 : Int32} {f : Int32 → ps_S → Prop} (h0 : ps_is r0 3 = true) (J : yJ m t s) (k : ∀ (v : Int32), v &&& 1 = v → (v ≠ 0 → x1 ≤ 12) → f v s) : ps_Cl d 73 [.ref r0, .int x1, .int x2] s (ps_rI f) :=
  pg_73_0 (And.intro (fun f1 => (k 0 (by decide) (fun z => absurd rfl z))) (fun f1 => (ps_nk_i h0 (ps_nk_i (xj_3_6 (J).1 h0) (ps_nk_i h0 (And.intro (fun f2 => (k 0 (by decide) (fun z => absurd rfl z))) (fun f2 => (k 1 (by decide) (fun _ => f1)))))))))
end
section
set_option maxRecDepth 100000
theorem ys_127 {m s : ps_S} {t : Int32} {d : Nat} {r0 : Nat} {l1 : Int64} {f : Int32 → ps_S → Prop} (h0 : ps_is r0 9 = true) (J : yJ m t s) (k : ∀ (v : Int32), f v s) : ps_Cl (d + 1) 127 [.ref r0, .long l1] s (ps_rI f) :=
  pg_127_0 (d := d) (ps_nk_i h0 (ps_nk_i h0 (ys_131 (yk_9_0 h0) J (fun v1 => (k v1)))))

theorem ys_72_30 {m s : ps_S} {t : Int32} {d : Nat} {r0 : Nat} {Q : Option Value → ps_S → Prop} (h0 : ps_is r0 3 = true) (J : yJ m t s) (k : ∀ (v : Int32), Q (some (.int v)) s) : ps_At (d + 2) 72 30 [(0, .ref r0)] [] s Q :=
  pg_72_30 (d := d + 1) (ps_nk_i h0 (ps_nk_i (xk_3_0 h0) (And.intro (fun f1 => (And.intro (fun f2 => (k ((10 : Int32) + (-1)))) (fun f2 => (k (-1))))) (fun f1 => (ps_nk_i h0 (ps_nk_i h0 (ps_nk_i (xk_3_0 h0) (ps_nk_i (xj_3_5 (J).1 h0) (ys_127 (xj_3_5 (J).1 h0) J (fun v1 => (And.intro (fun f3 => (k ((10 : Int32) + v1))) (fun f3 => (k (-1))))))))))))))

theorem ys_72 {m s : ps_S} {t : Int32} {d : Nat} {r0 : Nat} {f : Int32 → ps_S → Prop} (h0 : ps_is r0 3 = true) (J : yJ m t s) (k : ∀ (v : Int32), f v s) : ps_Cl (d + 2) 72 [.ref r0] s (ps_rI f) :=
  pg_72_0 (d := d + 1) (ps_nk_i h0 (ps_nk_i (xk_3_0 h0) (And.intro (fun f1 => (ys_72_30 (d := d) (r0 := r0)  h0 J k )) (fun f1 => (ps_nk_i h0 (ps_nk_i (xk_3_0 h0) (And.intro (fun f2 => (ys_72_30 (d := d) (r0 := r0)  h0 J k )) (fun f2 => (ps_nk_i h0 (ps_nk_i (xk_3_0 h0) (k (ps_i s (ps_c0 r0 0) 6))))))))))))

theorem ys_128 {m s : ps_S} {t : Int32} {d : Nat} {r0 : Nat} {l1 : Int64} {f : Int32 → ps_S → Prop} (h0 : ps_is r0 9 = true) (J : yJ m t s) (k : ∀ (v : Int32), f v s) : ps_Cl (d + 1) 128 [.ref r0, .long l1] s (ps_rI f) :=
  pg_128_0 (d := d) (ps_nk_i h0 (ps_nk_i h0 (ys_131 (yk_9_1 h0) J (fun v1 => (k v1)))))

theorem ys_79_47 {m s : ps_S} {t : Int32} {d : Nat} {r0 : Nat} {Q : Option Value → ps_S → Prop} (h0 : ps_is r0 3 = true) (J : yJ m t s) (k : ∀ (v : Int32) (s' : ps_S), yJ m t s' → Q (some (.int v)) s') : ps_At d 79 47 [(0, .ref r0)] [] s Q :=
  pg_79_47 (ps_nk_i h0 (And.intro (fun f1 => (k (-1) s J)) (fun f1 => (ps_nk_i h0 (ps_nk_i h0 (ps_nk_i (xn_l ((yk_3_1 h0)).1) (And.intro (fun f2 => (ps_nk_i h0 (ps_nk_i h0 (ps_nk_i h0 (ps_nk_i (xk_3_0 h0) (ps_nk_i (xn_3 ((yk_3_1 h0)).1) (ps_nd_i (xg_in f1 f2) (ps_nk_i h0 (ps_nk_i h0 (ps_nk_i h0 (k (((60 : Int32) + (ps_i (ps_ui (ps_ub s (ps_c0 r0 1) (Int32.toNatClampNeg (ps_i s r0 2)) (ps_j s (ps_c0 r0 0) 8)) r0 2 ((ps_i (ps_ub s (ps_c0 r0 1) (Int32.toNatClampNeg (ps_i s r0 2)) (ps_j s (ps_c0 r0 0) 8)) r0 2) + 1)) r0 2)) - 1) (ps_ui (ps_ub s (ps_c0 r0 1) (Int32.toNatClampNeg (ps_i s r0 2)) (ps_j s (ps_c0 r0 0) 8)) r0 2 ((ps_i (ps_ub s (ps_c0 r0 1) (Int32.toNatClampNeg (ps_i s r0 2)) (ps_j s (ps_c0 r0 0) 8)) r0 2) + 1)) (yw_i (c := 3) (by decide) h0 (yw_b ((yk_3_1 h0)) J))))))))))))) (fun f2 => (k (-1) s J)))))))))

theorem ys_79_2 {m s : ps_S} {t : Int32} {d : Nat} {r0 : Nat} {x1 : Int32} {Q : Option Value → ps_S → Prop} (h0 : ps_is r0 3 = true) (e0 : 0 ≤ x1) (J : yJ m t s) (k : ∀ (v : Int32) (s' : ps_S), yJ m t s' → Q (some (.int v)) s') : ps_At d 79 2 [(0, .ref r0), (1, .int x1)] [] s Q :=
  xs_up (P := fun x1 => ∀ (s : ps_S), ps_is r0 3 = true → 0 ≤ x1 → yJ m t s → ps_At d 79 2 [(0, .ref r0), (1, .int x1)] [] s Q) (fun x1 ih s h0 e0 J => pg_79_2 (ps_nk_i h0 (And.intro (fun f1 => (ys_79_47 (d := d) (r0 := r0)  h0 J k )) (fun f1 => (ps_nk_i h0 (ps_nk_i (xn_l ((yk_3_1 h0)).1) (And.intro (fun f2 => (ys_79_47 (d := d) (r0 := r0)  h0 J k )) (fun f2 => (ps_nk_i h0 (ps_nk_i (xn_3 ((yk_3_1 h0)).1) (ps_nd_i (xg_in e0 f2) (ps_nk_i h0 (ps_nk_i (xk_3_0 h0) (And.intro (fun f3 => (ih ((x1 + 1)) (xs_lt f1) s h0 (xs_nn e0 f1) J)) (fun f3 => (k ((60 : Int32) + x1) s J)))))))))))))))) x1 s h0 e0 J

theorem ys_79 {m s : ps_S} {t : Int32} {d : Nat} {r0 : Nat} {f : Int32 → ps_S → Prop} (h0 : ps_is r0 3 = true) (J : yJ m t s) (k : ∀ (v : Int32) (s' : ps_S), yJ m t s' → f v s') : ps_Cl d 79 [.ref r0] s (ps_rI f) :=
  pg_79_0 (ys_79_2 (d := d) (r0 := r0) (x1 := 0)  h0 (by decide) J k )

theorem ys_78_2 {m s : ps_S} {t : Int32} {d : Nat} {r0 : Nat} {x1 : Int32} {Q : Option Value → ps_S → Prop} (h0 : ps_is r0 3 = true) (J : yJ m t s) (k : ∀ (v : Int32) (s' : ps_S), yJ m t s' → Q (some (.int v)) s') : ps_At (d + 1) 78 2 [(0, .ref r0), (1, .int x1)] [] s Q :=
  xs_up (P := fun x1 => ∀ (s : ps_S), ps_is r0 3 = true → yJ m t s → ps_At (d + 1) 78 2 [(0, .ref r0), (1, .int x1)] [] s Q) (fun x1 ih s h0 J => pg_78_2 (d := d) (ps_nk_i h0 (And.intro (fun f1 => (ps_nk_i h0 (And.intro (fun f2 => (ps_nk_i h0 (ys_79 h0 J (fun v1 s1 J1 => (k v1 s1 J1))))) (fun f2 => (k (-1) s J))))) (fun f1 => (ps_nk_i h0 (And.intro (fun f3 => (ih ((x1 + 1)) (xs_lt f1) s h0 J)) (fun f3 => (ps_nk_i h0 (ps_nk_i (xn_l ((yk_3_3 h0)).1) (And.intro (fun f4 => (ih ((x1 + 1)) (xs_lt f1) s h0 J)) (fun f4 => (ps_nk_i h0 (ps_nk_i (xn_3 ((yk_3_3 h0)).1) (ps_nd_i (xg_in f3 f4) (ps_nk_i h0 (ps_nk_i (xk_3_0 h0) (And.intro (fun f5 => (ih ((x1 + 1)) (xs_lt f1) s h0 J)) (fun f5 => (k ((40 : Int32) + x1) s J))))))))))))))))))) x1 s h0 J

theorem ys_78 {m s : ps_S} {t : Int32} {d : Nat} {r0 : Nat} {f : Int32 → ps_S → Prop} (h0 : ps_is r0 3 = true) (J : yJ m t s) (k : ∀ (v : Int32) (s' : ps_S), yJ m t s' → f v s') : ps_Cl (d + 1) 78 [.ref r0] s (ps_rI f) :=
  pg_78_0 (d := d) (ys_78_2 (d := d) (r0 := r0) (x1 := 0)  h0 J k )

theorem yr_71_9 {m s : ps_S} {t : Int32} {d : Nat} {r0 : Nat} {x1 : Int32} {x2 : Int32} {x3 : Int32} {Q : Option Value → ps_S → Prop} (HF : ysF d x2) (HT : ysT d x2) (h0 : ps_is r0 3 = true) (J : yJ m t s) (k : ∀ (v : Int32) (s' : ps_S), v &&& 1 = v → yJ m t s' → Q (some (.int v)) s') : ps_At (d + 9) 71 9 [(0, .ref r0), (1, .int x1), (2, .int x2), (3, .int x3)] [] s Q :=
  xs_dn (P := fun x3 => ∀ (s : ps_S), ps_is r0 3 = true → yJ m t s → ps_At (d + 9) 71 9 [(0, .ref r0), (1, .int x1), (2, .int x2), (3, .int x3)] [] s Q) (fun x3 ih s h0 J => pg_71_9 (d := d + 8) (And.intro (fun f1 => (k 1 s (by decide) J)) (fun f1 => (And.intro (fun f2 => (ps_nk_i h0 (HF _ _ _ _ _ h0 J (fun v1 s1 b1 J1 => (And.intro (fun f3 => (ih ((x3 + (-1))) (xs_gt f1) s1 h0 J1)) (fun f3 => (k 0 s1 (by decide) J1))))))) (fun f2 => (ps_nk_i h0 (HT _ _ _ _ _ h0 J (fun v2 s2 b2 J2 => (And.intro (fun f4 => (k 0 s2 (by decide) J2)) (fun f4 => (ih ((x3 + (-1))) (xs_gt f1) s2 h0 J2))))))))))) x3 s h0 J

theorem yr_71 {m s : ps_S} {t : Int32} {d : Nat} {r0 : Nat} {x1 : Int32} {x2 : Int32} {f : Int32 → ps_S → Prop} (HF : ysF d x2) (HT : ysT d x2) (h0 : ps_is r0 3 = true) (J : yJ m t s) (k : ∀ (v : Int32) (s' : ps_S), v &&& 1 = v → yJ m t s' → f v s') : ps_Cl (d + 9) 71 [.ref r0, .int x1, .int x2] s (ps_rI f) :=
  pg_71_0 (d := d + 8) (ps_nk_i h0 (ps_nk_i (xj_3_5 (J).1 h0) (ys_136 (xj_3_5 (J).1 h0) J (fun v1 => (yr_71_9 (d := d) (r0 := r0) (x1 := x1) (x2 := x2) (x3 := v1) HF HT h0 J k )))))

theorem yr_75_58 {m s : ps_S} {t : Int32} {d : Nat} {r0 : Nat} {x1 : Int32} {Q : Option Value → ps_S → Prop} (HF : ysF d (x1 + 1)) (h0 : ps_is r0 3 = true) (J : yJ m t s) (k : ∀ (v : Int32) (s' : ps_S), v &&& 1 = v → yJ m t s' → Q (some (.int v)) s') : ps_At (d + 9) 75 58 [(0, .ref r0), (1, .int x1)] [] s Q :=
  pg_75_58 (d := d + 8) (ps_nk_i h0 (ps_nk_i (xk_3_0 h0) (ys_140 (xk_3_0 h0) J (fun s1 J1 => (ps_nk_i h0 (HF _ _ _ _ _ h0 J1 (fun v2 s2 b2 J2 => (ps_nk_i h0 (ps_nk_i h0 (ps_nd_i (decide_eq_true b2) ((k v2 (ps_ui s2 r0 4 ((ps_i s2 r0 4) - 1)) (of_decide_eq_true (decide_eq_true b2)) (yw_i (c := 3) (by decide) h0 J2)))))))))))))

theorem yr_75 {m s : ps_S} {t : Int32} {d : Nat} {r0 : Nat} {x1 : Int32} {f : Int32 → ps_S → Prop} (HF : ysF d (x1 + 1)) (h0 : ps_is r0 3 = true) (J : yJ m t s) (k : ∀ (v : Int32) (s' : ps_S), v &&& 1 = v → yJ m t s' → f v s') : ps_Cl (d + 9) 75 [.ref r0, .int x1] s (ps_rI f) :=
  pg_75_0 (d := d + 8) (ps_nk_i h0 (ys_77 h0 J (fun v1 b1 => (And.intro (fun f1 => (ps_nk_i h0 (And.intro (fun f2 => (yr_75_58 (d := d) (r0 := r0) (x1 := x1) HF h0 J k )) (fun f2 => (ps_nk_i h0 (ps_nk_i h0 (ps_nk_i (xn_l ((yk_3_3 h0)).1) (And.intro (fun f3 => (yr_75_58 (d := d) (r0 := r0) (x1 := x1) HF h0 J k )) (fun f3 => (ps_nk_i h0 (ps_nk_i h0 (ps_nk_i h0 (ps_nk_i (xk_3_0 h0) (ps_nk_i (xn_3 ((yk_3_3 h0)).1) (ps_nd_i (xg_in f2 f3) (ps_nk_i h0 (ps_nk_i h0 (yr_75_58 (d := d) (r0 := r0) (x1 := x1) HF h0 (yw_i (c := 3) (by decide) h0 (yw_b ((yk_3_3 h0)) J)) k )))))))))))))))))) (fun f1 => (ps_nk_i h0 (ys_62 h0 J (fun v2 s2 b2 J2 => (ps_nd_i (decide_eq_true b2) ((k v2 s2 (of_decide_eq_true (decide_eq_true b2)) J2)))))))))))

theorem yr_74 {m s : ps_S} {t : Int32} {d : Nat} {r0 : Nat} {x1 : Int32} {f : Int32 → ps_S → Prop} (HF : x1 + 1 ≤ 12 → ysF d (x1 + 1)) (h0 : ps_is r0 3 = true) (J : yJ m t s) (k : ∀ (v : Int32) (s' : ps_S), v &&& 1 = v → yJ m t s' → f v s') : ps_Cl (d + 9) 74 [.ref r0, .int x1] s (ps_rI f) :=
  pg_74_0 (d := d + 8) (ps_nk_i h0 (ys_73 h0 J (fun v1 b1 q1 => (And.intro (fun f1 => (ps_nk_i h0 (ps_nk_i (xj_3_6 (J).1 h0) (ys_93 (xj_3_6 (J).1 h0) J (fun s2 J2 => (ps_nk_i h0 (ps_nk_i (xk_3_0 h0) (ys_140 (xk_3_0 h0) J2 (fun s3 J3 => (ps_nk_i h0 (ps_nk_i h0 (ps_nk_i h0 ((HF (q1 f1)) _ _ _ _ _ h0 (yw_i (c := 3) (by decide) h0 J3) (fun v4 s4 b4 J4 => (And.intro (fun f2 => (ps_nk_i h0 (ps_nk_i h0 (ps_nk_i h0 (ps_nk_i (xj_3_6 ((yw_i (c := 3) (by decide) h0 J4)).1 h0) (ys_93 (xj_3_6 ((yw_i (c := 3) (by decide) h0 J4)).1 h0) (yw_i (c := 3) (by decide) h0 J4) (fun s5 J5 => (k 1 s5 (by decide) J5)))))))) (fun f2 => (k 0 s4 (by decide) J4))))))))))))))))) (fun f1 => (ps_nk_i h0 (ys_62 h0 J (fun v6 s6 b6 J6 => (ps_nd_i (decide_eq_true b6) ((k v6 s6 (of_decide_eq_true (decide_eq_true b6)) J6)))))))))))

theorem yr_70_62 {m s : ps_S} {t : Int32} {d : Nat} {r0 : Nat} {Q : Option Value → ps_S → Prop} (h0 : ps_is r0 3 = true) (J : yJ m t s) (k : ∀ (v : Int32) (s' : ps_S), v &&& 1 = v → yJ m t s' → Q (some (.int v)) s') : ps_At (d + 10) 70 62 [(0, .ref r0)] [] s Q :=
  pg_70_62 (d := d + 9) (ps_nk_i h0 (ys_62 h0 J (fun v1 s1 b1 J1 => (ps_nd_i (decide_eq_true b1) ((k v1 s1 (of_decide_eq_true (decide_eq_true b1)) J1))))))

theorem yr_70_42 {m s : ps_S} {t : Int32} {d : Nat} {r0 : Nat} {x1 : Int32} {x2 : Int32} {Q : Option Value → ps_S → Prop} (H : x1 ≤ 12 → ysF d (x1 + 1) ∧ ysT d (x1 + 1)) (H2 : x1 + 1 ≤ 12 → ysF d (x1 + 1)) (h0 : ps_is r0 3 = true) (J : yJ m t s) (k : ∀ (v : Int32) (s' : ps_S), v &&& 1 = v → yJ m t s' → Q (some (.int v)) s') : ps_At (d + 10) 70 42 [(0, .ref r0), (1, .int x1), (2, .int x2)] [] s Q :=
  pg_70_42 (d := d + 9) (And.intro (fun f1 => (yr_70_62 (d := d) (r0 := r0)  h0 J k )) (fun f1 => (And.intro (fun f2 => (yr_70_62 (d := d) (r0 := r0)  h0 J k )) (fun f2 => (ps_nk_i h0 (ys_73 h0 J (fun v1 b1 q1 => (And.intro (fun f3 => (ps_nk_i h0 (ps_nk_i (xj_3_6 (J).1 h0) (ys_93 (xj_3_6 (J).1 h0) J (fun s2 J2 => (ps_nk_i h0 (ps_nk_i (xk_3_0 h0) (ys_140 (xk_3_0 h0) J2 (fun s3 J3 => (ys_184  J3 (fun v4 b4 => (And.intro (fun f4 => (ps_nk_i h0 (yr_71 (H (q1 f3)).1 (H (q1 f3)).2 h0 J3 (fun v5 s5 b5 J5 => (ps_nd_i (decide_eq_true b5) ((k v5 s5 (of_decide_eq_true (decide_eq_true b5)) J5))))))) (fun f4 => (ps_nk_i h0 (yr_75 (H (q1 f3)).1 h0 J3 (fun v6 s6 b6 J6 => (ps_nd_i (decide_eq_true b6) ((k v6 s6 (of_decide_eq_true (decide_eq_true b6)) J6))))))))))))))))))) (fun f3 => (yr_70_62 (d := d) (r0 := r0)  h0 J k ))))))))))

theorem yr_70 {m s : ps_S} {t : Int32} {d : Nat} {r0 : Nat} {x1 : Int32} {f : Int32 → ps_S → Prop} (H : x1 ≤ 12 → ysF d (x1 + 1) ∧ ysT d (x1 + 1)) (H2 : x1 + 1 ≤ 12 → ysF d (x1 + 1)) (h0 : ps_is r0 3 = true) (J : yJ m t s) (k : ∀ (v : Int32) (s' : ps_S), v &&& 1 = v → yJ m t s' → f v s') : ps_Cl (d + 10) 70 [.ref r0, .int x1] s (ps_rI f) :=
  pg_70_0 (d := d + 9) (ps_nk_i h0 (ps_nk_i (xk_3_0 h0) (And.intro (fun f1 => (ps_nk_i h0 (ys_72 h0 J (fun v1 => (ys_184  J (fun v2 b2 => (And.intro (fun f2 => (yr_70_42 (d := d) (r0 := r0) (x1 := x1) (x2 := v1) H H2 h0 J k )) (fun f2 => (ps_nk_i h0 (And.intro (fun f3 => (yr_70_42 (d := d) (r0 := r0) (x1 := x1) (x2 := v1) H H2 h0 J k )) (fun f3 => (And.intro (fun f4 => (yr_70_62 (d := d) (r0 := r0)  h0 J k )) (fun f4 => (And.intro (fun f5 => (yr_70_62 (d := d) (r0 := r0)  h0 J k )) (fun f5 => (ps_nk_i h0 (ys_73 h0 J (fun v3 b3 q3 => (And.intro (fun f6 => (ps_nk_i h0 (ps_nk_i (xj_3_6 (J).1 h0) (ys_93 (xj_3_6 (J).1 h0) J (fun s4 J4 => (ps_nk_i h0 (ps_nk_i (xk_3_0 h0) (ys_140 (xk_3_0 h0) J4 (fun s5 J5 => (ys_184  J5 (fun v6 b6 => (And.intro (fun f7 => (ps_nk_i h0 (yr_71 (H (q3 f6)).1 (H (q3 f6)).2 h0 J5 (fun v7 s7 b7 J7 => (ps_nd_i (decide_eq_true b7) ((k v7 s7 (of_decide_eq_true (decide_eq_true b7)) J7))))))) (fun f7 => (ps_nk_i h0 (yr_75 (H (q3 f6)).1 h0 J5 (fun v8 s8 b8 J8 => (ps_nd_i (decide_eq_true b8) ((k v8 s8 (of_decide_eq_true (decide_eq_true b8)) J8))))))))))))))))))) (fun f6 => (yr_70_62 (d := d) (r0 := r0)  h0 J k ))))))))))))))))))))) (fun f1 => (ps_nk_i h0 (yr_74 H2 h0 J (fun v9 s9 b9 J9 => (ps_nd_i (decide_eq_true b9) ((k v9 s9 (of_decide_eq_true (decide_eq_true b9)) J9))))))))))

theorem yr_76_20 {m s : ps_S} {t : Int32} {d : Nat} {r0 : Nat} {Q : Option Value → ps_S → Prop} (h0 : ps_is r0 3 = true) (J : yJ m t s) (k : ∀ (v : Int32) (s' : ps_S), v &&& 1 = v → yJ m t s' → Q (some (.int v)) s') : ps_At (d + 10) 76 20 [(0, .ref r0)] [] s Q :=
  pg_76_20 (d := d + 9) (ps_nk_i h0 (ys_62 h0 J (fun v1 s1 b1 J1 => (ps_nd_i (decide_eq_true b1) ((k v1 s1 (of_decide_eq_true (decide_eq_true b1)) J1))))))

theorem yr_76_59 {m s : ps_S} {t : Int32} {d : Nat} {r0 : Nat} {x1 : Int32} {x2 : Int32} {Q : Option Value → ps_S → Prop} (H : x1 ≤ 12 → ysF d (x1 + 1) ∧ ysT d (x1 + 1)) (h0 : ps_is r0 3 = true) (e0 : x1 ≤ 12) (J : yJ m t s) (k : ∀ (v : Int32) (s' : ps_S), v &&& 1 = v → yJ m t s' → Q (some (.int v)) s') : ps_At (d + 10) 76 59 [(0, .ref r0), (1, .int x1), (2, .int x2)] [] s Q :=
  pg_76_59 (d := d + 9) (And.intro (fun f1 => (And.intro (fun f2 => (ps_nk_i h0 (ps_nk_i (xj_3_6 (J).1 h0) (ys_93 (xj_3_6 (J).1 h0) J (fun s1 J1 => (ps_nk_i h0 (ps_nk_i (xk_3_0 h0) (ys_140 (xk_3_0 h0) J1 (fun s2 J2 => (ps_nk_i h0 (yr_71 (H e0).1 (H e0).2 h0 J2 (fun v3 s3 b3 J3 => (ps_nd_i (decide_eq_true b3) ((k v3 s3 (of_decide_eq_true (decide_eq_true b3)) J3))))))))))))))) (fun f2 => (ps_nk_i h0 (And.intro (fun f3 => (ps_nk_i h0 (ys_62 h0 J (fun v4 s4 b4 J4 => (ps_nd_i (decide_eq_true b4) ((k v4 s4 (of_decide_eq_true (decide_eq_true b4)) J4))))))) (fun f3 => (ps_nk_i h0 (ys_62 h0 J (fun v5 s5 b5 J5 => (ps_nd_i (decide_eq_true b5) ((k v5 s5 (of_decide_eq_true (decide_eq_true b5)) J5)))))))))))) (fun f1 => (ps_nk_i h0 (ys_78 h0 J (fun v6 s6 J6 => (And.intro (fun f4 => (ps_nk_i h0 (ps_nk_i (xj_3_6 (J6).1 h0) (ys_93 (xj_3_6 (J6).1 h0) J6 (fun s7 J7 => (ps_nk_i h0 (ps_nk_i (xk_3_0 h0) (ys_140 (xk_3_0 h0) J7 (fun s8 J8 => (ps_nk_i h0 (yr_71 (H e0).1 (H e0).2 h0 J8 (fun v9 s9 b9 J9 => (ps_nd_i (decide_eq_true b9) ((k v9 s9 (of_decide_eq_true (decide_eq_true b9)) J9))))))))))))))) (fun f4 => (ps_nk_i h0 (And.intro (fun f5 => (ps_nk_i h0 (ys_62 h0 J6 (fun v10 s10 b10 J10 => (ps_nd_i (decide_eq_true b10) ((k v10 s10 (of_decide_eq_true (decide_eq_true b10)) J10))))))) (fun f5 => (ps_nk_i h0 (ys_62 h0 J6 (fun v11 s11 b11 J11 => (ps_nd_i (decide_eq_true b11) ((k v11 s11 (of_decide_eq_true (decide_eq_true b11)) J11))))))))))))))))

theorem yr_76 {m s : ps_S} {t : Int32} {d : Nat} {r0 : Nat} {x1 : Int32} {f : Int32 → ps_S → Prop} (H : x1 ≤ 12 → ysF d (x1 + 1) ∧ ysT d (x1 + 1)) (h0 : ps_is r0 3 = true) (J : yJ m t s) (k : ∀ (v : Int32) (s' : ps_S), v &&& 1 = v → yJ m t s' → f v s') : ps_Cl (d + 10) 76 [.ref r0, .int x1] s (ps_rI f) :=
  pg_76_0 (d := d + 9) (ps_nk_i h0 (ps_nk_i (xk_3_0 h0) (And.intro (fun f1 => (yr_76_20 (d := d) (r0 := r0)  h0 J k )) (fun f1 => (ps_nk_i h0 (ys_73 h0 J (fun v1 b1 q1 => (And.intro (fun f2 => (ps_nk_i h0 (ps_nk_i h0 (ps_nk_i (xk_3_0 h0) (ps_nk_i (xj_3_5 (J).1 h0) (ys_128 (xj_3_5 (J).1 h0) J (fun v2 => (And.intro (fun f3 => (yr_76_59 (d := d) (r0 := r0) (x1 := x1) (x2 := v2) H h0 (q1 f2) J k )) (fun f3 => (ps_nk_i h0 (ys_77 h0 J (fun v3 b3 => (And.intro (fun f4 => (yr_76_59 (d := d) (r0 := r0) (x1 := x1) (x2 := v2) H h0 (q1 f2) J k )) (fun f4 => (ps_nk_i h0 (ys_62 h0 J (fun v4 s4 b4 J4 => (ps_nd_i (decide_eq_true b4) ((k v4 s4 (of_decide_eq_true (decide_eq_true b4)) J4)))))))))))))))))))) (fun f2 => (yr_76_20 (d := d) (r0 := r0)  h0 J k ))))))))))

theorem yr_A : ∀ (k : Nat) (x : Int32) (d : Nat), 0 ≤ x.toInt → x.toInt ≤ 13 → 13 - x.toInt ≤ k → 2 * k + 2 ≤ d → ysF d x ∧ ysT d x := by
  intro k
  induction k with
  | zero =>
    intro x d h0 h1 h2 h3
    obtain ⟨e, rfl⟩ : ∃ e, d = e + 2 := ⟨d - 2, by omega⟩
    have e1 : (12 : Int32).toInt = 12 := by decide
    have hx : ¬ x ≤ 12 := by rw [Int32.le_iff_toInt_le, e1]; omega
    have hx2 : ¬ x + 1 ≤ 12 := by
      rw [Int32.le_iff_toInt_le, e1, xI_add (by rw [xone]; omega) (by rw [xone]; omega), xone]; omega
    exact ⟨fun m s t r0 f h J k => yr_70 (d := e) (fun q => absurd q hx) (fun q => absurd q hx2) h J k, fun m s t r0 f h J k => yr_76 (d := e) (fun q => absurd q hx) h J k⟩
  | succ k ih =>
    intro x d h0 h1 h2 h3
    obtain ⟨e, rfl⟩ : ∃ e, d = e + 2 := ⟨d - 2, by omega⟩
    have e1 : (12 : Int32).toInt = 12 := by decide
    have ex : (x + 1).toInt = x.toInt + 1 := by rw [xI_add (by rw [xone]; omega) (by rw [xone]; omega), xone]
    have st : x.toInt ≤ 12 → ysF e (x + 1) ∧ ysT e (x + 1) := fun q => ih (x + 1) e (by omega) (by omega) (by omega) (by omega)
    have s1 : x ≤ 12 → ysF e (x + 1) ∧ ysT e (x + 1) := fun q => st (by rw [Int32.le_iff_toInt_le, e1] at q; exact q)
    have s2 : x + 1 ≤ 12 → ysF e (x + 1) := fun q => (st (by rw [Int32.le_iff_toInt_le, e1, ex] at q; omega)).1
    exact ⟨fun m s t r0 f h J k => yr_70 (d := e) s1 s2 h J k, fun m s t r0 f h J k => yr_76 (d := e) s1 h J k⟩
theorem ys_70 {m s : ps_S} {t : Int32} {d r0 : Nat} {f : Int32 → ps_S → Prop} (h0 : ps_is r0 3 = true) (J : yJ m t s) (k : ∀ (v : Int32) (s' : ps_S), v &&& 1 = v → yJ m t s' → f v s') : ps_Cl (d + 36) 70 [.ref r0, .int 0] s (ps_rI f) :=
  (yr_A 13 0 (d + 28) (by decide) (by decide) (by decide) (by omega)).1 m s t r0 f h0 J k
theorem ys_76 {m s : ps_S} {t : Int32} {d r0 : Nat} {f : Int32 → ps_S → Prop} (h0 : ps_is r0 3 = true) (J : yJ m t s) (k : ∀ (v : Int32) (s' : ps_S), v &&& 1 = v → yJ m t s' → f v s') : ps_Cl (d + 36) 76 [.ref r0, .int 0] s (ps_rI f) :=
  (yr_A 13 0 (d + 28) (by decide) (by decide) (by decide) (by omega)).2 m s t r0 f h0 J k

theorem ys_69 {m s : ps_S} {t : Int32} {d : Nat} {r0 : Nat} {r1 : Nat} {x2 : Int32} {f : Int32 → ps_S → Prop} (h0 : ps_is r0 3 = true) (h1 : ps_is r1 5 = true) (J : yJ m t s) (k : ∀ (v : Int32) (s' : ps_S), v &&& 1 = v → yJ m t s' → f v s') : ps_Cl (d + 37) 69 [.ref r0, .ref r1, .int x2] s (ps_rI f) :=
  pg_69_0 (d := d + 36) (ps_nk_i h0 (ps_nk_i h0 (ps_nk_i (xj_3_6 ((yw_rc (c := 3) (by decide) h0 (xw_3_6 h0 h1 (J).1) J)).1 h0) (ys_91 (xj_3_6 ((yw_rc (c := 3) (by decide) h0 (xw_3_6 h0 h1 (J).1) J)).1 h0) (yw_rc (c := 3) (by decide) h0 (xw_3_6 h0 h1 (J).1) J) (fun s1 J1 => (ps_nk_i h0 (And.intro (fun f1 => (ps_nk_i h0 (ys_70 h0 (yw_i (c := 3) (by decide) h0 J1) (fun v2 s2 b2 J2 => (ps_nd_i (decide_eq_true b2) ((k v2 s2 (of_decide_eq_true (decide_eq_true b2)) J2))))))) (fun f1 => (ps_nk_i h0 (ys_76 h0 (yw_i (c := 3) (by decide) h0 J1) (fun v3 s3 b3 J3 => (ps_nd_i (decide_eq_true b3) ((k v3 s3 (of_decide_eq_true (decide_eq_true b3)) J3))))))))))))))

theorem ys_65 {m s : ps_S} {t : Int32} {d : Nat} {r0 : Nat} {f : Int32 → ps_S → Prop} (h0 : ps_is r0 3 = true) (J : yJ m t s) (k : ∀ (v : Int32) (s' : ps_S), v &&& 1 = v → yJ m t s' → f v s') : ps_Cl (d + 3) 65 [.ref r0] s (ps_rI f) :=
  pg_65_0 (d := d + 2) (ps_nk_i h0 (ps_nk_i (xk_3_0 h0) (And.intro (fun f1 => (ps_nk_i h0 (ps_nk_i (xk_3_0 h0) (ys_140 (xk_3_0 h0) J (fun s1 J1 => (k 1 s1 (by decide) J1)))))) (fun f1 => (ps_nk_i h0 (ys_62 h0 J (fun v2 s2 b2 J2 => (ps_nd_i (decide_eq_true b2) ((k v2 s2 (of_decide_eq_true (decide_eq_true b2)) J2))))))))))

theorem ys_134 {m s : ps_S} {t : Int32} {d : Nat} {r0 : Nat} {l1 : Int64} {f : ps_S → Prop} (h0 : ps_is r0 9 = true) (J : yJ m t s) (k : ∀ (s' : ps_S), yJ m t s' → f s') : ps_Cl d 134 [.ref r0, .long l1] s (ps_rV f) :=
  pg_134_0 (ps_nk_i h0 (And.intro (fun f1 => (k s J)) (fun f1 => (ps_nk_i h0 (ps_nk_i h0 (ps_nk_i (xn_l ((yk_9_2 h0)).1) (And.intro (fun f2 => (k s J)) (fun f2 => (ps_nk_i h0 (ps_nk_i h0 (ps_nk_i (xn_3 ((yk_9_2 h0)).1) (ps_nd_i (xg_in f1 f2) (ps_nk_i h0 (ps_nk_i h0 (k (ps_ui (ps_ub s (ps_c0 r0 2) (Int32.toNatClampNeg (ps_i s r0 8)) l1) r0 8 ((ps_i (ps_ub s (ps_c0 r0 2) (Int32.toNatClampNeg (ps_i s r0 8)) l1) r0 8) + 1)) (yw_i (c := 9) (by decide) h0 (yw_b ((yk_9_2 h0)) J)))))))))))))))))

theorem ys_64 {m s : ps_S} {t : Int32} {d : Nat} {r0 : Nat} {f : Int32 → ps_S → Prop} (h0 : ps_is r0 3 = true) (J : yJ m t s) (k : ∀ (v : Int32) (s' : ps_S), v &&& 1 = v → yJ m t s' → f v s') : ps_Cl (d + 38) 64 [.ref r0] s (ps_rI f) :=
  pg_64_0 (d := d + 37) (ps_nk_i h0 (ps_nk_i (xk_3_0 h0) (And.intro (fun f1 => (ps_nk_i h0 (ps_nk_i (xk_3_0 h0) (ps_nk_i h0 (ps_nk_i (xj_3_5 (J).1 h0) (ys_129 (xj_3_5 (J).1 h0) J (fun v1 => (And.intro (fun f2 => (ps_nk_i h0 (ps_nk_i (xk_3_0 h0) (ys_140 (xk_3_0 h0) J (fun s2 J2 => (ps_nk_i h0 (ps_nk_i h0 (ps_nk_i h0 (ps_nk_i (xj_3_5 ((yw_i (c := 3) (by decide) h0 J2)).1 h0) (ps_nk_i (xj_3_5 ((yw_i (c := 3) (by decide) h0 J2)).1 h0) (ys_135 (xj_3_5 ((yw_i (c := 3) (by decide) h0 J2)).1 h0) (yw_i (c := 3) (by decide) h0 J2) (fun v3 g3 => (ps_nk_i h0 (ys_69 h0 g3 (yw_i (c := 3) (by decide) h0 J2) (fun v4 s4 b4 J4 => (And.intro (fun f3 => (k 0 s4 (by decide) J4)) (fun f3 => (ps_nk_i h0 (ys_65 h0 J4 (fun v5 s5 b5 J5 => (And.intro (fun f4 => (ps_nk_i h0 (ps_nk_i (xj_3_5 (J5).1 h0) (ys_134 (xj_3_5 (J5).1 h0) J5 (fun s6 J6 => (k 1 s6 (by decide) J6)))))) (fun f4 => (k 0 s5 (by decide) J5))))))))))))))))))))))) (fun f2 => (ps_nk_i h0 (ys_62 h0 J (fun v7 s7 b7 J7 => (ps_nd_i (decide_eq_true b7) ((k v7 s7 (of_decide_eq_true (decide_eq_true b7)) J7))))))))))))))) (fun f1 => (ps_nk_i h0 (ys_62 h0 J (fun v8 s8 b8 J8 => (ps_nd_i (decide_eq_true b8) ((k v8 s8 (of_decide_eq_true (decide_eq_true b8)) J8))))))))))

theorem ys_133_61 {m s : ps_S} {t : Int32} {d : Nat} {r0 : Nat} {x1 : Int32} {l2 : Int64} {x4 : Int32} {Q : Option Value → ps_S → Prop} (h0 : ps_is r0 9 = true) (J : yJ m t s) (k : ∀ (s' : ps_S), yJ m t s' → Q none s') : ps_At (d + 1) 133 61 [(0, .ref r0), (1, .int x1), (2, .long l2), (4, .int x4)] [] s Q :=
  pg_133_61 (d := d) (And.intro (fun f1 => (k s J)) (fun f1 => (ps_nk_i h0 (And.intro (fun f2 => (k s J)) (fun f2 => (ps_nk_i h0 (ps_nk_i h0 (ps_nk_i (xn_l ((yk_9_1 h0)).1) (And.intro (fun f3 => (k s J)) (fun f3 => (ps_nk_i h0 (ps_nk_i h0 (ys_183t h0 (yt_ix h0 (Or.inr ⟨rfl, rfl⟩) f2 f3) J (fun s1 J1 e1 => (ps_nk_i h0 (ps_nk_i h0 (ps_nk_i (xn_3 ((yk_9_1 h0)).1) (ps_nd_i (xg_in (by rw [e1]; exact f2) (by rw [e1]; exact f3)) (ps_nk_i h0 (ps_nk_i h0 (k (ps_ui (ps_ub s1 (ps_c0 r0 1) (Int32.toNatClampNeg (ps_i s1 r0 7)) l2) r0 7 ((ps_i (ps_ub s1 (ps_c0 r0 1) (Int32.toNatClampNeg (ps_i s1 r0 7)) l2) r0 7) + 1)) (yw_i (c := 9) (by decide) h0 (yw_b ((yk_9_1 h0)) J1)))))))))))))))))))))))

theorem ys_133 {m s : ps_S} {t : Int32} {d : Nat} {r0 : Nat} {x1 : Int32} {l2 : Int64} {x4 : Int32} {f : ps_S → Prop} (h0 : ps_is r0 9 = true) (J : yJ m t s) (k : ∀ (s' : ps_S), yJ m t s' → f s') : ps_Cl (d + 1) 133 [.ref r0, .int x1, .long l2, .int x4] s (ps_rV f) :=
  pg_133_0 (d := d) (And.intro (fun f1 => (ys_133_61 (d := d) (r0 := r0) (x1 := x1) (l2 := l2) (x4 := x4)  h0 J k )) (fun f1 => (ps_nk_i h0 (And.intro (fun f2 => (ys_133_61 (d := d) (r0 := r0) (x1 := x1) (l2 := l2) (x4 := x4)  h0 J k )) (fun f2 => (ps_nk_i h0 (ps_nk_i h0 (ps_nk_i (xn_l ((yk_9_0 h0)).1) (And.intro (fun f3 => (ys_133_61 (d := d) (r0 := r0) (x1 := x1) (l2 := l2) (x4 := x4)  h0 J k )) (fun f3 => (ps_nk_i h0 (ps_nk_i h0 (ys_183t h0 (yt_ix h0 (Or.inl ⟨rfl, rfl⟩) f2 f3) J (fun s1 J1 e1 => (ps_nk_i h0 (ps_nk_i h0 (ps_nk_i (xn_3 ((yk_9_0 h0)).1) (ps_nd_i (xg_in (by rw [e1]; exact f2) (by rw [e1]; exact f3)) (ps_nk_i h0 (ps_nk_i h0 (ys_133_61 (d := d) (r0 := r0) (x1 := x1) (l2 := l2) (x4 := x4)  h0 (yw_i (c := 9) (by decide) h0 (yw_b ((yk_9_0 h0)) J1)) k )))))))))))))))))))))

theorem ys_63 {m s : ps_S} {t : Int32} {d : Nat} {r0 : Nat} {x1 : Int32} {f : Int32 → ps_S → Prop} (h0 : ps_is r0 3 = true) (J : yJ m t s) (k : ∀ (v : Int32) (s' : ps_S), v &&& 1 = v → yJ m t s' → f v s') : ps_Cl (d + 4) 63 [.ref r0, .int x1] s (ps_rI f) :=
  pg_63_0 (d := d + 3) (ps_nk_i h0 (ps_nk_i (xk_3_0 h0) (And.intro (fun f1 => (ps_nk_i h0 (ps_nk_i (xk_3_0 h0) (ps_nk_i h0 (ps_nk_i (xj_3_5 (J).1 h0) (ys_130 (xj_3_5 (J).1 h0) J (fun v1 b1 => (And.intro (fun f2 => (ps_nk_i h0 (ps_nk_i (xk_3_0 h0) (ys_140 (xk_3_0 h0) J (fun s2 J2 => (ps_nk_i h0 (ps_nk_i (xk_3_0 h0) (And.intro (fun f3 => (ps_nk_i h0 (ps_nk_i (xk_3_0 h0) (And.intro (fun f4 => (ps_nk_i h0 (ps_nk_i (xk_3_0 h0) (ys_140 (xk_3_0 h0) J2 (fun s3 J3 => (ps_nk_i h0 (ys_65 h0 J3 (fun v4 s4 b4 J4 => (And.intro (fun f5 => (ps_nk_i h0 (ps_nk_i (xj_3_5 (J4).1 h0) (ys_133 (xj_3_5 (J4).1 h0) J4 (fun s5 J5 => (k 1 s5 (by decide) J5)))))) (fun f5 => (k 0 s4 (by decide) J4))))))))))) (fun f4 => (ps_nk_i h0 (ys_62 h0 J2 (fun v6 s6 b6 J6 => (ps_nd_i (decide_eq_true b6) ((k v6 s6 (of_decide_eq_true (decide_eq_true b6)) J6))))))))))) (fun f3 => (ps_nk_i h0 (ys_62 h0 J2 (fun v7 s7 b7 J7 => (ps_nd_i (decide_eq_true b7) ((k v7 s7 (of_decide_eq_true (decide_eq_true b7)) J7))))))))))))))) (fun f2 => (ps_nk_i h0 (ys_62 h0 J (fun v8 s8 b8 J8 => (ps_nd_i (decide_eq_true b8) ((k v8 s8 (of_decide_eq_true (decide_eq_true b8)) J8))))))))))))))) (fun f1 => (ps_nk_i h0 (ys_62 h0 J (fun v9 s9 b9 J9 => (ps_nd_i (decide_eq_true b9) ((k v9 s9 (of_decide_eq_true (decide_eq_true b9)) J9))))))))))

theorem ys_58_77 {m s : ps_S} {t : Int32} {d : Nat} {r0 : Nat} {Q : Option Value → ps_S → Prop} (h0 : ps_is r0 3 = true) (J : yJ m t s) (k : ∀ (v : Int32) (s' : ps_S), v &&& 1 = v → yJ m t s' → Q (some (.int v)) s') : ps_At (d + 39) 58 77 [(0, .ref r0)] [] s Q :=
  pg_58_77 (d := d + 38) (ps_nk_i h0 (ys_62 h0 J (fun v1 s1 b1 J1 => (ps_nd_i (decide_eq_true b1) ((k v1 s1 (of_decide_eq_true (decide_eq_true b1)) J1))))))

theorem ys_58_65 {m s : ps_S} {t : Int32} {d : Nat} {r0 : Nat} {x4 : Int32} {x5 : Int32} {x6 : Int32} {Q : Option Value → ps_S → Prop} (h0 : ps_is r0 3 = true) (J : yJ m t s) (k : ∀ (v : Int32) (s' : ps_S), v &&& 1 = v → yJ m t s' → Q (some (.int v)) s') (K18 : ∀ (s : ps_S), ps_is r0 3 = true → yJ m t s → ps_At (d + 39) 58 18 [(0, .ref r0), (4, .int x4), (5, .int (x5 + 1))] [] s Q) : ps_At (d + 39) 58 65 [(0, .ref r0), (4, .int x4), (5, .int x5), (6, .int x6)] [] s Q :=
  pg_58_65 (d := d + 38) (ps_nk_i h0 (ps_nk_i (xj_3_5 (J).1 h0) (ys_132 (xj_3_5 (J).1 h0) J (fun v1 b1 => (And.intro (fun f1 => (ps_nk_i h0 (ps_nk_i (xk_3_0 h0) (ys_140 (xk_3_0 h0) J (fun s2 J2 => (And.intro (fun f2 => (ps_nk_i h0 (ys_63 h0 J2 (fun v3 s3 b3 J3 => (And.intro (fun f3 => (K18 s3 h0 J3)) (fun f3 => (k 0 s3 (by decide) J3))))))) (fun f2 => (ps_nk_i h0 (ys_64 h0 J2 (fun v4 s4 b4 J4 => (And.intro (fun f4 => (k 0 s4 (by decide) J4)) (fun f4 => (K18 s4 h0 J4))))))))))))) (fun f1 => (ys_58_77 (d := d) (r0 := r0)  h0 J k )))))))

theorem ys_58_18 {m s : ps_S} {t : Int32} {d : Nat} {r0 : Nat} {x4 : Int32} {x5 : Int32} {Q : Option Value → ps_S → Prop} (h0 : ps_is r0 3 = true) (J : yJ m t s) (k : ∀ (v : Int32) (s' : ps_S), v &&& 1 = v → yJ m t s' → Q (some (.int v)) s') : ps_At (d + 39) 58 18 [(0, .ref r0), (4, .int x4), (5, .int x5)] [] s Q :=
  xs_up (P := fun x5 => ∀ (s : ps_S), ps_is r0 3 = true → yJ m t s → ps_At (d + 39) 58 18 [(0, .ref r0), (4, .int x4), (5, .int x5)] [] s Q) (fun x5 ih s h0 J => pg_58_18 (d := d + 38) (And.intro (fun f1 => (k 1 s (by decide) J)) (fun f1 => (ps_nk_i h0 (ps_nk_i (xk_3_0 h0) (And.intro (fun f2 => (k 1 s (by decide) J)) (fun f2 => (ps_nk_i h0 (ps_nk_i (xk_3_0 h0) (And.intro (fun f3 => (ys_58_65 (d := d) (r0 := r0) (x4 := x4) (x5 := x5) (x6 := (ps_i s (ps_c0 r0 0) 6))  h0 J k (fun s9 h0z J9 => ih (x5 + 1) (xs_lt f1) s9 h0z J9))) (fun f3 => (And.intro (fun f4 => (ys_58_65 (d := d) (r0 := r0) (x4 := x4) (x5 := x5) (x6 := (ps_i s (ps_c0 r0 0) 6))  h0 J k (fun s9 h0z J9 => ih (x5 + 1) (xs_lt f1) s9 h0z J9))) (fun f4 => (And.intro (fun f5 => (ys_58_77 (d := d) (r0 := r0)  h0 J k )) (fun f5 => (ys_58_65 (d := d) (r0 := r0) (x4 := x4) (x5 := x5) (x6 := (ps_i s (ps_c0 r0 0) 6))  h0 J k (fun s9 h0z J9 => ih (x5 + 1) (xs_lt f1) s9 h0z J9))))))))))))))))) x5 s h0 J

theorem ys_58 {m s : ps_S} {t : Int32} {d : Nat} {r0 : Nat} {r1 : Nat} {x2 : Int32} {r3 : Nat} {f : Int32 → ps_S → Prop} (h0 : ps_is r0 3 = true) (h1 : ps_ar r1 1 = true ∧ r1 < 1131) (h3 : ps_is r3 9 = true) (J : yJ m t s) (k : ∀ (v : Int32) (s' : ps_S), v &&& 1 = v → yJ m t s' → f v s') : ps_Cl (d + 39) 58 [.ref r0, .ref r1, .int x2, .ref r3] s (ps_rI f) :=
  pg_58_0 (d := d + 38) (ps_nk_i h3 (ys_126 h3 J (fun s1 J1 => (ps_nk_i h0 (ys_61 h0 h1 h3 J1 (fun s2 J2 => (ys_58_18 (d := d) (r0 := r0) (x4 := 19) (x5 := 0)  h0 J2 k )))))))

theorem ys_114 {m s : ps_S} {t : Int32} {d : Nat} {x0 : Int32} {f : Int32 → ps_S → Prop} (J : yJ m t s) (k : ∀ (v : Int32), v &&& 1 = v → f v s) : ps_Cl d 114 [.int x0] s (ps_rI f) :=
  pg_114_0 (And.intro (fun f1 => (k 1 (by decide))) (fun f1 => (And.intro (fun f2 => (k 0 (by decide))) (fun f2 => (And.intro (fun f3 => (k 0 (by decide))) (fun f3 => (k 1 (by decide))))))))

theorem ys_120 {m s : ps_S} {t : Int32} {d : Nat} {r0 : Nat} {x1 : Int32} {f : ps_S → Prop} (h0 : ps_is r0 8 = true) (J : yJ m t s) (k : ∀ (s' : ps_S), yJ m t s' → f s') : ps_Cl (d + 1) 120 [.ref r0, .int x1] s (ps_rV f) :=
  pg_120_0 (d := d) (ps_nk_i h0 (ps_nk_i h0 (ps_nk_i h0 (ps_nk_i h0 (ps_nk_i (xk_8_4 h0) (ys_91 (xk_8_4 h0) (yw_i (c := 8) (by decide) h0 (yw_i (c := 8) (by decide) h0 (yw_i (c := 8) (by decide) h0 J))) (fun s1 J1 => (ps_nk_i h0 (ps_nk_i (xk_8_5 h0) (ys_91 (xk_8_5 h0) J1 (fun s2 J2 => (ps_nk_i h0 (ps_nk_i (xk_8_6 h0) (ys_91 (xk_8_6 h0) J2 (fun s3 J3 => (ps_nk_i h0 (ps_nk_i h0 (ps_nk_i h0 (ps_nk_i h0 (ps_nk_i h0 (k (ps_uj (ps_ui (ps_ui (ps_ui (ps_ui s3 r0 8 0) r0 9 0) r0 10 0) r0 11 0) r0 12 0) (yw_j (c := 8) (by decide) h0 (yw_i (c := 8) (by decide) h0 (yw_i (c := 8) (by decide) h0 (yw_i (c := 8) (by decide) h0 (yw_i (c := 8) (by decide) h0 J3))))))))))))))))))))))))))

theorem ys_67 {m s : ps_S} {t : Int32} {d : Nat} {r0 : Nat} {r1 : Nat} {f : Int32 → ps_S → Prop} (h0 : ps_is r0 3 = true) (h1 : ps_is r1 8 = true) (J : yJ m t s) (k : ∀ (v : Int32) (s' : ps_S), v &&& 1 = v → yJ m t s' → f v s') : ps_Cl (d + 3) 67 [.ref r0, .ref r1] s (ps_rI f) :=
  pg_67_0 (d := d + 2) (ps_nk_i h0 (ps_nk_i (xk_3_0 h0) (And.intro (fun f1 => (ps_nk_i h0 (ps_nk_i h0 (ps_nk_i (xk_3_0 h0) (ps_nk_i (xj_3_5 (J).1 h0) (ys_129 (xj_3_5 (J).1 h0) J (fun v1 => (ps_nk_i h1 (ps_nk_i h1 (And.intro (fun f2 => (ps_nk_i h0 (ps_nk_i (xk_3_0 h0) (ys_140 (xk_3_0 h0) (yw_i (c := 8) (by decide) h1 J) (fun s2 J2 => (k 1 s2 (by decide) J2)))))) (fun f2 => (ps_nk_i h0 (ys_62 h0 (yw_i (c := 8) (by decide) h1 J) (fun v3 s3 b3 J3 => (ps_nd_i (decide_eq_true b3) ((k v3 s3 (of_decide_eq_true (decide_eq_true b3)) J3))))))))))))))))) (fun f1 => (ps_nk_i h0 (ys_62 h0 J (fun v4 s4 b4 J4 => (ps_nd_i (decide_eq_true b4) ((k v4 s4 (of_decide_eq_true (decide_eq_true b4)) J4))))))))))

theorem ys_117 {m s : ps_S} {t : Int32} {d : Nat} {x0 : Int32} {f : Int32 → ps_S → Prop} (J : yJ m t s) (k : ∀ (v : Int32), v &&& 1 = v → f v s) : ps_Cl d 117 [.int x0] s (ps_rI f) :=
  pg_117_0 (And.intro (fun f1 => (k 1 (by decide))) (fun f1 => (And.intro (fun f2 => (k 0 (by decide))) (fun f2 => (k 1 (by decide))))))

theorem ys_68 {m s : ps_S} {t : Int32} {d : Nat} {r0 : Nat} {r1 : Nat} {f : Int32 → ps_S → Prop} (h0 : ps_is r0 3 = true) (h1 : ps_is r1 8 = true) (J : yJ m t s) (k : ∀ (v : Int32) (s' : ps_S), v &&& 1 = v → yJ m t s' → f v s') : ps_Cl (d + 3) 68 [.ref r0, .ref r1] s (ps_rI f) :=
  pg_68_0 (d := d + 2) (ps_nk_i h0 (ys_77 h0 J (fun v1 b1 => (And.intro (fun f1 => (ps_nk_i h0 (ys_79 h0 J (fun v2 s2 J2 => (ps_nk_i h1 (ps_nk_i h1 (And.intro (fun f2 => (ps_nk_i h0 (ps_nk_i (xk_3_0 h0) (ys_140 (xk_3_0 h0) (yw_i (c := 8) (by decide) h1 J2) (fun s3 J3 => (k 1 s3 (by decide) J3)))))) (fun f2 => (ps_nk_i h0 (ys_62 h0 (yw_i (c := 8) (by decide) h1 J2) (fun v4 s4 b4 J4 => (ps_nd_i (decide_eq_true b4) ((k v4 s4 (of_decide_eq_true (decide_eq_true b4)) J4)))))))))))))) (fun f1 => (ps_nk_i h0 (ys_62 h0 J (fun v5 s5 b5 J5 => (ps_nd_i (decide_eq_true b5) ((k v5 s5 (of_decide_eq_true (decide_eq_true b5)) J5)))))))))))

theorem ys_118 {m s : ps_S} {t : Int32} {d : Nat} {x0 : Int32} {f : Int32 → ps_S → Prop} (J : yJ m t s) (k : ∀ (v : Int32), v &&& 1 = v → f v s) : ps_Cl d 118 [.int x0] s (ps_rI f) :=
  pg_118_0 (And.intro (fun f1 => (k 1 (by decide))) (fun f1 => (And.intro (fun f2 => (k 1 (by decide))) (fun f2 => (And.intro (fun f3 => (k 0 (by decide))) (fun f3 => (k 1 (by decide))))))))

theorem ys_119 {m s : ps_S} {t : Int32} {d : Nat} {x0 : Int32} {f : Int32 → ps_S → Prop} (J : yJ m t s) (k : ∀ (v : Int32), v &&& 1 = v → f v s) : ps_Cl d 119 [.int x0] s (ps_rI f) :=
  pg_119_0 (And.intro (fun f1 => (k 1 (by decide))) (fun f1 => (And.intro (fun f2 => (k 0 (by decide))) (fun f2 => (And.intro (fun f3 => (k 0 (by decide))) (fun f3 => (And.intro (fun f4 => (k 0 (by decide))) (fun f4 => (And.intro (fun f5 => (k 0 (by decide))) (fun f5 => (And.intro (fun f6 => (k 1 (by decide))) (fun f6 => (And.intro (fun f7 => (k 1 (by decide))) (fun f7 => (And.intro (fun f8 => (k 0 (by decide))) (fun f8 => (And.intro (fun f9 => (k 0 (by decide))) (fun f9 => (And.intro (fun f10 => (k 1 (by decide))) (fun f10 => (And.intro (fun f11 => (k 0 (by decide))) (fun f11 => (And.intro (fun f12 => (k 0 (by decide))) (fun f12 => (And.intro (fun f13 => (k 1 (by decide))) (fun f13 => (And.intro (fun f14 => (k 0 (by decide))) (fun f14 => (And.intro (fun f15 => (k 1 (by decide))) (fun f15 => (And.intro (fun f16 => (k 1 (by decide))) (fun f16 => (And.intro (fun f17 => (k 1 (by decide))) (fun f17 => (k 0 (by decide))))))))))))))))))))))))))))))))))))

theorem ys_66_161 {m s : ps_S} {t : Int32} {d : Nat} {r0 : Nat} {Q : Option Value → ps_S → Prop} (h0 : ps_is r0 3 = true) (J : yJ m t s) (k : ∀ (v : Int32) (s' : ps_S), v &&& 1 = v → yJ m t s' → Q (some (.int v)) s') : ps_At (d + 38) 66 161 [(0, .ref r0)] [] s Q :=
  pg_66_161 (d := d + 37) (ps_nk_i h0 (ys_65 h0 J (fun v1 s1 b1 J1 => (ps_nd_i (decide_eq_true b1) ((k v1 s1 (of_decide_eq_true (decide_eq_true b1)) J1))))))

theorem ys_66_140 {m s : ps_S} {t : Int32} {d : Nat} {r0 : Nat} {r1 : Nat} {x2 : Int32} {Q : Option Value → ps_S → Prop} (h0 : ps_is r0 3 = true) (h1 : ps_is r1 8 = true) (J : yJ m t s) (k : ∀ (v : Int32) (s' : ps_S), v &&& 1 = v → yJ m t s' → Q (some (.int v)) s') : ps_At (d + 38) 66 140 [(0, .ref r0), (1, .ref r1), (2, .int x2)] [] s Q :=
  pg_66_140 (d := d + 37) (ys_119  J (fun v1 b1 => (And.intro (fun f1 => (ys_66_161 (d := d) (r0 := r0)  h0 J k )) (fun f1 => (ps_nk_i h1 (ps_nk_i h0 (ys_69 h0 (xk_8_5 h1) J (fun v2 s2 b2 J2 => (And.intro (fun f2 => (ys_66_161 (d := d) (r0 := r0)  h0 J2 k )) (fun f2 => (k 0 s2 (by decide) J2)))))))))))

theorem ys_66_119 {m s : ps_S} {t : Int32} {d : Nat} {r0 : Nat} {r1 : Nat} {x2 : Int32} {Q : Option Value → ps_S → Prop} (h0 : ps_is r0 3 = true) (h1 : ps_is r1 8 = true) (J : yJ m t s) (k : ∀ (v : Int32) (s' : ps_S), v &&& 1 = v → yJ m t s' → Q (some (.int v)) s') : ps_At (d + 38) 66 119 [(0, .ref r0), (1, .ref r1), (2, .int x2)] [] s Q :=
  pg_66_119 (d := d + 37) (ys_118  J (fun v1 b1 => (And.intro (fun f1 => (ys_66_140 (d := d) (r0 := r0) (r1 := r1) (x2 := x2)  h0 h1 J k )) (fun f1 => (ps_nk_i h1 (ps_nk_i h0 (ys_69 h0 (xk_8_4 h1) J (fun v2 s2 b2 J2 => (And.intro (fun f2 => (ys_66_140 (d := d) (r0 := r0) (r1 := r1) (x2 := x2)  h0 h1 J2 k )) (fun f2 => (k 0 s2 (by decide) J2)))))))))))

theorem ys_66_102 {m s : ps_S} {t : Int32} {d : Nat} {r0 : Nat} {r1 : Nat} {x2 : Int32} {Q : Option Value → ps_S → Prop} (h0 : ps_is r0 3 = true) (h1 : ps_is r1 8 = true) (J : yJ m t s) (k : ∀ (v : Int32) (s' : ps_S), v &&& 1 = v → yJ m t s' → Q (some (.int v)) s') : ps_At (d + 38) 66 102 [(0, .ref r0), (1, .ref r1), (2, .int x2)] [] s Q :=
  pg_66_102 (d := d + 37) (ys_117  J (fun v1 b1 => (And.intro (fun f1 => (ys_66_119 (d := d) (r0 := r0) (r1 := r1) (x2 := x2)  h0 h1 J k )) (fun f1 => (ps_nk_i h0 (ys_68 h0 h1 J (fun v2 s2 b2 J2 => (And.intro (fun f2 => (ys_66_119 (d := d) (r0 := r0) (r1 := r1) (x2 := x2)  h0 h1 J2 k )) (fun f2 => (k 0 s2 (by decide) J2))))))))))

theorem ys_66_35 {m s : ps_S} {t : Int32} {d : Nat} {r0 : Nat} {r1 : Nat} {x2 : Int32} {x3 : Int32} {Q : Option Value → ps_S → Prop} (h0 : ps_is r0 3 = true) (h1 : ps_is r1 8 = true) (J : yJ m t s) (k : ∀ (v : Int32) (s' : ps_S), v &&& 1 = v → yJ m t s' → Q (some (.int v)) s') : ps_At (d + 38) 66 35 [(0, .ref r0), (1, .ref r1), (2, .int x2), (3, .int x3)] [] s Q :=
  xs_up (P := fun x3 => ∀ (s : ps_S), ps_is r0 3 = true → ps_is r1 8 = true → yJ m t s → ps_At (d + 38) 66 35 [(0, .ref r0), (1, .ref r1), (2, .int x2), (3, .int x3)] [] s Q) (fun x3 ih s h0 h1 J => pg_66_35 (d := d + 37) (ys_115  J (fun v1 => (And.intro (fun f1 => (And.intro (fun f2 => (ys_66_102 (d := d) (r0 := r0) (r1 := r1) (x2 := x2)  h0 h1 J k )) (fun f2 => (ps_nk_i h0 (ys_67 h0 h1 J (fun v2 s2 b2 J2 => (And.intro (fun f3 => (k 0 s2 (by decide) J2)) (fun f3 => (ys_66_102 (d := d) (r0 := r0) (r1 := r1) (x2 := x2)  h0 h1 J2 k ))))))))) (fun f1 => (ps_nk_i h0 (ps_nk_i (xk_3_0 h0) (And.intro (fun f4 => (ps_nk_i h1 (ps_nk_i h0 (ps_nk_i (xk_3_0 h0) (ys_183 (yk_8_1 h1) J (fun s3 J3 e3 => (ps_nk_i h0 (ps_nk_i (xk_3_0 h0) (ys_140 (xk_3_0 h0) J3 (fun s4 J4 => (ih ((x3 + 1)) (xs_lt f1) s4 h0 h1 J4))))))))))) (fun f4 => (ps_nk_i h0 (ys_62 h0 J (fun v5 s5 b5 J5 => (ps_nd_i (decide_eq_true b5) ((k v5 s5 (of_decide_eq_true (decide_eq_true b5)) J5))))))))))))))) x3 s h0 h1 J

theorem ys_66 {m s : ps_S} {t : Int32} {d : Nat} {r0 : Nat} {r1 : Nat} {f : Int32 → ps_S → Prop} (h0 : ps_is r0 3 = true) (h1 : ps_is r1 8 = true) (J : yJ m t s) (k : ∀ (v : Int32) (s' : ps_S), v &&& 1 = v → yJ m t s' → f v s') : ps_Cl (d + 38) 66 [.ref r0, .ref r1] s (ps_rI f) :=
  pg_66_0 (d := d + 37) (ps_nk_i h0 (ps_nk_i (xk_3_0 h0) (ys_114  J (fun v1 b1 => (And.intro (fun f1 => (ps_nk_i h1 (ys_120 h1 J (fun s2 J2 => (ps_nk_i h0 (ps_nk_i (xk_3_0 h0) (ys_140 (xk_3_0 h0) J2 (fun s3 J3 => (ys_66_35 (d := d) (r0 := r0) (r1 := r1) (x2 := (ps_i s (ps_c0 r0 0) 6)) (x3 := 0)  h0 h1 J3 k ))))))))) (fun f1 => (ps_nk_i h0 (ys_62 h0 J (fun v4 s4 b4 J4 => (ps_nd_i (decide_eq_true b4) ((k v4 s4 (of_decide_eq_true (decide_eq_true b4)) J4))))))))))))
end
section
set_option maxRecDepth 100000
theorem ys_59_15 {m s : ps_S} {t : Int32} {d : Nat} {r0 : Nat} {r4 : Nat} {x5 : Int32} {Q : Option Value → ps_S → Prop} (h0 : ps_is r0 3 = true) (h4 : ps_is r4 2 = true) (J : yJ m t s) (k : ∀ (v : Int32) (s' : ps_S), v &&& 1 = v → yJ m t s' → Q (some (.int v)) s') : ps_At (d + 39) 59 15 [(0, .ref r0), (4, .ref r4), (5, .int x5)] [] s Q :=
  xs_up (P := fun x5 => ∀ (s : ps_S), ps_is r0 3 = true → ps_is r4 2 = true → yJ m t s → ps_At (d + 39) 59 15 [(0, .ref r0), (4, .ref r4), (5, .int x5)] [] s Q) (fun x5 ih s h0 h4 J => pg_59_15 (d := d + 38) (And.intro (fun f1 => (k 1 s (by decide) J)) (fun f1 => (ps_nk_i h0 (ps_nk_i (xk_3_0 h0) (And.intro (fun f2 => (k 1 s (by decide) J)) (fun f2 => (And.intro (fun f3 => (ps_nk_i h4 (ys_33 h4 J (fun v1 g1 => (ps_nk_i h0 (ys_66 h0 g1 J (fun v2 s2 b2 J2 => (And.intro (fun f4 => (ps_nk_i h4 (ih ((x5 + 1)) (xs_le f1 (by decide)) (ps_ui s2 r4 7 (x5 + 1)) h0 h4 (yw_i (c := 2) (by decide) h4 J2)))) (fun f4 => (k 0 s2 (by decide) J2)))))))))) (fun f3 => (ps_nk_i h0 (ys_62 h0 J (fun v3 s3 b3 J3 => (ps_nd_i (decide_eq_true b3) ((k v3 s3 (of_decide_eq_true (decide_eq_true b3)) J3))))))))))))))) x5 s h0 h4 J

theorem ys_59 {m s : ps_S} {t : Int32} {d : Nat} {r0 : Nat} {r1 : Nat} {x2 : Int32} {r3 : Nat} {r4 : Nat} {f : Int32 → ps_S → Prop} (h0 : ps_is r0 3 = true) (h1 : ps_ar r1 1 = true ∧ r1 < 1131) (h3 : ps_is r3 9 = true) (h4 : ps_is r4 2 = true) (J : yJ m t s) (k : ∀ (v : Int32) (s' : ps_S), v &&& 1 = v → yJ m t s' → f v s') : ps_Cl (d + 39) 59 [.ref r0, .ref r1, .int x2, .ref r3, .ref r4] s (ps_rI f) :=
  pg_59_0 (d := d + 38) (ps_nk_i h4 (ys_31 h4 J (fun s1 J1 => (ps_nk_i h0 (ys_61 h0 h1 h3 J1 (fun s2 J2 => (ys_59_15 (d := d) (r0 := r0) (r4 := r4) (x5 := 0)  h0 h4 J2 k )))))))

theorem ys_60 {m s : ps_S} {t : Int32} {d : Nat} {r0 : Nat} {r1 : Nat} {x2 : Int32} {r3 : Nat} {r4 : Nat} {x5 : Int32} {f : Int32 → ps_S → Prop} (h0 : ps_is r0 3 = true) (h1 : ps_ar r1 1 = true ∧ r1 < 1131) (h3 : ps_is r3 9 = true) (h4 : ps_is r4 5 = true) (J : yJ m t s) (k : ∀ (v : Int32) (s' : ps_S), v &&& 1 = v → yJ m t s' → f v s') : ps_Cl (d + 38) 60 [.ref r0, .ref r1, .int x2, .ref r3, .ref r4, .int x5] s (ps_rI f) :=
  pg_60_0 (d := d + 37) (ps_nk_i h0 (ys_61 h0 h1 h3 J (fun s1 J1 => (ps_nk_i h0 (ys_69 h0 h4 J1 (fun v2 s2 b2 J2 => (And.intro (fun f1 => (ps_nk_i h0 (ps_nk_i (xk_3_0 h0) (And.intro (fun f2 => (k 1 s2 (by decide) J2)) (fun f2 => (ps_nk_i h0 (ys_62 h0 J2 (fun v3 s3 b3 J3 => (ps_nd_i (decide_eq_true b3) ((k v3 s3 (of_decide_eq_true (decide_eq_true b3)) J3))))))))))) (fun f1 => (k 0 s2 (by decide) J2)))))))))

theorem ys_81 {m s : ps_S} {t : Int32} {d : Nat} {r0 : Nat} {f : ps_S → Prop} (h0 : ps_is r0 4 = true) (J : yJ m t s) (k : ∀ (s' : ps_S), yJ m t s' → f s') : ps_Cl (d + 1) 81 [.ref r0] s (ps_rV f) :=
  pg_81_0 (d := d) (ps_nk_i h0 (ps_nk_i (xk_4_0 h0) (ys_91 (xk_4_0 h0) J (fun s1 J1 => (k s1 J1)))))

theorem ys_186 {m s : ps_S} {t : Int32} {d : Nat} {x0 : Int32} {f : Int32 → ps_S → Prop} (J : yJ m t s) (k : ∀ (v : Int32), v &&& 1 = v → f v s) : ps_Cl d 186 [.int x0] s (ps_rI f) :=
  pg_186_0 (And.intro (fun f1 => (k 0 (by decide))) (fun f1 => (And.intro (fun f2 => (k 0 (by decide))) (fun f2 => (k 1 (by decide))))))

theorem ys_84_73 {m s : ps_S} {t : Int32} {d : Nat} {r1 : Nat} {x2 : Int32} {x3 : Int32} {x4 : Int32} {x5 : Int32} {Q : Option Value → ps_S → Prop} (h1 : ps_is r1 5 = true) (J : yJ m t s) (k : ∀ (v : Int32), v &&& 1 = v → Q (some (.int v)) s) (K3 : ps_is r1 5 = true → ps_At (d + 1) 84 3 [(1, .ref r1), (2, .int x2), (3, .int x3), (4, .int (x4 + 1))] [] s Q) : ps_At (d + 1) 84 73 [(1, .ref r1), (2, .int x2), (3, .int x3), (4, .int x4), (5, .int x5)] [] s Q :=
  pg_84_73 (d := d) (And.intro (fun f1 => (K3 h1)) (fun f1 => (k 0 (by decide))))

theorem ys_84_34 {m s : ps_S} {t : Int32} {d : Nat} {r1 : Nat} {x2 : Int32} {x3 : Int32} {x4 : Int32} {x5 : Int32} {x6 : Int32} {Q : Option Value → ps_S → Prop} (h1 : ps_is r1 5 = true) (J : yJ m t s) (k : ∀ (v : Int32), v &&& 1 = v → Q (some (.int v)) s) (K3 : ps_is r1 5 = true → ps_At (d + 1) 84 3 [(1, .ref r1), (2, .int x2), (3, .int x3), (4, .int (x4 + 1))] [] s Q) : ps_At (d + 1) 84 34 [(1, .ref r1), (2, .int x2), (3, .int x3), (4, .int x4), (5, .int x5), (6, .int x6)] [] s Q :=
  xs_up (P := fun x6 => ∀ (x5 : Int32), ps_is r1 5 = true → ps_At (d + 1) 84 34 [(1, .ref r1), (2, .int x2), (3, .int x3), (4, .int x4), (5, .int x5), (6, .int x6)] [] s Q) (fun x6 ih x5 h1 => pg_84_34 (d := d) (And.intro (fun f1 => (ys_84_73 (d := d) (r1 := r1) (x2 := x2) (x3 := x3) (x4 := x4) (x5 := x5)  h1 J k K3)) (fun f1 => (And.intro (fun f2 => (ys_84_73 (d := d) (r1 := r1) (x2 := x2) (x3 := x3) (x4 := x4) (x5 := x5)  h1 J k K3)) (fun f2 => (ps_nk_i h1 (ys_92 h1 J (fun v1 => (ps_nk_i h1 (ys_92 h1 J (fun v2 => (And.intro (fun f3 => (ih ((x6 + 1)) (xs_lt f1) (0) h1)) (fun f3 => (ih ((x6 + 1)) (xs_lt f1) (1) h1)))))))))))))) x6 x5 h1

theorem ys_84_3 {m s : ps_S} {t : Int32} {d : Nat} {r1 : Nat} {x2 : Int32} {x3 : Int32} {x4 : Int32} {Q : Option Value → ps_S → Prop} (h1 : ps_is r1 5 = true) (J : yJ m t s) (k : ∀ (v : Int32), v &&& 1 = v → Q (some (.int v)) s) : ps_At (d + 1) 84 3 [(1, .ref r1), (2, .int x2), (3, .int x3), (4, .int x4)] [] s Q :=
  xs_up (P := fun x4 => ps_is r1 5 = true → ps_At (d + 1) 84 3 [(1, .ref r1), (2, .int x2), (3, .int x3), (4, .int x4)] [] s Q) (fun x4 ih h1 => pg_84_3 (d := d) (ps_nk_i h1 (And.intro (fun f1 => (k 1 (by decide))) (fun f1 => (ps_nk_i h1 (ys_92 h1 J (fun v1 => (ys_185  J (fun v2 b2 => (And.intro (fun f2 => (ys_84_34 (d := d) (r1 := r1) (x2 := x2) (x3 := x3) (x4 := x4) (x5 := 0) (x6 := x2)  h1 J k (fun h1z => ih (x4 + 1) (xs_lt f1) h1z))) (fun f2 => (ys_84_34 (d := d) (r1 := r1) (x2 := x2) (x3 := x3) (x4 := x4) (x5 := 1) (x6 := x2)  h1 J k (fun h1z => ih (x4 + 1) (xs_lt f1) h1z))))))))))))) x4 h1

theorem ys_84 {m s : ps_S} {t : Int32} {d : Nat} {r0 : Nat} {r1 : Nat} {x2 : Int32} {x3 : Int32} {f : Int32 → ps_S → Prop} (h0 : ps_is r0 4 = true) (h1 : ps_is r1 5 = true) (J : yJ m t s) (k : ∀ (v : Int32), v &&& 1 = v → f v s) : ps_Cl (d + 1) 84 [.ref r0, .ref r1, .int x2, .int x3] s (ps_rI f) :=
  pg_84_0 (d := d) (ys_84_3 (d := d) (r1 := r1) (x2 := x2) (x3 := x3) (x4 := x3)  h1 J k )

theorem ys_83_109 {m s : ps_S} {t : Int32} {d : Nat} {r0 : Nat} {r1 : Nat} {x2 : Int32} {x5 : Int32} {x6 : Int32} {Q : Option Value → ps_S → Prop} (h0 : ps_is r0 4 = true) (h1 : ps_is r1 9 = true) (J : yJ m t s) (k : ∀ (s' : ps_S), yJ m t s' → Q none s') (K2 : ∀ (s : ps_S), ps_is r0 4 = true → ps_is r1 9 = true → yJ m t s → ps_At (d + 2) 83 2 [(0, .ref r0), (1, .ref r1), (2, .int (x2 + 1))] [] s Q) : ps_At (d + 2) 83 109 [(0, .ref r0), (1, .ref r1), (2, .int x2), (5, .int x5), (6, .int x6)] [] s Q :=
  pg_83_109 (d := d + 1) (ps_nk_i h0 (ys_183 (yk_4_6 h0) J (fun s1 J1 e1 => (ps_nk_i h0 (And.intro (fun f1 => (ys_183 (yk_4_7 h0) J1 (fun s2 J2 e2 => (K2 s2 h0 h1 J2)))) (fun f1 => (ys_183 (yk_4_7 h0) J1 (fun s3 J3 e3 => (K2 s3 h0 h1 J3)))))))))

theorem ys_83_44 {m s : ps_S} {t : Int32} {d : Nat} {r0 : Nat} {r1 : Nat} {x2 : Int32} {r3 : Nat} {x4 : Int32} {Q : Option Value → ps_S → Prop} (h0 : ps_is r0 4 = true) (h1 : ps_is r1 9 = true) (h3 : ps_is r3 5 = true) (J : yJ m t s) (k : ∀ (s' : ps_S), yJ m t s' → Q none s') (K2 : ∀ (s : ps_S), ps_is r0 4 = true → ps_is r1 9 = true → yJ m t s → ps_At (d + 2) 83 2 [(0, .ref r0), (1, .ref r1), (2, .int (x2 + 1))] [] s Q) : ps_At (d + 2) 83 44 [(0, .ref r0), (1, .ref r1), (2, .int x2), (3, .ref r3), (4, .int x4)] [] s Q :=
  pg_83_44 (d := d + 1) (ps_nk_i h0 (ps_nk_i (xk_4_3 h0) (ys_103 (xk_4_3 h0) h3 h1 J (fun s1 J1 => (ps_nk_i h0 (ps_nk_i (xk_4_3 h0) (ys_104 (xk_4_3 h0) J1 (fun v2 => (ps_nk_i h3 (ys_92 h3 J1 (fun v3 => (And.intro (fun f1 => (ys_83_109 (d := d) (r0 := r0) (r1 := r1) (x2 := x2) (x5 := (x4 + 1)) (x6 := v2)  h0 h1 J1 k K2)) (fun f1 => (ps_nk_i h3 (ys_92 h3 J1 (fun v4 => (ys_186  J1 (fun v5 b5 => (And.intro (fun f2 => (ys_83_109 (d := d) (r0 := r0) (r1 := r1) (x2 := x2) (x5 := (x4 + 1)) (x6 := v2)  h0 h1 J1 k K2)) (fun f2 => (ps_nk_i h0 (ys_84 h0 h3 J1 (fun v6 b6 => (And.intro (fun f3 => (ys_83_109 (d := d) (r0 := r0) (r1 := r1) (x2 := x2) (x5 := (x4 + 1)) (x6 := v2)  h0 h1 J1 k K2)) (fun f3 => (ps_nk_i h0 (ys_183 (yk_4_6 h0) J1 (fun s7 J7 e7 => (ps_nk_i h0 (And.intro (fun f4 => (ys_183 (yk_4_7 h0) J7 (fun s8 J8 e8 => (K2 s8 h0 h1 J8)))) (fun f4 => (ys_183 (yk_4_7 h0) J7 (fun s9 J9 e9 => (K2 s9 h0 h1 J9))))))))))))))))))))))))))))))))))

theorem ys_83_19 {m s : ps_S} {t : Int32} {d : Nat} {r0 : Nat} {r1 : Nat} {x2 : Int32} {r3 : Nat} {x4 : Int32} {Q : Option Value → ps_S → Prop} (h0 : ps_is r0 4 = true) (h1 : ps_is r1 9 = true) (h3 : ps_is r3 5 = true) (J : yJ m t s) (k : ∀ (s' : ps_S), yJ m t s' → Q none s') (K2 : ∀ (s : ps_S), ps_is r0 4 = true → ps_is r1 9 = true → yJ m t s → ps_At (d + 2) 83 2 [(0, .ref r0), (1, .ref r1), (2, .int (x2 + 1))] [] s Q) : ps_At (d + 2) 83 19 [(0, .ref r0), (1, .ref r1), (2, .int x2), (3, .ref r3), (4, .int x4)] [] s Q :=
  xs_up (P := fun x4 => ∀ (s : ps_S), ps_is r0 4 = true → ps_is r1 9 = true → ps_is r3 5 = true → yJ m t s → ps_At (d + 2) 83 19 [(0, .ref r0), (1, .ref r1), (2, .int x2), (3, .ref r3), (4, .int x4)] [] s Q) (fun x4 ih s h0 h1 h3 J => pg_83_19 (d := d + 1) (ps_nk_i h3 (And.intro (fun f1 => (ys_83_44 (d := d) (r0 := r0) (r1 := r1) (x2 := x2) (r3 := r3) (x4 := x4)  h0 h1 h3 J k K2)) (fun f1 => (ps_nk_i h3 (ys_92 h3 J (fun v1 => (And.intro (fun f2 => (ys_83_44 (d := d) (r0 := r0) (r1 := r1) (x2 := x2) (r3 := r3) (x4 := x4)  h0 h1 h3 J k K2)) (fun f2 => (ih ((x4 + 1)) (xs_lt f1) s h0 h1 h3 J)))))))))) x4 s h0 h1 h3 J

theorem ys_83_2 {m s : ps_S} {t : Int32} {d : Nat} {r0 : Nat} {r1 : Nat} {x2 : Int32} {Q : Option Value → ps_S → Prop} (h0 : ps_is r0 4 = true) (h1 : ps_is r1 9 = true) (J : yJ m t s) (k : ∀ (s' : ps_S), yJ m t s' → Q none s') : ps_At (d + 2) 83 2 [(0, .ref r0), (1, .ref r1), (2, .int x2)] [] s Q :=
  xs_up (P := fun x2 => ∀ (s : ps_S), ps_is r0 4 = true → ps_is r1 9 = true → yJ m t s → ps_At (d + 2) 83 2 [(0, .ref r0), (1, .ref r1), (2, .int x2)] [] s Q) (fun x2 ih s h0 h1 J => pg_83_2 (d := d + 1) (ps_nk_i h1 (And.intro (fun f1 => (k s J)) (fun f1 => (ps_nk_i h1 (ys_135 h1 J (fun v1 g1 => (ys_83_19 (d := d) (r0 := r0) (r1 := r1) (x2 := x2) (r3 := v1) (x4 := 0)  h0 h1 g1 J k (fun s9 h0z h1z J9 => ih (x2 + 1) (xs_lt f1) s9 h0z h1z J9))))))))) x2 s h0 h1 J

theorem ys_83 {m s : ps_S} {t : Int32} {d : Nat} {r0 : Nat} {r1 : Nat} {f : ps_S → Prop} (h0 : ps_is r0 4 = true) (h1 : ps_is r1 9 = true) (J : yJ m t s) (k : ∀ (s' : ps_S), yJ m t s' → f s') : ps_Cl (d + 2) 83 [.ref r0, .ref r1] s (ps_rV f) :=
  pg_83_0 (d := d + 1) (ys_83_2 (d := d) (r0 := r0) (r1 := r1) (x2 := 0)  h0 h1 J k )

theorem ys_82_9 {m s : ps_S} {t : Int32} {d : Nat} {r0 : Nat} {r1 : Nat} {x2 : Int32} {x3 : Int32} {Q : Option Value → ps_S → Prop} (h0 : ps_is r0 4 = true) (h1 : ps_is r1 9 = true) (J : yJ m t s) (k : ∀ (v : Int32) (s' : ps_S), yJ m t s' → Q (some (.int v)) s') : ps_At (d + 3) 82 9 [(0, .ref r0), (1, .ref r1), (2, .int x2), (3, .int x3)] [] s Q :=
  xs_up (P := fun x3 => ∀ (x2 : Int32) (s : ps_S), ps_is r0 4 = true → ps_is r1 9 = true → yJ m t s → ps_At (d + 3) 82 9 [(0, .ref r0), (1, .ref r1), (2, .int x2), (3, .int x3)] [] s Q) (fun x3 ih x2 s h0 h1 J => pg_82_9 (d := d + 2) (ps_nk_i h1 (And.intro (fun f1 => (k x2 s J)) (fun f1 => (ps_nk_i h0 (ys_182 (yk_4_7 h0) J (fun v1 => (And.intro (fun f2 => (ih ((x3 + 1)) (xs_lt f1) (x2) s h0 h1 J)) (fun f2 => (ih ((x3 + 1)) (xs_lt f1) ((x2 ||| ((1 : Int32) <<< (x3 &&& 31)))) s h0 h1 J)))))))))) x3 x2 s h0 h1 J

theorem ys_82 {m s : ps_S} {t : Int32} {d : Nat} {r0 : Nat} {r1 : Nat} {f : Int32 → ps_S → Prop} (h0 : ps_is r0 4 = true) (h1 : ps_is r1 9 = true) (J : yJ m t s) (k : ∀ (v : Int32) (s' : ps_S), yJ m t s' → f v s') : ps_Cl (d + 3) 82 [.ref r0, .ref r1] s (ps_rI f) :=
  pg_82_0 (d := d + 2) (ps_nk_i h0 (ys_83 h0 h1 J (fun s1 J1 => (ys_82_9 (d := d) (r0 := r0) (r1 := r1) (x2 := 0) (x3 := 0)  h0 h1 J1 k ))))

theorem ys_88 {m s : ps_S} {t : Int32} {d : Nat} {r0 : Nat} {x1 : Int32} {x2 : Int32} {f : Int32 → ps_S → Prop} (h0 : ps_is r0 4 = true) (J : yJ m t s) (k : ∀ (v : Int32) (s' : ps_S), v &&& 1 = v → yJ m t s' → f v s') : ps_Cl (d + 2) 88 [.ref r0, .int x1, .int x2] s (ps_rI f) :=
  pg_88_0 (d := d + 1) (ps_nk_i h0 (ps_nk_i (xk_4_2 h0) (ys_104 (xk_4_2 h0) J (fun v1 => (ps_nk_i h0 (ys_182 (yk_4_4 h0) J (fun v2 => (And.intro (fun f1 => (ps_nk_i h0 (ys_182 (yk_4_5 h0) J (fun v3 => (And.intro (fun f2 => (k 0 s (by decide) J)) (fun f2 => (ps_nk_i h0 (ps_nk_i h0 (ps_nk_i (xk_4_0 h0) (ys_99 (xk_4_0 h0) (xk_4_0 h0) J (fun v4 b4 => (And.intro (fun f3 => (k 0 s (by decide) J)) (fun f3 => (k 1 s (by decide) J)))))))))))))) (fun f1 => (ps_nk_i h0 (ys_183 (yk_4_4 h0) J (fun s5 J5 e5 => (ps_nk_i h0 (ys_183 (yk_4_5 h0) J5 (fun s6 J6 e6 => (k 1 s6 (by decide) J6))))))))))))))))

theorem ys_87_32 {m s : ps_S} {t : Int32} {d : Nat} {r0 : Nat} {r1 : Nat} {x3 : Int32} {x5 : Int32} {x6 : Int32} {Q : Option Value → ps_S → Prop} (h0 : ps_is r0 4 = true) (h1 : ps_is r1 5 = true) (J : yJ m t s) (k : ∀ (v : Int32) (s' : ps_S), v &&& 1 = v → yJ m t s' → Q (some (.int v)) s') : ps_At (d + 3) 87 32 [(0, .ref r0), (1, .ref r1), (3, .int x3), (5, .int x5), (6, .int x6)] [] s Q :=
  xs_up (P := fun x6 => ∀ (x5 : Int32) (s : ps_S), ps_is r0 4 = true → ps_is r1 5 = true → yJ m t s → ps_At (d + 3) 87 32 [(0, .ref r0), (1, .ref r1), (3, .int x3), (5, .int x5), (6, .int x6)] [] s Q) (fun x6 ih x5 s h0 h1 J => pg_87_32 (d := d + 2) (And.intro (fun f1 => (k 1 s (by decide) J)) (fun f1 => (ps_nk_i h1 (ys_92 h1 J (fun v1 => (ys_185  J (fun v2 b2 => (And.intro (fun f2 => (ps_nk_i h0 (ps_nk_i (xk_4_0 h0) (ys_92 (xk_4_0 h0) J (fun v3 => (And.intro (fun f3 => (k 0 s (by decide) J)) (fun f3 => (ih ((x6 + 1)) (xs_lt f1) ((x5 + 1)) s h0 h1 J)))))))) (fun f2 => (ps_nk_i h0 (ys_88 h0 J (fun v4 s4 b4 J4 => (And.intro (fun f4 => (ps_nk_i h0 (ps_nk_i (xk_4_2 h0) (ys_104 (xk_4_2 h0) J4 (fun v5 => (ih ((x6 + 1)) (xs_lt f1) (v5) s4 h0 h1 J4)))))) (fun f4 => (k 0 s4 (by decide) J4)))))))))))))))) x6 x5 s h0 h1 J

theorem ys_87_3 {m s : ps_S} {t : Int32} {d : Nat} {r0 : Nat} {r1 : Nat} {x2 : Int32} {x3 : Int32} {x4 : Int32} {x5 : Int32} {Q : Option Value → ps_S → Prop} (h0 : ps_is r0 4 = true) (h1 : ps_is r1 5 = true) (J : yJ m t s) (k : ∀ (v : Int32) (s' : ps_S), v &&& 1 = v → yJ m t s' → Q (some (.int v)) s') : ps_At (d + 3) 87 3 [(0, .ref r0), (1, .ref r1), (2, .int x2), (3, .int x3), (4, .int x4), (5, .int x5)] [] s Q :=
  xs_up (P := fun x5 => ∀ (s : ps_S), ps_is r0 4 = true → ps_is r1 5 = true → yJ m t s → ps_At (d + 3) 87 3 [(0, .ref r0), (1, .ref r1), (2, .int x2), (3, .int x3), (4, .int x4), (5, .int x5)] [] s Q) (fun x5 ih s h0 h1 J => pg_87_3 (d := d + 2) (And.intro (fun f1 => (ys_87_32 (d := d) (r0 := r0) (r1 := r1) (x3 := x3) (x5 := x4) (x6 := x2)  h0 h1 J k )) (fun f1 => (ps_nk_i h0 (ys_183 (yk_4_4 h0) J (fun s1 J1 e1 => (ih ((x5 + 1)) (xs_lt f1) s1 h0 h1 J1))))))) x5 s h0 h1 J

theorem ys_87 {m s : ps_S} {t : Int32} {d : Nat} {r0 : Nat} {r1 : Nat} {x2 : Int32} {x3 : Int32} {x4 : Int32} {f : Int32 → ps_S → Prop} (h0 : ps_is r0 4 = true) (h1 : ps_is r1 5 = true) (J : yJ m t s) (k : ∀ (v : Int32) (s' : ps_S), v &&& 1 = v → yJ m t s' → f v s') : ps_Cl (d + 3) 87 [.ref r0, .ref r1, .int x2, .int x3, .int x4] s (ps_rI f) :=
  pg_87_0 (d := d + 2) (ys_87_3 (d := d) (r0 := r0) (r1 := r1) (x2 := x2) (x3 := x3) (x4 := x4) (x5 := 0)  h0 h1 J k )

theorem ys_89_23 {m s : ps_S} {t : Int32} {d : Nat} {r0 : Nat} {r1 : Nat} {x3 : Int32} {x4 : Int32} {Q : Option Value → ps_S → Prop} (h0 : ps_is r0 4 = true) (h1 : ps_is r1 5 = true) (J : yJ m t s) (k : ∀ (s' : ps_S), yJ m t s' → Q none s') : ps_At (d + 2) 89 23 [(0, .ref r0), (1, .ref r1), (3, .int x3), (4, .int x4)] [] s Q :=
  xs_up (P := fun x4 => ∀ (s : ps_S), ps_is r0 4 = true → ps_is r1 5 = true → yJ m t s → ps_At (d + 2) 89 23 [(0, .ref r0), (1, .ref r1), (3, .int x3), (4, .int x4)] [] s Q) (fun x4 ih s h0 h1 J => pg_89_23 (d := d + 1) (ps_nk_i h1 (And.intro (fun f1 => (ps_nk_i h0 (ps_nk_i h0 (ps_nk_i h0 (ps_nk_i (xk_4_2 h0) (ys_104 (xk_4_2 h0) J (fun v1 => (ps_nk_i h0 (ps_nk_i (xk_4_0 h0) (ps_nk_i (xk_4_1 h0) (ys_94 (xk_4_1 h0) (xk_4_0 h0) J (fun s2 J2 => (k s2 J2))))))))))))) (fun f1 => (ps_nk_i h1 (ys_92 h1 J (fun v3 => (ys_185  J (fun v4 b4 => (And.intro (fun f2 => (ps_nk_i h0 (ps_nk_i (xk_4_1 h0) (ys_93 (xk_4_1 h0) J (fun s5 J5 => (ih ((x4 + 1)) (xs_lt f1) s5 h0 h1 J5)))))) (fun f2 => (ps_nk_i h0 (ps_nk_i h0 (ps_nk_i h0 (ys_182 (yk_4_4 h0) J (fun v6 => (ps_nk_i h0 (ys_182 (yk_4_5 h0) J (fun v7 => (ps_nk_i (xk_4_1 h0) (ys_94 (xk_4_1 h0) (xk_4_0 h0) J (fun s8 J8 => (ih ((x4 + 1)) (xs_lt f1) s8 h0 h1 J8))))))))))))))))))))))) x4 s h0 h1 J

theorem ys_89 {m s : ps_S} {t : Int32} {d : Nat} {r0 : Nat} {r1 : Nat} {x2 : Int32} {x3 : Int32} {f : ps_S → Prop} (h0 : ps_is r0 4 = true) (h1 : ps_is r1 5 = true) (J : yJ m t s) (k : ∀ (s' : ps_S), yJ m t s' → f s') : ps_Cl (d + 2) 89 [.ref r0, .ref r1, .int x2, .int x3] s (ps_rV f) :=
  pg_89_0 (d := d + 1) (ps_nk_i h0 (ps_nk_i (xk_4_1 h0) (ys_91 (xk_4_1 h0) J (fun s1 J1 => (ps_nk_i h0 (ps_nk_i h0 (ps_nk_i (xk_4_1 h0) (ys_94 (xk_4_1 h0) (xk_4_0 h0) J1 (fun s2 J2 => (ys_89_23 (d := d) (r0 := r0) (r1 := r1) (x3 := x3) (x4 := x2)  h0 h1 J2 k ))))))))))

theorem ys_86_15 {m s : ps_S} {t : Int32} {d : Nat} {r0 : Nat} {r1 : Nat} {x2 : Int32} {x3 : Int32} {Q : Option Value → ps_S → Prop} (h0 : ps_is r0 4 = true) (h1 : ps_is r1 9 = true) (J : yJ m t s) (k : ∀ (v : Int32) (s' : ps_S), v &&& 1 = v → yJ m t s' → Q (some (.int v)) s') (K2 : ∀ (s : ps_S), ps_is r0 4 = true → ps_is r1 9 = true → yJ m t s → ps_At (d + 4) 86 2 [(0, .ref r0), (1, .ref r1), (2, .int (x2 + 1))] [] s Q) : ps_At (d + 4) 86 15 [(0, .ref r0), (1, .ref r1), (2, .int x2), (3, .int x3)] [] s Q :=
  xs_up (P := fun x3 => ∀ (s : ps_S), ps_is r0 4 = true → ps_is r1 9 = true → yJ m t s → ps_At (d + 4) 86 15 [(0, .ref r0), (1, .ref r1), (2, .int x2), (3, .int x3)] [] s Q) (fun x3 ih s h0 h1 J => pg_86_15 (d := d + 3) (ps_nk_i h1 (And.intro (fun f1 => (K2 s h0 h1 J)) (fun f1 => (ps_nk_i h0 (ps_nk_i (xk_4_0 h0) (ys_92 (xk_4_0 h0) J (fun v1 => (ys_186  J (fun v2 b2 => (And.intro (fun f2 => (K2 s h0 h1 J)) (fun f2 => (ps_nk_i h0 (ys_182 (yk_4_7 h0) J (fun v3 => (And.intro (fun f3 => (ih ((x3 + 1)) (xs_lt f1) s h0 h1 J)) (fun f3 => (ps_nk_i h1 (ys_135 h1 J (fun v4 g4 => (ps_nk_i h0 (ys_182 (yk_4_6 h0) J (fun v5 => (ps_nk_i h0 (ys_87 h0 g4 J (fun v6 s6 b6 J6 => (And.intro (fun f4 => (ih ((x3 + 1)) (xs_lt f1) s6 h0 h1 J6)) (fun f4 => (ps_nk_i h1 (ys_135 h1 J6 (fun v7 g7 => (ps_nk_i h0 (ys_89 h0 g7 J6 (fun s8 J8 => (k 1 s8 (by decide) J8))))))))))))))))))))))))))))))))))) x3 s h0 h1 J

theorem ys_86_2 {m s : ps_S} {t : Int32} {d : Nat} {r0 : Nat} {r1 : Nat} {x2 : Int32} {Q : Option Value → ps_S → Prop} (h0 : ps_is r0 4 = true) (h1 : ps_is r1 9 = true) (J : yJ m t s) (k : ∀ (v : Int32) (s' : ps_S), v &&& 1 = v → yJ m t s' → Q (some (.int v)) s') : ps_At (d + 4) 86 2 [(0, .ref r0), (1, .ref r1), (2, .int x2)] [] s Q :=
  xs_up (P := fun x2 => ∀ (s : ps_S), ps_is r0 4 = true → ps_is r1 9 = true → yJ m t s → ps_At (d + 4) 86 2 [(0, .ref r0), (1, .ref r1), (2, .int x2)] [] s Q) (fun x2 ih s h0 h1 J => pg_86_2 (d := d + 3) (ps_nk_i h0 (ps_nk_i (xk_4_0 h0) (And.intro (fun f1 => (k 0 s (by decide) J)) (fun f1 => (ys_86_15 (d := d) (r0 := r0) (r1 := r1) (x2 := x2) (x3 := 0)  h0 h1 J k (fun s9 h0z h1z J9 => ih (x2 + 1) (xs_lt f1) s9 h0z h1z J9))))))) x2 s h0 h1 J

theorem ys_86 {m s : ps_S} {t : Int32} {d : Nat} {r0 : Nat} {r1 : Nat} {f : Int32 → ps_S → Prop} (h0 : ps_is r0 4 = true) (h1 : ps_is r1 9 = true) (J : yJ m t s) (k : ∀ (v : Int32) (s' : ps_S), v &&& 1 = v → yJ m t s' → f v s') : ps_Cl (d + 4) 86 [.ref r0, .ref r1] s (ps_rI f) :=
  pg_86_0 (d := d + 3) (ys_86_2 (d := d) (r0 := r0) (r1 := r1) (x2 := 0)  h0 h1 J k )

theorem ys_85_87 {m s : ps_S} {t : Int32} {d : Nat} {r0 : Nat} {Q : Option Value → ps_S → Prop} (h0 : ps_is r0 4 = true) (J : yJ m t s) (k : ∀ (v : Int32) (s' : ps_S), yJ m t s' → Q (some (.int v)) s') : ps_At (d + 5) 85 87 [(0, .ref r0)] [] s Q :=
  pg_85_87 (d := d + 4) (ps_nk_i h0 (ps_nk_i (xk_4_0 h0) (ys_91 (xk_4_0 h0) J (fun s1 J1 => (k (-2) s1 J1)))))

theorem ys_85_19 {m s : ps_S} {t : Int32} {d : Nat} {r0 : Nat} {r1 : Nat} {x2 : Int32} {Q : Option Value → ps_S → Prop} (h0 : ps_is r0 4 = true) (h1 : ps_is r1 9 = true) (J : yJ m t s) (k : ∀ (v : Int32) (s' : ps_S), yJ m t s' → Q (some (.int v)) s') : ps_At (d + 5) 85 19 [(0, .ref r0), (1, .ref r1), (2, .int x2)] [] s Q :=
  xs_up (P := fun x2 => ∀ (s : ps_S), ps_is r0 4 = true → ps_is r1 9 = true → yJ m t s → ps_At (d + 5) 85 19 [(0, .ref r0), (1, .ref r1), (2, .int x2)] [] s Q) (fun x2 ih s h0 h1 J => pg_85_19 (d := d + 4) (And.intro (fun f1 => (ys_85_87 (d := d) (r0 := r0)  h0 J k )) (fun f1 => (ps_nk_i h0 (ys_86 h0 h1 J (fun v1 s1 b1 J1 => (And.intro (fun f2 => (ps_nk_i h0 (ps_nk_i h0 (ps_nk_i (xk_4_0 h0) (ys_95 (xk_4_0 h0) (xk_4_1 h0) J1 (fun s2 J2 => (ps_nk_i h0 (ps_nk_i h0 (ps_nk_i (xk_4_2 h0) (ys_103 (xk_4_2 h0) (xk_4_0 h0) h1 J2 (fun s3 J3 => (ps_nk_i h0 (ps_nk_i (xk_4_1 h0) (And.intro (fun f3 => (ys_85_87 (d := d) (r0 := r0)  h0 J3 k )) (fun f3 => (ps_nk_i h0 (ps_nk_i (xk_4_2 h0) (ys_106 (xk_4_2 h0) J3 (fun v4 b4 => (And.intro (fun f4 => (ih ((x2 + 1)) (xs_le f1 (by decide)) s3 h0 h1 J3)) (fun f4 => (ys_85_87 (d := d) (r0 := r0)  h0 J3 k )))))))))))))))))))))) (fun f2 => (k x2 s1 J1))))))))) x2 s h0 h1 J

theorem ys_85 {m s : ps_S} {t : Int32} {d : Nat} {r0 : Nat} {r1 : Nat} {f : Int32 → ps_S → Prop} (h0 : ps_is r0 4 = true) (h1 : ps_is r1 9 = true) (J : yJ m t s) (k : ∀ (v : Int32) (s' : ps_S), yJ m t s' → f v s') : ps_Cl (d + 5) 85 [.ref r0, .ref r1] s (ps_rI f) :=
  pg_85_0 (d := d + 4) (ps_nk_i h0 (ys_83 h0 h1 J (fun s1 J1 => (ps_nk_i h0 (ps_nk_i h0 (ps_nk_i (xk_4_2 h0) (ys_103 (xk_4_2 h0) (xk_4_0 h0) h1 J1 (fun s2 J2 => (ys_85_19 (d := d) (r0 := r0) (r1 := r1) (x2 := 0)  h0 h1 J2 k )))))))))

theorem ys_101_2 {m s : ps_S} {t : Int32} {d : Nat} {r0 : Nat} {x1 : Int32} {Q : Option Value → ps_S → Prop} (h0 : ps_is r0 5 = true) (J : yJ m t s) (k : ∀ (v : Int32), v &&& 1 = v → Q (some (.int v)) s) : ps_At (d + 1) 101 2 [(0, .ref r0), (1, .int x1)] [] s Q :=
  xs_up (P := fun x1 => ps_is r0 5 = true → ps_At (d + 1) 101 2 [(0, .ref r0), (1, .int x1)] [] s Q) (fun x1 ih h0 => pg_101_2 (d := d) (ps_nk_i h0 (And.intro (fun f1 => (k 0 (by decide))) (fun f1 => (ps_nk_i h0 (ys_92 h0 J (fun v1 => (And.intro (fun f2 => (ih ((x1 + 1)) (xs_lt f1) h0)) (fun f2 => (k 1 (by decide))))))))))) x1 h0

theorem ys_101 {m s : ps_S} {t : Int32} {d : Nat} {r0 : Nat} {f : Int32 → ps_S → Prop} (h0 : ps_is r0 5 = true) (J : yJ m t s) (k : ∀ (v : Int32), v &&& 1 = v → f v s) : ps_Cl (d + 1) 101 [.ref r0] s (ps_rI f) :=
  pg_101_0 (d := d) (ys_101_2 (d := d) (r0 := r0) (x1 := 0)  h0 J k )

theorem ys_108 {m s : ps_S} {t : Int32} {d : Nat} {r0 : Nat} {f : ps_S → Prop} (h0 : ps_is r0 7 = true) (J : yJ m t s) (k : ∀ (s' : ps_S), yJ m t s' → f s') : ps_Cl d 108 [.ref r0] s (ps_rV f) :=
  pg_108_0 (ps_nk_i h0 (ps_nk_i h0 (k (ps_ui (ps_ui s r0 5 0) r0 6 0) (yw_i (c := 7) (by decide) h0 (yw_i (c := 7) (by decide) h0 J)))))

theorem ys_111_18 {m s : ps_S} {t : Int32} {d : Nat} {r0 : Nat} {r1 : Nat} {x2 : Int32} {x3 : Int32} {Q : Option Value → ps_S → Prop} (h0 : ps_is r0 7 = true) (h1 : ps_is r1 8 = true) (J : yJ m t s) (k : ∀ (v : Int32) (s' : ps_S), yJ m t s' → Q (some (.int v)) s') : ps_At (d + 3) 111 18 [(0, .ref r0), (1, .ref r1), (2, .int x2), (3, .int x3)] [] s Q :=
  xs_up (P := fun x3 => ∀ (x2 : Int32) (s : ps_S), ps_is r0 7 = true → ps_is r1 8 = true → yJ m t s → ps_At (d + 3) 111 18 [(0, .ref r0), (1, .ref r1), (2, .int x2), (3, .int x3)] [] s Q) (fun x3 ih x2 s h0 h1 J => pg_111_18 (d := d + 2) (ps_nk_i h0 (And.intro (fun f1 => (ps_nk_i h0 (ps_nk_i h0 (ys_110 h0 J (fun v1 g1 => (ps_nk_i h1 (ps_nk_i g1 (ys_95 g1 (xk_8_6 h1) J (fun s2 J2 => (ps_nk_i h0 (ps_nk_i h0 (ps_nk_i h1 (ys_183 (yk_7_2 h0) J2 (fun s3 J3 e3 => (ps_nk_i h0 (ps_nk_i h0 (ps_nk_i h1 (ys_183 (yk_7_3 h0) J3 (fun s4 J4 e4 => (ps_nk_i h0 (ps_nk_i h0 (ys_183 (yk_7_4 h0) J4 (fun s5 J5 e5 => (ps_nk_i h0 (ps_nk_i h0 (ps_nk_i h0 (k ((ps_i (ps_ui s5 r0 5 ((ps_i s5 r0 5) + 1)) r0 5) - 1) (ps_ui s5 r0 5 ((ps_i s5 r0 5) + 1)) (yw_i (c := 7) (by decide) h0 J5)))))))))))))))))))))))))))) (fun f1 => (ps_nk_i h1 (And.intro (fun f2 => (ih ((x3 + 1)) (xs_lt f1) (x2) s h0 h1 J)) (fun f2 => (ps_nk_i h0 (ys_182 (yk_7_4 h0) J (fun v6 => (ih ((x3 + 1)) (xs_lt f1) ((x2 ||| v6)) s h0 h1 J))))))))))) x3 x2 s h0 h1 J

theorem ys_111 {m s : ps_S} {t : Int32} {d : Nat} {r0 : Nat} {r1 : Nat} {f : Int32 → ps_S → Prop} (h0 : ps_is r0 7 = true) (h1 : ps_is r1 8 = true) (J : yJ m t s) (k : ∀ (v : Int32) (s' : ps_S), yJ m t s' → f v s') : ps_Cl (d + 3) 111 [.ref r0, .ref r1] s (ps_rI f) :=
  pg_111_0 (d := d + 2) (ps_nk_i h0 (And.intro (fun f1 => (ps_nk_i h1 (ys_111_18 (d := d) (r0 := r0) (r1 := r1) (x2 := (ps_i s r1 10)) (x3 := 0)  h0 h1 J k ))) (fun f1 => (k (-1) s J))))

theorem ys_112_10 {m s : ps_S} {t : Int32} {d : Nat} {r0 : Nat} {r1 : Nat} {x2 : Int32} {Q : Option Value → ps_S → Prop} (h0 : ps_is r0 7 = true) (h1 : ps_is r1 7 = true) (J : yJ m t s) (k : ∀ (s' : ps_S), yJ m t s' → Q none s') : ps_At (d + 3) 112 10 [(0, .ref r0), (1, .ref r1), (2, .int x2)] [] s Q :=
  xs_up (P := fun x2 => ∀ (s : ps_S), ps_is r0 7 = true → ps_is r1 7 = true → yJ m t s → ps_At (d + 3) 112 10 [(0, .ref r0), (1, .ref r1), (2, .int x2)] [] s Q) (fun x2 ih s h0 h1 J => pg_112_10 (d := d + 2) (ps_nk_i h0 (And.intro (fun f1 => (k s J)) (fun f1 => (ps_nk_i h0 (ys_110 h0 J (fun v1 g1 => (ps_nk_i h1 (ys_110 h1 J (fun v2 g2 => (ps_nk_i g1 (ys_95 g1 g2 J (fun s3 J3 => (ps_nk_i h0 (ps_nk_i h1 (ys_182 (yk_7_2 h1) J3 (fun v4 => (ys_183 (yk_7_2 h0) J3 (fun s5 J5 e5 => (ps_nk_i h0 (ps_nk_i h1 (ys_182 (yk_7_3 h1) J5 (fun v6 => (ys_183 (yk_7_3 h0) J5 (fun s7 J7 e7 => (ps_nk_i h0 (ps_nk_i h1 (ys_182 (yk_7_4 h1) J7 (fun v8 => (ys_183 (yk_7_4 h0) J7 (fun s9 J9 e9 => (ih ((x2 + 1)) (xs_lt f1) s9 h0 h1 J9)))))))))))))))))))))))))))))))) x2 s h0 h1 J

theorem ys_112 {m s : ps_S} {t : Int32} {d : Nat} {r0 : Nat} {r1 : Nat} {f : ps_S → Prop} (h0 : ps_is r0 7 = true) (h1 : ps_is r1 7 = true) (J : yJ m t s) (k : ∀ (s' : ps_S), yJ m t s' → f s') : ps_Cl (d + 3) 112 [.ref r0, .ref r1] s (ps_rV f) :=
  pg_112_0 (d := d + 2) (ps_nk_i h1 (ps_nk_i h0 (ys_112_10 (d := d) (r0 := r0) (r1 := r1) (x2 := 0)  h0 h1 (yw_i (c := 7) (by decide) h0 J) k )))

theorem ys_180 {m s : ps_S} {t : Int32} {d : Nat} {x1 : Int32} {f : Nat → ps_S → Prop} (J : yJ m t s) (k : ∀ (v : Nat), ps_is v 7 = true → f v s) : ps_Cl d 180 [.ref 0, .int x1] s (ps_rA f) :=
  pg_180_0 (And.intro (fun f1 => (k 870 ((rfl : ps_is 870 7 = true)))) (fun f1 => (And.intro (fun f2 => (k 870 ((rfl : ps_is 870 7 = true)))) (fun f2 => (ps_nd_i (xg_in f1 f2) (k (ps_e0 901 (Int32.toNatClampNeg x1)) ((xe_6 (r := 901) rfl (n := 3) (xg_in f1 f2)))))))))

theorem ys_151_65 {m s : ps_S} {t : Int32} {d : Nat} {x3 : Int32} {Q : Option Value → ps_S → Prop} (J : yJ m 0 s) (k : ∀ (v : Int32) (s' : ps_S), yJ m 0 s' → Q (some (.int v)) s') : ps_At (d + 40) 151 65 [(0, .ref 0), (3, .int x3)] [] s Q :=
  xs_up (P := fun x3 => ∀ (s : ps_S), yJ m 0 s → ps_At (d + 40) 151 65 [(0, .ref 0), (3, .int x3)] [] s Q) (fun x3 ih s J => pg_151_65 (d := d + 39) (And.intro (fun f1 => (ys_91 (rfl : ps_is 934 5 = true) J (fun s1 J1 => (ys_81 (rfl : ps_is 1021 4 = true) J1 (fun s2 J2 => (ys_1 (rfl : ps_is 944 0 = true) J2 (fun s3 J3 => (ps_nk_i (xj_11_2 (J3).1 (rfl : ps_is 0 11 = true)) (k (ps_i s3 (ps_r s3 0 2) 8) s3 J3))))))))) (fun f1 => (ys_180  J (fun v4 g4 => (ps_nk_i g4 (ys_108 g4 J (fun s5 J5 => (ih ((x3 + 1)) (xs_lt f1) s5 J5))))))))) x3 s J

theorem ys_151 {m s : ps_S} {t : Int32} {d : Nat} {f : Int32 → ps_S → Prop} (J : yJ m t s) (k : ∀ (v : Int32) (s' : ps_S), yJ m 0 s' → f v s') : ps_Cl (d + 40) 151 [.ref 0] s (ps_rI f) :=
  pg_151_0 (d := d + 39) (ys_58 (rfl : ps_is 902 3 = true) (xq_a (r := 1) (t := 1) rfl rfl) (xj_11_3 (J).1 (rfl : ps_is 0 11 = true)) J (fun v1 s1 b1 J1 => (And.intro (fun f1 => (ps_nk_i (xj_11_4 ((yw_r2 (yr_2 (yw_tape J1)) (xw_11_3 (rfl : ps_is 0 11 = true) (xj_11_2 ((yw_tape J1)).1 (rfl : ps_is 0 11 = true)) ((yw_r2 (yr_3 (yw_tape J1)) (xw_11_2 (rfl : ps_is 0 11 = true) (xj_11_3 ((yw_tape J1)).1 (rfl : ps_is 0 11 = true)) ((yw_tape J1)).1) (yw_tape J1))).1) (yw_r2 (yr_3 (yw_tape J1)) (xw_11_2 (rfl : ps_is 0 11 = true) (xj_11_3 ((yw_tape J1)).1 (rfl : ps_is 0 11 = true)) ((yw_tape J1)).1) (yw_tape J1)))).1 (rfl : ps_is 0 11 = true)) (ys_31 (xj_11_4 ((yw_r2 (yr_2 (yw_tape J1)) (xw_11_3 (rfl : ps_is 0 11 = true) (xj_11_2 ((yw_tape J1)).1 (rfl : ps_is 0 11 = true)) ((yw_r2 (yr_3 (yw_tape J1)) (xw_11_2 (rfl : ps_is 0 11 = true) (xj_11_3 ((yw_tape J1)).1 (rfl : ps_is 0 11 = true)) ((yw_tape J1)).1) (yw_tape J1))).1) (yw_r2 (yr_3 (yw_tape J1)) (xw_11_2 (rfl : ps_is 0 11 = true) (xj_11_3 ((yw_tape J1)).1 (rfl : ps_is 0 11 = true)) ((yw_tape J1)).1) (yw_tape J1)))).1 (rfl : ps_is 0 11 = true)) (yw_r2 (yr_2 (yw_tape J1)) (xw_11_3 (rfl : ps_is 0 11 = true) (xj_11_2 ((yw_tape J1)).1 (rfl : ps_is 0 11 = true)) ((yw_r2 (yr_3 (yw_tape J1)) (xw_11_2 (rfl : ps_is 0 11 = true) (xj_11_3 ((yw_tape J1)).1 (rfl : ps_is 0 11 = true)) ((yw_tape J1)).1) (yw_tape J1))).1) (yw_r2 (yr_3 (yw_tape J1)) (xw_11_2 (rfl : ps_is 0 11 = true) (xj_11_3 ((yw_tape J1)).1 (rfl : ps_is 0 11 = true)) ((yw_tape J1)).1) (yw_tape J1))) (fun s2 J2 => (ys_108 (rfl : ps_is 870 7 = true) J2 (fun s3 J3 => (ys_151_65 (d := d) (t := 0) (x3 := 0)  J3 k ))))))) (fun f1 => (k (-1) (ps_ui s1 0 1 0) (yw_tape J1))))))

theorem ys_152 {m s : ps_S} {t : Int32} {d : Nat} {x1 : Int32} {f : Int32 → ps_S → Prop} (J : yJ m t s) (k : ∀ (v : Int32), f v s) : ps_Cl d 152 [.ref 0, .int x1] s (ps_rI f) :=
  pg_152_0 (And.intro (fun f1 => (k (ps_i s 902 9))) (fun f1 => (And.intro (fun f2 => (k (ps_i s 902 10))) (fun f2 => (k (-1))))))

theorem ys_153 {m s : ps_S} {t : Int32} {d : Nat} {f : Int32 → ps_S → Prop} (J : yJ m t s) (k : ∀ (v : Int32) (s' : ps_S), yJ m 0 s' → f v s') : ps_Cl (d + 40) 153 [.ref 0] s (ps_rI f) :=
  pg_153_0 (d := d + 39) (ys_59 (rfl : ps_is 902 3 = true) (xq_a (r := 1) (t := 1) rfl rfl) (xj_11_2 (J).1 (rfl : ps_is 0 11 = true)) (xj_11_5 (J).1 (rfl : ps_is 0 11 = true)) J (fun v1 s1 b1 J1 => (And.intro (fun f1 => (ps_nk_i (xj_11_4 ((yw_rq (by decide) (xw_11_5 (rfl : ps_is 0 11 = true) (xj_11_4 ((yw_tape J1)).1 (rfl : ps_is 0 11 = true)) ((yw_rq (by decide) (xw_11_4 (rfl : ps_is 0 11 = true) (xj_11_5 ((yw_tape J1)).1 (rfl : ps_is 0 11 = true)) ((yw_tape J1)).1) (yw_tape J1))).1) (yw_rq (by decide) (xw_11_4 (rfl : ps_is 0 11 = true) (xj_11_5 ((yw_tape J1)).1 (rfl : ps_is 0 11 = true)) ((yw_tape J1)).1) (yw_tape J1)))).1 (rfl : ps_is 0 11 = true)) (ys_34 (xj_11_4 ((yw_rq (by decide) (xw_11_5 (rfl : ps_is 0 11 = true) (xj_11_4 ((yw_tape J1)).1 (rfl : ps_is 0 11 = true)) ((yw_rq (by decide) (xw_11_4 (rfl : ps_is 0 11 = true) (xj_11_5 ((yw_tape J1)).1 (rfl : ps_is 0 11 = true)) ((yw_tape J1)).1) (yw_tape J1))).1) (yw_rq (by decide) (xw_11_4 (rfl : ps_is 0 11 = true) (xj_11_5 ((yw_tape J1)).1 (rfl : ps_is 0 11 = true)) ((yw_tape J1)).1) (yw_tape J1)))).1 (rfl : ps_is 0 11 = true)) (xj_11_2 ((yw_rq (by decide) (xw_11_5 (rfl : ps_is 0 11 = true) (xj_11_4 ((yw_tape J1)).1 (rfl : ps_is 0 11 = true)) ((yw_rq (by decide) (xw_11_4 (rfl : ps_is 0 11 = true) (xj_11_5 ((yw_tape J1)).1 (rfl : ps_is 0 11 = true)) ((yw_tape J1)).1) (yw_tape J1))).1) (yw_rq (by decide) (xw_11_4 (rfl : ps_is 0 11 = true) (xj_11_5 ((yw_tape J1)).1 (rfl : ps_is 0 11 = true)) ((yw_tape J1)).1) (yw_tape J1)))).1 (rfl : ps_is 0 11 = true)) (rfl : ps_is 870 7 = true) (yw_rq (by decide) (xw_11_5 (rfl : ps_is 0 11 = true) (xj_11_4 ((yw_tape J1)).1 (rfl : ps_is 0 11 = true)) ((yw_rq (by decide) (xw_11_4 (rfl : ps_is 0 11 = true) (xj_11_5 ((yw_tape J1)).1 (rfl : ps_is 0 11 = true)) ((yw_tape J1)).1) (yw_tape J1))).1) (yw_rq (by decide) (xw_11_4 (rfl : ps_is 0 11 = true) (xj_11_5 ((yw_tape J1)).1 (rfl : ps_is 0 11 = true)) ((yw_tape J1)).1) (yw_tape J1))) (fun s2 J2 => (ps_nk_i (xj_11_4 (J2).1 (rfl : ps_is 0 11 = true)) (k (ps_i s2 (ps_r s2 0 4) 8) s2 J2)))))) (fun f1 => (k (-1) (ps_ui s1 0 1 0) (yw_tape J1))))))

theorem ys_154 {m s : ps_S} {t : Int32} {d : Nat} {x1 : Int32} {f : Int32 → ps_S → Prop} (J : yJ m t s) (k : ∀ (v : Int32), f v s) : ps_Cl d 154 [.ref 0, .int x1] s (ps_rI f) :=
  pg_154_0 (ps_nk_i (xj_11_4 (J).1 (rfl : ps_is 0 11 = true)) (And.intro (fun f1 => (And.intro (fun f2 => (ps_nk_i (xj_11_4 (J).1 (rfl : ps_is 0 11 = true)) (k (ps_i s (ps_r s 0 4) 8)))) (fun f2 => (And.intro (fun f3 => (ps_nk_i (xj_11_4 (J).1 (rfl : ps_is 0 11 = true)) (k (ps_i s (ps_r s 0 4) 9)))) (fun f3 => (k (-1))))))) (fun f1 => (k (-1)))))

theorem ys_155 {m s : ps_S} {t : Int32} {d : Nat} {x1 : Int32} {x2 : Int32} {f : Int32 → ps_S → Prop} (J : yJ m t s) (k : ∀ (v : Int32), f v s) : ps_Cl (d + 1) 155 [.ref 0, .int x1, .int x2] s (ps_rI f) :=
  pg_155_0 (d := d) (ps_nk_i (xj_11_4 (J).1 (rfl : ps_is 0 11 = true)) (ys_32 (xj_11_4 (J).1 (rfl : ps_is 0 11 = true)) J (fun v1 b1 => (And.intro (fun f1 => (ps_nk_i (xj_11_4 (J).1 (rfl : ps_is 0 11 = true)) (ys_33 (xj_11_4 (J).1 (rfl : ps_is 0 11 = true)) J (fun v2 g2 => (And.intro (fun f2 => (ps_nk_i g2 (ps_nk_i (xk_8_6 g2) (k (ps_i s (ps_c0 v2 6) 1))))) (fun f2 => (And.intro (fun f3 => (ps_nk_i g2 (k (ps_i s v2 8)))) (fun f3 => (And.intro (fun f4 => (ps_nk_i g2 (k (ps_i s v2 10)))) (fun f4 => (And.intro (fun f5 => (ps_nk_i g2 (k (ps_i s v2 11)))) (fun f5 => (k (-1)))))))))))))) (fun f1 => (k (-1)))))))
end
section
set_option maxRecDepth 100000
theorem ys_156 {m s : ps_S} {t : Int32} {d : Nat} {x1 : Int32} {x2 : Int32} {f : Int32 → ps_S → Prop} (J : yJ m t s) (k : ∀ (v : Int32), f v s) : ps_Cl (d + 1) 156 [.ref 0, .int x1, .int x2] s (ps_rI f) :=
  pg_156_0 (d := d) (ps_nk_i (xj_11_4 (J).1 (rfl : ps_is 0 11 = true)) (ys_32 (xj_11_4 (J).1 (rfl : ps_is 0 11 = true)) J (fun v1 b1 => (And.intro (fun f1 => (k (-1))) (fun f1 => (ps_nk_i (xj_11_4 (J).1 (rfl : ps_is 0 11 = true)) (ys_33 (xj_11_4 (J).1 (rfl : ps_is 0 11 = true)) J (fun v2 g2 => (ps_nk_i g2 (ps_nk_i (xk_8_6 g2) (ys_92 (xk_8_6 g2) J (fun v3 => (k v3)))))))))))))

theorem ys_157 {m s : ps_S} {t : Int32} {d : Nat} {x1 : Int32} {x2 : Int32} {x3 : Int32} {f : Int32 → ps_S → Prop} (J : yJ m t s) (k : ∀ (v : Int32), f v s) : ps_Cl (d + 2) 157 [.ref 0, .int x1, .int x2, .int x3] s (ps_rI f) :=
  pg_157_0 (d := d + 1) (ps_nk_i (xj_11_4 (J).1 (rfl : ps_is 0 11 = true)) (ys_32 (xj_11_4 (J).1 (rfl : ps_is 0 11 = true)) J (fun v1 b1 => (And.intro (fun f1 => (ps_nk_i (xj_11_4 (J).1 (rfl : ps_is 0 11 = true)) (ys_33 (xj_11_4 (J).1 (rfl : ps_is 0 11 = true)) J (fun v2 g2 => (ps_nk_i g2 (ys_122 g2 J (fun v3 => (And.intro (fun f2 => (ps_nk_i (xj_11_4 (J).1 (rfl : ps_is 0 11 = true)) (ys_33 (xj_11_4 (J).1 (rfl : ps_is 0 11 = true)) J (fun v4 g4 => (ps_nk_i g4 (ps_nk_i (xk_8_6 g4) (ys_92 (xk_8_6 g4) J (fun v5 => (k v5))))))))) (fun f2 => (k (-1))))))))))) (fun f1 => (k (-1)))))))

theorem ys_158 {m s : ps_S} {t : Int32} {d : Nat} {f : Int32 → ps_S → Prop} (J : yJ m t s) (k : ∀ (v : Int32) (s' : ps_S), yJ m t s' → f v s') : ps_Cl (d + 4) 158 [.ref 0] s (ps_rI f) :=
  pg_158_0 (d := d + 3) (ps_nk_i (xj_11_4 (J).1 (rfl : ps_is 0 11 = true)) (And.intro (fun f1 => (k (-1) s J)) (fun f1 => (ps_nk_i (xj_11_4 (J).1 (rfl : ps_is 0 11 = true)) (And.intro (fun f2 => (ps_nk_i (xj_11_4 (J).1 (rfl : ps_is 0 11 = true)) (ps_nk_i (xj_11_4 (J).1 (rfl : ps_is 0 11 = true)) (ys_33 (xj_11_4 (J).1 (rfl : ps_is 0 11 = true)) J (fun v1 g1 => (ps_nk_i g1 (And.intro (fun f3 => (k (-1) s J)) (fun f3 => (ps_nk_i g1 (ps_nk_i (xk_8_6 g1) (ys_101 (xk_8_6 g1) J (fun v2 b2 => (And.intro (fun f4 => (ys_111 (rfl : ps_is 870 7 = true) g1 J (fun v3 s3 J3 => (k v3 s3 J3)))) (fun f4 => (k (-1) s J))))))))))))))) (fun f2 => (k (-1) s J)))))))

theorem ys_159 {m s : ps_S} {t : Int32} {d : Nat} {x1 : Int32} {x2 : Int32} {f : Int32 → ps_S → Prop} (J : yJ m t s) (k : ∀ (v : Int32), f v s) : ps_Cl (d + 1) 159 [.ref 0, .int x1, .int x2] s (ps_rI f) :=
  pg_159_0 (d := d) (ys_109 (rfl : ps_is 870 7 = true) J (fun v1 b1 => (And.intro (fun f1 => (k (-1))) (fun f1 => (ys_110 (rfl : ps_is 870 7 = true) J (fun v2 g2 => (ps_nk_i g2 (ys_92 g2 J (fun v3 => (k v3))))))))))

theorem ys_160 {m s : ps_S} {t : Int32} {d : Nat} {x1 : Int32} {x2 : Int32} {f : Int32 → ps_S → Prop} (J : yJ m t s) (k : ∀ (v : Int32), f v s) : ps_Cl (d + 1) 160 [.ref 0, .int x1, .int x2] s (ps_rI f) :=
  pg_160_0 (d := d) (ys_109 (rfl : ps_is 870 7 = true) J (fun v1 b1 => (And.intro (fun f1 => (And.intro (fun f2 => (ys_182 (yq_a (r := 874) (t := 0) rfl rfl) J (fun v2 => (k v2)))) (fun f2 => (And.intro (fun f3 => (ys_182 (yq_a (r := 875) (t := 0) rfl rfl) J (fun v3 => (k v3)))) (fun f3 => (And.intro (fun f4 => (ys_182 (yq_a (r := 876) (t := 0) rfl rfl) J (fun v4 => (k v4)))) (fun f4 => (k (-1))))))))) (fun f1 => (k (-1))))))

theorem ys_161 {m s : ps_S} {t : Int32} {d : Nat} {f : Int32 → ps_S → Prop} (J : yJ m t s) (k : ∀ (v : Int32) (s' : ps_S), yJ m t s' → f v s') : ps_Cl (d + 1) 161 [.ref 0] s (ps_rI f) :=
  pg_161_0 (d := d) (And.intro (fun f1 => (ps_nk_i (xj_11_4 ((yw_i (c := 7) (by decide) (rfl : ps_is 870 7 = true) J)).1 (rfl : ps_is 0 11 = true)) (ys_31 (xj_11_4 ((yw_i (c := 7) (by decide) (rfl : ps_is 870 7 = true) J)).1 (rfl : ps_is 0 11 = true)) (yw_i (c := 7) (by decide) (rfl : ps_is 870 7 = true) J) (fun s1 J1 => (k (ps_i s1 870 5) s1 J1))))) (fun f1 => (k (-1) s J)))

theorem ys_162 {m s : ps_S} {t : Int32} {d : Nat} {f : Int32 → ps_S → Prop} (J : yJ m t s) (k : ∀ (v : Int32) (s' : ps_S), yJ m 0 s' → f v s') : ps_Cl (d + 39) 162 [.ref 0] s (ps_rI f) :=
  pg_162_0 (d := d + 38) (ys_60 (rfl : ps_is 902 3 = true) (xq_a (r := 1) (t := 1) rfl rfl) (xj_11_2 (J).1 (rfl : ps_is 0 11 = true)) (rfl : ps_is 934 5 = true) J (fun v1 s1 b1 J1 => (And.intro (fun f1 => (k (ps_i (ps_ui s1 0 1 0) 934 1) (ps_ui s1 0 1 0) (yw_tape J1))) (fun f1 => (ys_91 (rfl : ps_is 934 5 = true) (yw_tape J1) (fun s2 J2 => (k (-1) s2 J2)))))))

theorem ys_163 {m s : ps_S} {t : Int32} {d : Nat} {x1 : Int32} {f : Int32 → ps_S → Prop} (J : yJ m t s) (k : ∀ (v : Int32), f v s) : ps_Cl (d + 1) 163 [.ref 0, .int x1] s (ps_rI f) :=
  pg_163_0 (d := d) (ys_92 (rfl : ps_is 934 5 = true) J (fun v1 => (k v1)))

theorem ys_164_2 {m s : ps_S} {t : Int32} {d : Nat} {x1 : Int32} {Q : Option Value → ps_S → Prop} (J : yJ m t s) (k : ∀ (v : Int32), Q (some (.int v)) s) : ps_At (d + 2) 164 2 [(0, .ref 0), (1, .int x1)] [] s Q :=
  xs_up (P := fun x1 => ps_At (d + 2) 164 2 [(0, .ref 0), (1, .int x1)] [] s Q) (fun x1 ih  => pg_164_2 (d := d + 1) (ps_nk_i (xj_11_4 (J).1 (rfl : ps_is 0 11 = true)) (And.intro (fun f1 => (k (-1))) (fun f1 => (ps_nk_i (xj_11_4 (J).1 (rfl : ps_is 0 11 = true)) (ys_33 (xj_11_4 (J).1 (rfl : ps_is 0 11 = true)) J (fun v1 g1 => (ps_nk_i g1 (ps_nk_i (xk_8_6 g1) (ys_98 (xk_8_6 g1) (rfl : ps_is 934 5 = true) J (fun v2 b2 => (And.intro (fun f2 => (ih ((x1 + 1)) (xs_lt f1) )) (fun f2 => (k x1)))))))))))))) x1 

theorem ys_164 {m s : ps_S} {t : Int32} {d : Nat} {f : Int32 → ps_S → Prop} (J : yJ m t s) (k : ∀ (v : Int32), f v s) : ps_Cl (d + 2) 164 [.ref 0] s (ps_rI f) :=
  pg_164_0 (d := d + 1) (ys_164_2 (d := d) (x1 := 0)  J k )

theorem ys_165 {m s : ps_S} {t : Int32} {d : Nat} {x1 : Int32} {f : Int64 → ps_S → Prop} (J : yJ m t s) (k : ∀ (v : Int64), f v s) : ps_Cl (d + 1) 165 [.ref 0, .int x1] s (ps_rJ f) :=
  pg_165_0 (d := d) (ps_nk_i (xj_11_4 (J).1 (rfl : ps_is 0 11 = true)) (ys_32 (xj_11_4 (J).1 (rfl : ps_is 0 11 = true)) J (fun v1 b1 => (And.intro (fun f1 => (k (-1 : Int64))) (fun f1 => (ps_nk_i (xj_11_4 (J).1 (rfl : ps_is 0 11 = true)) (ys_33 (xj_11_4 (J).1 (rfl : ps_is 0 11 = true)) J (fun v2 g2 => (ps_nk_i g2 (k (ps_j s v2 12)))))))))))

theorem ys_166 {m s : ps_S} {t : Int32} {d : Nat} {f : Int32 → ps_S → Prop} (J : yJ m t s) (k : ∀ (v : Int32) (s' : ps_S), yJ m t s' → f v s') : ps_Cl (d + 4) 166 [.ref 0] s (ps_rI f) :=
  pg_166_0 (d := d + 3) (And.intro (fun f1 => (ys_21 (rfl : ps_is 936 1 = true) (rfl : ps_is 934 5 = true) (xj_11_2 (J).1 (rfl : ps_is 0 11 = true)) J (fun s1 J1 => (k (ps_i s1 936 4) s1 J1)))) (fun f1 => (k (-1) s J)))

theorem ys_167 {m s : ps_S} {t : Int32} {d : Nat} {f : Int32 → ps_S → Prop} (J : yJ m t s) (k : ∀ (v : Int32) (s' : ps_S), yJ m t s' → f v s') : ps_Cl (d + 4) 167 [.ref 0] s (ps_rI f) :=
  pg_167_0 (d := d + 3) (And.intro (fun f1 => (ys_21 (rfl : ps_is 936 1 = true) (rfl : ps_is 934 5 = true) (xj_11_2 (J).1 (rfl : ps_is 0 11 = true)) J (fun s1 J1 => (And.intro (fun f2 => (ys_23 (rfl : ps_is 936 1 = true) J1 (fun v2 s2 J2 => (k v2 s2 J2)))) (fun f2 => (k (-2) s1 J1)))))) (fun f1 => (k (-1) s J)))

theorem ys_168 {m s : ps_S} {t : Int32} {d : Nat} {f : Int32 → ps_S → Prop} (J : yJ m t s) (k : ∀ (v : Int32) (s' : ps_S), yJ m t s' → f v s') : ps_Cl (d + 4) 168 [.ref 0] s (ps_rI f) :=
  pg_168_0 (d := d + 3) (And.intro (fun f1 => (ys_21 (rfl : ps_is 936 1 = true) (rfl : ps_is 934 5 = true) (xj_11_2 (J).1 (rfl : ps_is 0 11 = true)) J (fun s1 J1 => (And.intro (fun f2 => (ys_24 (rfl : ps_is 936 1 = true) J1 (fun v2 s2 J2 => (k v2 s2 J2)))) (fun f2 => (k (-2) s1 J1)))))) (fun f1 => (k (-1) s J)))

theorem ys_169 {m s : ps_S} {t : Int32} {d : Nat} {f : Int32 → ps_S → Prop} (J : yJ m t s) (k : ∀ (v : Int32) (s' : ps_S), yJ m 0 s' → f v s') : ps_Cl (d + 39) 169 [.ref 0] s (ps_rI f) :=
  pg_169_0 (d := d + 38) (ys_60 (rfl : ps_is 902 3 = true) (xq_a (r := 1) (t := 1) rfl rfl) (xj_11_2 (J).1 (rfl : ps_is 0 11 = true)) (rfl : ps_is 1022 5 = true) J (fun v1 s1 b1 J1 => (And.intro (fun f1 => (ys_85 (rfl : ps_is 1021 4 = true) (xj_11_2 ((yw_tape J1)).1 (rfl : ps_is 0 11 = true)) (yw_tape J1) (fun v2 s2 J2 => (k v2 s2 J2)))) (fun f1 => (ys_81 (rfl : ps_is 1021 4 = true) (yw_tape J1) (fun s3 J3 => (k (-1) s3 J3)))))))

theorem ys_170 {m s : ps_S} {t : Int32} {d : Nat} {x1 : Int32} {f : Int32 → ps_S → Prop} (J : yJ m t s) (k : ∀ (v : Int32), f v s) : ps_Cl (d + 1) 170 [.ref 0, .int x1] s (ps_rI f) :=
  pg_170_0 (d := d) (ys_92 (rfl : ps_is 1022 5 = true) J (fun v1 => (k v1)))

theorem ys_171 {m s : ps_S} {t : Int32} {d : Nat} {f : Int32 → ps_S → Prop} (J : yJ m t s) (k : ∀ (v : Int32) (s' : ps_S), yJ m t s' → f v s') : ps_Cl (d + 4) 171 [.ref 0] s (ps_rI f) :=
  pg_171_0 (d := d + 3) (ys_82 (rfl : ps_is 1021 4 = true) (xj_11_2 (J).1 (rfl : ps_is 0 11 = true)) J (fun v1 s1 J1 => (k v1 s1 J1)))

theorem ys_181 {m s : ps_S} {t : Int32} {d : Nat} {x0 : Int32} {f : Int32 → ps_S → Prop} (J : yJ m t s) (k : ∀ (v : Int32), v &&& 1 = v → f v s) : ps_Cl d 181 [.int x0] s (ps_rI f) :=
  pg_181_0 (And.intro (fun f1 => (k 0 (by decide))) (fun f1 => (And.intro (fun f2 => (k 0 (by decide))) (fun f2 => (k 1 (by decide))))))

theorem ys_172 {m s : ps_S} {t : Int32} {d : Nat} {x1 : Int32} {f : Int32 → ps_S → Prop} (J : yJ m t s) (k : ∀ (v : Int32) (s' : ps_S), yJ m t s' → f v s') : ps_Cl (d + 4) 172 [.ref 0, .int x1] s (ps_rI f) :=
  pg_172_0 (d := d + 3) (ys_181  J (fun v1 b1 => (And.intro (fun f1 => (k (-1) s J)) (fun f1 => (ys_2 (rfl : ps_is 944 0 = true) (xj_11_2 (J).1 (rfl : ps_is 0 11 = true)) J (fun v2 s2 J2 => (k v2 s2 J2)))))))

theorem ys_173 {m s : ps_S} {t : Int32} {d : Nat} {x1 : Int32} {f : Int32 → ps_S → Prop} (J : yJ m t s) (k : ∀ (v : Int32) (s' : ps_S), yJ m t s' → f v s') : ps_Cl (d + 40) 173 [.ref 0, .int x1] s (ps_rI f) :=
  pg_173_0 (d := d + 39) (ys_181  J (fun v1 b1 => (And.intro (fun f1 => (k (-1) s J)) (fun f1 => (ys_3 (rfl : ps_is 944 0 = true) (xj_11_2 (J).1 (rfl : ps_is 0 11 = true)) J (fun v2 s2 J2 => (k v2 s2 J2)))))))

theorem ys_174 {m s : ps_S} {t : Int32} {d : Nat} {x1 : Int32} {x2 : Int32} {f : Int32 → ps_S → Prop} (J : yJ m t s) (k : ∀ (v : Int32) (s' : ps_S), yJ m t s' → f v s') : ps_Cl (d + 39) 174 [.ref 0, .int x1, .int x2] s (ps_rI f) :=
  pg_174_0 (d := d + 38) (ys_181  J (fun v1 b1 => (And.intro (fun f1 => (k (-1) s J)) (fun f1 => (And.intro (fun f2 => (k (-1) s J)) (fun f2 => (And.intro (fun f3 => (ys_4 (rfl : ps_is 944 0 = true) (xj_11_2 (J).1 (rfl : ps_is 0 11 = true)) (rfl : ps_is 934 5 = true) J (fun v2 s2 J2 => (k v2 s2 J2)))) (fun f3 => (k (-1) s J)))))))))

theorem ys_175 {m s : ps_S} {t : Int32} {d : Nat} {x1 : Int32} {f : Int32 → ps_S → Prop} (J : yJ m t s) (k : ∀ (v : Int32) (s' : ps_S), yJ m t s' → f v s') : ps_Cl (d + 40) 175 [.ref 0, .int x1] s (ps_rI f) :=
  pg_175_0 (d := d + 39) (ys_181  J (fun v1 b1 => (And.intro (fun f1 => (k (-1) s J)) (fun f1 => (And.intro (fun f2 => (ys_5 (rfl : ps_is 944 0 = true) (xj_11_2 (J).1 (rfl : ps_is 0 11 = true)) (rfl : ps_is 934 5 = true) J (fun v2 s2 J2 => (k v2 s2 J2)))) (fun f2 => (k (-1) s J)))))))

theorem ys_176 {m s : ps_S} {t : Int32} {d : Nat} {x1 : Int32} {f : Int32 → ps_S → Prop} (J : yJ m t s) (k : ∀ (v : Int32) (s' : ps_S), yJ m t s' → f v s') : ps_Cl (d + 4) 176 [.ref 0, .int x1] s (ps_rI f) :=
  pg_176_0 (d := d + 3) (And.intro (fun f1 => (k (-1) s J)) (fun f1 => (And.intro (fun f2 => (ys_180  J (fun v1 g1 => (ps_nk_i g1 (ys_112 g1 (rfl : ps_is 870 7 = true) J (fun s2 J2 => (ys_180  J2 (fun v3 g3 => (ps_nk_i g3 (k (ps_i (ps_ui s2 v3 6 1) 870 5) (ps_ui s2 v3 6 1) (yw_i (c := 7) (by decide) g3 J2))))))))))) (fun f2 => (k (-1) s J)))))

theorem ys_177 {m s : ps_S} {t : Int32} {d : Nat} {x1 : Int32} {f : Int32 → ps_S → Prop} (J : yJ m t s) (k : ∀ (v : Int32) (s' : ps_S), yJ m t s' → f v s') : ps_Cl (d + 4) 177 [.ref 0, .int x1] s (ps_rI f) :=
  pg_177_0 (d := d + 3) (And.intro (fun f1 => (k (-1) s J)) (fun f1 => (And.intro (fun f2 => (k (-1) s J)) (fun f2 => (ys_180  J (fun v1 g1 => (ps_nk_i g1 (And.intro (fun f3 => (ys_180  J (fun v2 g2 => (ys_112 (rfl : ps_is 870 7 = true) g2 J (fun s3 J3 => (ps_nk_i (xj_11_4 (J3).1 (rfl : ps_is 0 11 = true)) (ys_31 (xj_11_4 (J3).1 (rfl : ps_is 0 11 = true)) J3 (fun s4 J4 => (k (ps_i s4 870 5) s4 J4))))))))) (fun f3 => (k (-1) s J))))))))))

theorem ys_178 {m s : ps_S} {t : Int32} {d : Nat} {x1 : Int32} {f : Int32 → ps_S → Prop} (J : yJ m t s) (k : ∀ (v : Int32), f v s) : ps_Cl d 178 [.ref 0, .int x1] s (ps_rI f) :=
  pg_178_0 (And.intro (fun f1 => (ps_nk_i (xj_11_2 (J).1 (rfl : ps_is 0 11 = true)) (k (ps_i s (ps_r s 0 2) 6)))) (fun f1 => (And.intro (fun f2 => (ps_nk_i (xj_11_2 (J).1 (rfl : ps_is 0 11 = true)) (k (ps_i s (ps_r s 0 2) 7)))) (fun f2 => (And.intro (fun f3 => (ps_nk_i (xj_11_2 (J).1 (rfl : ps_is 0 11 = true)) (k (ps_i s (ps_r s 0 2) 8)))) (fun f3 => (And.intro (fun f4 => (ps_nk_i (xj_11_4 (J).1 (rfl : ps_is 0 11 = true)) (k (ps_i s (ps_r s 0 4) 8)))) (fun f4 => (And.intro (fun f5 => (k (ps_i s 870 5))) (fun f5 => (And.intro (fun f6 => (k (ps_i s 0 1))) (fun f6 => (And.intro (fun f7 => (k (ps_i s 934 1))) (fun f7 => (k (-1))))))))))))))))
end
section
set_option maxRecDepth 100000
/-! the class: theory(), its answer; both sides: feed, what it writes -/
-- ProofBench$Proof.clear()V
theorem pl_31_0 {n : Nat} {r0 : Nat} {s : ps_S} {Q : Option Value → ps_S → Prop} (h :
  pl_nk (ps_is r0 2) (pl_nk (ps_is r0 2) (pl_nk (ps_is r0 2) (Q none (ps_ui (ps_ui (ps_ui s r0 7 0) r0 8 0) r0 9 0))))) : pl_At (n + 1) 31 0 [(0, .ref r0)] [] s Q :=
  pl_wp_at (stops := []) (f := 12) h rfl

-- ProofBench$Shelf.clear()V
theorem pl_108_0 {n : Nat} {r0 : Nat} {s : ps_S} {Q : Option Value → ps_S → Prop} (h :
  pl_nk (ps_is r0 7) (pl_nk (ps_is r0 7) (Q none (ps_ui (ps_ui s r0 5 0) r0 6 0)))) : pl_At (n + 1) 108 0 [(0, .ref r0)] [] s Q :=
  pl_wp_at (stops := []) (f := 9) h rfl

-- ProofBench.boxAt(I)LProofBench$Shelf;
theorem pl_180_0 {n : Nat} {x1 : Int32} {s : ps_S} {Q : Option Value → ps_S → Prop} (h :
  (x1 < 0 →
    Q (some (.ref 870)) s) ∧
  (0 ≤ x1 →
    ((nI 3) ≤ x1 →
      Q (some (.ref 870)) s) ∧
    (x1 < (nI 3) →
      (pm_in x1 3 = true →
        Q (some (.ref (ps_e0 901 (Int32.toNatClampNeg x1)))) s)))) : pl_At (n + 1) 180 0 [(0, .ref 0), (1, .int x1)] [] s Q :=
  pl_wp_at (stops := []) (f := 21) h rfl

-- ProofBench$Rewriter.clear()V
theorem pl_81_0 {n : Nat} {s : ps_S} {Q : Option Value → ps_S → Prop} (h :
  pl_Cl n 91 [.ref 1022] s (ps_rV (fun s1 =>
    Q none s1))) : pl_At (n + 1) 81 0 [(0, .ref 1021)] [] s Q :=
  pl_wp_at (stops := []) (f := 6) h rfl

-- ProofBench$Judge.forget()V
theorem pl_1_0 {n : Nat} {s : ps_S} {Q : Option Value → ps_S → Prop} (h :
  pl_At n 1 2 [(0, .ref 944), (1, .int 0)] [] s Q) : pl_At (n + 1) 1 0 [(0, .ref 944)] [] s Q :=
  pl_wp_at (stops := [(2, [0, 1])]) (f := 4) h rfl

theorem pl_1_2 {n : Nat} {x1 : Int32} {s : ps_S} {Q : Option Value → ps_S → Prop} (h :
  ((nI 192) ≤ x1 →
    Q none s) ∧
  (x1 < (nI 192) →
    (pm_in x1 192 = true →
      pl_At n 1 2 [(0, .ref 944), (1, .int (x1 + 1))] [] (ps_ub s 957 (Int32.toNatClampNeg x1) 0) Q))) : pl_At (n + 1) 1 2 [(0, .ref 944), (1, .int x1)] [] s Q :=
  pl_wp_at (stops := [(2, [0, 1])]) (f := 15) h rfl

-- ProofBench.theory()I
theorem pl_151_0 {n : Nat} {s : ps_S} {Q : Option Value → ps_S → Prop} (h :
  pl_Cl n 58 [.ref 902, .ref 1, .int (ps_i s 0 1), .ref (ps_r s 0 3)] s (ps_rI (fun v1 s1 =>
    (v1 ≠ 0 →
      pl_Cl n 31 [.ref (ps_r (ps_ur (ps_ur (ps_ui s1 0 1 0) 0 2 (ps_r (ps_ui s1 0 1 0) 0 3)) 0 3 (ps_r (ps_ui s1 0 1 0) 0 2)) 0 4)] (ps_ur (ps_ur (ps_ui s1 0 1 0) 0 2 (ps_r (ps_ui s1 0 1 0) 0 3)) 0 3 (ps_r (ps_ui s1 0 1 0) 0 2)) (ps_rV (fun s2 =>
        pl_Cl n 108 [.ref 870] s2 (ps_rV (fun s3 =>
          pl_At n 151 65 [(0, .ref 0), (3, .int 0)] [] s3 Q))))) ∧
    (v1 = 0 →
      Q (some (.int (-1))) (ps_ui s1 0 1 0))))) : pl_At (n + 1) 151 0 [(0, .ref 0)] [] s Q :=
  pl_wp_at (stops := [(65, [0, 3])]) (f := 37) h rfl

theorem pl_151_65 {n : Nat} {x3 : Int32} {s : ps_S} {Q : Option Value → ps_S → Prop} (h :
  ((nI 3) ≤ x3 →
    pl_Cl n 91 [.ref 934] s (ps_rV (fun s1 =>
      pl_Cl n 81 [.ref 1021] s1 (ps_rV (fun s2 =>
        pl_Cl n 1 [.ref 944] s2 (ps_rV (fun s3 =>
          pl_nk (ps_is (ps_r s3 0 2) 9) (Q (some (.int (ps_i s3 (ps_r s3 0 2) 8))) s3)))))))) ∧
  (x3 < (nI 3) →
    pl_Cl n 180 [.ref 0, .int x3] s (ps_rA (fun v4 s4 =>
      pl_Cl n 108 [.ref v4] s4 (ps_rV (fun s5 =>
        pl_At n 151 65 [(0, .ref 0), (3, .int (x3 + 1))] [] s5 Q)))))) : pl_At (n + 1) 151 65 [(0, .ref 0), (3, .int x3)] [] s Q :=
  pl_wp_at (stops := [(65, [0, 3])]) (f := 26) h rfl

def kt (th : Nat) (s s' : ps_S) : Prop := ps_r s' 0 2 = ps_r s 0 2 ∧ ps_i s' th 8 = ps_i s th 8
theorem kt_refl {th : Nat} {s : ps_S} : kt th s s := ⟨rfl, rfl⟩
theorem kt_tr {th : Nat} {s s1 s2 : ps_S} (h : kt th s s1) (g : kt th s1 s2) : kt th s s2 := ⟨g.1.trans h.1, g.2.trans h.2⟩
theorem kt_i {th r c q : Nat} {v : Int32} {s s' : ps_S} (hth : th = 2 ∨ th = 26) (h : ps_is r c = true) (hc : c ≠ 9) (K : kt th s s') : kt th s (ps_ui s' r q v) := by
  have hr : r ≠ th := fun z => by
    subst z
    rcases hth with rfl | rfl
    · exact hc (xis_c h (show ps_is 2 9 = true from rfl))
    · exact hc (xis_c h (show ps_is 26 9 = true from rfl))
  refine ⟨K.1, ?_⟩
  rw [ps_i_ui, if_neg (fun z => hr z.1.symm)]
  exact K.2
theorem fs_31 {n th r : Nat} {s : ps_S} {R : ps_S → Prop} (hth : th = 2 ∨ th = 26) (k : ∀ s', kt th s s' → R s') : pl_Cl n 31 [.ref r] s (ps_rV R) := by
  cases n with
  | zero => exact pl_At_0
  | succ n =>
  show pl_At (n + 1) 31 0 [(0, .ref r)] [] s (ps_rV R)
  refine pl_31_0 ?_
  refine pl_nk_i (fun nk2 => ?_)
  refine pl_nk_i (fun nk7 => ?_)
  refine pl_nk_i (fun nk12 => ?_)
  exact k _ (kt_i hth nk2 (by decide) (kt_i hth nk2 (by decide) (kt_i hth nk2 (by decide) kt_refl)))
theorem fs_108 {n th r : Nat} {s : ps_S} {R : ps_S → Prop} (hth : th = 2 ∨ th = 26) (k : ∀ s', kt th s s' → R s') : pl_Cl n 108 [.ref r] s (ps_rV R) := by
  cases n with
  | zero => exact pl_At_0
  | succ n =>
  show pl_At (n + 1) 108 0 [(0, .ref r)] [] s (ps_rV R)
  refine pl_108_0 ?_
  refine pl_nk_i (fun nk2 => ?_)
  refine pl_nk_i (fun nk7 => ?_)
  exact k _ (kt_i hth nk2 (by decide) (kt_i hth nk2 (by decide) kt_refl))
theorem fs_180 {n : Nat} {x1 : Int32} {s : ps_S} {R : Nat → ps_S → Prop} (k : ∀ v, R v s) : pl_Cl n 180 [.ref 0, .int x1] s (ps_rA R) := by
  cases n with
  | zero => exact pl_At_0
  | succ n =>
  show pl_At (n + 1) 180 0 [(0, .ref 0), (1, .int x1)] [] s (ps_rA R)
  refine pl_180_0 ?_
  refine ⟨fun h1 => ?_, fun h1 => ?_⟩
  · have h1 : x1.toInt < (0 : Int) := xlt h1
    exact k _
  · have h1 : (0 : Int) ≤ x1.toInt := xle h1
    refine ⟨fun h10 => ?_, fun h10 => ?_⟩
    · have h10 : (3 : Int) ≤ x1.toInt := xle h10
      exact k _
    · have h10 : x1.toInt < (3 : Int) := xlt h10
      intro b18
      obtain ⟨b18, c18⟩ := pl_in b18
      exact k _
theorem fs_81 {n th : Nat} {s : ps_S} {R : ps_S → Prop} (hth : th = 2 ∨ th = 26) (k : ∀ s', kt th s s' → R s') : pl_Cl n 81 [.ref 1021] s (ps_rV R) := by
  cases n with
  | zero => exact pl_At_0
  | succ n =>
  show pl_At (n + 1) 81 0 [(0, .ref 1021)] [] s (ps_rV R)
  refine pl_81_0 ?_
  refine fs_91 ?_
  exact k _ (kt_i (c := 5) hth rfl (by decide) (kt_i (c := 5) hth rfl (by decide) kt_refl))
theorem fs_1_2 {th : Nat} {s0 : ps_S} {R : ps_S → Prop} (k : ∀ s', kt th s0 s' → R s') : ∀ (n : Nat) {s : ps_S} {x1 : Int32}, kt th s0 s → pl_At n 1 2 [(0, .ref 944), (1, .int x1)] [] s (ps_rV R)
  | 0, _, _, _ => pl_At_0
  | n + 1, s, x1, K => by
    refine pl_1_2 ?_
    refine ⟨fun h8 => ?_, fun h8 => ?_⟩
    · have h8 : (192 : Int) ≤ x1.toInt := xle h8
      exact k _ K
    · have h8 : x1.toInt < (192 : Int) := xlt h8
      intro b17
      obtain ⟨b17, c17⟩ := pl_in b17
      exact fs_1_2 k n ⟨K.1, K.2⟩
theorem fs_1 {n th : Nat} {s : ps_S} {R : ps_S → Prop} (k : ∀ s', kt th s s' → R s') : pl_Cl n 1 [.ref 944] s (ps_rV R) := by
  cases n with
  | zero => exact pl_At_0
  | succ n =>
  show pl_At (n + 1) 1 0 [(0, .ref 944)] [] s (ps_rV R)
  refine pl_1_0 ?_
  exact fs_1_2 k n kt_refl
theorem fs_151_65 {th : Nat} {a : Int32} {R : Int32 → ps_S → Prop} (hth : th = 2 ∨ th = 26) (k : ∀ s', ps_r s' 0 2 = th → R a s') : ∀ (n : Nat) {s : ps_S} {x3 : Int32}, ps_r s 0 2 = th → ps_i s th 8 = a → pl_At n 151 65 [(0, .ref 0), (3, .int x3)] [] s (ps_rI R)
  | 0, _, _, _, _ => pl_At_0
  | n + 1, s, x3, h2, h8 => by
    refine pl_151_65 ?_
    refine ⟨fun h71 => ?_, fun h71 => ?_⟩
    · have h71 : (3 : Int) ≤ x3.toInt := xle h71
      refine fs_91 ?_
      refine fs_81 hth (fun s99 q99 => ?_)
      refine fs_1 (th := th) (fun s106 q106 => ?_)
      refine pl_nk_i (fun nk113 => ?_)
      have K := kt_tr (kt_tr (kt_i (r := 934) (c := 5) (v := 0) (q := 2) hth rfl (by decide) (kt_i (r := 934) (c := 5) (v := 0) (q := 1) hth rfl (by decide) (kt_refl (s := s)))) q99) q106
      have e2 : ps_r s106 0 2 = th := K.1.trans h2
      rw [e2, K.2.trans h8]
      exact k _ e2
    · have h71 : x3.toInt < (3 : Int) := xlt h71
      refine fs_180 (fun v76 => ?_)
      refine fs_108 hth (fun s79 q79 => ?_)
      exact fs_151_65 hth k n (q79.1.trans h2) (q79.2.trans h8)
theorem fs_151 {n th : Nat} {s : ps_S} {T : Nat → Nat} {N : Nat} {R : Int32 → ps_S → Prop} (hth : th = 2 ∨ th = 26) (h3 : ps_r s 0 3 = th) (hb : cv_base s th) (hx : (ps_i s 0 1).toInt = N) (hN : N ≤ 1600) (hT : ∀ k, k < N → (ps_a s 1 k &&& 255).toInt = T k) (hkw : ∀ (k : Nat) (w : List Nat), tx_keys[k]? = some w → ps_b s 904 k = tx_x w) (k1 : ∀ (v : Int32) (s' : ps_S) (h : tx_H) (p : Nat), gt_go (tx_ln T N) (0, (([], []), []), 0, 0) (3, h, p, 0) → v.toInt = h.2.length → R v s') (k0 : ∀ (s' : ps_S) (h : tx_H) (pl k : Nat), gt_go (tx_ln T N) (0, (([], []), []), 0, 0) (4, h, pl, k) → (ps_i s' 902 9).toInt = k → (ps_i s' 902 10).toInt = pl → R (-1) s') : pl_Cl n 151 [.ref 0] s (ps_rI R) := by
  cases n with
  | zero => exact pl_At_0
  | succ n =>
  show pl_At (n + 1) 151 0 [(0, .ref 0)] [] s (ps_rI R)
  refine pl_151_0 ?_
  rw [h3]
  refine fs_58 hth hb hx hN hT hkw (fun s16 q16 => ?_) (fun s16 q16 => ?_)
  · refine ⟨fun h26 => ?_, fun h26 => ?_⟩
    · refine fs_31 hth (fun s53 q53 => ?_)
      refine fs_108 hth (fun s60 q60 => ?_)
      obtain ⟨h, p, g, L, F⟩ := q16
      have K := kt_tr q53 q60
      have h30 : ps_r s16 0 3 = th := by
        have z := (F 0 (fun z => by unfold cv_HC at z; omega)).2.2.1 3
        rw [z]
        exact h3
      have e2 : ps_r s60 0 2 = th := K.1.trans h30
      exact fs_151_65 hth (fun s' _ => k1 _ s' h p g (by rw [K.2]; show (ps_i (ps_ui s16 0 1 0) th 8).toInt = _; rw [ps_i_ui, if_neg (fun z => absurd z.2 (by decide))]; exact L.2.2.2.1.2.1)) n e2 rfl
    · exact absurd h26 (by decide)
  · refine ⟨fun h26 => ?_, fun h26 => ?_⟩
    · exact absurd h26 (by decide)
    · obtain ⟨h, pl, k, g, e1, e2, -⟩ := q16
      exact k0 _ h pl k g e1 e2

theorem bytes_T {a : Nat → Int32} {k : Nat} : (a k &&& 255).toInt = (((a k &&& 255).toInt.toNat : Nat) : Int) := by
  have h : 0 ≤ (a k &&& 255).toInt := by
    have e : (a k &&& 255).toBitVec.msb = false := by
      rw [Int32.toBitVec_and, BitVec.msb_and]
      have : (255 : Int32).toBitVec.msb = false := by decide
      rw [this, Bool.and_false]
    show 0 ≤ (a k &&& 255).toBitVec.toInt
    rw [BitVec.toInt_eq_msb_cond, e]
    simp
  omega
end
