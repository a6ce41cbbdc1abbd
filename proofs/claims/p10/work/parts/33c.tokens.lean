set_option maxRecDepth 100000
/-! the class's tokens -/
-- ProofBench$Tokens.byteAt(I)I
theorem pl_143_0 {n : Nat} {x1 : Int32} {s : ps_S} {Q : Option Value → ps_S → Prop} (h :
  (x1 < 0 →
    Q (some (.int (-1))) s) ∧
  (0 ≤ x1 →
    ((ps_i s 903 2) ≤ x1 →
      Q (some (.int (-1))) s) ∧
    (x1 < (ps_i s 903 2) →
      pl_nk (Nat.beq (ps_K (ps_r s 903 1)).1 0) (((nI (ps_ln (ps_r s 903 1))) ≤ x1 →
        Q (some (.int (-1))) s) ∧
      (x1 < (nI (ps_ln (ps_r s 903 1))) →
        pl_nk (ps_ar (ps_r s 903 1) 1 || ps_ar (ps_r s 903 1) 2) ((pm_in x1 (ps_ln (ps_r s 903 1)) = true →
          Q (some (.int ((ps_a s (ps_r s 903 1) (Int32.toNatClampNeg x1)) &&& 255))) s))))))) : pl_At (n + 1) 143 0 [(0, .ref 903), (1, .int x1)] [] s Q :=
  pl_wp_at (stops := []) (f := 27) h rfl

-- ProofBench$Tokens.isBlank(I)Z
theorem pl_145_0 {n : Nat} {x0 : Int32} {s : ps_S} {Q : Option Value → ps_S → Prop} (h :
  (x0 = 32 →
    Q (some (.int 1)) s) ∧
  (x0 ≠ 32 →
    (x0 ≠ 10 →
      Q (some (.int 0)) s) ∧
    (x0 = 10 →
      Q (some (.int 1)) s))) : pl_At (n + 1) 145 0 [(0, .int x0)] [] s Q :=
  pl_wp_at (stops := []) (f := 16) h rfl

-- ProofBench$Tokens.isLetter(I)Z
theorem pl_146_0 {n : Nat} {x0 : Int32} {s : ps_S} {Q : Option Value → ps_S → Prop} (h :
  (x0 < 97 →
    Q (some (.int 0)) s) ∧
  (97 ≤ x0 →
    (122 < x0 →
      Q (some (.int 0)) s) ∧
    (x0 ≤ 122 →
      Q (some (.int 1)) s))) : pl_At (n + 1) 146 0 [(0, .int x0)] [] s Q :=
  pl_wp_at (stops := []) (f := 15) h rfl

-- ProofBench$Tokens.isDigit(I)Z
theorem pl_147_0 {n : Nat} {x0 : Int32} {s : ps_S} {Q : Option Value → ps_S → Prop} (h :
  (x0 < 48 →
    Q (some (.int 0)) s) ∧
  (48 ≤ x0 →
    (57 < x0 →
      Q (some (.int 0)) s) ∧
    (x0 ≤ 57 →
      Q (some (.int 1)) s))) : pl_At (n + 1) 147 0 [(0, .int x0)] [] s Q :=
  pl_wp_at (stops := []) (f := 15) h rfl

-- ProofBench$Tokens.withLetter(JI)J
theorem pl_144_0 {n : Nat} {l0 : Int64} {x2 : Int32} {s : ps_S} {Q : Option Value → ps_S → Prop} (h :
  Q (some (.long ((((l0 * (32 : Int64)) + (Int32.toInt64 x2)) - (97 : Int64)) + 1))) s) : pl_At (n + 1) 144 0 [(0, .long l0), (2, .int x2)] [] s Q :=
  pl_wp_at (stops := []) (f := 13) h rfl

theorem fs_143 {n : Nat} {x1 : Int32} {s : ps_S} {R : Int32 → ps_S → Prop} {T : Nat → Nat} {N a : Nat} (H : cv_T s T N) (hx : x1.toInt = a) (k : ∀ v : Int32, v.toInt = (if a < N then (T a : Int) else -1) → R v s) : pl_Cl n 143 [.ref 903, .int x1] s (ps_rI R) := by
  cases n with
  | zero => exact pl_At_0
  | succ n =>
  obtain ⟨H1, H2, H3, H4, H5⟩ := H
  have t16 : (nI (ps_ln (ps_r s 903 1))).toInt = 1600 := by
    rw [H1, ps_ln1]
    decide
  show pl_At (n + 1) 143 0 [(0, .ref 903), (1, .int x1)] [] s (ps_rI R)
  refine pl_143_0 ?_
  refine ⟨fun h1 => ?_, fun h1 => ?_⟩
  · have h1 : x1.toInt < (0 : Int) := xlt h1
    refine k _ ?_
    rw [if_neg (by omega)]
    rfl
  · have h1 : (0 : Int) ≤ x1.toInt := xle h1
    refine ⟨fun h9 => ?_, fun h9 => ?_⟩
    · have h9 : (ps_i s 903 2).toInt ≤ x1.toInt := xle h9
      refine k _ ?_
      rw [if_neg (by omega)]
      rfl
    · have h9 : x1.toInt < (ps_i s 903 2).toInt := xlt h9
      refine pl_nk_i (fun k17 => ?_)
      refine ⟨fun h18 => ?_, fun h18 => ?_⟩
      · have h18 : (nI (ps_ln (ps_r s 903 1))).toInt ≤ x1.toInt := xle h18
        refine k _ ?_
        rw [if_neg (by omega)]
        rfl
      · have h18 : x1.toInt < (nI (ps_ln (ps_r s 903 1))).toInt := xlt h18
        refine pl_nk_i (fun k26 => ?_)
        intro b26
        obtain ⟨b26, c26⟩ := pl_in b26
        rw [H1, xtn hx]
        refine k _ ?_
        rw [if_pos (by omega), H4 a (by omega)]

theorem fs_145 {n : Nat} {x1 : Int32} {s : ps_S} {R : Int32 → ps_S → Prop} (k1 : (x1.toInt = 32 ∨ x1.toInt = 10) → R 1 s) (k0 : ¬((x1.toInt = 32 ∨ x1.toInt = 10)) → R 0 s) : pl_Cl n 145 [.int x1] s (ps_rI R) := by
  cases n with
  | zero => exact pl_At_0
  | succ n =>
  show pl_At (n + 1) 145 0 [(0, .int x1)] [] s (ps_rI R)
  refine pl_145_0 ?_
  refine ⟨fun h3 => ?_, fun h3 => ?_⟩
  · have h3 : x1.toInt = (32 : Int) := xeq h3
    exact k1 (by omega)
  · have h3 : x1.toInt ≠ (32 : Int) := xne h3
    refine ⟨fun h9 => ?_, fun h9 => ?_⟩
    · have h9 : x1.toInt ≠ (10 : Int) := xne h9
      exact k0 (by omega)
    · have h9 : x1.toInt = (10 : Int) := xeq h9
      exact k1 (by omega)

theorem fs_146 {n : Nat} {x1 : Int32} {s : ps_S} {R : Int32 → ps_S → Prop} (k1 : (97 ≤ x1.toInt ∧ x1.toInt ≤ 122) → R 1 s) (k0 : ¬((97 ≤ x1.toInt ∧ x1.toInt ≤ 122)) → R 0 s) : pl_Cl n 146 [.int x1] s (ps_rI R) := by
  cases n with
  | zero => exact pl_At_0
  | succ n =>
  show pl_At (n + 1) 146 0 [(0, .int x1)] [] s (ps_rI R)
  refine pl_146_0 ?_
  refine ⟨fun h3 => ?_, fun h3 => ?_⟩
  · have h3 : x1.toInt < (97 : Int) := xlt h3
    exact k0 (by omega)
  · have h3 : (97 : Int) ≤ x1.toInt := xle h3
    refine ⟨fun h9 => ?_, fun h9 => ?_⟩
    · have h9 : (122 : Int) < x1.toInt := xlt h9
      exact k0 (by omega)
    · have h9 : x1.toInt ≤ (122 : Int) := xle h9
      exact k1 (by omega)

theorem fs_147 {n : Nat} {x1 : Int32} {s : ps_S} {R : Int32 → ps_S → Prop} (k1 : (48 ≤ x1.toInt ∧ x1.toInt ≤ 57) → R 1 s) (k0 : ¬((48 ≤ x1.toInt ∧ x1.toInt ≤ 57)) → R 0 s) : pl_Cl n 147 [.int x1] s (ps_rI R) := by
  cases n with
  | zero => exact pl_At_0
  | succ n =>
  show pl_At (n + 1) 147 0 [(0, .int x1)] [] s (ps_rI R)
  refine pl_147_0 ?_
  refine ⟨fun h3 => ?_, fun h3 => ?_⟩
  · have h3 : x1.toInt < (48 : Int) := xlt h3
    exact k0 (by omega)
  · have h3 : (48 : Int) ≤ x1.toInt := xle h3
    refine ⟨fun h9 => ?_, fun h9 => ?_⟩
    · have h9 : (57 : Int) < x1.toInt := xlt h9
      exact k0 (by omega)
    · have h9 : x1.toInt ≤ (57 : Int) := xle h9
      exact k1 (by omega)

theorem fs_144 {n : Nat} {l0 : Int64} {x2 : Int32} {s : ps_S} {R : Int64 → ps_S → Prop} (k : R ((((l0 * (32 : Int64)) + (Int32.toInt64 x2)) - (97 : Int64)) + 1) s) : pl_Cl n 144 [.long l0, .int x2] s (ps_rJ R) := by
  cases n with
  | zero => exact pl_At_0
  | succ n =>
  show pl_At (n + 1) 144 0 [(0, .long l0), (2, .int x2)] [] s (ps_rJ R)
  exact pl_144_0 k

-- ProofBench$Tokens.takeDigits()V
theorem pl_142_0 {n : Nat} {s : ps_S} {Q : Option Value → ps_S → Prop} (h :
  pl_At n 142 10 [(0, .ref 903), (1, .int (ps_i s 903 5))] [] (ps_ui s 903 7 0) Q) : pl_At (n + 1) 142 0 [(0, .ref 903)] [] s Q :=
  pl_wp_at (stops := [(10, [0, 1]), (55, [0, 1])]) (f := 8) h rfl

theorem pl_142_10 {n : Nat} {x1 : Int32} {s : ps_S} {Q : Option Value → ps_S → Prop} (h :
  ((ps_i s 903 2) ≤ x1 →
    pl_At n 142 55 [(0, .ref 903), (1, .int x1)] [] s Q) ∧
  (x1 < (ps_i s 903 2) →
    pl_Cl n 143 [.ref 903, .int x1] s (ps_rI (fun v1 s1 =>
      pl_Cl n 147 [.int v1] s1 (ps_rI (fun v2 s2 =>
        (v2 = 0 →
          pl_At n 142 55 [(0, .ref 903), (1, .int x1)] [] s2 Q) ∧
        (v2 ≠ 0 →
          pl_Cl n 143 [.ref 903, .int x1] s2 (ps_rI (fun v3 s3 =>
            pl_At n 142 10 [(0, .ref 903), (1, .int (x1 + 1))] [] (ps_ui s3 903 7 ((((ps_i s2 903 7) * 10) + v3) - 48)) Q))))))))) : pl_At (n + 1) 142 10 [(0, .ref 903), (1, .int x1)] [] s Q :=
  pl_wp_at (stops := [(10, [0, 1]), (55, [0, 1])]) (f := 25) h rfl

theorem pl_142_55 {n : Nat} {x1 : Int32} {s : ps_S} {Q : Option Value → ps_S → Prop} (h :
  (4 < (x1 - (ps_i (ps_ui s 903 3 x1) 903 5)) →
    Q none (ps_ui (ps_ui s 903 3 x1) 903 4 1)) ∧
  ((x1 - (ps_i (ps_ui s 903 3 x1) 903 5)) ≤ 4 →
    pl_Cl n 143 [.ref 903, .int x1] (ps_ui s 903 3 x1) (ps_rI (fun v1 s1 =>
      pl_Cl n 146 [.int v1] s1 (ps_rI (fun v2 s2 =>
        (v2 = 0 →
          Q none (ps_ui s2 903 4 4)) ∧
        (v2 ≠ 0 →
          Q none (ps_ui s2 903 4 1)))))))) : pl_At (n + 1) 142 55 [(0, .ref 903), (1, .int x1)] [] s Q :=
  pl_wp_at (stops := [(10, [0, 1]), (55, [0, 1])]) (f := 28) h rfl

-- ProofBench$Tokens.takeWord()V
theorem pl_141_0 {n : Nat} {s : ps_S} {Q : Option Value → ps_S → Prop} (h :
  pl_At n 141 10 [(0, .ref 903), (1, .int (ps_i s 903 5))] [] (ps_uj s 903 8 0) Q) : pl_At (n + 1) 141 0 [(0, .ref 903)] [] s Q :=
  pl_wp_at (stops := [(10, [0, 1]), (51, [0, 1]), (78, [0, 2])]) (f := 8) h rfl

theorem pl_141_10 {n : Nat} {x1 : Int32} {s : ps_S} {Q : Option Value → ps_S → Prop} (h :
  ((ps_i s 903 2) ≤ x1 →
    pl_At n 141 51 [(0, .ref 903), (1, .int x1)] [] s Q) ∧
  (x1 < (ps_i s 903 2) →
    pl_Cl n 143 [.ref 903, .int x1] s (ps_rI (fun v1 s1 =>
      pl_Cl n 146 [.int v1] s1 (ps_rI (fun v2 s2 =>
        (v2 = 0 →
          pl_At n 141 51 [(0, .ref 903), (1, .int x1)] [] s2 Q) ∧
        (v2 ≠ 0 →
          pl_Cl n 143 [.ref 903, .int x1] s2 (ps_rI (fun v3 s3 =>
            pl_Cl n 144 [.long (ps_j s2 903 8), .int v3] s3 (ps_rJ (fun v4 s4 =>
              pl_At n 141 10 [(0, .ref 903), (1, .int (x1 + 1))] [] (ps_uj s4 903 8 v4) Q))))))))))) : pl_At (n + 1) 141 10 [(0, .ref 903), (1, .int x1)] [] s Q :=
  pl_wp_at (stops := [(10, [0, 1]), (51, [0, 1]), (78, [0, 2])]) (f := 21) h rfl

theorem pl_141_51 {n : Nat} {x1 : Int32} {s : ps_S} {Q : Option Value → ps_S → Prop} (h :
  ((x1 - (ps_i (ps_ui s 903 3 x1) 903 5)) ≤ 8 →
    pl_At n 141 78 [(0, .ref 903), (2, .int 0)] [] (ps_ui (ps_ui s 903 3 x1) 903 4 2) Q) ∧
  (8 < (x1 - (ps_i (ps_ui s 903 3 x1) 903 5)) →
    pl_At n 141 78 [(0, .ref 903), (2, .int 0)] [] (ps_ui (ps_ui s 903 3 x1) 903 4 1) Q)) : pl_At (n + 1) 141 51 [(0, .ref 903), (1, .int x1)] [] s Q :=
  pl_wp_at (stops := [(10, [0, 1]), (51, [0, 1]), (78, [0, 2])]) (f := 21) h rfl

theorem pl_141_78 {n : Nat} {x2 : Int32} {s : ps_S} {Q : Option Value → ps_S → Prop} (h :
  ((nI 28) ≤ x2 →
    Q none s) ∧
  (x2 < (nI 28) →
    ((ps_i s 903 4) ≠ 2 →
      Q none s) ∧
    ((ps_i s 903 4) = 2 →
      (pm_in x2 28 = true →
        ((lg_cmp (ps_b s 904 (Int32.toNatClampNeg x2)) (ps_j s 903 8)) ≠ 0 →
          pl_At n 141 78 [(0, .ref 903), (2, .int (x2 + 1))] [] s Q) ∧
        ((lg_cmp (ps_b s 904 (Int32.toNatClampNeg x2)) (ps_j s 903 8)) = 0 →
          pl_At n 141 78 [(0, .ref 903), (2, .int (x2 + 1))] [] (ps_ui (ps_ui s 903 4 3) 903 6 x2) Q))))) : pl_At (n + 1) 141 78 [(0, .ref 903), (2, .int x2)] [] s Q :=
  pl_wp_at (stops := [(10, [0, 1]), (51, [0, 1]), (78, [0, 2])]) (f := 31) h rfl

-- ProofBench$Tokens.advance()V
theorem pl_140_0 {n : Nat} {s : ps_S} {Q : Option Value → ps_S → Prop} (h :
  pl_At n 140 5 [(0, .ref 903), (1, .int (ps_i s 903 3))] [] s Q) : pl_At (n + 1) 140 0 [(0, .ref 903)] [] s Q :=
  pl_wp_at (stops := [(5, [0, 1]), (30, [0, 1])]) (f := 5) h rfl

theorem pl_140_5 {n : Nat} {x1 : Int32} {s : ps_S} {Q : Option Value → ps_S → Prop} (h :
  ((ps_i s 903 2) ≤ x1 →
    pl_At n 140 30 [(0, .ref 903), (1, .int x1)] [] s Q) ∧
  (x1 < (ps_i s 903 2) →
    pl_Cl n 143 [.ref 903, .int x1] s (ps_rI (fun v1 s1 =>
      pl_Cl n 145 [.int v1] s1 (ps_rI (fun v2 s2 =>
        (v2 = 0 →
          pl_At n 140 30 [(0, .ref 903), (1, .int x1)] [] s2 Q) ∧
        (v2 ≠ 0 →
          pl_At n 140 5 [(0, .ref 903), (1, .int (x1 + 1))] [] s2 Q))))))) : pl_At (n + 1) 140 5 [(0, .ref 903), (1, .int x1)] [] s Q :=
  pl_wp_at (stops := [(5, [0, 1]), (30, [0, 1])]) (f := 13) h rfl

theorem pl_140_30 {n : Nat} {x1 : Int32} {s : ps_S} {Q : Option Value → ps_S → Prop} (h :
  pl_Cl n 143 [.ref 903, .int x1] (ps_ui (ps_ui s 903 5 x1) 903 6 (-1)) (ps_rI (fun v1 s1 =>
    (x1 < (ps_i s1 903 2) →
      pl_Cl n 146 [.int v1] s1 (ps_rI (fun v2 s2 =>
        (v2 = 0 →
          pl_Cl n 147 [.int v1] s2 (ps_rI (fun v3 s3 =>
            (v3 = 0 →
              (v1 ≠ 59 →
                Q none (ps_ui (ps_ui s3 903 4 1) 903 3 (x1 + 1))) ∧
              (v1 = 59 →
                Q none (ps_ui (ps_ui s3 903 4 5) 903 3 (x1 + 1)))) ∧
            (v3 ≠ 0 →
              pl_Cl n 142 [.ref 903] s3 (ps_rV (fun s4 =>
                Q none s4)))))) ∧
        (v2 ≠ 0 →
          pl_Cl n 141 [.ref 903] s2 (ps_rV (fun s5 =>
            Q none s5)))))) ∧
    ((ps_i s1 903 2) ≤ x1 →
      Q none (ps_ui (ps_ui s1 903 4 0) 903 3 x1))))) : pl_At (n + 1) 140 30 [(0, .ref 903), (1, .int x1)] [] s Q :=
  pl_wp_at (stops := [(5, [0, 1]), (30, [0, 1])]) (f := 59) h rfl

/-- behind takeDigits -/
def cv_D (T : Nat → Nat) (N a : Nat) (s0 s' : ps_S) : Prop := cv_fl s0 s' ∧ (ps_i s' 903 5).toInt = a ∧ ps_i s' 903 6 = ps_i s0 903 6 ∧ (ps_i s' 903 3).toInt = (tx_to tx_D T N a : Nat) ∧ (if 4 < tx_to tx_D T N a - a ∨ (tx_to tx_D T N a < N ∧ tx_L (T (tx_to tx_D T N a)) = true) then (ps_i s' 903 4).toInt = 1 else (ps_i s' 903 4).toInt = 4 ∧ (ps_i s' 903 7).toInt = (tx_dec T a (tx_to tx_D T N a - a) : Nat))
theorem fs_142_55 {n : Nat} {x1 : Int32} {s0 s : ps_S} {R : ps_S → Prop} {T : Nat → Nat} {N a b : Nat} (H : cv_T s0 T N) (F : cv_fl s0 s) (hp : (ps_i s 903 5).toInt = a) (h6 : ps_i s 903 6 = ps_i s0 903 6) (hx : x1.toInt = b) (hb : tx_to tx_D T N a = b) (hab : a ≤ b) (hbN : b ≤ N) (hall : ∀ j, a ≤ j → j < b → tx_D (T j) = true) (hnum : ps_i s 903 7 = Int32.ofNat (tx_dec T a (b - a))) (k : ∀ s', cv_D T N a s0 s' → R s') : pl_At n 142 55 [(0, .ref 903), (1, .int x1)] [] s (ps_rV R) := by
  cases n with
  | zero => exact pl_At_0
  | succ n =>
  have HT : cv_T (ps_ui s 903 3 x1) T N := cv_T_fl H (cv_fl_i F (by decide))
  have hN := H.2.2.1
  have e1 : (x1 - (ps_i (ps_ui s 903 3 x1) 903 5)).toInt = (b : Int) - a := by
    show (x1 - ps_i s 903 5).toInt = _
    rw [xIs (by omega) (by omega), hx, hp]
  have done1 : (4 < b - a ∨ (b < N ∧ tx_L (T b) = true)) → cv_D T N a s0 (ps_ui (ps_ui s 903 3 x1) 903 4 1) := fun hc => by
    refine ⟨cv_fl_i (cv_fl_i F (by decide)) (by decide), hp, h6, by rw [hb]; exact hx, ?_⟩
    rw [hb, if_pos hc]
    rfl
  have done4 : ¬ (4 < b - a ∨ (b < N ∧ tx_L (T b) = true)) → cv_D T N a s0 (ps_ui (ps_ui s 903 3 x1) 903 4 4) := fun hc => by
    refine ⟨cv_fl_i (cv_fl_i F (by decide)) (by decide), hp, h6, by rw [hb]; exact hx, ?_⟩
    rw [hb, if_neg hc]
    refine ⟨rfl, ?_⟩
    show (ps_i s 903 7).toInt = _
    rw [hnum]
    have hd := tx_dec_lt (T := T) (a := a) (k := b - a) (fun j hj => hall (a + j) (by omega) (by omega))
    have h4 : 10 ^ (b - a) ≤ 10 ^ 4 := Nat.pow_le_pow_right (by decide) (by omega)
    exact nI_i (show tx_dec T a (b - a) < 2147483648 by omega)
  refine pl_142_55 ?_
  refine ⟨fun h68 => ?_, fun h68 => ?_⟩
  · have h68 : (4 : Int) < (x1 - (ps_i (ps_ui s 903 3 x1) 903 5)).toInt := xlt h68
    exact k _ (done1 (Or.inl (by omega)))
  · have h68 : (x1 - (ps_i (ps_ui s 903 3 x1) 903 5)).toInt ≤ (4 : Int) := xle h68
    refine fs_143 HT (a := b) hx (fun v73 q73 => ?_)
    refine fs_146 (fun q76 => ?_) (fun q76 => ?_)
    · have hbl : b < N := by
        refine Nat.lt_of_not_le (fun z => ?_)
        rw [if_neg (by omega)] at q73
        omega
      refine ⟨fun h79 => ?_, fun h79 => ?_⟩
      · exact absurd h79 (by decide)
      · rw [if_pos hbl] at q73
        exact k _ (done1 (Or.inr ⟨hbl, tx_L_c.mpr (by omega)⟩))
    · refine ⟨fun h79 => ?_, fun h79 => ?_⟩
      · exact k _ (done4 (fun z => by
          rcases z with z | ⟨z1, z2⟩
          · omega
          · have := tx_L_c.mp z2
            rw [if_pos z1] at q73
            omega))
      · exact absurd h79 (by decide)

theorem fs_142_10 {T : Nat → Nat} {N a : Nat} {s0 : ps_S} {R : ps_S → Prop} (H : cv_T s0 T N) (k : ∀ s', cv_D T N a s0 s' → R s') : ∀ (n : Nat) {x1 : Int32} {s : ps_S} {b : Nat}, cv_fl s0 s → (ps_i s 903 5).toInt = a → ps_i s 903 6 = ps_i s0 903 6 → x1.toInt = b → a ≤ b → b ≤ N → (∀ j, a ≤ j → j < b → j < N ∧ tx_D (T j) = true) → ps_i s 903 7 = Int32.ofNat (tx_dec T a (b - a)) → pl_At n 142 10 [(0, .ref 903), (1, .int x1)] [] s (ps_rV R)
  | 0, _, _, _, _, _, _, _, _, _, _, _ => pl_At_0
  | n + 1, x1, s, b, F, hp, h6, hx, hab, hbN, hall, hnum => by
    have HT : cv_T s T N := cv_T_fl H F
    have hN := H.2.2.1
    have hsz : (ps_i s 903 2).toInt = N := HT.2.1
    refine pl_142_10 ?_
    refine ⟨fun h15 => ?_, fun h15 => ?_⟩
    · have h15 : (ps_i s 903 2).toInt ≤ x1.toInt := xle h15
      exact fs_142_55 H F hp h6 hx (tx_to_is hab hall (Or.inl (by omega))) hab hbN (fun j h1 h2 => (hall j h1 h2).2) hnum k
    · have h15 : x1.toInt < (ps_i s 903 2).toInt := xlt h15
      have hbl : b < N := by omega
      refine fs_143 HT (a := b) hx (fun v20 q20 => ?_)
      rw [if_pos hbl] at q20
      refine fs_147 (fun q23 => ?_) (fun q23 => ?_)
      · refine ⟨fun h26 => ?_, fun h26 => ?_⟩
        · exact absurd h26 (by decide)
        · refine fs_143 HT (a := b) hx (fun v39 q39 => ?_)
          rw [if_pos hbl] at q39
          refine fs_142_10 H k n (cv_fl_i F (by decide)) hp h6 (xj1 hx (by omega)) (by omega) (by omega) (fun j h1 h2 => ?_) ?_
          · by_cases e : j = b
            · rw [e]
              exact ⟨by omega, tx_D_c.mpr (by omega)⟩
            · exact hall j h1 (by omega)
          · rw [show b + 1 - a = (b - a) + 1 from by omega]
            show ((ps_i s 903 7) * 10 + v39) - 48 = Int32.ofNat (tx_dec T a (b - a) * 10 + (T (a + (b - a)) - 48))
            rw [show a + (b - a) = b from by omega]
            exact xdg hnum q39 (by omega)
      · refine ⟨fun h26 => ?_, fun h26 => ?_⟩
        · exact fs_142_55 H F hp h6 hx (tx_to_is hab hall (Or.inr (by
            rw [Bool.eq_false_iff]
            intro z
            have := tx_D_c.mp z
            omega))) hab hbN (fun j h1 h2 => (hall j h1 h2).2) hnum k
        · exact absurd h26 (by decide)
theorem fs_142 {n : Nat} {T : Nat → Nat} {N a : Nat} {s : ps_S} {R : ps_S → Prop} (H : cv_T s T N) (hp : (ps_i s 903 5).toInt = a) (ha : a ≤ N) (k : ∀ s', cv_D T N a s s' → R s') : pl_Cl n 142 [.ref 903] s (ps_rV R) := by
  cases n with
  | zero => exact pl_At_0
  | succ n =>
  show pl_At (n + 1) 142 0 [(0, .ref 903)] [] s (ps_rV R)
  refine pl_142_0 ?_
  refine fs_142_10 H k n (cv_fl_i cv_fl_refl (by decide)) hp rfl hp (Nat.le_refl _) ha (fun j h1 h2 => by omega) ?_
  rw [Nat.sub_self]
  rfl

/-- behind takeWord -/
def cv_O (T : Nat → Nat) (N a : Nat) (s0 s' : ps_S) : Prop := cv_fl s0 s' ∧ (ps_i s' 903 5).toInt = a ∧ (ps_i s' 903 3).toInt = (tx_to tx_L T N a : Nat) ∧ (if 8 < tx_to tx_L T N a - a then (ps_i s' 903 4).toInt = 1 ∧ (ps_i s' 903 6).toInt = -1 else match tx_at tx_keys (tx_wd T a (tx_to tx_L T N a - a)) with
  | some k => (ps_i s' 903 4).toInt = 3 ∧ (ps_i s' 903 6).toInt = k
  | none => (ps_i s' 903 4).toInt = 2 ∧ (ps_i s' 903 6).toInt = -1 ∧ ps_j s' 903 8 = tx_x (tx_wd T a (tx_to tx_L T N a - a)))
theorem fs_141_78 {T : Nat → Nat} {N a e : Nat} {s0 : ps_S} {R : ps_S → Prop} (H : cv_T s0 T N) (he : tx_to tx_L T N a = e) (hw : e - a ≤ 8 → tx_w (tx_wd T a (e - a))) (k : ∀ s', cv_O T N a s0 s' → R s') : ∀ (n : Nat) {x2 : Int32} {s : ps_S} {i : Nat}, cv_fl s0 s → (ps_i s 903 5).toInt = a → (ps_i s 903 3).toInt = e → ps_j s 903 8 = tx_x (tx_wd T a (e - a)) → x2.toInt = i → i ≤ 28 →
    ((8 < e - a ∧ (ps_i s 903 4).toInt = 1 ∧ (ps_i s 903 6).toInt = -1) ∨ (e - a ≤ 8 ∧ (ps_i s 903 4).toInt = 2 ∧ (ps_i s 903 6).toInt = -1 ∧ ∀ j, j < i → tx_keys[j]? ≠ some (tx_wd T a (e - a))) ∨ (e - a ≤ 8 ∧ (ps_i s 903 4).toInt = 3 ∧ ∃ q, tx_at tx_keys (tx_wd T a (e - a)) = some q ∧ (ps_i s 903 6).toInt = q)) → pl_At n 141 78 [(0, .ref 903), (2, .int x2)] [] s (ps_rV R)
  | 0, _, _, _, _, _, _, _, _, _, _ => pl_At_0
  | n + 1, x2, s, i, F, hp, h3, h8, hx, hi, hc => by
    have hl : tx_keys.length = 28 := by decide
    have hN := H.2.2.1
    have fin : (i = 28 ∨ (ps_i s 903 4).toInt ≠ 2) → cv_O T N a s0 s := fun z => by
      refine ⟨F, hp, by rw [he]; exact h3, ?_⟩
      rw [he]
      rcases hc with ⟨c1, c2, c3⟩ | ⟨c1, c2, c3, c4⟩ | ⟨c1, c2, q, c3, c4⟩
      · rw [if_pos c1]
        exact ⟨c2, c3⟩
      · rw [if_neg (by omega), tx_at_no (fun j hj => c4 j (by omega))]
        exact ⟨c2, c3, h8⟩
      · rw [if_neg (by omega), c3]
        exact ⟨c2, c4⟩
    refine pl_141_78 ?_
    refine ⟨fun h84 => ?_, fun h84 => ?_⟩
    · have h84 : (28 : Int) ≤ x2.toInt := xle h84
      exact k _ (fin (by omega))
    · have h84 : x2.toInt < (28 : Int) := xlt h84
      refine ⟨fun h92 => ?_, fun h92 => ?_⟩
      · have h92 : (ps_i s 903 4).toInt ≠ (2 : Int) := xne h92
        exact k _ (fin (Or.inr h92))
      · have h92 : (ps_i s 903 4).toInt = (2 : Int) := xeq h92
        intro b100
        obtain ⟨b100, c100⟩ := pl_in b100
        have c1 : e - a ≤ 8 ∧ (ps_i s 903 4).toInt = 2 ∧ (ps_i s 903 6).toInt = -1 ∧ ∀ j, j < i → tx_keys[j]? ≠ some (tx_wd T a (e - a)) := by
          rcases hc with ⟨c1, c2, c3⟩ | c | ⟨c1, c2, q, c3, c4⟩
          · omega
          · exact c
          · omega
        obtain ⟨c1, c2, c3, c4⟩ := c1
        obtain ⟨w0, hg1, hg2⟩ := tx_keys_get (i := i) (by omega)
        have hkey : ps_b s 904 i = tx_x w0 := (cv_T_fl H F).2.2.2.2 i w0 hg1
        refine ⟨fun h106 => ?_, fun h106 => ?_⟩
        · have h106 := lg_nz h106
          refine fs_141_78 H he hw k n F hp h3 h8 (xj1 hx (by omega)) (by omega) (Or.inr (Or.inl ⟨c1, c2, c3, fun j hj => ?_⟩))
          by_cases ej : j = i
          · rw [ej]
            intro z
            rw [hg1] at z
            cases z
            exact h106 (by rw [xtn hx, hkey, h8])
          · exact c4 j (by omega)
        · have h106 := lg_z h106
          refine fs_141_78 H he hw k n (cv_fl_i (cv_fl_i F (by decide)) (by decide)) hp h3 h8 (xj1 hx (by omega)) (by omega) (Or.inr (Or.inr ⟨c1, rfl, i, tx_at_is ?_ c4, hx⟩))
          rw [xtn hx, hkey, h8] at h106
          rw [hg1, tx_x_inj hg2 (hw c1) h106]
theorem fs_141_10 {T : Nat → Nat} {N a : Nat} {s0 : ps_S} {R : ps_S → Prop} (H : cv_T s0 T N) (h0 : (ps_i s0 903 6).toInt = -1) (k : ∀ s', cv_O T N a s0 s' → R s') : ∀ (n : Nat) {x1 : Int32} {s : ps_S} {b : Nat}, cv_fl s0 s → (ps_i s 903 5).toInt = a → (ps_i s 903 6).toInt = -1 → x1.toInt = b → a ≤ b → b ≤ N → (∀ j, a ≤ j → j < b → j < N ∧ tx_L (T j) = true) → ps_j s 903 8 = tx_x (tx_wd T a (b - a)) → pl_At n 141 10 [(0, .ref 903), (1, .int x1)] [] s (ps_rV R)
  | 0, _, _, _, _, _, _, _, _, _, _, _ => pl_At_0
  | n + 1, x1, s, b, F, hp, h6, hx, hab, hbN, hall, hnum => by
    have HT : cv_T s T N := cv_T_fl H F
    have hN := H.2.2.1
    have hsz : (ps_i s 903 2).toInt = N := HT.2.1
    have stop : tx_to tx_L T N a = b → pl_At n 141 51 [(0, .ref 903), (1, .int x1)] [] s (ps_rV R) := fun hb => by
      cases n with
      | zero => exact pl_At_0
      | succ n =>
      have e1 : (x1 - (ps_i (ps_ui s 903 3 x1) 903 5)).toInt = (b : Int) - a := by
        show (x1 - ps_i s 903 5).toInt = _
        rw [xIs (by omega) (by omega), hx, hp]
      have hw : b - a ≤ 8 → tx_w (tx_wd T a (b - a)) := fun z => tx_wd_w (fun j hj => (hall (a + j) (by omega) (by omega)).2) z
      refine pl_141_51 ?_
      refine ⟨fun h65 => ?_, fun h65 => ?_⟩
      · have h65 : (x1 - (ps_i (ps_ui s 903 3 x1) 903 5)).toInt ≤ (8 : Int) := xle h65
        exact fs_141_78 H hb hw k n (i := 0) (cv_fl_i (cv_fl_i F (by decide)) (by decide)) hp hx hnum rfl (by decide) (Or.inr (Or.inl ⟨by omega, rfl, h6, fun j hj => by omega⟩))
      · have h65 : (8 : Int) < (x1 - (ps_i (ps_ui s 903 3 x1) 903 5)).toInt := xlt h65
        exact fs_141_78 H hb hw k n (i := 0) (cv_fl_i (cv_fl_i F (by decide)) (by decide)) hp hx hnum rfl (by decide) (Or.inl ⟨by omega, rfl, h6⟩)
    refine pl_141_10 ?_
    refine ⟨fun h15 => ?_, fun h15 => ?_⟩
    · have h15 : (ps_i s 903 2).toInt ≤ x1.toInt := xle h15
      exact stop (tx_to_is hab hall (Or.inl (by omega)))
    · have h15 : x1.toInt < (ps_i s 903 2).toInt := xlt h15
      have hbl : b < N := by omega
      refine fs_143 HT (a := b) hx (fun v20 q20 => ?_)
      rw [if_pos hbl] at q20
      refine fs_146 (fun q23 => ?_) (fun q23 => ?_)
      · refine ⟨fun h26 => ?_, fun h26 => ?_⟩
        · exact absurd h26 (by decide)
        · refine fs_143 HT (a := b) hx (fun v36 q36 => ?_)
          rw [if_pos hbl] at q36
          refine fs_144 ?_
          refine fs_141_10 H h0 k n (cv_fl_j F) hp h6 (xj1 hx (by omega)) (by omega) (by omega) (fun j h1 h2 => ?_) ?_
          · by_cases e : j = b
            · rw [e]
              exact ⟨by omega, tx_L_c.mpr (by omega)⟩
            · exact hall j h1 (by omega)
          · rw [show b + 1 - a = (b - a) + 1 from by omega]
            show _ = Int64.ofNat (tx_en 32 96 (tx_wd T a (b - a) ++ [T (a + (b - a))]))
            rw [tx_en_snoc, show a + (b - a) = b from by omega]
            exact xwl hnum q36 (by omega)
      · refine ⟨fun h26 => ?_, fun h26 => ?_⟩
        · exact stop (tx_to_is hab hall (Or.inr (by
            rw [Bool.eq_false_iff]
            intro z
            have := tx_L_c.mp z
            omega)))
        · exact absurd h26 (by decide)
theorem fs_141 {n : Nat} {T : Nat → Nat} {N a : Nat} {s : ps_S} {R : ps_S → Prop} (H : cv_T s T N) (hp : (ps_i s 903 5).toInt = a) (h6 : (ps_i s 903 6).toInt = -1) (ha : a ≤ N) (k : ∀ s', cv_O T N a s s' → R s') : pl_Cl n 141 [.ref 903] s (ps_rV R) := by
  cases n with
  | zero => exact pl_At_0
  | succ n =>
  show pl_At (n + 1) 141 0 [(0, .ref 903)] [] s (ps_rV R)
  refine pl_141_0 ?_
  refine fs_141_10 H h6 k n (cv_fl_j cv_fl_refl) hp h6 hp (Nat.le_refl _) ha (fun j h1 h2 => by omega) ?_
  rw [Nat.sub_self]
  rfl

/-- the token at p stands -/
def cv_A (T : Nat → Nat) (N p : Nat) (s s' : ps_S) : Prop := cv_fl s s' ∧ cv_K s' (tx_tok T N p)
theorem fs_140_30 {n : Nat} {T : Nat → Nat} {N p a : Nat} {s : ps_S} {R : ps_S → Prop} {x1 : Int32} (H : cv_T s T N) (hx : x1.toInt = a) (ha : tx_to tx_B T N p = a) (haN : a ≤ N) (k : ∀ s', cv_A T N p s s' → R s') : pl_At n 140 30 [(0, .ref 903), (1, .int x1)] [] s (ps_rV R) := by
  cases n with
  | zero => exact pl_At_0
  | succ n =>
  have HT : cv_T (ps_ui (ps_ui s 903 5 x1) 903 6 (-1)) T N := cv_T_fl H (cv_fl_i (cv_fl_i cv_fl_refl (by decide)) (by decide))
  have F2 : cv_fl s (ps_ui (ps_ui s 903 5 x1) 903 6 (-1)) := cv_fl_i (cv_fl_i cv_fl_refl (by decide)) (by decide)
  have hN := H.2.2.1
  have hsz : (ps_i (ps_ui (ps_ui s 903 5 x1) 903 6 (-1)) 903 2).toInt = N := HT.2.1
  refine pl_140_30 ?_
  refine fs_143 HT (a := a) hx (fun v42 q42 => ?_)
  refine ⟨fun h51 => ?_, fun h51 => ?_⟩
  · have h51 : x1.toInt < (ps_i (ps_ui (ps_ui s 903 5 x1) 903 6 (-1)) 903 2).toInt := xlt h51
    have hbl : a < N := by omega
    rw [if_pos hbl] at q42
    refine fs_146 (fun q68 => ?_) (fun q68 => ?_)
    · have hL : tx_L (T a) = true := tx_L_c.mpr (by omega)
      refine ⟨fun h71 => ?_, fun h71 => ?_⟩
      · exact absurd h71 (by decide)
      · refine fs_141 HT (a := a) hx (by show (-1 : Int32).toInt = -1; decide) haN (fun s75 q75 => ?_)
        refine k _ ⟨cv_fl_tr F2 q75.1, ?_⟩
        obtain ⟨-, o2, o3, o4⟩ := q75
        rw [tx_tok_word ha hbl hL]
        split at o4
        · next c => rw [if_pos c]; exact ⟨o4.1, o2, o3, (fun z => by cases z), o4.2, (fun z => by cases z)⟩
        · next c =>
          rw [if_neg c]
          split at o4
          · next q hq => rw [hq]; exact ⟨o4.1, o2, o3, (fun z => by cases z), o4.2, (fun z => by cases z)⟩
          · next hq => rw [hq]; exact ⟨o4.1, o2, o3, fun _ => o4.2.2, o4.2.1, (fun z => by cases z)⟩
    · have hL : ¬ tx_L (T a) = true := fun z => by
        have := tx_L_c.mp z
        omega
      refine ⟨fun h71 => ?_, fun h71 => ?_⟩
      · refine fs_147 (fun q82 => ?_) (fun q82 => ?_)
        · have hD : tx_D (T a) = true := tx_D_c.mpr (by omega)
          refine ⟨fun h85 => ?_, fun h85 => ?_⟩
          · exact absurd h85 (by decide)
          · refine fs_142 HT (a := a) hx haN (fun s89 q89 => ?_)
            refine k _ ⟨cv_fl_tr F2 q89.1, ?_⟩
            obtain ⟨-, o2, o3, o4, o5⟩ := q89
            rw [tx_tok_num ha hbl hL hD]
            have o6 : (ps_i s89 903 6).toInt = -1 := by rw [o3]; show (-1 : Int32).toInt = -1; decide
            split at o5
            · next c => rw [if_pos c]; exact ⟨o5, o2, o4, (fun z => by cases z), o6, (fun z => by cases z)⟩
            · next c => rw [if_neg c]; exact ⟨o5.1, o2, o4, (fun z => by cases z), o6, fun _ => o5.2⟩
        · have hD : ¬ tx_D (T a) = true := fun z => by
            have := tx_D_c.mp z
            omega
          refine ⟨fun h85 => ?_, fun h85 => ?_⟩
          · refine ⟨fun h99 => ?_, fun h99 => ?_⟩
            · have h99 : v42.toInt ≠ (59 : Int) := xne h99
              refine k _ ⟨cv_fl_i (cv_fl_i F2 (by decide)) (by decide), ?_⟩
              rw [tx_tok_sign ha hbl hL hD, if_neg (by omega)]
              exact ⟨rfl, hx, xj1 hx (by omega), (fun z => by cases z), rfl, (fun z => by cases z)⟩
            · have h99 : v42.toInt = (59 : Int) := xeq h99
              refine k _ ⟨cv_fl_i (cv_fl_i F2 (by decide)) (by decide), ?_⟩
              rw [tx_tok_sign ha hbl hL hD, if_pos (by omega)]
              exact ⟨rfl, hx, xj1 hx (by omega), (fun z => by cases z), rfl, (fun z => by cases z)⟩
          · exact absurd h85 (by decide)
      · exact absurd h71 (by decide)
  · have h51 : (ps_i (ps_ui (ps_ui s 903 5 x1) 903 6 (-1)) 903 2).toInt ≤ x1.toInt := xle h51
    refine k _ ⟨cv_fl_i (cv_fl_i F2 (by decide)) (by decide), ?_⟩
    rw [tx_tok_end ha (by omega)]
    exact ⟨rfl, hx, hx, (fun z => by cases z), rfl, (fun z => by cases z)⟩
theorem fs_140_5 {T : Nat → Nat} {N p : Nat} {s : ps_S} {R : ps_S → Prop} (H : cv_T s T N) (k : ∀ s', cv_A T N p s s' → R s') : ∀ (n : Nat) {x1 : Int32} {b : Nat}, x1.toInt = b → p ≤ b → b ≤ N → (∀ j, p ≤ j → j < b → j < N ∧ tx_B (T j) = true) → pl_At n 140 5 [(0, .ref 903), (1, .int x1)] [] s (ps_rV R)
  | 0, _, _, _, _, _, _ => pl_At_0
  | n + 1, x1, b, hx, hab, hbN, hall => by
    have HT := H
    have hN := H.2.2.1
    have hsz : (ps_i s 903 2).toInt = N := HT.2.1
    refine pl_140_5 ?_
    refine ⟨fun h10 => ?_, fun h10 => ?_⟩
    · have h10 : (ps_i s 903 2).toInt ≤ x1.toInt := xle h10
      exact fs_140_30 H hx (tx_to_is hab hall (Or.inl (by omega))) hbN k
    · have h10 : x1.toInt < (ps_i s 903 2).toInt := xlt h10
      have hbl : b < N := by omega
      refine fs_143 HT (a := b) hx (fun v15 q15 => ?_)
      rw [if_pos hbl] at q15
      refine fs_145 (fun q18 => ?_) (fun q18 => ?_)
      · refine ⟨fun h21 => ?_, fun h21 => ?_⟩
        · exact absurd h21 (by decide)
        · refine fs_140_5 H k n (xj1 hx (by omega)) (by omega) (by omega) (fun j h1 h2 => ?_)
          by_cases e : j = b
          · rw [e]
            exact ⟨by omega, tx_B_c.mpr (by omega)⟩
          · exact hall j h1 (by omega)
      · refine ⟨fun h21 => ?_, fun h21 => ?_⟩
        · exact fs_140_30 H hx (tx_to_is hab hall (Or.inr (by
            rw [Bool.eq_false_iff]
            intro z
            have := tx_B_c.mp z
            omega))) hbN k
        · exact absurd h21 (by decide)
theorem fs_140 {n : Nat} {T : Nat → Nat} {N p : Nat} {s : ps_S} {R : ps_S → Prop} (H : cv_T s T N) (hp : (ps_i s 903 3).toInt = p) (hpN : p ≤ N) (k : ∀ s', cv_A T N p s s' → R s') : pl_Cl n 140 [.ref 903] s (ps_rV R) := by
  cases n with
  | zero => exact pl_At_0
  | succ n =>
  show pl_At (n + 1) 140 0 [(0, .ref 903)] [] s (ps_rV R)
  refine pl_140_0 ?_
  exact fs_140_5 H k n hp (Nat.le_refl _) hpN (fun j h1 h2 => by omega)

