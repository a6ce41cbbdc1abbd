set_option maxRecDepth 100000
/-! the class: where the cells of steps and proofs lie; small methods -/
-- ProofBench$Proof.stepAt(I)LProofBench$Step;
theorem pl_33_0 {n : Nat} {r0 : Nat} {x1 : Int32} {s : ps_S} {Q : Option Value → ps_S → Prop} (h :
  (x1 < 0 →
    pl_nk (ps_is r0 2) (Q (some (.ref (ps_c0 r0 1))) s)) ∧
  (0 ≤ x1 →
    pl_nk (ps_is r0 2) (pl_nk (Nat.beq (ps_K (ps_c0 r0 0)).1 0) (((nI (ps_ln (ps_c0 r0 0))) ≤ x1 →
      pl_nk (ps_is r0 2) (Q (some (.ref (ps_c0 r0 1))) s)) ∧
    (x1 < (nI (ps_ln (ps_c0 r0 0))) →
      pl_nk (ps_is r0 2) (pl_nk (ps_ar (ps_c0 r0 0) 4 || ps_ar (ps_c0 r0 0) 5 || ps_ar (ps_c0 r0 0) 6 || ps_ar (ps_c0 r0 0) 7) ((pm_in x1 (ps_ln (ps_c0 r0 0)) = true →
        Q (some (.ref (ps_e0 (ps_c0 r0 0) (Int32.toNatClampNeg x1)))) s)))))))) : pl_At (n + 1) 33 0 [(0, .ref r0), (1, .int x1)] [] s Q :=
  pl_wp_at (stops := []) (f := 21) h rfl

-- ProofBench$Proof.outAt(I)LProofBench$Row;
theorem pl_38_0 {n : Nat} {r0 : Nat} {x1 : Int32} {s : ps_S} {Q : Option Value → ps_S → Prop} (h :
  (x1 < 0 →
    pl_nk (ps_is r0 2) (Q (some (.ref (ps_c0 r0 3))) s)) ∧
  (0 ≤ x1 →
    pl_nk (ps_is r0 2) (pl_nk (Nat.beq (ps_K (ps_c0 r0 2)).1 0) (((nI (ps_ln (ps_c0 r0 2))) ≤ x1 →
      pl_nk (ps_is r0 2) (Q (some (.ref (ps_c0 r0 3))) s)) ∧
    (x1 < (nI (ps_ln (ps_c0 r0 2))) →
      pl_nk (ps_is r0 2) (pl_nk (ps_ar (ps_c0 r0 2) 4 || ps_ar (ps_c0 r0 2) 5 || ps_ar (ps_c0 r0 2) 6 || ps_ar (ps_c0 r0 2) 7) ((pm_in x1 (ps_ln (ps_c0 r0 2)) = true →
        Q (some (.ref (ps_e0 (ps_c0 r0 2) (Int32.toNatClampNeg x1)))) s)))))))) : pl_At (n + 1) 38 0 [(0, .ref r0), (1, .int x1)] [] s Q :=
  pl_wp_at (stops := []) (f := 21) h rfl

-- ProofBench$Proof.premise(LProofBench$Step;I)LProofBench$Step;
theorem pl_37_0 {n : Nat} {r0 : Nat} {r1 : Nat} {x2 : Int32} {s : ps_S} {Q : Option Value → ps_S → Prop} (h :
  pl_Cl n 121 [.ref r1, .int x2] s (ps_rI (fun v1 s1 =>
    pl_Cl n 33 [.ref r0, .int v1] s1 (ps_rA (fun v2 s2 =>
      Q (some (.ref v2)) s2))))) : pl_At (n + 1) 37 0 [(0, .ref r0), (1, .ref r1), (2, .int x2)] [] s Q :=
  pl_wp_at (stops := []) (f := 8) h rfl

-- ProofBench$Proof.hasStep(I)Z
theorem pl_32_0 {n : Nat} {r0 : Nat} {x1 : Int32} {s : ps_S} {Q : Option Value → ps_S → Prop} (h :
  (x1 < 0 →
    Q (some (.int 0)) s) ∧
  (0 ≤ x1 →
    pl_nk (ps_is r0 2) (((ps_i s r0 8) ≤ x1 →
      Q (some (.int 0)) s) ∧
    (x1 < (ps_i s r0 8) →
      Q (some (.int 1)) s)))) : pl_At (n + 1) 32 0 [(0, .ref r0), (1, .int x1)] [] s Q :=
  pl_wp_at (stops := []) (f := 15) h rfl

-- ProofBench$Row.copyPart(LProofBench$Row;II)V
theorem pl_96_0 {n : Nat} {r0 : Nat} {r1 : Nat} {x2 : Int32} {x3 : Int32} {s : ps_S} {Q : Option Value → ps_S → Prop} (h :
  pl_Cl n 91 [.ref r0] s (ps_rV (fun s1 =>
    pl_Cl n 94 [.ref r0, .ref r1, .int x2, .int x3] s1 (ps_rV (fun s2 =>
      Q none s2))))) : pl_At (n + 1) 96 0 [(0, .ref r0), (1, .ref r1), (2, .int x2), (3, .int x3)] [] s Q :=
  pl_wp_at (stops := []) (f := 10) h rfl

-- ProofBench$Row.join(ILProofBench$Row;LProofBench$Row;)V
theorem pl_97_0 {n : Nat} {r0 : Nat} {x1 : Int32} {r2 : Nat} {r3 : Nat} {s : ps_S} {Q : Option Value → ps_S → Prop} (h :
  pl_Cl n 91 [.ref r0] s (ps_rV (fun s1 =>
    pl_Cl n 93 [.ref r0, .int x1] s1 (ps_rV (fun s2 =>
      pl_nk (ps_is r2 5) (pl_Cl n 94 [.ref r0, .ref r2, .int 0, .int (ps_i s2 r2 1)] s2 (ps_rV (fun s3 =>
        pl_nk (ps_is r3 5) (pl_Cl n 94 [.ref r0, .ref r3, .int 0, .int (ps_i s3 r3 1)] s3 (ps_rV (fun s4 =>
          Q none s4))))))))))) : pl_At (n + 1) 97 0 [(0, .ref r0), (1, .int x1), (2, .ref r2), (3, .ref r3)] [] s Q :=
  pl_wp_at (stops := []) (f := 20) h rfl

-- ProofBench$Row.isLike(LProofBench$Row;)Z
theorem pl_98_0 {n : Nat} {r0 : Nat} {r1 : Nat} {s : ps_S} {Q : Option Value → ps_S → Prop} (h :
  pl_nk (ps_is r0 5) (((ps_i s r0 2) ≠ 0 →
    Q (some (.int 0)) s) ∧
  ((ps_i s r0 2) = 0 →
    pl_nk (ps_is r1 5) (((ps_i s r1 2) ≠ 0 →
      Q (some (.int 0)) s) ∧
    ((ps_i s r1 2) = 0 →
      pl_nk (ps_is r0 5) (pl_nk (ps_is r1 5) (((ps_i s r0 1) = (ps_i s r1 1) →
        pl_At n 98 29 [(0, .ref r0), (1, .ref r1), (2, .int 0)] [] s Q) ∧
      ((ps_i s r0 1) ≠ (ps_i s r1 1) →
        Q (some (.int 0)) s)))))))) : pl_At (n + 1) 98 0 [(0, .ref r0), (1, .ref r1)] [] s Q :=
  pl_wp_at (stops := [(29, [0, 1, 2])]) (f := 21) h rfl

theorem pl_98_29 {n : Nat} {r0 : Nat} {r1 : Nat} {x2 : Int32} {s : ps_S} {Q : Option Value → ps_S → Prop} (h :
  pl_nk (ps_is r0 5) (((ps_i s r0 1) ≤ x2 →
    Q (some (.int 1)) s) ∧
  (x2 < (ps_i s r0 1) →
    pl_Cl n 92 [.ref r0, .int x2] s (ps_rI (fun v1 s1 =>
      pl_Cl n 92 [.ref r1, .int x2] s1 (ps_rI (fun v2 s2 =>
        (v1 = v2 →
          pl_At n 98 29 [(0, .ref r0), (1, .ref r1), (2, .int (x2 + 1))] [] s2 Q) ∧
        (v1 ≠ v2 →
          Q (some (.int 0)) s2)))))))) : pl_At (n + 1) 98 29 [(0, .ref r0), (1, .ref r1), (2, .int x2)] [] s Q :=
  pl_wp_at (stops := [(29, [0, 1, 2])]) (f := 19) h rfl

-- ProofBench$Row.contains(I)Z
theorem pl_100_0 {n : Nat} {r0 : Nat} {x1 : Int32} {s : ps_S} {Q : Option Value → ps_S → Prop} (h :
  pl_At n 100 2 [(0, .ref r0), (1, .int x1), (2, .int 0)] [] s Q) : pl_At (n + 1) 100 0 [(0, .ref r0), (1, .int x1)] [] s Q :=
  pl_wp_at (stops := [(2, [0, 1, 2])]) (f := 4) h rfl

theorem pl_100_2 {n : Nat} {r0 : Nat} {x1 : Int32} {x2 : Int32} {s : ps_S} {Q : Option Value → ps_S → Prop} (h :
  pl_nk (ps_is r0 5) (((ps_i s r0 1) ≤ x2 →
    Q (some (.int 0)) s) ∧
  (x2 < (ps_i s r0 1) →
    pl_Cl n 92 [.ref r0, .int x2] s (ps_rI (fun v1 s1 =>
      (v1 ≠ x1 →
        pl_At n 100 2 [(0, .ref r0), (1, .int x1), (2, .int (x2 + 1))] [] s1 Q) ∧
      (v1 = x1 →
        Q (some (.int 1)) s1)))))) : pl_At (n + 1) 100 2 [(0, .ref r0), (1, .int x1), (2, .int x2)] [] s Q :=
  pl_wp_at (stops := [(2, [0, 1, 2])]) (f := 17) h rfl

-- ProofBench$Row.hasFree()Z
theorem pl_101_0 {n : Nat} {r0 : Nat} {s : ps_S} {Q : Option Value → ps_S → Prop} (h :
  pl_At n 101 2 [(0, .ref r0), (1, .int 0)] [] s Q) : pl_At (n + 1) 101 0 [(0, .ref r0)] [] s Q :=
  pl_wp_at (stops := [(2, [0, 1])]) (f := 4) h rfl

theorem pl_101_2 {n : Nat} {r0 : Nat} {x1 : Int32} {s : ps_S} {Q : Option Value → ps_S → Prop} (h :
  pl_nk (ps_is r0 5) (((ps_i s r0 1) ≤ x1 →
    Q (some (.int 0)) s) ∧
  (x1 < (ps_i s r0 1) →
    pl_Cl n 92 [.ref r0, .int x1] s (ps_rI (fun v1 s1 =>
      (v1 < 60 →
        pl_At n 101 2 [(0, .ref r0), (1, .int (x1 + 1))] [] s1 Q) ∧
      (60 ≤ v1 →
        Q (some (.int 1)) s1)))))) : pl_At (n + 1) 101 2 [(0, .ref r0), (1, .int x1)] [] s Q :=
  pl_wp_at (stops := [(2, [0, 1])]) (f := 17) h rfl

-- ProofBench$Step.numbersOf(I)I
theorem pl_115_0 {n : Nat} {x0 : Int32} {s : ps_S} {Q : Option Value → ps_S → Prop} (h :
  (x0 = 6 →
    Q (some (.int 0)) s) ∧
  (x0 ≠ 6 →
    (x0 = 7 →
    Q (some (.int 1)) s) ∧
  (x0 ≠ 7 →
    (x0 = 8 →
    Q (some (.int 1)) s) ∧
  (x0 ≠ 8 →
    (x0 = 9 →
    Q (some (.int 1)) s) ∧
  (x0 ≠ 9 →
    (x0 = 10 →
    Q (some (.int 0)) s) ∧
  (x0 ≠ 10 →
    (x0 = 11 →
    Q (some (.int 0)) s) ∧
  (x0 ≠ 11 →
    (x0 = 12 →
    Q (some (.int 1)) s) ∧
  (x0 ≠ 12 →
    (x0 = 13 →
    Q (some (.int 2)) s) ∧
  (x0 ≠ 13 →
    (x0 = 14 →
    Q (some (.int 1)) s) ∧
  (x0 ≠ 14 →
    (x0 = 15 →
    Q (some (.int 1)) s) ∧
  (x0 ≠ 15 →
    (x0 = 16 →
    Q (some (.int 1)) s) ∧
  (x0 ≠ 16 →
    (x0 = 17 →
    Q (some (.int 1)) s) ∧
  (x0 ≠ 17 →
    (x0 = 18 →
    Q (some (.int 3)) s) ∧
  (x0 ≠ 18 →
    (x0 = 19 →
    Q (some (.int 2)) s) ∧
  (x0 ≠ 19 →
    (x0 = 20 →
    Q (some (.int 1)) s) ∧
  (x0 ≠ 20 →
    (x0 = 21 →
    Q (some (.int 1)) s) ∧
  (x0 ≠ 21 →
    (x0 = 22 →
    Q (some (.int 1)) s) ∧
  (x0 ≠ 22 →
    (x0 = 23 →
    Q (some (.int 1)) s) ∧
  (x0 ≠ 23 →
    (x0 = 24 →
    Q (some (.int 2)) s) ∧
  (x0 ≠ 24 →
    (x0 = 25 →
    Q (some (.int 2)) s) ∧
  (x0 ≠ 25 →
    Q (some (.int 1)) s))))))))))))))))))))) : pl_At (n + 1) 115 0 [(0, .int x0)] [] s Q :=
  pl_wp_at (stops := []) (f := 46) h rfl

-- ProofBench$Step.premisesOf(I)I
theorem pl_116_0 {n : Nat} {x0 : Int32} {s : ps_S} {Q : Option Value → ps_S → Prop} (h :
  (x0 ≠ 12 →
    pl_Cl n 115 [.int x0] s (ps_rI (fun v1 s1 =>
      Q (some (.int v1)) s1))) ∧
  (x0 = 12 →
    Q (some (.int 0)) s)) : pl_At (n + 1) 116 0 [(0, .int x0)] [] s Q :=
  pl_wp_at (stops := []) (f := 11) h rfl

-- ProofBench$Step.number(I)I
theorem pl_121_0 {n : Nat} {r0 : Nat} {x1 : Int32} {s : ps_S} {Q : Option Value → ps_S → Prop} (h :
  pl_nk (ps_is r0 8) (pl_Cl n 182 [.ref (ps_c0 r0 1), .int x1] s (ps_rI (fun v1 s1 =>
    Q (some (.int v1)) s1)))) : pl_At (n + 1) 121 0 [(0, .ref r0), (1, .int x1)] [] s Q :=
  pl_wp_at (stops := []) (f := 7) h rfl

-- ProofBench$Step.assumedAt(I)I
theorem pl_122_0 {n : Nat} {r0 : Nat} {x1 : Int32} {s : ps_S} {Q : Option Value → ps_S → Prop} (h :
  pl_nk (ps_is r0 8) (((ps_i s r0 8) ≤ x1 →
    Q (some (.int (-1))) s) ∧
  (x1 < (ps_i s r0 8) →
    pl_nk (ps_is r0 8) (pl_Cl n 182 [.ref (ps_c0 r0 7), .int x1] s (ps_rI (fun v1 s1 =>
      Q (some (.int v1)) s1)))))) : pl_At (n + 1) 122 0 [(0, .ref r0), (1, .int x1)] [] s Q :=
  pl_wp_at (stops := []) (f := 14) h rfl

-- ProofBench$Step.addAssumed(I)V
theorem pl_123_0 {n : Nat} {r0 : Nat} {x1 : Int32} {s : ps_S} {Q : Option Value → ps_S → Prop} (h :
  pl_nk (ps_is r0 8) (((ps_i s r0 8) < 0 →
    pl_nk (ps_is r0 8) (Q none (ps_ui s r0 9 1))) ∧
  (0 ≤ (ps_i s r0 8) →
    pl_nk (ps_is r0 8) (pl_nk (ps_is r0 8) (pl_nk (Nat.beq (ps_K (ps_c0 r0 7)).1 0) (((nI (ps_ln (ps_c0 r0 7))) ≤ (ps_i s r0 8) →
      pl_nk (ps_is r0 8) (Q none (ps_ui s r0 9 1))) ∧
    ((ps_i s r0 8) < (nI (ps_ln (ps_c0 r0 7))) →
      pl_nk (ps_is r0 8) (pl_nk (ps_is r0 8) (pl_nk (ps_ar (ps_c0 r0 7) 0) ((pm_in (ps_i s r0 8) (ps_ln (ps_c0 r0 7)) = true →
        pl_nk (ps_is r0 8) (pl_nk (ps_is r0 8) (Q none (ps_ui (ps_ua s (ps_c0 r0 7) (Int32.toNatClampNeg (ps_i s r0 8)) x1) r0 8 ((ps_i (ps_ua s (ps_c0 r0 7) (Int32.toNatClampNeg (ps_i s r0 8)) x1) r0 8) + 1))))))))))))))) : pl_At (n + 1) 123 0 [(0, .ref r0), (1, .int x1)] [] s Q :=
  pl_wp_at (stops := []) (f := 33) h rfl

-- ProofBench$Step.leanAs(LProofBench$Step;)V
theorem pl_124_0 {n : Nat} {r0 : Nat} {r1 : Nat} {s : ps_S} {Q : Option Value → ps_S → Prop} (h :
  pl_nk (ps_is r0 8) (pl_nk (ps_is r1 8) (pl_nk (ps_is r0 8) (pl_nk (ps_is r0 8) (pl_nk (ps_is r1 8) (pl_nk (ps_is r0 8) (pl_nk (ps_is r0 8) (pl_nk (ps_is r1 8) (pl_nk (ps_is r0 8) (Q none (ps_uj (ps_ui (ps_ui s r0 10 ((ps_i s r0 10) ||| (ps_i s r1 10))) r0 11 ((ps_i (ps_ui s r0 10 ((ps_i s r0 10) ||| (ps_i s r1 10))) r0 11) ||| (ps_i (ps_ui s r0 10 ((ps_i s r0 10) ||| (ps_i s r1 10))) r1 11))) r0 12 ((ps_j (ps_ui (ps_ui s r0 10 ((ps_i s r0 10) ||| (ps_i s r1 10))) r0 11 ((ps_i (ps_ui s r0 10 ((ps_i s r0 10) ||| (ps_i s r1 10))) r0 11) ||| (ps_i (ps_ui s r0 10 ((ps_i s r0 10) ||| (ps_i s r1 10))) r1 11))) r0 12) ||| (ps_j (ps_ui (ps_ui s r0 10 ((ps_i s r0 10) ||| (ps_i s r1 10))) r0 11 ((ps_i (ps_ui s r0 10 ((ps_i s r0 10) ||| (ps_i s r1 10))) r0 11) ||| (ps_i (ps_ui s r0 10 ((ps_i s r0 10) ||| (ps_i s r1 10))) r1 11))) r1 12))))))))))))) : pl_At (n + 1) 124 0 [(0, .ref r0), (1, .ref r1)] [] s Q :=
  pl_wp_at (stops := []) (f := 24) h rfl

/-! cells -/
def stb (t : Nat) : Bool := !ps_is t 8 || ((Nat.beq (ps_c0 t 1) (t + 1) && Nat.beq (ps_c0 t 4) (t + 2) && Nat.beq (ps_c0 t 5) (t + 4) && Nat.beq (ps_c0 t 6) (t + 6) && Nat.beq (ps_c0 t 7) (t + 8)) && (Nat.beq (ps_ln (t + 1)) 3 && Nat.beq (ps_ln (t + 8)) 12) && (ps_is (t + 2) 5 && ps_is (t + 4) 5 && ps_is (t + 6) 5))
def sta (a : Nat) : Nat → Bool
  | 0 => true
  | n + 1 => stb (a + n) && sta a n
theorem sta_ok {a : Nat} : ∀ {n : Nat}, sta a n = true → ∀ r, a ≤ r → r < a + n → stb r = true
  | 0, _, r, h1, h2 => by omega
  | n + 1, h, r, h1, h2 => by
    unfold sta at h
    rw [Bool.and_eq_true] at h
    by_cases e : r = a + n
    · rw [e]; exact h.1
    · exact sta_ok h.2 r h1 (by omega)
theorem sta_0 : sta 0 200 = true := by decide +kernel
theorem sta_1 : sta 200 200 = true := by decide +kernel
theorem sta_2 : sta 400 200 = true := by decide +kernel
theorem sta_3 : sta 600 200 = true := by decide +kernel
theorem sta_4 : sta 800 100 = true := by decide +kernel
/-- a step's cells -/
theorem str {t : Nat} (h : ps_is t 8 = true) (ht : t < 900) : (ps_c0 t 1 = t + 1 ∧ ps_c0 t 4 = t + 2 ∧ ps_c0 t 5 = t + 4 ∧ ps_c0 t 6 = t + 6 ∧ ps_c0 t 7 = t + 8) ∧ (ps_ln (t + 1) = 3 ∧ ps_ln (t + 8) = 12) ∧ ps_is (t + 2) 5 = true ∧ ps_is (t + 4) 5 = true ∧ ps_is (t + 6) 5 = true := by
  have k : stb t = true := by
    rcases Nat.lt_or_ge t 200 with z | z
    · exact sta_ok sta_0 t (Nat.zero_le _) (by omega)
    rcases Nat.lt_or_ge t 400 with z | z
    · exact sta_ok sta_1 t (by omega) (by omega)
    rcases Nat.lt_or_ge t 600 with z | z
    · exact sta_ok sta_2 t (by omega) (by omega)
    rcases Nat.lt_or_ge t 800 with z | z
    · exact sta_ok sta_3 t (by omega) (by omega)
    · exact sta_ok sta_4 t (by omega) (by omega)
  unfold stb at k
  rw [h] at k
  simp only [Bool.not_true, Bool.false_or, Bool.and_eq_true, Nat.beq_eq] at k
  obtain ⟨⟨⟨⟨⟨⟨k1, k2⟩, k3⟩, k4⟩, k5⟩, k6, k7⟩, ⟨k8, k9⟩, k10⟩ := k
  exact ⟨⟨k1, k2, k3, k4, k5⟩, ⟨k6, k7⟩, k8, k9, k10⟩
def pfb (p : Nat) : Bool := (List.range 40).all (fun i => Nat.beq (ps_e0 (p + 1) i) (p + 44 + 9 * i) && ps_is (p + 44 + 9 * i) 8) && (List.range 3).all (fun k => Nat.beq (ps_e0 (p + 11) k) (p + 404 + 2 * k) && ps_is (p + 404 + 2 * k) 5) && (Nat.beq (ps_c0 p 0) (p + 1) && Nat.beq (ps_c0 p 1) (p + 2) && Nat.beq (ps_c0 p 2) (p + 11) && Nat.beq (ps_c0 p 3) (p + 12) && Nat.beq (ps_c0 p 4) (p + 14) && Nat.beq (ps_c0 p 5) (p + 16)) && (Nat.beq (ps_ln (p + 1)) 40 && Nat.beq (ps_ln (p + 11)) 3) && (ps_is (p + 12) 5 && ps_is (p + 14) 5 && ps_is (p + 16) 6 && ps_is (p + 2) 8)
theorem pfb_50 : pfb 50 = true := by decide +kernel
theorem pfb_460 : pfb 460 = true := by decide +kernel
/-- a proof's cells -/
theorem prf {p : Nat} (hp : p = 50 ∨ p = 460) : (∀ i, i < 40 → ps_e0 (p + 1) i = p + 44 + 9 * i ∧ ps_is (p + 44 + 9 * i) 8 = true) ∧ (∀ k, k < 3 → ps_e0 (p + 11) k = p + 404 + 2 * k ∧ ps_is (p + 404 + 2 * k) 5 = true) ∧ (ps_c0 p 0 = p + 1 ∧ ps_c0 p 1 = p + 2 ∧ ps_c0 p 2 = p + 11 ∧ ps_c0 p 3 = p + 12 ∧ ps_c0 p 4 = p + 14 ∧ ps_c0 p 5 = p + 16) ∧ (ps_ln (p + 1) = 40 ∧ ps_ln (p + 11) = 3) ∧ ps_is (p + 12) 5 = true ∧ ps_is (p + 14) 5 = true ∧ ps_is (p + 16) 6 = true ∧ ps_is (p + 2) 8 = true := by
  have k : pfb p = true := by
    rcases hp with rfl | rfl
    · exact pfb_50
    · exact pfb_460
  unfold pfb at k
  simp only [Bool.and_eq_true, Nat.beq_eq, List.all_eq_true] at k
  obtain ⟨⟨⟨⟨k1, k2⟩, ⟨⟨⟨⟨⟨a0, a1⟩, a2⟩, a3⟩, a4⟩, a5⟩⟩, l0, l1⟩, ⟨⟨i1, i2⟩, i3⟩, i4⟩ := k
  exact ⟨fun i hi => k1 i (List.mem_range.mpr hi), fun j hj => k2 j (List.mem_range.mpr hj), ⟨a0, a1, a2, a3, a4, a5⟩, ⟨l0, l1⟩, i1, i2, i3, i4⟩
/-- the i-th step's cell -/
abbrev stc (p i : Nat) : Nat := p + 44 + 9 * i
abbrev otc (p k : Nat) : Nat := p + 404 + 2 * k
theorem fs_33 {n p i : Nat} {x1 : Int32} {s : ps_S} {R : Nat → ps_S → Prop} (hp : p = 50 ∨ p = 460) (hx : x1.toInt = i) (hi : i < 40) (k : R (stc p i) s) : pl_Cl n 33 [.ref p, .int x1] s (ps_rA R) := by
  cases n with
  | zero => exact pl_At_0
  | succ n =>
  show pl_At (n + 1) 33 0 [(0, .ref p), (1, .int x1)] [] s (ps_rA R)
  obtain ⟨e1, -, ⟨c0, c1, -⟩, ⟨l0, -⟩, -⟩ := prf hp
  have t0 : (0 : Int32).toInt = 0 := Int32.toInt_zero
  have t40 : (nI (ps_ln (ps_c0 p 0))).toInt = 40 := by rw [c0, l0]; decide
  refine pl_33_0 ⟨fun h => ?_, fun h => pl_nk_i (fun _ => pl_nk_i (fun _ => ⟨fun h2 => ?_, fun h2 => pl_nk_i (fun _ => pl_nk_i (fun _ => ?_))⟩))⟩
  · have h := xlt h
    omega
  · have h2 := xle h2
    omega
  · intro b
    rw [xtn hx, c0, (e1 i hi).1]
    exact k
/-- any number -/
theorem fs_33o {n r0 : Nat} {x1 : Int32} {s : ps_S} {R : Nat → ps_S → Prop} (k : ∀ v, R v s) : pl_Cl n 33 [.ref r0, .int x1] s (ps_rA R) := by
  cases n with
  | zero => exact pl_At_0
  | succ n =>
  show pl_At (n + 1) 33 0 [(0, .ref r0), (1, .int x1)] [] s (ps_rA R)
  refine pl_33_0 ?_
  refine ⟨fun h1 => ?_, fun h1 => ?_⟩
  · have h1 : x1.toInt < (0 : Int) := xlt h1
    refine pl_nk_i (fun nk23 => ?_)
    exact k _
  · have h1 : (0 : Int) ≤ x1.toInt := xle h1
    refine pl_nk_i (fun nk6 => ?_)
    refine pl_nk_i (fun nk9 => ?_)
    refine ⟨fun h10 => ?_, fun h10 => ?_⟩
    · have h10 : (nI (ps_ln (ps_c0 r0 0))).toInt ≤ x1.toInt := xle h10
      refine pl_nk_i (fun nk23 => ?_)
      exact k _
    · have h10 : x1.toInt < (nI (ps_ln (ps_c0 r0 0))).toInt := xlt h10
      refine pl_nk_i (fun nk14 => ?_)
      refine pl_nk_i (fun nk18 => ?_)
      intro b18
      obtain ⟨b18, c18⟩ := pl_in b18
      exact k _
theorem fs_38 {n p i : Nat} {x1 : Int32} {s : ps_S} {R : Nat → ps_S → Prop} (hp : p = 50 ∨ p = 460) (hx : x1.toInt = i) (hi : i < 3) (k : R (otc p i) s) : pl_Cl n 38 [.ref p, .int x1] s (ps_rA R) := by
  cases n with
  | zero => exact pl_At_0
  | succ n =>
  show pl_At (n + 1) 38 0 [(0, .ref p), (1, .int x1)] [] s (ps_rA R)
  obtain ⟨-, e1, ⟨-, -, c2, c3, -⟩, ⟨-, l1⟩, -⟩ := prf hp
  have t0 : (0 : Int32).toInt = 0 := Int32.toInt_zero
  have t3 : (nI (ps_ln (ps_c0 p 2))).toInt = 3 := by rw [c2, l1]; decide
  refine pl_38_0 ⟨fun h => ?_, fun h => pl_nk_i (fun _ => pl_nk_i (fun _ => ⟨fun h2 => ?_, fun h2 => pl_nk_i (fun _ => pl_nk_i (fun _ => ?_))⟩))⟩
  · have h := xlt h
    omega
  · have h2 := xle h2
    omega
  · intro b
    rw [xtn hx, c2, (e1 i hi).1]
    exact k
theorem fs_121 {n t j : Nat} {x1 : Int32} {s : ps_S} {R : Int32 → ps_S → Prop} (ht : ps_is t 8 = true) (h9 : t < 900) (hx : x1.toInt = j) (hj : j < 3) (k : R (ps_a s (t + 1) j) s) : pl_Cl n 121 [.ref t, .int x1] s (ps_rI R) := by
  cases n with
  | zero => exact pl_At_0
  | succ n =>
  show pl_At (n + 1) 121 0 [(0, .ref t), (1, .int x1)] [] s (ps_rI R)
  obtain ⟨⟨c1, -⟩, ⟨l1, -⟩, -⟩ := str ht h9
  refine pl_121_0 (pl_nk_i (fun _ => ?_))
  rw [c1]
  exact fs_182 hx (by rw [l1]; exact hj) (by rw [l1]; decide) k
theorem fs_121o {n t : Nat} {x1 : Int32} {s : ps_S} {R : Int32 → ps_S → Prop} (k : ∀ v, R v s) : pl_Cl n 121 [.ref t, .int x1] s (ps_rI R) := by
  cases n with
  | zero => exact pl_At_0
  | succ n =>
  show pl_At (n + 1) 121 0 [(0, .ref t), (1, .int x1)] [] s (ps_rI R)
  refine pl_121_0 (pl_nk_i (fun _ => ?_))
  exact fv_182 (fun v _ => k v)
theorem fs_37 {n p t j i : Nat} {x2 : Int32} {s : ps_S} {R : Nat → ps_S → Prop} (hp : p = 50 ∨ p = 460) (ht : ps_is t 8 = true) (h9 : t < 900) (hx : x2.toInt = j) (hj : j < 3) (hn : (ps_a s (t + 1) j).toInt = i) (hi : i < 40) (k : R (stc p i) s) : pl_Cl n 37 [.ref p, .ref t, .int x2] s (ps_rA R) := by
  cases n with
  | zero => exact pl_At_0
  | succ n =>
  show pl_At (n + 1) 37 0 [(0, .ref p), (1, .ref t), (2, .int x2)] [] s (ps_rA R)
  exact pl_37_0 (fs_121 ht h9 hx hj (fs_33 hp hn hi k))
theorem fs_37o {n p t : Nat} {x2 : Int32} {s : ps_S} {R : Nat → ps_S → Prop} (k : ∀ v, R v s) : pl_Cl n 37 [.ref p, .ref t, .int x2] s (ps_rA R) := by
  cases n with
  | zero => exact pl_At_0
  | succ n =>
  show pl_At (n + 1) 37 0 [(0, .ref p), (1, .ref t), (2, .int x2)] [] s (ps_rA R)
  exact pl_37_0 (fs_121o (fun v => fs_33o k))
theorem fs_122 {n t j : Nat} {x1 : Int32} {s : ps_S} {R : Int32 → ps_S → Prop} (ht : ps_is t 8 = true) (h9 : t < 900) (hx : x1.toInt = j) (hj : j < 12) (hc : (j : Int) < (ps_i s t 8).toInt) (k : R (ps_a s (t + 8) j) s) : pl_Cl n 122 [.ref t, .int x1] s (ps_rI R) := by
  cases n with
  | zero => exact pl_At_0
  | succ n =>
  show pl_At (n + 1) 122 0 [(0, .ref t), (1, .int x1)] [] s (ps_rI R)
  obtain ⟨⟨-, -, -, -, c7⟩, ⟨-, l8⟩, -⟩ := str ht h9
  refine pl_122_0 (pl_nk_i (fun _ => ⟨fun h => ?_, fun h => pl_nk_i (fun _ => ?_)⟩))
  · have h := xle h
    omega
  · rw [c7]
    exact fs_182 hx (by rw [l8]; exact hj) (by rw [l8]; decide) k
/-- one more that is assumed -/
theorem fs_123 {n t m : Nat} {x1 : Int32} {s : ps_S} {R : ps_S → Prop} (ht : ps_is t 8 = true) (h9 : t < 900) (hm : (ps_i s t 8).toInt = m) (k1 : m < 12 → R (ps_ui (ps_ua s (t + 8) m x1) t 8 (ps_i s t 8 + 1))) (k2 : 12 ≤ m → R (ps_ui s t 9 1)) : pl_Cl n 123 [.ref t, .int x1] s (ps_rV R) := by
  cases n with
  | zero => exact pl_At_0
  | succ n =>
  show pl_At (n + 1) 123 0 [(0, .ref t), (1, .int x1)] [] s (ps_rV R)
  obtain ⟨⟨-, -, -, -, c7⟩, ⟨-, l8⟩, -⟩ := str ht h9
  have t0 : (0 : Int32).toInt = 0 := Int32.toInt_zero
  have t12 : (nI (ps_ln (ps_c0 t 7))).toInt = 12 := by rw [c7, l8]; decide
  refine pl_123_0 (pl_nk_i (fun _ => ⟨fun h => ?_, fun h => pl_nk_i (fun _ => pl_nk_i (fun _ => pl_nk_i (fun _ => ⟨fun h2 => pl_nk_i (fun _ => k2 ?_), fun h2 => pl_nk_i (fun _ => pl_nk_i (fun _ => pl_nk_i (fun _ => ?_)))⟩)))⟩))
  · have h := xlt h
    omega
  · have h2 := xle h2
    omega
  · have h2 := xlt h2
    intro b
    refine pl_nk_i (fun _ => pl_nk_i (fun _ => ?_))
    rw [xtn hm, c7]
    exact k1 (by omega)
theorem fs_124 {n t q : Nat} {s : ps_S} {R : ps_S → Prop} (hd : q ≠ t) (k : R (ps_uj (ps_ui (ps_ui s t 10 (ps_i s t 10 ||| ps_i s q 10)) t 11 (ps_i s t 11 ||| ps_i s q 11)) t 12 (ps_j s t 12 ||| ps_j s q 12))) : pl_Cl n 124 [.ref t, .ref q] s (ps_rV R) := by
  cases n with
  | zero => exact pl_At_0
  | succ n =>
  show pl_At (n + 1) 124 0 [(0, .ref t), (1, .ref q)] [] s (ps_rV R)
  refine pl_124_0 (pl_nk_i (fun _ => pl_nk_i (fun _ => pl_nk_i (fun _ => pl_nk_i (fun _ => pl_nk_i (fun _ => pl_nk_i (fun _ => pl_nk_i (fun _ => pl_nk_i (fun _ => pl_nk_i (fun _ => ?_))))))))))
  have e1 : ps_i (ps_ui s t 10 (ps_i s t 10 ||| ps_i s q 10)) t 11 = ps_i s t 11 := by rw [ps_i_ui, if_neg (by omega)]
  have e2 : ps_i (ps_ui s t 10 (ps_i s t 10 ||| ps_i s q 10)) q 11 = ps_i s q 11 := by rw [ps_i_ui, if_neg (by omega)]
  rw [e1, e2]
  exact k
/-! rows -/
/-- like rows -/
theorem fs_98_29 {r q : Nat} {la lb : List Nat} {s : ps_S} {R : Int32 → ps_S → Prop} (hr : ps_is r 5 = true) (hq : ps_is q 5 = true) (Wa : cv_W s r la) (Wb : cv_W s q lb) (hl : la.length = lb.length) (k1 : la = lb → R 1 s) (k0 : ¬ la = lb → R 0 s) : ∀ (n : Nat) {x2 : Int32} {i : Nat}, x2.toInt = i → i ≤ la.length → (∀ j, j < i → la[j]? = lb[j]?) → pl_At n 98 29 [(0, .ref r), (1, .ref q), (2, .int x2)] [] s (ps_rI R)
  | 0, _, _, _, _, _ => pl_At_0
  | n + 1, x2, i, hx, hi, hj => by
    have h40 := Wa.2.2.1
    have hsz := Wa.1
    refine pl_98_29 (pl_nk_i (fun _ => ⟨fun z => k1 ?_, fun z => ?_⟩))
    · have z := xle z
      refine List.ext_getElem? (fun j => ?_)
      rcases Nat.lt_or_ge j i with y | y
      · exact hj j y
      · rw [List.getElem?_eq_none (by omega), List.getElem?_eq_none (by omega)]
    · have z := xlt z
      obtain ⟨c, hc⟩ : ∃ c, la[i]? = some c := ⟨_, List.getElem?_eq_getElem (by omega)⟩
      obtain ⟨d, hd⟩ : ∃ d, lb[i]? = some d := ⟨_, List.getElem?_eq_getElem (by omega)⟩
      refine fs_92c hr Wa hx hc (fun v1 q1 => fs_92c hq Wb hx hd (fun v2 q2 => ⟨fun y => ?_, fun y => k0 (fun e => ?_)⟩))
      · have y := xeq y
        refine fs_98_29 hr hq Wa Wb hl k1 k0 n (xj1 hx (by omega)) (by omega) (fun j hj2 => ?_)
        rcases Nat.lt_or_ge j i with w | w
        · exact hj j w
        · rw [show j = i from by omega, hc, hd, show c = d from by omega]
      · have y := xne y
        rw [e, hd] at hc
        cases hc
        exact y (by rw [q1, q2])
theorem fs_98 {n r q : Nat} {la lb : List Nat} {s : ps_S} {R : Int32 → ps_S → Prop} (hr : ps_is r 5 = true) (hq : ps_is q 5 = true) (Wa : CW s r la) (Wb : CW s q lb) (h : la.length ≤ 40 ∨ lb.length ≤ 40) (k1 : la = lb → R 1 s) (k0 : ¬ la = lb → R 0 s) : pl_Cl n 98 [.ref r, .ref q] s (ps_rI R) := by
  cases n with
  | zero => exact pl_At_0
  | succ n =>
  show pl_At (n + 1) 98 0 [(0, .ref r), (1, .ref q)] [] s (ps_rI R)
  refine pl_98_0 (pl_nk_i (fun _ => ⟨fun z => k0 (fun e => ?_), fun z => pl_nk_i (fun _ => ⟨fun z2 => k0 (fun e => ?_), fun z2 => pl_nk_i (fun _ => pl_nk_i (fun _ => ⟨fun z3 => ?_, fun z3 => k0 (fun e => ?_)⟩))⟩)⟩))
  · rw [e] at h
    exact z (Wa.2.1 (by rw [e]; omega)).2.1
  · rw [e] at h
    exact z2 (Wb.2.1 (by omega)).2.1
  · have a40 : la.length ≤ 40 := by
      rcases Nat.lt_or_ge 40 la.length with y | y
      · exact absurd z (Wa.2.2 y)
      · exact y
    have b40 : lb.length ≤ 40 := by
      rcases Nat.lt_or_ge 40 lb.length with y | y
      · exact absurd z2 (Wb.2.2 y)
      · exact y
    have Va := Wa.2.1 a40
    have Vb := Wb.2.1 b40
    have z3 := xeq z3
    exact fs_98_29 hr hq Va Vb (by have := Va.1; have := Vb.1; omega) k1 k0 n (i := 0) rfl (Nat.zero_le _) (fun j hj => absurd hj (Nat.not_lt_zero _))
  · have z3 := xne z3
    have e1 := Wa.1
    have e2 := Wb.1
    rw [e] at e1
    exact z3 (e1.trans e2.symm)
theorem fs_100_2 {r c : Nat} {l : List Nat} {x1 : Int32} {s : ps_S} {R : Int32 → ps_S → Prop} (hr : ps_is r 5 = true) (W : cv_W s r l) (h1 : x1.toInt = c) (k1 : l.contains c = true → R 1 s) (k0 : ¬ l.contains c = true → R 0 s) : ∀ (n : Nat) {x2 : Int32} {i : Nat}, x2.toInt = i → (∀ j, j < i → l[j]? ≠ some c) → pl_At n 100 2 [(0, .ref r), (1, .int x1), (2, .int x2)] [] s (ps_rI R)
  | 0, _, _, _, _ => pl_At_0
  | n + 1, x2, i, hx, hj => by
    have h40 := W.2.2.1
    have hsz := W.1
    refine pl_100_2 (pl_nk_i (fun _ => ⟨fun z => k0 (fun y => ?_), fun z => ?_⟩))
    · have z := xle z
      obtain ⟨j, hj2⟩ := List.mem_iff_getElem?.mp (List.contains_iff_mem.mp y)
      have := (List.getElem?_eq_some_iff.mp hj2).1
      exact hj j (by omega) hj2
    · have z := xlt z
      obtain ⟨d, hd⟩ : ∃ d, l[i]? = some d := ⟨_, List.getElem?_eq_getElem (by omega)⟩
      refine fs_92c hr W hx hd (fun v1 q1 => ⟨fun y => ?_, fun y => k1 ?_⟩)
      · have y := xne y
        refine fs_100_2 hr W h1 k1 k0 n (xj1 hx (by omega)) (fun j hj2 => ?_)
        rcases Nat.lt_or_ge j i with w | w
        · exact hj j w
        · rw [show j = i from by omega, hd]
          intro e
          cases e
          exact y (by rw [q1, h1])
      · have y := xeq y
        have e : d = c := by omega
        subst e
        exact List.contains_iff_mem.mpr (List.mem_of_getElem? hd)
theorem fs_100 {n r c : Nat} {l : List Nat} {x1 : Int32} {s : ps_S} {R : Int32 → ps_S → Prop} (hr : ps_is r 5 = true) (W : cv_W s r l) (h1 : x1.toInt = c) (k1 : l.contains c = true → R 1 s) (k0 : ¬ l.contains c = true → R 0 s) : pl_Cl n 100 [.ref r, .int x1] s (ps_rI R) := by
  cases n with
  | zero => exact pl_At_0
  | succ n =>
  show pl_At (n + 1) 100 0 [(0, .ref r), (1, .int x1)] [] s (ps_rI R)
  exact pl_100_0 (fs_100_2 hr W h1 k1 k0 n (i := 0) rfl (fun j hj => absurd hj (Nat.not_lt_zero _)))
theorem fs_101_2 {r : Nat} {l : List Nat} {s : ps_S} {R : Int32 → ps_S → Prop} (hr : ps_is r 5 = true) (W : cv_W s r l) (k1 : (∃ c, c ∈ l ∧ 60 ≤ c) → R 1 s) (k0 : (∀ c, c ∈ l → c < 60) → R 0 s) : ∀ (n : Nat) {x1 : Int32} {i : Nat}, x1.toInt = i → (∀ j c, j < i → l[j]? = some c → c < 60) → pl_At n 101 2 [(0, .ref r), (1, .int x1)] [] s (ps_rI R)
  | 0, _, _, _, _ => pl_At_0
  | n + 1, x1, i, hx, hj => by
    have h40 := W.2.2.1
    have hsz := W.1
    have c60 : (60 : Int32).toInt = 60 := by decide
    refine pl_101_2 (pl_nk_i (fun _ => ⟨fun z => k0 (fun c hc => ?_), fun z => ?_⟩))
    · have z := xle z
      obtain ⟨j, hj2⟩ := List.mem_iff_getElem?.mp hc
      have := (List.getElem?_eq_some_iff.mp hj2).1
      exact hj j c (by omega) hj2
    · have z := xlt z
      obtain ⟨d, hd⟩ : ∃ d, l[i]? = some d := ⟨_, List.getElem?_eq_getElem (by omega)⟩
      refine fs_92c hr W hx hd (fun v1 q1 => ⟨fun y => ?_, fun y => k1 ?_⟩)
      · have y := xlt y
        refine fs_101_2 hr W k1 k0 n (xj1 hx (by omega)) (fun j c hj2 hc => ?_)
        rcases Nat.lt_or_ge j i with w | w
        · exact hj j c w hc
        · rw [show j = i from by omega, hd] at hc
          cases hc
          omega
      · have y := xle y
        exact ⟨d, List.mem_of_getElem? hd, by omega⟩
theorem fs_101 {n r : Nat} {l : List Nat} {s : ps_S} {R : Int32 → ps_S → Prop} (hr : ps_is r 5 = true) (W : cv_W s r l) (k1 : (∃ c, c ∈ l ∧ 60 ≤ c) → R 1 s) (k0 : (∀ c, c ∈ l → c < 60) → R 0 s) : pl_Cl n 101 [.ref r] s (ps_rI R) := by
  cases n with
  | zero => exact pl_At_0
  | succ n =>
  show pl_At (n + 1) 101 0 [(0, .ref r)] [] s (ps_rI R)
  exact pl_101_0 (fs_101_2 hr W k1 k0 n (i := 0) rfl (fun j c hj => absurd hj (Nat.not_lt_zero _)))
theorem fs_96 {n r r1 a b : Nat} {l : List Nat} {x2 x3 : Int32} {s : ps_S} {R : ps_S → Prop} (hr : ps_is r 5 = true) (hr1 : ps_is r1 5 = true) (hd : r1 ≠ r ∧ r1 ≠ r + 1 ∧ r1 + 1 ≠ r) (W : cv_W s r1 l) (h2 : x2.toInt = a) (h3 : x3.toInt = b) (hb : b ≤ l.length) (k : ∀ s', cv_W s' r ((l.drop a).take (b - a)) → cfr (C2 r) s s' → R s') : pl_Cl n 96 [.ref r, .ref r1, .int x2, .int x3] s (ps_rV R) := by
  cases n with
  | zero => exact pl_At_0
  | succ n =>
  show pl_At (n + 1) 96 0 [(0, .ref r), (1, .ref r1), (2, .int x2), (3, .int x3)] [] s (ps_rV R)
  have h40 := W.2.2.1
  have F1 : cfr (C2 r) s (ps_ui (ps_ui s r 1 0) r 2 0) := cfr_i (cfr_i cfr_refl (Or.inl rfl)) (Or.inl rfl)
  refine pl_96_0 (fs_91 ?_)
  refine fs_94w (a := a) (b := b) hr hr1 hd (cv_W_cfr W F1 (by unfold C2; omega) (by unfold C2; omega)) (CW_of CW_0) h2 h3 hb (fun s2 C F2 => k s2 ?_ (cfr_tr F1 F2))
  rw [List.nil_append] at C
  exact C.2.1 (by rw [List.length_take, List.length_drop]; omega)
theorem fs_97 {n r r2 r3 c : Nat} {l2 l3 : List Nat} {x1 : Int32} {s : ps_S} {R : ps_S → Prop} (hr : ps_is r 5 = true) (hr2 : ps_is r2 5 = true) (hr3 : ps_is r3 5 = true) (hd2 : r2 ≠ r ∧ r2 ≠ r + 1 ∧ r2 + 1 ≠ r) (hd3 : r3 ≠ r ∧ r3 ≠ r + 1 ∧ r3 + 1 ≠ r) (W2 : cv_W s r2 l2) (W3 : cv_W s r3 l3) (h1 : x1.toInt = c) (k : ∀ s', CW s' r (c :: (l2 ++ l3)) → cfr (C2 r) s s' → R s') : pl_Cl n 97 [.ref r, .int x1, .ref r2, .ref r3] s (ps_rV R) := by
  cases n with
  | zero => exact pl_At_0
  | succ n =>
  show pl_At (n + 1) 97 0 [(0, .ref r), (1, .int x1), (2, .ref r2), (3, .ref r3)] [] s (ps_rV R)
  have F1 : cfr (C2 r) s (ps_ui (ps_ui s r 1 0) r 2 0) := cfr_i (cfr_i cfr_refl (Or.inl rfl)) (Or.inl rfl)
  refine pl_97_0 (fs_91 ?_)
  refine fs_93w hr (CW_of CW_0) h1 (fun s2 C2' F2 => pl_nk_i (fun _ => ?_))
  have F2' := cfr_tr F1 F2
  have Wa := cv_W_cfr W2 F2' (by unfold C2; omega) (by unfold C2; omega)
  refine fs_94w (a := 0) (b := l2.length) hr hr2 hd2 Wa C2' rfl Wa.1 (Nat.le_refl _) (fun s3 C3 F3 => pl_nk_i (fun _ => ?_))
  have F3' := cfr_tr F2' F3
  have Wb := cv_W_cfr W3 F3' (by unfold C2; omega) (by unfold C2; omega)
  refine fs_94w (a := 0) (b := l3.length) hr hr3 hd3 Wb C3 rfl Wb.1 (Nat.le_refl _) (fun s4 C4 F4 => k s4 ?_ (cfr_tr F3' F4))
  rw [List.drop_zero, Nat.sub_zero, List.take_length, List.drop_zero, Nat.sub_zero, List.take_length, List.nil_append, List.append_assoc] at C4
  exact C4
/-! how many numbers, how many premises -/
theorem fs_115 {n r : Nat} {x0 : Int32} {s : ps_S} {R : Int32 → ps_S → Prop} (hx : x0.toInt = r) (ho : tp_ok r) (k : ∀ v : Int32, v.toInt = (tp_nn r : Nat) → R v s) : pl_Cl n 115 [.int x0] s (ps_rI R) := by
  cases n with
  | zero => exact pl_At_0
  | succ n =>
  show pl_At (n + 1) 115 0 [(0, .int x0)] [] s (ps_rI R)
  refine pl_115_0 ?_
  refine ⟨fun h1_6 => ?_, fun h1_6 => ?_⟩
  · have h1_6 : x0.toInt = (6 : Int) := xeq h1_6
    refine k _ ?_
    unfold tp_nn
    rw [if_pos (by omega)]
    rfl
  have h1_6 : x0.toInt ≠ (6 : Int) := xne h1_6
  refine ⟨fun h1_7 => ?_, fun h1_7 => ?_⟩
  · have h1_7 : x0.toInt = (7 : Int) := xeq h1_7
    refine k _ ?_
    unfold tp_ok at ho
    unfold tp_nn
    rw [if_neg (by omega), if_neg (by omega), if_neg (by omega)]
    rfl
  have h1_7 : x0.toInt ≠ (7 : Int) := xne h1_7
  refine ⟨fun h1_8 => ?_, fun h1_8 => ?_⟩
  · have h1_8 : x0.toInt = (8 : Int) := xeq h1_8
    refine k _ ?_
    unfold tp_ok at ho
    unfold tp_nn
    rw [if_neg (by omega), if_neg (by omega), if_neg (by omega)]
    rfl
  have h1_8 : x0.toInt ≠ (8 : Int) := xne h1_8
  refine ⟨fun h1_9 => ?_, fun h1_9 => ?_⟩
  · have h1_9 : x0.toInt = (9 : Int) := xeq h1_9
    refine k _ ?_
    unfold tp_ok at ho
    unfold tp_nn
    rw [if_neg (by omega), if_neg (by omega), if_neg (by omega)]
    rfl
  have h1_9 : x0.toInt ≠ (9 : Int) := xne h1_9
  refine ⟨fun h1_10 => ?_, fun h1_10 => ?_⟩
  · have h1_10 : x0.toInt = (10 : Int) := xeq h1_10
    refine k _ ?_
    unfold tp_nn
    rw [if_pos (by omega)]
    rfl
  have h1_10 : x0.toInt ≠ (10 : Int) := xne h1_10
  refine ⟨fun h1_11 => ?_, fun h1_11 => ?_⟩
  · have h1_11 : x0.toInt = (11 : Int) := xeq h1_11
    refine k _ ?_
    unfold tp_nn
    rw [if_pos (by omega)]
    rfl
  have h1_11 : x0.toInt ≠ (11 : Int) := xne h1_11
  refine ⟨fun h1_12 => ?_, fun h1_12 => ?_⟩
  · have h1_12 : x0.toInt = (12 : Int) := xeq h1_12
    refine k _ ?_
    unfold tp_ok at ho
    unfold tp_nn
    rw [if_neg (by omega), if_neg (by omega), if_neg (by omega)]
    rfl
  have h1_12 : x0.toInt ≠ (12 : Int) := xne h1_12
  refine ⟨fun h1_13 => ?_, fun h1_13 => ?_⟩
  · have h1_13 : x0.toInt = (13 : Int) := xeq h1_13
    refine k _ ?_
    unfold tp_nn
    rw [if_neg (by omega), if_pos (by omega)]
    rfl
  have h1_13 : x0.toInt ≠ (13 : Int) := xne h1_13
  refine ⟨fun h1_14 => ?_, fun h1_14 => ?_⟩
  · have h1_14 : x0.toInt = (14 : Int) := xeq h1_14
    refine k _ ?_
    unfold tp_ok at ho
    unfold tp_nn
    rw [if_neg (by omega), if_neg (by omega), if_neg (by omega)]
    rfl
  have h1_14 : x0.toInt ≠ (14 : Int) := xne h1_14
  refine ⟨fun h1_15 => ?_, fun h1_15 => ?_⟩
  · have h1_15 : x0.toInt = (15 : Int) := xeq h1_15
    refine k _ ?_
    unfold tp_ok at ho
    unfold tp_nn
    rw [if_neg (by omega), if_neg (by omega), if_neg (by omega)]
    rfl
  have h1_15 : x0.toInt ≠ (15 : Int) := xne h1_15
  refine ⟨fun h1_16 => ?_, fun h1_16 => ?_⟩
  · have h1_16 : x0.toInt = (16 : Int) := xeq h1_16
    refine k _ ?_
    unfold tp_ok at ho
    unfold tp_nn
    rw [if_neg (by omega), if_neg (by omega), if_neg (by omega)]
    rfl
  have h1_16 : x0.toInt ≠ (16 : Int) := xne h1_16
  refine ⟨fun h1_17 => ?_, fun h1_17 => ?_⟩
  · have h1_17 : x0.toInt = (17 : Int) := xeq h1_17
    refine k _ ?_
    unfold tp_ok at ho
    unfold tp_nn
    rw [if_neg (by omega), if_neg (by omega), if_neg (by omega)]
    rfl
  have h1_17 : x0.toInt ≠ (17 : Int) := xne h1_17
  refine ⟨fun h1_18 => ?_, fun h1_18 => ?_⟩
  · have h1_18 : x0.toInt = (18 : Int) := xeq h1_18
    refine k _ ?_
    unfold tp_nn
    rw [if_neg (by omega), if_neg (by omega), if_pos (by omega)]
    rfl
  have h1_18 : x0.toInt ≠ (18 : Int) := xne h1_18
  refine ⟨fun h1_19 => ?_, fun h1_19 => ?_⟩
  · have h1_19 : x0.toInt = (19 : Int) := xeq h1_19
    refine k _ ?_
    unfold tp_nn
    rw [if_neg (by omega), if_pos (by omega)]
    rfl
  have h1_19 : x0.toInt ≠ (19 : Int) := xne h1_19
  refine ⟨fun h1_20 => ?_, fun h1_20 => ?_⟩
  · have h1_20 : x0.toInt = (20 : Int) := xeq h1_20
    refine k _ ?_
    unfold tp_ok at ho
    unfold tp_nn
    rw [if_neg (by omega), if_neg (by omega), if_neg (by omega)]
    rfl
  have h1_20 : x0.toInt ≠ (20 : Int) := xne h1_20
  refine ⟨fun h1_21 => ?_, fun h1_21 => ?_⟩
  · have h1_21 : x0.toInt = (21 : Int) := xeq h1_21
    refine k _ ?_
    unfold tp_ok at ho
    unfold tp_nn
    rw [if_neg (by omega), if_neg (by omega), if_neg (by omega)]
    rfl
  have h1_21 : x0.toInt ≠ (21 : Int) := xne h1_21
  refine ⟨fun h1_22 => ?_, fun h1_22 => ?_⟩
  · have h1_22 : x0.toInt = (22 : Int) := xeq h1_22
    refine k _ ?_
    unfold tp_ok at ho
    unfold tp_nn
    rw [if_neg (by omega), if_neg (by omega), if_neg (by omega)]
    rfl
  have h1_22 : x0.toInt ≠ (22 : Int) := xne h1_22
  refine ⟨fun h1_23 => ?_, fun h1_23 => ?_⟩
  · have h1_23 : x0.toInt = (23 : Int) := xeq h1_23
    refine k _ ?_
    unfold tp_ok at ho
    unfold tp_nn
    rw [if_neg (by omega), if_neg (by omega), if_neg (by omega)]
    rfl
  have h1_23 : x0.toInt ≠ (23 : Int) := xne h1_23
  refine ⟨fun h1_24 => ?_, fun h1_24 => ?_⟩
  · have h1_24 : x0.toInt = (24 : Int) := xeq h1_24
    refine k _ ?_
    unfold tp_nn
    rw [if_neg (by omega), if_pos (by omega)]
    rfl
  have h1_24 : x0.toInt ≠ (24 : Int) := xne h1_24
  refine ⟨fun h1_25 => ?_, fun h1_25 => ?_⟩
  · have h1_25 : x0.toInt = (25 : Int) := xeq h1_25
    refine k _ ?_
    unfold tp_nn
    rw [if_neg (by omega), if_pos (by omega)]
    rfl
  have h1_25 : x0.toInt ≠ (25 : Int) := xne h1_25
  refine k _ ?_
  unfold tp_ok at ho
  unfold tp_nn
  rw [if_neg (by omega), if_neg (by omega), if_neg (by omega)]
  rfl
theorem fs_116 {n r : Nat} {x0 : Int32} {s : ps_S} {R : Int32 → ps_S → Prop} (hx : x0.toInt = r) (ho : tp_ok r) (k : ∀ v : Int32, v.toInt = (tq_np r : Nat) → R v s) : pl_Cl n 116 [.int x0] s (ps_rI R) := by
  cases n with
  | zero => exact pl_At_0
  | succ n =>
  show pl_At (n + 1) 116 0 [(0, .int x0)] [] s (ps_rI R)
  have c12 : (12 : Int32).toInt = 12 := by decide
  unfold tq_np at k
  refine pl_116_0 ⟨fun z => ?_, fun z => ?_⟩
  · have z := xne z
    refine fs_115 hx ho (fun v q => k v ?_)
    rw [if_neg (by omega)]
    exact q
  · have z := xeq z
    refine k _ ?_
    rw [if_pos (by omega)]
    rfl
theorem fs_32 {n p : Nat} {x1 : Int32} {s : ps_S} {R : Int32 → ps_S → Prop} (k1 : 0 ≤ x1.toInt → x1.toInt < (ps_i s p 8).toInt → R 1 s) (k0 : ¬ (0 ≤ x1.toInt ∧ x1.toInt < (ps_i s p 8).toInt) → R 0 s) : pl_Cl n 32 [.ref p, .int x1] s (ps_rI R) := by
  cases n with
  | zero => exact pl_At_0
  | succ n =>
  show pl_At (n + 1) 32 0 [(0, .ref p), (1, .int x1)] [] s (ps_rI R)
  have t0 : (0 : Int32).toInt = 0 := Int32.toInt_zero
  refine pl_32_0 ⟨fun z => ?_, fun z => pl_nk_i (fun _ => ⟨fun z2 => ?_, fun z2 => ?_⟩)⟩
  · have z := xlt z
    exact k0 (fun y => by omega)
  · have z2 := xle z2
    exact k0 (fun y => by omega)
  · have z := xle z
    have z2 := xlt z2
    exact k1 (by omega) z2

