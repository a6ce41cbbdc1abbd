set_option maxRecDepth 100000
/-! letters(), table(), row(): both sides -/
/-- a formula spelled: the rest, the letters so far, the signs so far -/
abbrev lt_C : Type := List Nat × (List (List Nat) × List Nat)
def lt_ix (L : List (List Nat)) (m : List Nat) : Nat × List (List Nat) := match tx_at L m with
  | some k => (k, L)
  | none => (L.length, L ++ [m])
def lt_st (ar : Nat → Nat) : lt_C → lt_C
  | ([], x) => ([], x)
  | (c :: t, L, S) => if c < 4 then (t, L, S ++ [c]) else ((c :: t).drop (en ar (c :: t) 1), (lt_ix L ((c :: t).take (en ar (c :: t) 1))).2, S ++ [4 + (lt_ix L ((c :: t).take (en ar (c :: t) 1))).1])
def lt_go (ar : Nat → Nat) (l : List Nat) (L : List (List Nat)) (S : List Nat) : Prop := gt_go (lt_st ar) (l, [], []) ([], L, S)
theorem lt_det {ar : Nat → Nat} {l : List Nat} {L L' : List (List Nat)} {S S' : List Nat} (h : lt_go ar l L S) (h' : lt_go ar l L' S') : L = L' ∧ S = S' := by
  have z := gt_det h h' rfl rfl
  cases z
  exact ⟨rfl, rfl⟩
/-- signs as a prefix code of n parts -/
def cw : List Nat → Nat → Prop
  | [], n => n = 0
  | c :: T, n => ∃ n', n = n' + 1 ∧ cw T ((if 1 ≤ c ∧ c ≤ 3 then 2 else 0) + n')
theorem lt_ix_le {L : List (List Nat)} {m : List Nat} : (lt_ix L m).2.length ≤ L.length + 1 ∧ (lt_ix L m).1 < (lt_ix L m).2.length := by
  unfold lt_ix
  cases e : tx_at L m with
  | none => exact ⟨by rw [List.length_append, List.length_singleton]; exact Nat.le_refl _, by rw [List.length_append, List.length_singleton]; show L.length < _; omega⟩
  | some k =>
    have := tx_ix_some e
    exact ⟨by show L.length ≤ _; omega, by show k < L.length; omega⟩
theorem tk_len {m t : List Nat} {q : Nat} (h : m = t.take q) : t.take m.length = m := by
  have e : m.length = min q t.length := by rw [h, List.length_take]
  rw [e, h, List.take_eq_take_iff]
  omega
/-- the k-th letter's part begins at b -/
def lt_bg (ar : Nat → Nat) (l : List Nat) (m : List Nat) (b : Nat) : Prop := b < l.length ∧ (l.drop b).take (en ar (l.drop b) 1) = m
/-- a letter is the part m, so far as m pieces tell -/
theorem lt_same {σ : mSig} {ar : Nat → Nat} (hA : ArW σ ar) {l m m' : List Nat} {b : Nat} {bb : Bool} (hm : ws σ m [bb]) (hb : lt_bg ar l m' b) : m = (l.drop b).take m.length ↔ m' = m := by
  obtain ⟨h1, h2⟩ := hb
  constructor
  · intro h
    have e : l.drop b = m ++ (l.drop b).drop m.length := by
      have := List.take_append_drop m.length (l.drop b)
      rw [← h] at this
      exact this.symm
    have e2 : en ar (l.drop b) 1 = m.length := by rw [e]; exact en_p1 hA hm
    rw [← h2, e2]
    exact h.symm
  · intro h
    rw [h] at h2
    exact (tk_len h2.symm).symm
theorem lt_at {L : List (List Nat)} {m : List Nat} {k : Nat} (h : L[k]? = some m) (hj : ∀ j, j < k → L[j]? ≠ some m) : lt_ix L m = (k, L) := by
  unfold lt_ix
  rw [tx_at_is h hj]
theorem lt_no {L : List (List Nat)} {m : List Nat} (h : ∀ j, j < L.length → L[j]? ≠ some m) : lt_ix L m = (L.length, L ++ [m]) := by
  unfold lt_ix
  rw [tx_at_no h]
/-- the signs so far make the whole, once the rest's parts come -/
def lt_W (σ : mSig) (t : List Nat) (S : List Nat) : Prop := ∃ W : List Bool, ws σ t W ∧ ∀ T, cw T W.length → cw (S ++ T) 1
theorem lt_W_0 {σ : mSig} {l : List Nat} {b : Bool} (h : ws σ l [b]) : lt_W σ l [] := ⟨[b], h, fun T z => z⟩
theorem lt_W_end {σ : mSig} {S : List Nat} (h : lt_W σ [] S) : cw S 1 := by
  obtain ⟨W, h1, h2⟩ := h
  have h1 : W = [] := h1
  have := h2 [] (by rw [h1]; rfl)
  rw [List.append_nil] at this
  exact this
theorem lt_W_c {σ : mSig} {c : Nat} {t S : List Nat} (h : lt_W σ (c :: t) S) (hc : c < 4) : lt_W σ t (S ++ [c]) := by
  obtain ⟨W, h1, h2⟩ := h
  obtain ⟨b, W', ks, rfl, hk, h3⟩ := ws_cons.mp h1
  refine ⟨ks ++ W', h3, fun T hT => ?_⟩
  rw [List.append_assoc]
  refine h2 _ ⟨W'.length, rfl, ?_⟩
  rw [List.length_append] at hT
  have e : ks.length = (if 1 ≤ c ∧ c ≤ 3 then 2 else 0) := by
    rcases kS_num hk with ⟨a, e⟩ | ⟨a, a2, e⟩ | ⟨a, e⟩ | ⟨a, e⟩ | ⟨a, a2, e⟩ | ⟨a, a2, e⟩ | ⟨a, a2, e⟩
    · rw [if_neg (by omega), e]
    · rw [if_pos (by omega), e]
    · omega
    · omega
    · omega
    · omega
    · omega
  rw [e] at hT
  exact hT
theorem lt_W_p {σ : mSig} {ar : Nat → Nat} (hA : ArW σ ar) {k : Nat} {t S : List Nat} (h : lt_W σ t S) (ht : t ≠ []) : lt_W σ (t.drop (en ar t 1)) (S ++ [4 + k]) ∧ ∃ b, ws σ (t.take (en ar t 1)) [b] := by
  obtain ⟨W, h1, h2⟩ := h
  cases W with
  | nil => exact absurd (ws_nil h1) ht
  | cons b W' =>
    obtain ⟨g1, g2⟩ := en_rest hA (k := 1) h1 (by rw [List.length_cons]; omega)
    refine ⟨⟨W', g1, fun T hT => ?_⟩, b, g2⟩
    rw [List.append_assoc]
    refine h2 _ ⟨W'.length, rfl, ?_⟩
    rw [if_neg (by omega), Nat.zero_add]
    exact hT
/-- the class's letters -/
def lt_c (s : ps_S) (ar : Nat → Nat) (l : List Nat) (L : List (List Nat)) (S : List Nat) : Prop := ((ps_i s 936 2).toInt = S.length ∧ ar_L s 941 S) ∧ (ps_i s 936 4).toInt = L.length ∧ ∀ (k : Nat) (m : List Nat), L[k]? = some m → ∃ b, (ps_a s 942 k).toInt = (b : Nat) ∧ lt_bg ar l m b

-- ProofBench$Letters.letterAt(LProofBench$Row;I)I
theorem pl_22_0 {n : Nat} {r1 : Nat} {x2 : Int32} {s : ps_S} {Q : Option Value → ps_S → Prop} (h :
  pl_At n 22 2 [(0, .ref 936), (1, .ref r1), (2, .int x2), (3, .int 0)] [] s Q) : pl_At (n + 1) 22 0 [(0, .ref 936), (1, .ref r1), (2, .int x2)] [] s Q :=
  pl_wp_at (stops := [(2, [0, 1, 2, 3])]) (f := 4) h rfl

theorem pl_22_2 {n : Nat} {r1 : Nat} {x2 : Int32} {x3 : Int32} {s : ps_S} {Q : Option Value → ps_S → Prop} (h :
  ((ps_i s 936 4) ≤ x3 →
    pl_Cl n 183 [.ref 942, .int (ps_i s 936 4), .int x2] s (ps_rV (fun s1 =>
      Q (some (.int ((ps_i (ps_ui s1 936 4 ((ps_i s1 936 4) + 1)) 936 4) - 1))) (ps_ui s1 936 4 ((ps_i s1 936 4) + 1))))) ∧
  (x3 < (ps_i s 936 4) →
    pl_Cl n 104 [.ref 937, .int x2] s (ps_rI (fun v2 s2 =>
      pl_Cl n 182 [.ref 942, .int x3] s2 (ps_rI (fun v3 s3 =>
        pl_Cl n 99 [.ref r1, .int x2, .int v2, .ref r1, .int v3] s3 (ps_rI (fun v4 s4 =>
          (v4 = 0 →
            pl_At n 22 2 [(0, .ref 936), (1, .ref r1), (2, .int x2), (3, .int (x3 + 1))] [] s4 Q) ∧
          (v4 ≠ 0 →
            Q (some (.int x3)) s4))))))))) : pl_At (n + 1) 22 2 [(0, .ref 936), (1, .ref r1), (2, .int x2), (3, .int x3)] [] s Q :=
  pl_wp_at (stops := [(2, [0, 1, 2, 3])]) (f := 40) h rfl

-- ProofBench$Letters.spell(LProofBench$Row;LProofBench$Theory;)V
theorem pl_21_0 {n : Nat} {r1 : Nat} {r2 : Nat} {s : ps_S} {Q : Option Value → ps_S → Prop} (h :
  pl_Cl n 103 [.ref 937, .ref r1, .ref r2] s (ps_rV (fun s1 =>
    pl_At n 21 21 [(0, .ref 936), (1, .ref r1), (3, .int 0)] [] (ps_ui (ps_ui s1 936 2 0) 936 4 0) Q))) : pl_At (n + 1) 21 0 [(0, .ref 936), (1, .ref r1), (2, .ref r2)] [] s Q :=
  pl_wp_at (stops := [(21, [0, 1, 3])]) (f := 15) h rfl

theorem pl_21_21 {n : Nat} {r1 : Nat} {x3 : Int32} {s : ps_S} {Q : Option Value → ps_S → Prop} (h :
  pl_nk (ps_is r1 5) (((ps_i s r1 1) ≤ x3 →
    Q none s) ∧
  (x3 < (ps_i s r1 1) →
    pl_Cl n 92 [.ref r1, .int x3] s (ps_rI (fun v1 s1 =>
      (v1 < 4 →
        ((0 : Int32) = 0 →
          pl_Cl n 92 [.ref r1, .int x3] s1 (ps_rI (fun v2 s2 =>
            pl_Cl n 183 [.ref 941, .int (ps_i s1 936 2), .int v2] s2 (ps_rV (fun s3 =>
              ((0 : Int32) = 0 →
                pl_At n 21 21 [(0, .ref 936), (1, .ref r1), (3, .int (x3 + 1))] [] (ps_ui s3 936 2 ((ps_i s3 936 2) + 1)) Q) ∧
              ((0 : Int32) ≠ 0 →
                pl_Cl n 104 [.ref 937, .int x3] (ps_ui s3 936 2 ((ps_i s3 936 2) + 1)) (ps_rI (fun v4 s4 =>
                  pl_At n 21 21 [(0, .ref 936), (1, .ref r1), (3, .int (if (x3 + 1) < v4 then v4 else (x3 + 1)))] [] s4 Q)))))))) ∧
        ((0 : Int32) ≠ 0 →
          pl_Cl n 22 [.ref 936, .ref r1, .int x3] s1 (ps_rI (fun v5 s5 =>
            pl_Cl n 183 [.ref 941, .int (ps_i s1 936 2), .int ((4 : Int32) + v5)] s5 (ps_rV (fun s6 =>
              ((0 : Int32) = 0 →
                pl_At n 21 21 [(0, .ref 936), (1, .ref r1), (3, .int (x3 + 1))] [] (ps_ui s6 936 2 ((ps_i s6 936 2) + 1)) Q) ∧
              ((0 : Int32) ≠ 0 →
                pl_Cl n 104 [.ref 937, .int x3] (ps_ui s6 936 2 ((ps_i s6 936 2) + 1)) (ps_rI (fun v7 s7 =>
                  pl_At n 21 21 [(0, .ref 936), (1, .ref r1), (3, .int (if (x3 + 1) < v7 then v7 else (x3 + 1)))] [] s7 Q))))))))) ∧
      (4 ≤ v1 →
        ((1 : Int32) = 0 →
          pl_Cl n 92 [.ref r1, .int x3] s1 (ps_rI (fun v8 s8 =>
            pl_Cl n 183 [.ref 941, .int (ps_i s1 936 2), .int v8] s8 (ps_rV (fun s9 =>
              ((1 : Int32) = 0 →
                pl_At n 21 21 [(0, .ref 936), (1, .ref r1), (3, .int (x3 + 1))] [] (ps_ui s9 936 2 ((ps_i s9 936 2) + 1)) Q) ∧
              ((1 : Int32) ≠ 0 →
                pl_Cl n 104 [.ref 937, .int x3] (ps_ui s9 936 2 ((ps_i s9 936 2) + 1)) (ps_rI (fun v10 s10 =>
                  pl_At n 21 21 [(0, .ref 936), (1, .ref r1), (3, .int (if (x3 + 1) < v10 then v10 else (x3 + 1)))] [] s10 Q)))))))) ∧
        ((1 : Int32) ≠ 0 →
          pl_Cl n 22 [.ref 936, .ref r1, .int x3] s1 (ps_rI (fun v11 s11 =>
            pl_Cl n 183 [.ref 941, .int (ps_i s1 936 2), .int ((4 : Int32) + v11)] s11 (ps_rV (fun s12 =>
              ((1 : Int32) = 0 →
                pl_At n 21 21 [(0, .ref 936), (1, .ref r1), (3, .int (x3 + 1))] [] (ps_ui s12 936 2 ((ps_i s12 936 2) + 1)) Q) ∧
              ((1 : Int32) ≠ 0 →
                pl_Cl n 104 [.ref 937, .int x3] (ps_ui s12 936 2 ((ps_i s12 936 2) + 1)) (ps_rI (fun v13 s13 =>
                  pl_At n 21 21 [(0, .ref 936), (1, .ref r1), (3, .int (if (x3 + 1) < v13 then v13 else (x3 + 1)))] [] s13 Q)))))))))))))) : pl_At (n + 1) 21 21 [(0, .ref 936), (1, .ref r1), (3, .int x3)] [] s Q :=
  pl_wp_at (stops := [(21, [0, 1, 3])]) (f := 149) h rfl

-- ProofBench$Letters.push(I)V
theorem pl_28_0 {n : Nat} {x1 : Int32} {s : ps_S} {Q : Option Value → ps_S → Prop} (h :
  pl_Cl n 183 [.ref 943, .int (ps_i s 936 6), .int x1] s (ps_rV (fun s1 =>
    Q none (ps_ui s1 936 6 ((ps_i s1 936 6) + 1))))) : pl_At (n + 1) 28 0 [(0, .ref 936), (1, .int x1)] [] s Q :=
  pl_wp_at (stops := []) (f := 15) h rfl

-- ProofBench$Letters.pop()I
theorem pl_29_0 {n : Nat} {s : ps_S} {Q : Option Value → ps_S → Prop} (h :
  pl_Cl n 182 [.ref 943, .int (ps_i (ps_ui s 936 6 ((ps_i s 936 6) - 1)) 936 6)] (ps_ui s 936 6 ((ps_i s 936 6) - 1)) (ps_rI (fun v1 s1 =>
    Q (some (.int v1)) s1))) : pl_At (n + 1) 29 0 [(0, .ref 936)] [] s Q :=
  pl_wp_at (stops := []) (f := 14) h rfl

-- ProofBench$Letters.join(III)I
theorem pl_27_0 {n : Nat} {x0 : Int32} {x1 : Int32} {x2 : Int32} {s : ps_S} {Q : Option Value → ps_S → Prop} (h :
  (x0 = 1 →
    Q (some (.int (x1 &&& x2))) s) ∧
  (x0 ≠ 1 →
    (x0 = 2 →
    Q (some (.int (x1 ||| x2))) s) ∧
  (x0 ≠ 2 →
    Q (some (.int (((1 : Int32) - x1) ||| x2))) s))) : pl_At (n + 1) 27 0 [(0, .int x0), (1, .int x1), (2, .int x2)] [] s Q :=
  pl_wp_at (stops := []) (f := 18) h rfl

-- ProofBench$Letters.rowCount()I
theorem pl_25_0 {n : Nat} {s : ps_S} {Q : Option Value → ps_S → Prop} (h :
  Q (some (.int ((1 : Int32) <<< ((if (12 : Int32) < (ps_i s 936 4) then (12 : Int32) else (ps_i s 936 4)) &&& 31)))) s) : pl_At (n + 1) 25 0 [(0, .ref 936)] [] s Q :=
  pl_wp_at (stops := []) (f := 9) h rfl

-- ProofBench$Letters.isSo(I)Z
theorem pl_26_0 {n : Nat} {x1 : Int32} {s : ps_S} {Q : Option Value → ps_S → Prop} (h :
  pl_At n 26 12 [(0, .ref 936), (1, .int x1), (2, .int ((ps_i (ps_ui s 936 6 0) 936 2) - 1))] [] (ps_ui s 936 6 0) Q) : pl_At (n + 1) 26 0 [(0, .ref 936), (1, .int x1)] [] s Q :=
  pl_wp_at (stops := [(12, [0, 1, 2])]) (f := 10) h rfl

theorem pl_26_12 {n : Nat} {x1 : Int32} {x2 : Int32} {s : ps_S} {Q : Option Value → ps_S → Prop} (h :
  (x2 < 0 →
    pl_Cl n 29 [.ref 936] s (ps_rI (fun v1 s1 =>
      (v1 ≠ 1 →
        Q (some (.int 0)) s1) ∧
      (v1 = 1 →
        Q (some (.int 1)) s1)))) ∧
  (0 ≤ x2 →
    pl_Cl n 182 [.ref 941, .int x2] s (ps_rI (fun v2 s2 =>
      (v2 < 4 →
        (v2 ≠ 0 →
          pl_Cl n 29 [.ref 936] s2 (ps_rI (fun v3 s3 =>
            pl_Cl n 29 [.ref 936] s3 (ps_rI (fun v4 s4 =>
              pl_Cl n 27 [.int v2, .int v3, .int v4] s4 (ps_rI (fun v5 s5 =>
                pl_Cl n 28 [.ref 936, .int v5] s5 (ps_rV (fun s6 =>
                  pl_At n 26 12 [(0, .ref 936), (1, .int x1), (2, .int (x2 + (-1)))] [] s6 Q))))))))) ∧
        (v2 = 0 →
          pl_Cl n 28 [.ref 936, .int 0] s2 (ps_rV (fun s7 =>
            pl_At n 26 12 [(0, .ref 936), (1, .int x1), (2, .int (x2 + (-1)))] [] s7 Q)))) ∧
      (4 ≤ v2 →
        pl_Cl n 28 [.ref 936, .int ((x1 >>> ((((ps_i s2 936 4) - 1) - (v2 - 4)) &&& 31)) &&& 1)] s2 (ps_rV (fun s8 =>
          pl_At n 26 12 [(0, .ref 936), (1, .int x1), (2, .int (x2 + (-1)))] [] s8 Q))))))) : pl_At (n + 1) 26 12 [(0, .ref 936), (1, .int x1), (2, .int x2)] [] s Q :=
  pl_wp_at (stops := [(12, [0, 1, 2])]) (f := 58) h rfl

-- ProofBench$Letters.rowsThatAreSo()I
theorem pl_23_0 {n : Nat} {s : ps_S} {Q : Option Value → ps_S → Prop} (h :
  pl_At n 23 4 [(0, .ref 936), (1, .int 0), (2, .int 0)] [] s Q) : pl_At (n + 1) 23 0 [(0, .ref 936)] [] s Q :=
  pl_wp_at (stops := [(4, [0, 1, 2])]) (f := 6) h rfl

theorem pl_23_4 {n : Nat} {x1 : Int32} {x2 : Int32} {s : ps_S} {Q : Option Value → ps_S → Prop} (h :
  pl_Cl n 25 [.ref 936] s (ps_rI (fun v1 s1 =>
    (v1 ≤ x2 →
      Q (some (.int x1)) s1) ∧
    (x2 < v1 →
      pl_Cl n 26 [.ref 936, .int x2] s1 (ps_rI (fun v2 s2 =>
        (v2 = 0 →
          pl_At n 23 4 [(0, .ref 936), (1, .int x1), (2, .int (x2 + 1))] [] s2 Q) ∧
        (v2 ≠ 0 →
          pl_At n 23 4 [(0, .ref 936), (1, .int (x1 + 1)), (2, .int (x2 + 1))] [] s2 Q))))))) : pl_At (n + 1) 23 4 [(0, .ref 936), (1, .int x1), (2, .int x2)] [] s Q :=
  pl_wp_at (stops := [(4, [0, 1, 2])]) (f := 17) h rfl

-- ProofBench$Letters.firstRowNotSo()I
theorem pl_24_0 {n : Nat} {s : ps_S} {Q : Option Value → ps_S → Prop} (h :
  pl_At n 24 2 [(0, .ref 936), (1, .int 0)] [] s Q) : pl_At (n + 1) 24 0 [(0, .ref 936)] [] s Q :=
  pl_wp_at (stops := [(2, [0, 1])]) (f := 4) h rfl

theorem pl_24_2 {n : Nat} {x1 : Int32} {s : ps_S} {Q : Option Value → ps_S → Prop} (h :
  pl_Cl n 25 [.ref 936] s (ps_rI (fun v1 s1 =>
    (v1 ≤ x1 →
      Q (some (.int (-1))) s1) ∧
    (x1 < v1 →
      pl_Cl n 26 [.ref 936, .int x1] s1 (ps_rI (fun v2 s2 =>
        (v2 ≠ 0 →
          pl_At n 24 2 [(0, .ref 936), (1, .int (x1 + 1))] [] s2 Q) ∧
        (v2 = 0 →
          Q (some (.int x1)) s2))))))) : pl_At (n + 1) 24 2 [(0, .ref 936), (1, .int x1)] [] s Q :=
  pl_wp_at (stops := [(2, [0, 1])]) (f := 16) h rfl

-- ProofBench.letters()I
theorem pl_166_0 {n : Nat} {s : ps_S} {Q : Option Value → ps_S → Prop} (h :
  ((ps_i s 934 1) ≠ 0 →
    pl_Cl n 21 [.ref 936, .ref 934, .ref (ps_r s 0 2)] s (ps_rV (fun s1 =>
      Q (some (.int (ps_i s1 936 4))) s1))) ∧
  ((ps_i s 934 1) = 0 →
    Q (some (.int (-1))) s)) : pl_At (n + 1) 166 0 [(0, .ref 0)] [] s Q :=
  pl_wp_at (stops := []) (f := 19) h rfl

-- ProofBench.table()I
theorem pl_167_0 {n : Nat} {s : ps_S} {Q : Option Value → ps_S → Prop} (h :
  ((ps_i s 934 1) ≠ 0 →
    pl_Cl n 21 [.ref 936, .ref 934, .ref (ps_r s 0 2)] s (ps_rV (fun s1 =>
      ((ps_i s1 936 4) ≤ 12 →
        pl_Cl n 23 [.ref 936] s1 (ps_rI (fun v2 s2 =>
          Q (some (.int v2)) s2))) ∧
      (12 < (ps_i s1 936 4) →
        Q (some (.int (-2))) s1)))) ∧
  ((ps_i s 934 1) = 0 →
    Q (some (.int (-1))) s)) : pl_At (n + 1) 167 0 [(0, .ref 0)] [] s Q :=
  pl_wp_at (stops := []) (f := 27) h rfl

-- ProofBench.row()I
theorem pl_168_0 {n : Nat} {s : ps_S} {Q : Option Value → ps_S → Prop} (h :
  ((ps_i s 934 1) ≠ 0 →
    pl_Cl n 21 [.ref 936, .ref 934, .ref (ps_r s 0 2)] s (ps_rV (fun s1 =>
      ((ps_i s1 936 4) ≤ 12 →
        pl_Cl n 24 [.ref 936] s1 (ps_rI (fun v2 s2 =>
          Q (some (.int v2)) s2))) ∧
      (12 < (ps_i s1 936 4) →
        Q (some (.int (-2))) s1)))) ∧
  ((ps_i s 934 1) = 0 →
    Q (some (.int (-1))) s)) : pl_At (n + 1) 168 0 [(0, .ref 0)] [] s Q :=
  pl_wp_at (stops := []) (f := 27) h rfl

def LCq (q : Nat) : Prop := q = 936 ∨ q = 941 ∨ q = 942 ∨ q = 943
theorem fs_22_2 {l m : List Nat} {L : List (List Nat)} {S : List Nat} {i : Nat} {bb : Bool} {σ : mSig} {ar : Nat → Nat} {x2 : Int32} {s : ps_S} {R : Int32 → ps_S → Prop} (hA : ArW σ ar) (W0 : cv_W s 934 l) (E0 : shE s 937 ar l 0) (hL : lt_c s ar l L S) (hLn : L.length ≤ i) (hx : x2.toInt = i) (hi : i < l.length) (hm : m = (l.drop i).take (en ar (l.drop i) 1)) (hw : ws σ m [bb]) (hml : i + en ar (l.drop i) 1 ≤ l.length) (k : ∀ (v : Int32) s', v.toInt = (lt_ix L m).1 → lt_c s' ar l (lt_ix L m).2 S → cfr (fun q => q = 936 ∨ q = 942) s s' → R v s') : ∀ (n : Nat) {x3 : Int32} {j : Nat}, x3.toInt = j → j ≤ L.length → (∀ j', j' < j → L[j']? ≠ some m) → pl_At n 22 2 [(0, .ref 936), (1, .ref 934), (2, .int x2), (3, .int x3)] [] s (ps_rI R)
  | 0, _, _, _, _, _ => pl_At_0
  | n + 1, x3, j, hj, hjl, hn => by
    have h40 := W0.2.2.1
    have hl4 := hL.2.1
    have em : m.length = en ar (l.drop i) 1 := by rw [hm, List.length_take, List.length_drop]; omega
    refine pl_22_2 ?_
    refine ⟨fun h7 => ?_, fun h7 => ?_⟩
    · have h7 : (ps_i s 936 4).toInt ≤ x3.toInt := xle h7
      refine fs_183 (a := L.length) hl4 (show L.length < 40 from by omega) (by decide) ?_
      have e : j = L.length := by omega
      subst e
      refine k _ _ ?_ ?_ (cfr_i (cfr_a cfr_refl (Or.inr rfl)) (Or.inl rfl))
      · rw [lt_no hn]
        show ((ps_i (ps_ua s 942 L.length x2) 936 4 + 1) - 1).toInt = _
        have e1 : (ps_i (ps_ua s 942 L.length x2) 936 4 + 1).toInt = (L.length + 1 : Nat) := xj1 hl4 (by omega)
        have c1 : (1 : Int32).toInt = 1 := by decide
        rw [xIs (by omega) (by omega), e1, c1]
        omega
      · rw [lt_no hn]
        obtain ⟨⟨a1, a2⟩, a3, a4⟩ := hL
        refine ⟨⟨a1, a2⟩, ?_, fun k2 m2 hk2 => ?_⟩
        · show (ps_i (ps_ua s 942 L.length x2) 936 4 + 1).toInt = ((L ++ [m]).length : Nat)
          rw [List.length_append, List.length_singleton]
          exact xj1 a3 (by omega)
        · show ∃ b, (ps_a (ps_ua s 942 L.length x2) 942 k2).toInt = _ ∧ _
          rcases Nat.lt_or_ge k2 L.length with z | z
          · rw [List.getElem?_append_left z] at hk2
            rw [ps_a_ua, if_neg (by omega)]
            exact a4 k2 m2 hk2
          · have hkl := (List.getElem?_eq_some_iff.mp hk2).1
            rw [List.length_append, List.length_singleton] at hkl
            rw [show k2 = L.length from by omega, List.getElem?_append_right (Nat.le_refl _), Nat.sub_self] at hk2
            cases hk2
            rw [show k2 = L.length from by omega, ps_a_ua, if_pos ⟨rfl, rfl⟩]
            exact ⟨i, hx, hi, hm.symm⟩
    · have h7 : x3.toInt < (ps_i s 936 4).toInt := xlt h7
      refine fs_104 (r := 937) rfl hx (by omega) (fun v17 q17 => ?_)
      obtain ⟨m', hmj⟩ : ∃ m', L[j]? = some m' := ⟨_, List.getElem?_eq_getElem (by omega)⟩
      obtain ⟨b, eb, hb⟩ := hL.2.2 j m' hmj
      have e17 : v17.toInt = (i + en ar (l.drop i) 1 : Nat) := by rw [q17, E0 i (Nat.zero_le _) hi]
      refine fs_182v (a := j) hj (show j < 40 from by omega) (by decide) (fun v26 q26 => ?_)
      refine fs_99 (l := l) (l2 := l) rfl W0 rfl W0 hx e17 hml (by rw [q26]; exact eb) (by have := hb.1; omega) (fun q29 => ?_) (fun q29 => ?_)
      · refine ⟨fun h32 => ?_, fun h32 => ?_⟩
        · exact absurd h32 (by decide)
        · have z := q29
          rw [Nat.add_sub_cancel_left, ← hm, ← em] at z
          have z2 := (lt_same hA hw hb).mp z
          rw [z2] at hmj
          have y := lt_at hmj hn
          exact k _ _ (by rw [y]; exact hj) (by rw [y]; exact hL) cfr_refl
      · refine ⟨fun h32 => ?_, fun h32 => ?_⟩
        · refine fs_22_2 hA W0 E0 hL hLn hx hi hm hw hml k n (xj1 hj (by omega)) (by omega) (fun j' hj' z => ?_)
          rcases Nat.lt_or_ge j' j with y | y
          · exact hn j' y z
          · rw [show j' = j from by omega, hmj] at z
            cases z
            refine q29 ?_
            rw [Nat.add_sub_cancel_left, ← hm, ← em]
            exact (lt_same hA hw hb).mpr rfl
        · exact absurd h32 (by decide)
theorem fs_22 {n : Nat} {l m : List Nat} {L : List (List Nat)} {S : List Nat} {i : Nat} {bb : Bool} {σ : mSig} {ar : Nat → Nat} {x2 : Int32} {s : ps_S} {R : Int32 → ps_S → Prop} (hA : ArW σ ar) (W0 : cv_W s 934 l) (E0 : shE s 937 ar l 0) (hL : lt_c s ar l L S) (hLn : L.length ≤ i) (hx : x2.toInt = i) (hi : i < l.length) (hm : m = (l.drop i).take (en ar (l.drop i) 1)) (hw : ws σ m [bb]) (hml : i + en ar (l.drop i) 1 ≤ l.length) (k : ∀ (v : Int32) s', (v.toInt = (lt_ix L m).1 ∧ lt_c s' ar l (lt_ix L m).2 S ∧ cfr (fun q => q = 936 ∨ q = 942) s s') → R v s') : pl_Cl n 22 [.ref 936, .ref 934, .int x2] s (ps_rI R) := by
  cases n with
  | zero => exact pl_At_0
  | succ n =>
  show pl_At (n + 1) 22 0 [(0, .ref 936), (1, .ref 934), (2, .int x2)] [] s (ps_rI R)
  refine pl_22_0 ?_
  exact fs_22_2 hA W0 E0 hL hLn hx hi hm hw hml (fun v s' a b c => k v s' ⟨a, b, c⟩) n rfl (Nat.zero_le _) (fun j hj => absurd hj (Nat.not_lt_zero _))
/-- the letters laid -/
def LTc (s : ps_S) (L : List (List Nat)) (S : List Nat) : Prop := (ps_i s 936 2).toInt = S.length ∧ ar_L s 941 S ∧ (ps_i s 936 4).toInt = L.length ∧ S.length ≤ 40 ∧ L.length ≤ 40 ∧ cw S 1 ∧ ∀ c, c ∈ S → c < 4 + L.length
theorem fs_21_21 {l : List Nat} {σ : mSig} {ar : Nat → Nat} {R : ps_S → Prop} (hA : ArW σ ar) (k : ∀ s' L S, lt_go ar l L S → LTc s' L S → R s') : ∀ (n : Nat) {s : ps_S} {x3 : Int32} {i : Nat} {L : List (List Nat)} {S : List Nat}, cv_W s 934 l → shE s 937 ar l 0 → lt_c s ar l L S → L.length ≤ i → S.length ≤ i → x3.toInt = i → i ≤ l.length → lt_W σ (l.drop i) S → (∀ c, c ∈ S → c < 4 + L.length) → gt_go (lt_st ar) (l, [], []) (l.drop i, L, S) → pl_At n 21 21 [(0, .ref 936), (1, .ref 934), (3, .int x3)] [] s (ps_rV R)
  | 0, _, _, _, _, _, _, _, _, _, _, _, _, _, _, _ => pl_At_0
  | n + 1, s, x3, i, L, S, W0, E0, hL, hLn, hSn, hx, hi, hW, hS4, hg => by
    have h40 := W0.2.2.1
    have hsz := W0.1
    obtain ⟨⟨a1, a2⟩, a3, a4⟩ := id hL
    refine pl_21_21 ?_
    refine pl_nk_i (fun nk23 => ?_)
    refine ⟨fun h26 => ?_, fun h26 => ?_⟩
    · have h26 : (ps_i s 934 1).toInt ≤ x3.toInt := xle h26
      have e : i = l.length := by omega
      subst e
      rw [List.drop_length] at hW hg
      exact k s L S hg ⟨a1, a2, a3, by omega, by omega, lt_W_end hW, hS4⟩
    · have h26 : x3.toInt < (ps_i s 934 1).toInt := xlt h26
      obtain ⟨c, hc⟩ : ∃ c, l[i]? = some c := ⟨_, List.getElem?_eq_getElem (by omega)⟩
      have hcd := drop_c hc
      refine fs_92c (r := 934) rfl W0 hx hc (fun v31 q31 => ?_)
      refine ⟨fun h35 => ?_, fun h35 => ?_⟩
      · have h35 : v31.toInt < (4 : Int) := xlt h35
        refine ⟨fun h55 => ?_, fun h55 => ?_⟩
        · refine fs_92c (r := 934) rfl W0 hx hc (fun v71 q71 => ?_)
          refine fs_183 (a := S.length) a1 (show S.length < 40 from by omega) (by decide) ?_
          have F : cfr (fun q => q = 936 ∨ q = 941) s (ps_ui (ps_ua s 941 S.length v71) 936 2 ((ps_i (ps_ua s 941 S.length v71) 936 2) + 1)) := cfr_i (cfr_a cfr_refl (Or.inr rfl)) (Or.inl rfl)
          refine ⟨fun h89 => ?_, fun h89 => ?_⟩
          · refine fs_21_21 hA k n (cv_W_cfr W0 F (by decide) (by decide)) (fun j a b => ?_) ⟨⟨?_, ar_snoc a2 q71⟩, a3, a4⟩ (by omega) (by rw [List.length_append, List.length_singleton]; omega) (xj1 hx (by omega)) (by omega) (lt_W_c (by rw [← hcd]; exact hW) (by omega)) (fun y hy => ?_) (gt_trans hg (gt_one ?_))
            · exact E0 j a b
            · rw [List.length_append, List.length_singleton]
              exact xj1 a1 (by omega)
            · rcases List.mem_append.mp hy with hy | hy
              · exact hS4 y hy
              · rw [List.mem_singleton] at hy
                omega
            · rw [hcd]
              show (if c < 4 then _ else _) = _
              rw [if_pos (by omega)]
          · exact absurd h89 (by decide)
        · exact absurd h55 (by decide)
      · have h35 : (4 : Int) ≤ v31.toInt := xle h35
        refine ⟨fun h55 => ?_, fun h55 => ?_⟩
        · exact absurd h55 (by decide)
        · obtain ⟨m, hm⟩ : ∃ m, m = (l.drop i).take (en ar (l.drop i) 1) := ⟨_, rfl⟩
          obtain ⟨-, bb, hwm⟩ := lt_W_p hA (k := 0) hW (by rw [hcd]; exact List.cons_ne_nil _ _)
          have hml0 : en ar (l.drop i) 1 ≤ (l.drop i).length := by
            obtain ⟨W, w1, -⟩ := hW
            cases W with
            | nil => rw [hcd] at w1; exact w1.elim
            | cons b W' => exact en_le hA w1 (by rw [List.length_cons]; omega)
          have em : m.length = en ar (l.drop i) 1 := by rw [hm, List.length_take]; omega
          rw [List.length_drop] at hml0
          refine fs_22 (m := m) hA W0 E0 hL hLn hx (by omega) hm (by rw [hm]; exact hwm) (by omega) (fun v62 s62 q62 => ?_)
          refine fs_183 (a := S.length) a1 (show S.length < 40 from by omega) (by decide) ?_
          have F3 : cfr LCq s (ps_ui (ps_ua s62 941 S.length ((4 : Int32) + v62)) 936 2 ((ps_i (ps_ua s62 941 S.length ((4 : Int32) + v62)) 936 2) + 1)) := cfr_i (cfr_a (cfr_mono q62.2.2 (fun q z => by unfold LCq; omega)) (Or.inr (Or.inl rfl))) (Or.inl rfl)
          have E2 : shE (ps_ui (ps_ua s62 941 S.length ((4 : Int32) + v62)) 936 2 ((ps_i (ps_ua s62 941 S.length ((4 : Int32) + v62)) 936 2) + 1)) 937 ar l 0 := fun j a b => by
            rw [(F3 938 (by unfold LCq; omega)).2.2.2.1]
            exact E0 j a b
          refine ⟨fun h89 => ?_, fun h89 => ?_⟩
          · exact absurd h89 (by decide)
          · refine fs_104 (r := 937) rfl hx (by omega) (fun v100 q100 => ?_)
            have hle : en ar (l.drop i) 1 ≤ (l.drop i).length := by rw [← em]; rw [hm, List.length_take]; omega
            have hpos := en_pos (ar := ar) (t := l.drop i) (p := 1) (by rw [List.length_drop]; omega) (by decide)
            rw [List.length_drop] at hle
            have e100 : v100.toInt = (i + en ar (l.drop i) 1 : Nat) := by rw [q100, E2 i (Nat.zero_le _) (by omega)]
            have ex : (if x3 + 1 < v100 then v100 else x3 + 1).toInt = (i + en ar (l.drop i) 1 : Nat) := by
              have e1 := xj1 hx (show i < 2147483647 by omega)
              by_cases z : x3 + 1 < v100
              · rw [if_pos z]; exact e100
              · have z2 : ¬ (x3 + 1).toInt < v100.toInt := fun y => z (Int32.lt_iff_toInt_lt.mpr y)
                rw [if_neg z]
                omega
            have hix := lt_ix_le (L := L) (m := m)
            have hl2 : (lt_ix L m).2.length ≤ i + en ar (l.drop i) 1 := by have := hix.1; omega
            have hl3 : S.length + 1 ≤ i + en ar (l.drop i) 1 := by omega
            refine fs_21_21 hA k n (i := i + en ar (l.drop i) 1) (L := (lt_ix L m).2) (S := S ++ [4 + (lt_ix L m).1]) (cv_W_cfr W0 F3 (by unfold LCq; omega) (by unfold LCq; omega)) E2 ⟨⟨?_, ?_⟩, ?_, ?_⟩ hl2 (by rw [List.length_append, List.length_singleton]; exact hl3) ex (by omega) ?_ (fun y hy => ?_) (gt_trans hg (gt_one ?_))
            · rw [List.length_append, List.length_singleton]
              exact xj1 q62.2.1.1.1 (by omega)
            · have e4 : ((4 : Int32) + v62).toInt = (4 + (lt_ix L m).1 : Nat) := by
                have c4 : (4 : Int32).toInt = 4 := by decide
                rw [xIa (by have := q62.1; omega) (by have := q62.1; omega), c4, q62.1]
                rfl
              exact ar_snoc q62.2.1.1.2 e4
            · exact q62.2.1.2.1
            · exact q62.2.1.2.2
            · rw [← List.drop_drop]
              exact (lt_W_p hA (k := (lt_ix L m).1) hW (by rw [hcd]; exact List.cons_ne_nil _ _)).1
            · rcases List.mem_append.mp hy with hy | hy
              · have := hS4 y hy
                have h2 : L.length ≤ (lt_ix L m).2.length := by
                  unfold lt_ix
                  cases tx_at L m with
                  | none => rw [List.length_append]; omega
                  | some k => exact Nat.le_refl _
                omega
              · rw [List.mem_singleton] at hy
                omega
            · rw [← List.drop_drop, hm, hcd]
              show (if c < 4 then _ else _) = _
              rw [if_neg (by omega)]
theorem fs_21 {n th : Nat} {l : List Nat} {g : tx_g} {s : ps_S} {b : Bool} {R : ps_S → Prop} (hth : th = 2 ∨ th = 26) (H : cv_E s th g) (W0 : cv_W s 934 l) (hw : ws (sg g) l [b]) (k : ∀ s' L S, lt_go (arh g) l L S → LTc s' L S → R s') : pl_Cl n 21 [.ref 936, .ref 934, .ref th] s (ps_rV R) := by
  cases n with
  | zero => exact pl_At_0
  | succ n =>
  show pl_At (n + 1) 21 0 [(0, .ref 936), (1, .ref 934), (2, .ref th)] [] s (ps_rV R)
  refine pl_21_0 ?_
  have hA := arh_k H.2.2.1 H.2.2.2.1
  refine fs_103 (r := 937) (r1 := 934) (l := l) rfl rfl hth ⟨by omega, by omega⟩ hw (Or.inl rfl) W0 H (fun s2 Z F => ?_)
  have W2 := cv_W_cfr W0 F (by unfold CSh; omega) (by unfold CSh; omega)
  exact fs_21_21 hA k n (i := 0) (L := []) (S := []) W2 Z.1 ⟨⟨rfl, fun k c hk => by cases hk⟩, rfl, fun k m hk => by cases hk⟩ (Nat.zero_le _) (Nat.zero_le _) rfl (Nat.zero_le _) (by rw [List.drop_zero]; exact lt_W_0 hw) (fun c hc => by cases hc) gt_refl
/-! the worth of signs -/
def lt_j (c : Nat) (a b : Int32) : Int32 := if c = 1 then a &&& b else if c = 2 then a ||| b else (1 - a) ||| b
def lt_ev (f : Nat → Int32) : List Nat → List Int32
  | [] => []
  | c :: T => if 4 ≤ c then f (c - 4) :: lt_ev f T else if c = 0 then 0 :: lt_ev f T else match lt_ev f T with
    | a :: b :: r => lt_j c a b :: r
    | x => x
/-- a letter's bit in a line -/
def lt_f (x : Int32) (n k : Nat) : Int32 := (x >>> (((nI n - 1) - nI k) &&& 31)) &&& 1
theorem lt_ev_len {f : Nat → Int32} : ∀ {T : List Nat} {n : Nat}, cw T n → (lt_ev f T).length = n
  | [], n, h => by
    have h : n = 0 := h
    rw [h]; rfl
  | c :: T, n, h => by
    obtain ⟨n', rfl, h⟩ := h
    have ih := lt_ev_len (f := f) h
    unfold lt_ev
    by_cases h4 : 4 ≤ c
    · rw [if_pos h4]
      rw [if_neg (by omega), Nat.zero_add] at ih
      rw [List.length_cons, ih]
    · rw [if_neg h4]
      by_cases h0 : c = 0
      · rw [if_pos h0]
        rw [if_neg (by omega), Nat.zero_add] at ih
        rw [List.length_cons, ih]
      · rw [if_neg h0]
        rw [if_pos (by omega)] at ih
        split
        · next a b r e =>
          rw [e, List.length_cons, List.length_cons] at ih
          rw [List.length_cons]
          omega
        · next hne =>
          exfalso
          match hq : lt_ev f T, ih with
          | [], ih => rw [List.length_nil] at ih; omega
          | [a], ih => rw [List.length_singleton] at ih; omega
          | a :: b :: r, ih => exact hne a b r hq
/-- a row of ints as a stack, its top the first -/
def stk (g : Nat → Int32) : List Int32 → Prop
  | [] => True
  | v :: r => g r.length = v ∧ stk g r
theorem stk_ext {g g' : Nat → Int32} : ∀ {l : List Int32}, stk g l → (∀ i, i < l.length → g' i = g i) → stk g' l
  | [], _, _ => trivial
  | v :: r, h, k => ⟨by rw [k r.length (by rw [List.length_cons]; omega)]; exact h.1, stk_ext h.2 (fun i hi => k i (by rw [List.length_cons]; omega))⟩
theorem stk_push {s : ps_S} {r : Nat} {l : List Int32} {v : Int32} (h : stk (ps_a s r) l) : stk (ps_a (ps_ua s r l.length v) r) (v :: l) := by
  refine ⟨by rw [ps_a_ua, if_pos ⟨rfl, rfl⟩], stk_ext h (fun i hi => ?_)⟩
  rw [ps_a_ua, if_neg (by omega)]
/-- the class's stack -/
def LTs (s : ps_S) (l : List Int32) : Prop := (ps_i s 936 6).toInt = l.length ∧ stk (ps_a s 943) l
theorem fs_28 {n : Nat} {x1 : Int32} {l : List Int32} {s : ps_S} {R : ps_S → Prop} (h : LTs s l) (hl : l.length < 40) (k : ∀ s', LTs s' (x1 :: l) ∧ jq 936 [943] [6] s s' → R s') : pl_Cl n 28 [.ref 936, .int x1] s (ps_rV R) := by
  cases n with
  | zero => exact pl_At_0
  | succ n =>
  show pl_At (n + 1) 28 0 [(0, .ref 936), (1, .int x1)] [] s (ps_rV R)
  refine pl_28_0 ?_
  refine fs_183 (a := l.length) h.1 (show l.length < 40 from hl) (by decide) ?_
  exact k _ ⟨⟨xj1 h.1 (by omega), stk_push h.2⟩, jqi (jqa jq_refl rfl) rfl⟩
theorem fs_29 {n : Nat} {v : Int32} {l : List Int32} {s : ps_S} {R : Int32 → ps_S → Prop} (h : LTs s (v :: l)) (hl : l.length < 40) (k : ∀ (w : Int32) s', w = v ∧ LTs s' l ∧ jq 936 [943] [6] s s' → R w s') : pl_Cl n 29 [.ref 936] s (ps_rI R) := by
  cases n with
  | zero => exact pl_At_0
  | succ n =>
  show pl_At (n + 1) 29 0 [(0, .ref 936)] [] s (ps_rI R)
  refine pl_29_0 ?_
  have c1 : (1 : Int32).toInt = 1 := by decide
  have e : (ps_i s 936 6 - 1).toInt = l.length := by
    have := h.1
    rw [List.length_cons] at this
    rw [xIs (by omega) (by omega), this, c1]
    omega
  refine fs_182 (a := l.length) e (show l.length < 40 from hl) (by decide) ?_
  exact k _ _ ⟨h.2.1, ⟨e, h.2.2⟩, jqi jq_refl rfl⟩
theorem fs_27 {n c : Nat} {x0 x1 x2 : Int32} {s : ps_S} {R : Int32 → ps_S → Prop} (hx : x0.toInt = c) (k : R (lt_j c x1 x2) s) : pl_Cl n 27 [.int x0, .int x1, .int x2] s (ps_rI R) := by
  cases n with
  | zero => exact pl_At_0
  | succ n =>
  show pl_At (n + 1) 27 0 [(0, .int x0), (1, .int x1), (2, .int x2)] [] s (ps_rI R)
  have c1 : (1 : Int32).toInt = 1 := by decide
  have c2 : (2 : Int32).toInt = 2 := by decide
  unfold lt_j at k
  refine pl_27_0 ⟨fun h => ?_, fun h => ⟨fun h2 => ?_, fun h2 => ?_⟩⟩
  · have h := xeq h
    rw [if_pos (by omega)] at k
    exact k
  · have h := xne h
    have h2 := xeq h2
    rw [if_neg (by omega), if_pos (by omega)] at k
    exact k
  · have h := xne h
    have h2 := xne h2
    rw [if_neg (by omega), if_neg (by omega)] at k
    exact k
theorem LTc_jq {s s' : ps_S} {L : List (List Nat)} {S : List Nat} (h : LTc s L S) (K : jq 936 [943] [6] s s') : LTc s' L S := by
  unfold LTc ar_L at *
  rw [jq_i K 2 rfl, jq_i K 4 rfl, jq_a K 941 (by decide)]
  exact h
theorem lt_evc {f : Nat → Int32} {c : Nat} {T : List Nat} (h1 : ¬ 4 ≤ c) (h0 : c ≠ 0) {a b : Int32} {r : List Int32} (e : lt_ev f T = a :: b :: r) : lt_ev f (c :: T) = lt_j c a b :: r := by
  show (if 4 ≤ c then _ else if c = 0 then _ else match lt_ev f T with
    | a :: b :: r => lt_j c a b :: r
    | x => x) = _
  rw [if_neg h1, if_neg h0, e]
theorem cw_drop : ∀ {S : List Nat} {n : Nat} (i : Nat), cw S n → ∃ n', cw (S.drop i) n'
  | S, n, 0, h => ⟨n, by rw [List.drop_zero]; exact h⟩
  | [], n, i + 1, h => ⟨n, h⟩
  | c :: S, n, i + 1, h => by
    obtain ⟨n', -, h⟩ := h
    rw [List.drop_succ_cons]
    exact cw_drop i h
theorem cw_le : ∀ {S : List Nat} {n : Nat}, cw S n → n ≤ S.length
  | [], n, h => by
    have h : n = 0 := h
    omega
  | c :: S, n, h => by
    obtain ⟨n', rfl, h⟩ := h
    have := cw_le h
    rw [List.length_cons]
    omega
/-- whether a line is so -/
def lt_so (L : List (List Nat)) (S : List Nat) (x : Int32) : Prop := (lt_ev (lt_f x L.length) S).head? = some 1
theorem fs_26_12 {L : List (List Nat)} {S : List Nat} {x1 : Int32} {R : Int32 → ps_S → Prop} (k1 : ∀ s', lt_so L S x1 → LTc s' L S → R 1 s') (k0 : ∀ s', ¬ lt_so L S x1 → LTc s' L S → R 0 s') : ∀ (n : Nat) {s : ps_S} {x2 : Int32} {i : Nat}, LTc s L S → i ≤ S.length → x2.toInt = (i : Int) - 1 → LTs s (lt_ev (lt_f x1 L.length) (S.drop i)) → pl_At n 26 12 [(0, .ref 936), (1, .int x1), (2, .int x2)] [] s (ps_rI R)
  | 0, _, _, _, _, _, _, _ => pl_At_0
  | n + 1, s, x2, i, hL, hi, hx, hs => by
    obtain ⟨l1, l2, l3, l4, l5, l6, l7⟩ := id hL
    refine pl_26_12 ?_
    refine ⟨fun h13 => ?_, fun h13 => ?_⟩
    · have h13 : x2.toInt < (0 : Int) := xlt h13
      have e0 : i = 0 := by omega
      subst e0
      rw [List.drop_zero] at hs
      obtain ⟨a, e0⟩ : ∃ a, lt_ev (lt_f x1 L.length) S = [a] := by
        have := lt_ev_len (f := lt_f x1 L.length) l6
        match hq : lt_ev (lt_f x1 L.length) S, this with
        | [a], _ => exact ⟨a, rfl⟩
        | [], h => rw [List.length_nil] at h; omega
        | a :: b :: r, h => rw [List.length_cons, List.length_cons] at h; omega
      rw [e0] at hs
      have c1' : (1 : Int32).toInt = 1 := by decide
      refine fs_29 hs (by decide) (fun v90 s90 q90 => ?_)
      refine ⟨fun h94 => ?_, fun h94 => ?_⟩
      · have h94 : v90.toInt ≠ (1 : Int) := xne h94
        refine k0 _ (fun z => ?_) (LTc_jq hL q90.2.2)
        unfold lt_so at z
        rw [e0] at z
        rw [q90.1] at h94
        exact h94 (congrArg Int32.toInt (Option.some.inj z))
      · have h94 : v90.toInt = (1 : Int) := xeq h94
        refine k1 _ ?_ (LTc_jq hL q90.2.2)
        unfold lt_so
        rw [e0]
        show some a = some 1
        rw [← q90.1, Int32.toInt_inj.mp (show v90.toInt = (1 : Int32).toInt from h94)]
    · have h13 : (0 : Int) ≤ x2.toInt := xle h13
      have hx2 : x2.toInt = (i - 1 : Nat) := by omega
      obtain ⟨c, hc⟩ : ∃ c, S[i - 1]? = some c := ⟨_, List.getElem?_eq_getElem (by omega)⟩
      obtain ⟨nn, hcw⟩ := cw_drop (i - 1) l6
      rw [drop_c hc] at hcw
      obtain ⟨n', rfl, hcw⟩ := hcw
      have hev := lt_ev_len (f := lt_f x1 L.length) hcw
      have hcl := cw_le hcw
      rw [List.length_drop] at hcl
      have hi1 : i - 1 + 1 = i := by omega
      rw [← hi1] at hs
      refine fs_182v (a := i - 1) hx2 (show i - 1 < 40 from by omega) (by decide) (fun v21 q21 => ?_)
      have q21' : v21.toInt = c := by rw [q21]; exact l2 _ _ hc
      have hr21 := xR v21
      refine ⟨fun h27 => ?_, fun h27 => ?_⟩
      · have h27 : v21.toInt < (4 : Int) := xlt h27
        refine ⟨fun h52 => ?_, fun h52 => ?_⟩
        · have h52 : v21.toInt ≠ (0 : Int) := xne h52
          rw [if_pos (by omega)] at hev hcl
          obtain ⟨a, b, r, er⟩ : ∃ a b r, lt_ev (lt_f x1 L.length) (S.drop (i - 1 + 1)) = a :: b :: r := by
            match hq : lt_ev (lt_f x1 L.length) (S.drop (i - 1 + 1)), hev with
            | [], h => rw [List.length_nil] at h; omega
            | [a], h => rw [List.length_singleton] at h; omega
            | a :: b :: r, h => exact ⟨a, b, r, rfl⟩
          rw [er] at hs hev
          rw [List.length_cons, List.length_cons] at hev
          refine fs_29 hs (by rw [List.length_cons]; omega) (fun v64 s64 q64 => ?_)
          refine fs_29 q64.2.1 (by omega) (fun v74 s74 q74 => ?_)
          refine fs_27 (c := c) q21' ?_
          refine fs_28 q74.2.1 (by omega) (fun s80 q80 => ?_)
          refine fs_26_12 k1 k0 n (LTc_jq (LTc_jq (LTc_jq hL q64.2.2) q74.2.2) q80.2) (i := i - 1) (by omega) (xmin1 hx2) ?_
          rw [drop_c hc, lt_evc (by omega) (by omega) er, ← q64.1, ← q74.1]
          exact q80.1
        · have h52 : v21.toInt = (0 : Int) := xeq h52
          refine fs_28 hs (by omega) (fun s57 q57 => ?_)
          refine fs_26_12 k1 k0 n (LTc_jq hL q57.2) (i := i - 1) (by omega) (xmin1 hx2) ?_
          have e : lt_ev (lt_f x1 L.length) (c :: S.drop (i - 1 + 1)) = 0 :: lt_ev (lt_f x1 L.length) (S.drop (i - 1 + 1)) := by
            show (if 4 ≤ c then _ else if c = 0 then _ else _) = _
            rw [if_neg (by omega), if_pos (by omega)]
          rw [drop_c hc, e]
          exact q57.1
      · have h27 : (4 : Int) ≤ v21.toInt := xle h27
        refine fs_28 hs (by omega) (fun s45 q45 => ?_)
        refine fs_26_12 k1 k0 n (LTc_jq hL q45.2) (i := i - 1) (by omega) (xmin1 hx2) ?_
        have e : lt_ev (lt_f x1 L.length) (c :: S.drop (i - 1 + 1)) = lt_f x1 L.length (c - 4) :: lt_ev (lt_f x1 L.length) (S.drop (i - 1 + 1)) := by
          show (if 4 ≤ c then _ else _) = _
          rw [if_pos (by omega)]
        have c4 : (4 : Int32).toInt = 4 := by decide
        have ef : (x1 >>> ((((ps_i s 936 4) - 1) - (v21 - 4)) &&& 31)) &&& 1 = lt_f x1 L.length (c - 4) := by
          unfold lt_f
          rw [xnI l3, xnI (x := v21 - 4) (n := c - 4) (by rw [xIs (by omega) (by omega), q21', c4]; omega)]
        rw [drop_c hc, e, ← ef]
        exact q45.1
theorem fs_26 {n : Nat} {L : List (List Nat)} {S : List Nat} {x1 : Int32} {s : ps_S} {R : Int32 → ps_S → Prop} (hL : LTc s L S) (k1 : ∀ s', lt_so L S x1 ∧ LTc s' L S → R 1 s') (k0 : ∀ s', ¬ lt_so L S x1 ∧ LTc s' L S → R 0 s') : pl_Cl n 26 [.ref 936, .int x1] s (ps_rI R) := by
  cases n with
  | zero => exact pl_At_0
  | succ n =>
  show pl_At (n + 1) 26 0 [(0, .ref 936), (1, .int x1)] [] s (ps_rI R)
  refine pl_26_0 ?_
  have K : jq 936 [943] [6] s (ps_ui s 936 6 0) := jqi jq_refl rfl
  have c1 : (1 : Int32).toInt = 1 := by decide
  have e : ((ps_i (ps_ui s 936 6 0) 936 2) - 1).toInt = (S.length : Int) - 1 := by
    show ((ps_i s 936 2) - 1).toInt = _
    have := hL.1
    have h40 := hL.2.2.2.1
    rw [xIs (by omega) (by omega), this, c1]
  refine fs_26_12 (fun s' a b => k1 s' ⟨a, b⟩) (fun s' a b => k0 s' ⟨a, b⟩) n (LTc_jq hL K) (Nat.le_refl _) e ?_
  rw [List.drop_length]
  exact ⟨rfl, trivial⟩
/-- how many lines -/
def lt_N (L : List (List Nat)) : Int32 := (1 : Int32) <<< ((nI L.length) &&& 31)
theorem fs_25 {n : Nat} {L : List (List Nat)} {S : List Nat} {s : ps_S} {R : Int32 → ps_S → Prop} (hL : LTc s L S) (h12 : L.length ≤ 12) (k : R (lt_N L) s) : pl_Cl n 25 [.ref 936] s (ps_rI R) := by
  cases n with
  | zero => exact pl_At_0
  | succ n =>
  show pl_At (n + 1) 25 0 [(0, .ref 936)] [] s (ps_rI R)
  refine pl_25_0 ?_
  have c12 : (12 : Int32).toInt = 12 := by decide
  have h4 := hL.2.2.1
  have e : (if (12 : Int32) < (ps_i s 936 4) then (12 : Int32) else (ps_i s 936 4)) = nI L.length := by
    rw [if_neg (fun z => by have := xlt z; omega)]
    exact xnI h4
  rw [e]
  exact k
/-- how many of the first lines are so -/
noncomputable def lt_n (P : Nat → Prop) : Nat → Nat
  | 0 => 0
  | k + 1 => lt_n P k + (@ite Nat (P k) (Classical.propDecidable _) 1 0)
theorem lt_n_1 {P : Nat → Prop} {k : Nat} (h : P k) : lt_n P (k + 1) = lt_n P k + 1 := by
  unfold lt_n
  rw [if_pos h]
  cases k <;> rfl
theorem lt_n_0 {P : Nat → Prop} {k : Nat} (h : ¬ P k) : lt_n P (k + 1) = lt_n P k := by
  show lt_n P k + (@ite Nat (P k) (Classical.propDecidable _) 1 0) = _
  rw [if_neg h]
  rfl
theorem lt_n_le {P : Nat → Prop} : ∀ {k : Nat}, lt_n P k ≤ k
  | 0 => Nat.le_refl _
  | k + 1 => by
    have ih := lt_n_le (P := P) (k := k)
    by_cases h : P k
    · rw [lt_n_1 h]; omega
    · rw [lt_n_0 h]; omega
theorem fs_23_4 {L : List (List Nat)} {S : List Nat} {R : Int32 → ps_S → Prop} (h12 : L.length ≤ 12) (k : ∀ (v : Int32) s', v.toInt = lt_n (fun i => lt_so L S (nI i)) (lt_N L).toInt.toNat → R v s') : ∀ (n : Nat) {s : ps_S} {x1 x2 : Int32} {i : Nat}, LTc s L S → x2.toInt = i → (i : Int) ≤ max 0 (lt_N L).toInt → x1.toInt = lt_n (fun i => lt_so L S (nI i)) i → pl_At n 23 4 [(0, .ref 936), (1, .int x1), (2, .int x2)] [] s (ps_rI R)
  | 0, _, _, _, _, _, _, _, _ => pl_At_0
  | n + 1, s, x1, x2, i, hL, hx, hi, h1 => by
    have hr := xR (lt_N L)
    have hle := lt_n_le (P := fun i => lt_so L S (nI i)) (k := i)
    refine pl_23_4 ?_
    refine fs_25 hL h12 ?_
    refine ⟨fun h9 => ?_, fun h9 => ?_⟩
    · have h9 : (lt_N L).toInt ≤ x2.toInt := xle h9
      have e : i = (lt_N L).toInt.toNat := by omega
      exact k _ _ (by rw [h1, e])
    · have h9 : x2.toInt < (lt_N L).toInt := xlt h9
      refine fs_26 hL (fun s14 q14 => ?_) (fun s14 q14 => ?_)
      · refine ⟨fun h17 => ?_, fun h17 => ?_⟩
        · exact absurd h17 (by decide)
        · refine fs_23_4 h12 k n q14.2 (xj1 hx (by omega)) (by omega) ?_
          rw [lt_n_1 (by rw [← xnI hx]; exact q14.1)]
          exact xj1 h1 (by omega)
      · refine ⟨fun h17 => ?_, fun h17 => ?_⟩
        · refine fs_23_4 h12 k n q14.2 (xj1 hx (by omega)) (by omega) ?_
          rw [lt_n_0 (fun z => by rw [← xnI hx] at z; exact q14.1 z)]
          exact h1
        · exact absurd h17 (by decide)
theorem fs_24_2 {L : List (List Nat)} {S : List Nat} {R : Int32 → ps_S → Prop} (h12 : L.length ≤ 12) (k : ∀ (v : Int32) s', ((∃ i : Nat, v.toInt = i ∧ (i : Int) < (lt_N L).toInt ∧ ¬ lt_so L S (nI i) ∧ ∀ j, j < i → lt_so L S (nI j)) ∨ (v.toInt = -1 ∧ ∀ j : Nat, (j : Int) < (lt_N L).toInt → lt_so L S (nI j))) → R v s') : ∀ (n : Nat) {s : ps_S} {x1 : Int32} {i : Nat}, LTc s L S → x1.toInt = i → (∀ j, j < i → lt_so L S (nI j)) → pl_At n 24 2 [(0, .ref 936), (1, .int x1)] [] s (ps_rI R)
  | 0, _, _, _, _, _, _ => pl_At_0
  | n + 1, s, x1, i, hL, hx, hj => by
    have hr := xR (lt_N L)
    refine pl_24_2 ?_
    refine fs_25 hL h12 ?_
    refine ⟨fun h7 => ?_, fun h7 => ?_⟩
    · have h7 : (lt_N L).toInt ≤ x1.toInt := xle h7
      exact k _ _ (Or.inr ⟨by decide, fun j h => hj j (by omega)⟩)
    · have h7 : x1.toInt < (lt_N L).toInt := xlt h7
      refine fs_26 hL (fun s12 q12 => ?_) (fun s12 q12 => ?_)
      · refine ⟨fun h15 => ?_, fun h15 => ?_⟩
        · refine fs_24_2 h12 k n q12.2 (xj1 hx (by omega)) (fun j h => ?_)
          rcases Nat.lt_or_ge j i with z | z
          · exact hj j z
          · rw [show j = i from by omega, ← xnI hx]
            exact q12.1
        · exact absurd h15 (by decide)
      · refine ⟨fun h15 => ?_, fun h15 => ?_⟩
        · exact absurd h15 (by decide)
        · exact k _ _ (Or.inl ⟨i, hx, by omega, by rw [← xnI hx]; exact q12.1, hj⟩)
/-! the answers -/
def lt_A (k : Nat) (g : tx_g) (l : List Nat) (v : Int32) : Prop := (l = [] ∧ v.toInt = -1) ∨ (l ≠ [] ∧ ∃ L S, lt_go (arh g) l L S ∧ ((k = 0 ∧ v.toInt = L.length) ∨ (k ≠ 0 ∧ 12 < L.length ∧ v.toInt = -2) ∨ (k = 1 ∧ L.length ≤ 12 ∧ v.toInt = lt_n (fun i => lt_so L S (nI i)) (lt_N L).toInt.toNat) ∨ (k = 2 ∧ L.length ≤ 12 ∧ ((∃ i : Nat, v.toInt = i ∧ (i : Int) < (lt_N L).toInt ∧ ¬ lt_so L S (nI i) ∧ ∀ j, j < i → lt_so L S (nI j)) ∨ (v.toInt = -1 ∧ ∀ j : Nat, (j : Int) < (lt_N L).toInt → lt_so L S (nI j))))))
theorem lt_A_eq {k : Nat} {g : tx_g} {l : List Nat} {v v' : Int32} (h : lt_A k g l v) (h' : lt_A k g l v') : v = v' := by
  apply Int32.toInt_inj.mp
  rcases h with ⟨h0, h⟩ | ⟨h0, L, S, hg, h⟩ <;> rcases h' with ⟨h0', h'⟩ | ⟨h0', L', S', hg', h'⟩
  · omega
  · exact absurd h0 h0'
  · exact absurd h0' h0
  · obtain ⟨rfl, rfl⟩ := lt_det hg hg'
    rcases h with ⟨a, b⟩ | ⟨a, b, c⟩ | ⟨a, b, c⟩ | ⟨a, b, c⟩ <;> rcases h' with ⟨a', b'⟩ | ⟨a', b', c'⟩ | ⟨a', b', c'⟩ | ⟨a', b', c'⟩ <;> try omega
    rcases c with ⟨i, e1, e2, e3, e4⟩ | ⟨e1, e2⟩ <;> rcases c' with ⟨j, f1, f2, f3, f4⟩ | ⟨f1, f2⟩
    · rcases Nat.lt_trichotomy i j with z | z | z
      · exact absurd (f4 i z) e3
      · omega
      · exact absurd (e4 j z) f3
    · exact absurd (f2 i e2) e3
    · exact absurd (e2 j f2) f3
    · omega

theorem fs_23 {n : Nat} {L : List (List Nat)} {S : List Nat} {s : ps_S} (hL : LTc s L S) (h12 : L.length ≤ 12) : pl_Cl n 23 [.ref 936] s (ps_rI (fun v _ => v.toInt = lt_n (fun i => lt_so L S (nI i)) (lt_N L).toInt.toNat)) := by
  cases n with
  | zero => exact pl_At_0
  | succ n =>
  show pl_At (n + 1) 23 0 [(0, .ref 936)] [] s _
  refine pl_23_0 ?_
  exact fs_23_4 h12 (fun v s' e => e) n (i := 0) hL rfl (by omega) rfl
theorem fs_24 {n : Nat} {L : List (List Nat)} {S : List Nat} {s : ps_S} (hL : LTc s L S) (h12 : L.length ≤ 12) : pl_Cl n 24 [.ref 936] s (ps_rI (fun v _ => (∃ i : Nat, v.toInt = i ∧ (i : Int) < (lt_N L).toInt ∧ ¬ lt_so L S (nI i) ∧ ∀ j, j < i → lt_so L S (nI j)) ∨ (v.toInt = -1 ∧ ∀ j : Nat, (j : Int) < (lt_N L).toInt → lt_so L S (nI j)))) := by
  cases n with
  | zero => exact pl_At_0
  | succ n =>
  show pl_At (n + 1) 24 0 [(0, .ref 936)] [] s _
  refine pl_24_0 ?_
  exact fs_24_2 h12 (fun v s' e => e) n (i := 0) hL rfl (fun j hj => absurd hj (Nat.not_lt_zero _))

theorem fs_166 {n : Nat} {s : ps_S} {h : tx_H} {l : List Nat} (c : TRc s h l) (hw : WFf h.1 l) : pl_Cl n 166 [.ref 0] s (ps_rI (fun v _ => lt_A 0 h.1 l v)) := by
  cases n with
  | zero => exact pl_At_0
  | succ n =>
  show pl_At (n + 1) 166 0 [(0, .ref 0)] [] s _
  refine pl_166_0 ?_
  have hsz := c.2.2.1
  have hth : ps_r s 0 2 = 2 ∨ ps_r s 0 2 = 26 := by have := c.2.1; omega
  refine ⟨fun z => ?_, fun z => ?_⟩
  · have z := xne z
    have z : (ps_i s 934 1).toInt ≠ 0 := z
    have hl : l ≠ [] := fun y => by rw [y] at hsz; exact z hsz
    rcases hw with hw | hw
    · exact absurd hw hl
    refine fs_21 hth c.1.1 c.2.2 (wf_ws hw) (fun s2 L S hg hL => ?_)
    have h4 := hL.2.2.1
    exact Or.inr ⟨hl, L, S, hg, Or.inl ⟨rfl, h4⟩⟩
  · have z := xeq z
    have z : (ps_i s 934 1).toInt = 0 := z
    exact Or.inl ⟨List.eq_nil_of_length_eq_zero (by omega), by decide⟩

theorem fs_167 {n : Nat} {s : ps_S} {h : tx_H} {l : List Nat} (c : TRc s h l) (hw : WFf h.1 l) : pl_Cl n 167 [.ref 0] s (ps_rI (fun v _ => lt_A 1 h.1 l v)) := by
  cases n with
  | zero => exact pl_At_0
  | succ n =>
  show pl_At (n + 1) 167 0 [(0, .ref 0)] [] s _
  refine pl_167_0 ?_
  have hsz := c.2.2.1
  have hth : ps_r s 0 2 = 2 ∨ ps_r s 0 2 = 26 := by have := c.2.1; omega
  refine ⟨fun z => ?_, fun z => ?_⟩
  · have z := xne z
    have z : (ps_i s 934 1).toInt ≠ 0 := z
    have hl : l ≠ [] := fun y => by rw [y] at hsz; exact z hsz
    rcases hw with hw | hw
    · exact absurd hw hl
    refine fs_21 hth c.1.1 c.2.2 (wf_ws hw) (fun s2 L S hg hL => ?_)
    have h4 := hL.2.2.1
    have c12 : (12 : Int32).toInt = 12 := by decide
    refine ⟨fun z2 => ?_, fun z2 => ?_⟩
    · have z2 := xle z2
      refine pl_At.mono (fs_23 (n := n) hL (by omega)) (fun o s3 z3 => rI_mono z3 (fun v e => Or.inr ⟨hl, L, S, hg, Or.inr (Or.inr (Or.inl ⟨rfl, by omega, e⟩))⟩))
    · have z2 := xlt z2
      exact Or.inr ⟨hl, L, S, hg, Or.inr (Or.inl ⟨by decide, by omega, by decide⟩)⟩
  · have z := xeq z
    have z : (ps_i s 934 1).toInt = 0 := z
    exact Or.inl ⟨List.eq_nil_of_length_eq_zero (by omega), by decide⟩

theorem fs_168 {n : Nat} {s : ps_S} {h : tx_H} {l : List Nat} (c : TRc s h l) (hw : WFf h.1 l) : pl_Cl n 168 [.ref 0] s (ps_rI (fun v _ => lt_A 2 h.1 l v)) := by
  cases n with
  | zero => exact pl_At_0
  | succ n =>
  show pl_At (n + 1) 168 0 [(0, .ref 0)] [] s _
  refine pl_168_0 ?_
  have hsz := c.2.2.1
  have hth : ps_r s 0 2 = 2 ∨ ps_r s 0 2 = 26 := by have := c.2.1; omega
  refine ⟨fun z => ?_, fun z => ?_⟩
  · have z := xne z
    have z : (ps_i s 934 1).toInt ≠ 0 := z
    have hl : l ≠ [] := fun y => by rw [y] at hsz; exact z hsz
    rcases hw with hw | hw
    · exact absurd hw hl
    refine fs_21 hth c.1.1 c.2.2 (wf_ws hw) (fun s2 L S hg hL => ?_)
    have h4 := hL.2.2.1
    have c12 : (12 : Int32).toInt = 12 := by decide
    refine ⟨fun z2 => ?_, fun z2 => ?_⟩
    · have z2 := xle z2
      refine pl_At.mono (fs_24 (n := n) hL (by omega)) (fun o s3 z3 => rI_mono z3 (fun v e => Or.inr ⟨hl, L, S, hg, Or.inr (Or.inr (Or.inr ⟨rfl, by omega, e⟩))⟩))
    · have z2 := xlt z2
      exact Or.inr ⟨hl, L, S, hg, Or.inr (Or.inl ⟨by decide, by omega, by decide⟩)⟩
  · have z := xeq z
    have z : (ps_i s 934 1).toInt = 0 := z
    exact Or.inl ⟨List.eq_nil_of_length_eq_zero (by omega), by decide⟩

