section
set_option maxRecDepth 100000
/-! feed: what it writes, on both sides -/
-- ProofBench.putNumber(I)V
theorem pl_179_0 {n : Nat} {x1 : Int32} {s : ps_S} {Q : Option Value → ps_S → Prop} (h :
  pl_At n 179 3 [(0, .ref 0), (1, .int x1), (2, .int 24)] [] s Q) : pl_At (n + 1) 179 0 [(0, .ref 0), (1, .int x1)] [] s Q :=
  pl_wp_at (stops := [(3, [0, 1, 2])]) (f := 4) h rfl

theorem pl_179_3 {n : Nat} {x1 : Int32} {x2 : Int32} {s : ps_S} {Q : Option Value → ps_S → Prop} (h :
  (x2 < 0 →
    Q none s) ∧
  (0 ≤ x2 →
    ((ps_i s 0 1) < 0 →
      pl_At n 179 3 [(0, .ref 0), (1, .int x1), (2, .int (x2 + (-8)))] [] s Q) ∧
    (0 ≤ (ps_i s 0 1) →
      ((nI 1600) ≤ (ps_i s 0 1) →
        pl_At n 179 3 [(0, .ref 0), (1, .int x1), (2, .int (x2 + (-8)))] [] s Q) ∧
      ((ps_i s 0 1) < (nI 1600) →
        (pm_in (ps_i s 0 1) 1600 = true →
          pl_At n 179 3 [(0, .ref 0), (1, .int x1), (2, .int (x2 + (-8)))] [] (ps_ui (ps_ua s 1 (Int32.toNatClampNeg (ps_i s 0 1)) (Int8.toInt32 (Int32.toInt8 (Int8.toInt32 (Int32.toInt8 (x1 >>> (x2 &&& 31))))))) 0 1 ((ps_i (ps_ua s 1 (Int32.toNatClampNeg (ps_i s 0 1)) (Int8.toInt32 (Int32.toInt8 (Int8.toInt32 (Int32.toInt8 (x1 >>> (x2 &&& 31))))))) 0 1) + 1)) Q))))) : pl_At (n + 1) 179 3 [(0, .ref 0), (1, .int x1), (2, .int x2)] [] s Q :=
  pl_wp_at (stops := [(3, [0, 1, 2])]) (f := 35) h rfl

-- ProofBench.feed(IIIII)I
theorem pl_149_0 {n : Nat} {x1 : Int32} {x2 : Int32} {x3 : Int32} {x4 : Int32} {x5 : Int32} {s : ps_S} {Q : Option Value → ps_S → Prop} (h :
  (((ps_i s 0 1) + 20) ≤ 1600 →
    pl_Cl n 179 [.ref 0, .int x1] s (ps_rV (fun s1 =>
      pl_Cl n 179 [.ref 0, .int x2] s1 (ps_rV (fun s2 =>
        pl_Cl n 179 [.ref 0, .int x3] s2 (ps_rV (fun s3 =>
          pl_Cl n 179 [.ref 0, .int x4] s3 (ps_rV (fun s4 =>
            pl_Cl n 179 [.ref 0, .int x5] s4 (ps_rV (fun s5 =>
              Q (some (.int (ps_i s5 0 1))) s5))))))))))) ∧
  (1600 < ((ps_i s 0 1) + 20) →
    Q (some (.int (-1))) s)) : pl_At (n + 1) 149 0 [(0, .ref 0), (1, .int x1), (2, .int x2), (3, .int x3), (4, .int x4), (5, .int x5)] [] s Q :=
  pl_wp_at (stops := []) (f := 28) h rfl

-- ProofBenchModel.feed(IIIII)I
theorem pl_308_0 {n : Nat} {x1 : Int32} {x2 : Int32} {x3 : Int32} {x4 : Int32} {x5 : Int32} {s : ps_S} {Q : Option Value → ps_S → Prop} (h :
  (((ps_i s 1131 3) + 20) ≤ 1600 →
    pl_At n 308 18 [(0, .ref 1131), (1, .int x1), (2, .int x2), (3, .int x3), (4, .int x4), (5, .int x5), (6, .int 0)] [] s Q) ∧
  (1600 < ((ps_i s 1131 3) + 20) →
    Q (some (.int (-1))) s)) : pl_At (n + 1) 308 0 [(0, .ref 1131), (1, .int x1), (2, .int x2), (3, .int x3), (4, .int x4), (5, .int x5)] [] s Q :=
  pl_wp_at (stops := [(18, [0, 1, 2, 3, 4, 5, 6])]) (f := 12) h rfl

theorem pl_308_18 {n : Nat} {x1 : Int32} {x2 : Int32} {x3 : Int32} {x4 : Int32} {x5 : Int32} {x6 : Int32} {s : ps_S} {Q : Option Value → ps_S → Prop} (h :
  (20 ≤ x6 →
    Q (some (.int (ps_i (ps_ui s 1131 3 ((ps_i s 1131 3) + 20)) 1131 3))) (ps_ui s 1131 3 ((ps_i s 1131 3) + 20))) ∧
  (x6 < 20 →
    (4 ≤ x6 →
      (8 ≤ x6 →
        (12 ≤ x6 →
          (16 ≤ x6 →
            (pm_in ((ps_i s 1131 3) + x6) 1620 = true →
              pl_At n 308 18 [(0, .ref 1131), (1, .int x1), (2, .int x2), (3, .int x3), (4, .int x4), (5, .int x5), (6, .int (x6 + 1))] [] (ps_ua s 1132 (Int32.toNatClampNeg ((ps_i s 1131 3) + x6)) (Int8.toInt32 (Int32.toInt8 (Int8.toInt32 (Int32.toInt8 (x5 >>> (((24 : Int32) - ((8 : Int32) * (x6 &&& 3))) &&& 31))))))) Q)) ∧
          (x6 < 16 →
            (pm_in ((ps_i s 1131 3) + x6) 1620 = true →
              pl_At n 308 18 [(0, .ref 1131), (1, .int x1), (2, .int x2), (3, .int x3), (4, .int x4), (5, .int x5), (6, .int (x6 + 1))] [] (ps_ua s 1132 (Int32.toNatClampNeg ((ps_i s 1131 3) + x6)) (Int8.toInt32 (Int32.toInt8 (Int8.toInt32 (Int32.toInt8 (x4 >>> (((24 : Int32) - ((8 : Int32) * (x6 &&& 3))) &&& 31))))))) Q))) ∧
        (x6 < 12 →
          (pm_in ((ps_i s 1131 3) + x6) 1620 = true →
            pl_At n 308 18 [(0, .ref 1131), (1, .int x1), (2, .int x2), (3, .int x3), (4, .int x4), (5, .int x5), (6, .int (x6 + 1))] [] (ps_ua s 1132 (Int32.toNatClampNeg ((ps_i s 1131 3) + x6)) (Int8.toInt32 (Int32.toInt8 (Int8.toInt32 (Int32.toInt8 (x3 >>> (((24 : Int32) - ((8 : Int32) * (x6 &&& 3))) &&& 31))))))) Q))) ∧
      (x6 < 8 →
        (pm_in ((ps_i s 1131 3) + x6) 1620 = true →
          pl_At n 308 18 [(0, .ref 1131), (1, .int x1), (2, .int x2), (3, .int x3), (4, .int x4), (5, .int x5), (6, .int (x6 + 1))] [] (ps_ua s 1132 (Int32.toNatClampNeg ((ps_i s 1131 3) + x6)) (Int8.toInt32 (Int32.toInt8 (Int8.toInt32 (Int32.toInt8 (x2 >>> (((24 : Int32) - ((8 : Int32) * (x6 &&& 3))) &&& 31))))))) Q))) ∧
    (x6 < 4 →
      (pm_in ((ps_i s 1131 3) + x6) 1620 = true →
        pl_At n 308 18 [(0, .ref 1131), (1, .int x1), (2, .int x2), (3, .int x3), (4, .int x4), (5, .int x5), (6, .int (x6 + 1))] [] (ps_ua s 1132 (Int32.toNatClampNeg ((ps_i s 1131 3) + x6)) (Int8.toInt32 (Int32.toInt8 (Int8.toInt32 (Int32.toInt8 (x1 >>> (((24 : Int32) - ((8 : Int32) * (x6 &&& 3))) &&& 31))))))) Q)))) : pl_At (n + 1) 308 18 [(0, .ref 1131), (1, .int x1), (2, .int x2), (3, .int x3), (4, .int x4), (5, .int x5), (6, .int x6)] [] s Q :=
  pl_wp_at (stops := [(18, [0, 1, 2, 3, 4, 5, 6])]) (f := 135) h rfl

def fb (x q : Int32) : Int32 := Int8.toInt32 (Int32.toInt8 (Int8.toInt32 (Int32.toInt8 (x >>> (q &&& 31)))))
def fsh (i : Nat) : Int32 := Int32.ofInt (24 - 8 * i)
def fx (x1 x2 x3 x4 x5 : Int32) : Nat → Int32
  | 0 => x1
  | 1 => x2
  | 2 => x3
  | 3 => x4
  | _ => x5
def fw (x1 x2 x3 x4 x5 : Int32) (j : Nat) : Int32 := fb (fx x1 x2 x3 x4 x5 (j / 4)) (fsh (j % 4))
theorem fsh_i {x : Int32} {i : Nat} (h : x.toInt = 24 - 8 * (i : Int)) (hi : i < 4) : x = fsh i := by
  apply Int32.toInt_inj.mp
  rw [h]
  exact (show ∀ i : Nat, i < 4 → 24 - 8 * (i : Int) = (fsh i).toInt by decide) i hi
theorem fsh_8 {x : Int32} {i : Nat} (h : x.toInt = 24 - 8 * (i : Int)) (hi : i < 4) : (x + (-8)).toInt = 24 - 8 * ((i + 1 : Nat) : Int) := by
  rw [xI_add (by rw [xm8]; omega) (by rw [xm8]; omega), xm8]
  omega
theorem fsh_m {x : Int32} {i : Nat} (h : x.toInt = (i : Int)) (hi : i < 20) : (24 : Int32) - (8 : Int32) * (x &&& 3) = fsh (i % 4) := by
  have e : x = Int32.ofNat i := by
    apply Int32.toInt_inj.mp
    rw [h]
    exact (show ∀ i : Nat, i < 20 → (i : Int) = (Int32.ofNat i).toInt by decide) i hi
  rw [e]
  exact (show ∀ i : Nat, i < 20 → (24 : Int32) - (8 : Int32) * (Int32.ofNat i &&& 3) = fsh (i % 4) by decide) i hi
def fq (t : Nat) (x : Int32) (s s' : ps_S) : Prop := (ps_i s' 0 1).toInt = (t + 4 : Nat) ∧ cfr (fun q => q = 0 ∨ q = 1) s s' ∧ ps_r s' = ps_r s ∧ (∀ k, k < t → ps_a s' 1 k = ps_a s 1 k) ∧ ∀ j, j < 4 → ps_a s' 1 (t + j) = fb x (fsh j)
theorem fs_179_3 {t : Nat} {x1 : Int32} {s0 : ps_S} {R : ps_S → Prop} (ht : t + 4 ≤ 1600) (k : ∀ s', fq t x1 s0 s' → R s') : ∀ (n : Nat) {s : ps_S} {x2 : Int32} {i : Nat}, x2.toInt = 24 - 8 * (i : Int) → i ≤ 4 → (ps_i s 0 1).toInt = (t + i : Nat) → cfr (fun q => q = 0 ∨ q = 1) s0 s → ps_r s = ps_r s0 → (∀ k, k < t → ps_a s 1 k = ps_a s0 1 k) → (∀ j, j < i → ps_a s 1 (t + j) = fb x1 (fsh j)) → pl_At n 179 3 [(0, .ref 0), (1, .int x1), (2, .int x2)] [] s (ps_rV R)
  | 0, _, _, _, _, _, _, _, _, _, _ => pl_At_0
  | n + 1, s, x2, i, hx, hi, h1, C, hr, ho, hw => by
    have e1600 : (nI 1600).toInt = 1600 := nI_toInt (by decide)
    refine pl_179_3 ?_
    refine ⟨fun h4 => ?_, fun h4 => ?_⟩
    · have h4 : x2.toInt < (0 : Int) := xlt h4
      have hi4 : i = 4 := by omega
      subst hi4
      exact k _ ⟨h1, C, hr, ho, hw⟩
    · have h4 : (0 : Int) ≤ x2.toInt := xle h4
      refine ⟨fun h11 => ?_, fun h11 => ?_⟩
      · have h11 : (ps_i s 0 1).toInt < (0 : Int) := xlt h11
        exfalso; omega
      · have h11 : (0 : Int) ≤ (ps_i s 0 1).toInt := xle h11
        refine ⟨fun h23 => ?_, fun h23 => ?_⟩
        · have h23 : (1600 : Int) ≤ (ps_i s 0 1).toInt := xle h23
          exfalso; omega
        · have h23 : (ps_i s 0 1).toInt < (1600 : Int) := xlt h23
          intro b38
          obtain ⟨b38, c38⟩ := pl_in b38
          have hi4 : i < 4 := by omega
          have e8 := fsh_8 hx hi4
          have ex := fsh_i hx hi4
          have ej := xj1 h1 (by omega)
          rw [xtn h1]
          refine fs_179_3 ht k n e8 (by omega) ?_ (cfr_i (cfr_a C (Or.inr rfl)) (Or.inl rfl)) hr (fun q hq => ?_) (fun j hj => ?_)
          · show (ps_i s 0 1 + 1).toInt = _
            exact ej
          · show ps_a (ps_ua s 1 (t + i) _) 1 q = _
            rw [ps_a_ua, if_neg (by omega)]
            exact ho q hq
          · show ps_a (ps_ua s 1 (t + i) _) 1 (t + j) = _
            rw [ps_a_ua]
            by_cases e : j = i
            · rw [if_pos ⟨rfl, by omega⟩, e, ex]
              rfl
            · rw [if_neg (by omega)]
              exact hw j (by omega)
theorem fs_179 {n t : Nat} {x1 : Int32} {s : ps_S} {R : ps_S → Prop} (ht : t + 4 ≤ 1600) (h1 : (ps_i s 0 1).toInt = t) (k : ∀ s', fq t x1 s s' → R s') : pl_Cl n 179 [.ref 0, .int x1] s (ps_rV R) := by
  cases n with
  | zero => exact pl_At_0
  | succ n =>
  show pl_At (n + 1) 179 0 [(0, .ref 0), (1, .int x1)] [] s (ps_rV R)
  refine pl_179_0 ?_
  exact fs_179_3 ht k n (i := 0) rfl (by omega) h1 cfr_refl rfl (fun _ _ => rfl) (fun j hj => absurd hj (Nat.not_lt_zero _))
def fg (t : Nat) (x1 x2 x3 x4 x5 : Int32) (s s' : ps_S) : Prop := (ps_i s' 0 1).toInt = (t + 20 : Nat) ∧ cfr (fun q => q = 0 ∨ q = 1) s s' ∧ ps_r s' = ps_r s ∧ (∀ k, k < t → ps_a s' 1 k = ps_a s 1 k) ∧ ∀ j, j < 20 → ps_a s' 1 (t + j) = fw x1 x2 x3 x4 x5 j
theorem fs_149 {n t : Nat} {x1 x2 x3 x4 x5 : Int32} {s : ps_S} {R : Int32 → ps_S → Prop} (ht : t ≤ 1600) (h1 : (ps_i s 0 1).toInt = t) (k1 : t ≤ 1580 → ∀ v s', fg t x1 x2 x3 x4 x5 s s' → R v s') (k0 : 1580 < t → R (-1) s) : pl_Cl n 149 [.ref 0, .int x1, .int x2, .int x3, .int x4, .int x5] s (ps_rI R) := by
  cases n with
  | zero => exact pl_At_0
  | succ n =>
  show pl_At (n + 1) 149 0 [(0, .ref 0), (1, .int x1), (2, .int x2), (3, .int x3), (4, .int x4), (5, .int x5)] [] s (ps_rI R)
  have c20 : (20 : Int32).toInt = 20 := by decide
  have e20 : ((ps_i s 0 1) + 20).toInt = t + 20 := by rw [xI_add (by omega) (by omega)]; omega
  refine pl_149_0 ?_
  refine ⟨fun h10 => ?_, fun h10 => ?_⟩
  · have h10 : ((ps_i s 0 1) + 20).toInt ≤ (1600 : Int) := xle h10
    refine fs_179 (t := t) (by omega) h1 (fun s17 q17 => ?_)
    refine fs_179 (t := t + 4) (by omega) q17.1 (fun s22 q22 => ?_)
    refine fs_179 (t := t + 8) (by omega) q22.1 (fun s27 q27 => ?_)
    refine fs_179 (t := t + 12) (by omega) q27.1 (fun s33 q33 => ?_)
    refine fs_179 (t := t + 16) (by omega) q33.1 (fun s39 q39 => ?_)
    obtain ⟨a1, a2, a3, a4, a5⟩ := q17
    obtain ⟨b1, b2, b3, b4, b5⟩ := q22
    obtain ⟨c1, c2, c3, c4, c5⟩ := q27
    obtain ⟨d1, d2, d3, d4, d5⟩ := q33
    obtain ⟨f1, f2, f3, f4, f5⟩ := q39
    refine k1 (by omega) _ _ ⟨f1, cfr_tr (cfr_tr (cfr_tr (cfr_tr a2 b2) c2) d2) f2, f3.trans (d3.trans (c3.trans (b3.trans a3))), fun q hq => ?_, fun j hj => ?_⟩
    · rw [f4 q (by omega), d4 q (by omega), c4 q (by omega), b4 q (by omega), a4 q hq]
    · have hd : j = 4 * (j / 4) + j % 4 := by omega
      have hm : j % 4 < 4 := Nat.mod_lt _ (by decide)
      unfold fw
      rcases (show j / 4 = 0 ∨ j / 4 = 1 ∨ j / 4 = 2 ∨ j / 4 = 3 ∨ j / 4 = 4 from by omega) with e | e | e | e | e
      · rw [e, f4 _ (by omega), d4 _ (by omega), c4 _ (by omega), b4 _ (by omega), show t + j = t + j % 4 from by omega, a5 _ hm]
        rfl
      · rw [e, f4 _ (by omega), d4 _ (by omega), c4 _ (by omega), show t + j = t + 4 + j % 4 from by omega, b5 _ hm]
        rfl
      · rw [e, f4 _ (by omega), d4 _ (by omega), show t + j = t + 8 + j % 4 from by omega, c5 _ hm]
        rfl
      · rw [e, f4 _ (by omega), show t + j = t + 12 + j % 4 from by omega, d5 _ hm]
        rfl
      · rw [e, show t + j = t + 16 + j % 4 from by omega, f5 _ hm]
        rfl
  · have h10 : (1600 : Int) < ((ps_i s 0 1) + 20).toInt := xlt h10
    exact k0 (by omega)
def fh (t : Nat) (x1 x2 x3 x4 x5 : Int32) (s s' : ps_S) : Prop := (ps_i s' 1131 3).toInt = (t + 20 : Nat) ∧ kq [1132] [3] s s' ∧ (∀ k, k < t → ps_a s' 1132 k = ps_a s 1132 k) ∧ ∀ j, j < 20 → ps_a s' 1132 (t + j) = fw x1 x2 x3 x4 x5 j
theorem fm_308_18 {t : Nat} {x1 x2 x3 x4 x5 : Int32} {s0 : ps_S} {R : Int32 → ps_S → Prop} (ht : t ≤ 1580) (k : ∀ v s', fh t x1 x2 x3 x4 x5 s0 s' → R v s') : ∀ (n : Nat) {s : ps_S} {x6 : Int32} {i : Nat}, x6.toInt = i → i ≤ 20 → (ps_i s 1131 3).toInt = t → kq [1132] [3] s0 s → (∀ k, k < t → ps_a s 1132 k = ps_a s0 1132 k) → (∀ j, j < i → ps_a s 1132 (t + j) = fw x1 x2 x3 x4 x5 j) → pl_At n 308 18 [(0, .ref 1131), (1, .int x1), (2, .int x2), (3, .int x3), (4, .int x4), (5, .int x5), (6, .int x6)] [] s (ps_rI R)
  | 0, _, _, _, _, _, _, _, _, _ => pl_At_0
  | n + 1, s, x6, i, hx, hi, h3, K, ho, hw => by
    have c20 : (20 : Int32).toInt = 20 := by decide
    have e20 : ((ps_i s 1131 3) + 20).toInt = (t + 20 : Nat) := by rw [xI_add (by omega) (by omega)]; omega
    have e6 : ((ps_i s 1131 3) + x6).toInt = (t + i : Nat) := by rw [xI_add (by omega) (by omega)]; omega
    refine pl_308_18 ?_
    refine ⟨fun h22 => ?_, fun h22 => ?_⟩
    · have h22 : (20 : Int) ≤ x6.toInt := xle h22
      have hi20 : i = 20 := by omega
      subst hi20
      exact k _ _ ⟨e20, kqi K rfl, ho, hw⟩
    · have h22 : x6.toInt < (20 : Int) := xlt h22
      refine ⟨fun h28 => ?_, fun h28 => ?_⟩
      · have h28 : (4 : Int) ≤ x6.toInt := xle h28
        refine ⟨fun h39 => ?_, fun h39 => ?_⟩
        · have h39 : (8 : Int) ≤ x6.toInt := xle h39
          refine ⟨fun h50 => ?_, fun h50 => ?_⟩
          · have h50 : (12 : Int) ≤ x6.toInt := xle h50
            refine ⟨fun h61 => ?_, fun h61 => ?_⟩
            · have h61 : (16 : Int) ≤ x6.toInt := xle h61
              intro b98
              obtain ⟨b98, c98⟩ := pl_in b98
              have hv : fb x5 ((24 : Int32) - (8 : Int32) * (x6 &&& 3)) = fw x1 x2 x3 x4 x5 i := by
                unfold fw
                rw [fsh_m hx (by omega), show i / 4 = 4 from by omega]
                rfl
              have ej := xj1 hx (by omega)
              rw [xtn e6]
              refine fm_308_18 ht k n ej (by omega) h3 (kqa K rfl) (fun q hq => ?_) (fun j hj => ?_)
              · rw [ps_a_ua, if_neg (by omega)]
                exact ho q hq
              · rw [ps_a_ua]
                by_cases e : j = i
                · rw [if_pos ⟨rfl, by omega⟩, e]
                  exact hv
                · rw [if_neg (by omega)]
                  exact hw j (by omega)
            · have h61 : x6.toInt < (16 : Int) := xlt h61
              intro b98
              obtain ⟨b98, c98⟩ := pl_in b98
              have hv : fb x4 ((24 : Int32) - (8 : Int32) * (x6 &&& 3)) = fw x1 x2 x3 x4 x5 i := by
                unfold fw
                rw [fsh_m hx (by omega), show i / 4 = 3 from by omega]
                rfl
              have ej := xj1 hx (by omega)
              rw [xtn e6]
              refine fm_308_18 ht k n ej (by omega) h3 (kqa K rfl) (fun q hq => ?_) (fun j hj => ?_)
              · rw [ps_a_ua, if_neg (by omega)]
                exact ho q hq
              · rw [ps_a_ua]
                by_cases e : j = i
                · rw [if_pos ⟨rfl, by omega⟩, e]
                  exact hv
                · rw [if_neg (by omega)]
                  exact hw j (by omega)
          · have h50 : x6.toInt < (12 : Int) := xlt h50
            intro b98
            obtain ⟨b98, c98⟩ := pl_in b98
            have hv : fb x3 ((24 : Int32) - (8 : Int32) * (x6 &&& 3)) = fw x1 x2 x3 x4 x5 i := by
              unfold fw
              rw [fsh_m hx (by omega), show i / 4 = 2 from by omega]
              rfl
            have ej := xj1 hx (by omega)
            rw [xtn e6]
            refine fm_308_18 ht k n ej (by omega) h3 (kqa K rfl) (fun q hq => ?_) (fun j hj => ?_)
            · rw [ps_a_ua, if_neg (by omega)]
              exact ho q hq
            · rw [ps_a_ua]
              by_cases e : j = i
              · rw [if_pos ⟨rfl, by omega⟩, e]
                exact hv
              · rw [if_neg (by omega)]
                exact hw j (by omega)
        · have h39 : x6.toInt < (8 : Int) := xlt h39
          intro b98
          obtain ⟨b98, c98⟩ := pl_in b98
          have hv : fb x2 ((24 : Int32) - (8 : Int32) * (x6 &&& 3)) = fw x1 x2 x3 x4 x5 i := by
            unfold fw
            rw [fsh_m hx (by omega), show i / 4 = 1 from by omega]
            rfl
          have ej := xj1 hx (by omega)
          rw [xtn e6]
          refine fm_308_18 ht k n ej (by omega) h3 (kqa K rfl) (fun q hq => ?_) (fun j hj => ?_)
          · rw [ps_a_ua, if_neg (by omega)]
            exact ho q hq
          · rw [ps_a_ua]
            by_cases e : j = i
            · rw [if_pos ⟨rfl, by omega⟩, e]
              exact hv
            · rw [if_neg (by omega)]
              exact hw j (by omega)
      · have h28 : x6.toInt < (4 : Int) := xlt h28
        intro b98
        obtain ⟨b98, c98⟩ := pl_in b98
        have hv : fb x1 ((24 : Int32) - (8 : Int32) * (x6 &&& 3)) = fw x1 x2 x3 x4 x5 i := by
          unfold fw
          rw [fsh_m hx (by omega), show i / 4 = 0 from by omega]
          rfl
        have ej := xj1 hx (by omega)
        rw [xtn e6]
        refine fm_308_18 ht k n ej (by omega) h3 (kqa K rfl) (fun q hq => ?_) (fun j hj => ?_)
        · rw [ps_a_ua, if_neg (by omega)]
          exact ho q hq
        · rw [ps_a_ua]
          by_cases e : j = i
          · rw [if_pos ⟨rfl, by omega⟩, e]
            exact hv
          · rw [if_neg (by omega)]
            exact hw j (by omega)
theorem fm_308 {n t : Nat} {x1 x2 x3 x4 x5 : Int32} {s : ps_S} {R : Int32 → ps_S → Prop} (ht : t ≤ 1600) (h3 : (ps_i s 1131 3).toInt = t) (k1 : t ≤ 1580 → ∀ v s', fh t x1 x2 x3 x4 x5 s s' → R v s') (k0 : 1580 < t → R (-1) s) : pl_Cl n 308 [.ref 1131, .int x1, .int x2, .int x3, .int x4, .int x5] s (ps_rI R) := by
  cases n with
  | zero => exact pl_At_0
  | succ n =>
  show pl_At (n + 1) 308 0 [(0, .ref 1131), (1, .int x1), (2, .int x2), (3, .int x3), (4, .int x4), (5, .int x5)] [] s (ps_rI R)
  have c20 : (20 : Int32).toInt = 20 := by decide
  have e20 : ((ps_i s 1131 3) + 20).toInt = (t + 20 : Nat) := by rw [xI_add (by omega) (by omega)]; omega
  refine pl_308_0 ?_
  refine ⟨fun h10 => ?_, fun h10 => ?_⟩
  · have h10 : ((ps_i s 1131 3) + 20).toInt ≤ (1600 : Int) := xle h10
    exact fm_308_18 (by omega) (k1 (by omega)) n (i := 0) rfl (by omega) h3 kq_refl (fun _ _ => rfl) (fun j hj => absurd hj (Nat.not_lt_zero _))
  · have h10 : (1600 : Int) < ((ps_i s 1131 3) + 20).toInt := xlt h10
    exact k0 (by omega)
end
section
set_option maxRecDepth 100000
/-! between two calls: both tapes hold the same bytes; the class's words and arities stand -/
theorem ps_det_a {w : pm_W} {s s' : ps_S} (h : ps_R w s) (h' : ps_R w s') {r n t i : Nat} (hr : r < 1179) (hk : ps_K r = (0, t, n)) (ht : t < 3) (hi : i < n) : ps_a s r i = ps_a s' r i := by
  obtain ⟨k1, e1⟩ := h.2 r hr
  obtain ⟨-, e2⟩ := h'.2 r hr
  rw [hk] at k1
  generalize w.1 r = e at k1 e1 e2
  match e, k1, e1, e2 with
  | .inl (t', n', .inl f), k1, e1, e2 =>
    have hn : n' = n := congrArg (fun z => z.2.2) k1
    subst hn
    exact (e1.2 i hi).symm.trans (e2.2 i hi)
  | .inl (t', n', .inr (.inl f)), k1, e1, e2 =>
    have hn : t' = t := congrArg (fun z => z.2.1) k1
    have := e1.1
    omega
  | .inl (t', n', .inr (.inr f)), k1, e1, e2 =>
    have hn : t' = t := congrArg (fun z => z.2.1) k1
    have := e1.1
    omega
  | .inr (c, fs), k1, e1, e2 => cases k1
theorem ps_det_b {w : pm_W} {s s' : ps_S} (h : ps_R w s) (h' : ps_R w s') {r n i : Nat} (hr : r < 1179) (hk : ps_K r = (0, 3, n)) (hi : i < n) : ps_b s r i = ps_b s' r i := by
  obtain ⟨k1, e1⟩ := h.2 r hr
  obtain ⟨-, e2⟩ := h'.2 r hr
  rw [hk] at k1
  generalize w.1 r = e at k1 e1 e2
  match e, k1, e1, e2 with
  | .inl (t', n', .inl f), k1, e1, e2 =>
    have hn : t' = 3 := congrArg (fun z => z.2.1) k1
    have := e1.1
    omega
  | .inl (t', n', .inr (.inl f)), k1, e1, e2 =>
    have hn : n' = n := congrArg (fun z => z.2.2) k1
    subst hn
    exact (e1.2 i hi).symm.trans (e2.2 i hi)
  | .inl (t', n', .inr (.inr f)), k1, e1, e2 =>
    have hn : t' = 3 := congrArg (fun z => z.2.1) k1
    have := e1.1
    omega
  | .inr (c, fs), k1, e1, e2 => cases k1
theorem ps_det_f {w : pm_W} {s s' : ps_S} (h : ps_R w s) (h' : ps_R w s') {r c n q : Nat} (hr : r < 1179) (hk : ps_K r = (1, c, n)) (hq : q < (pm_Ts c).length) : ps_fv s c r q = ps_fv s' c r q := by
  obtain ⟨k1, e1⟩ := h.2 r hr
  obtain ⟨-, e2⟩ := h'.2 r hr
  rw [hk] at k1
  generalize w.1 r = e at k1 e1 e2
  match e, k1, e1, e2 with
  | .inl (t', n', f), k1, e1, e2 => cases k1
  | .inr (c', fs), k1, e1, e2 =>
    have hc : c' = c := congrArg (fun z => z.2.1) k1
    subst hc
    exact Option.some.inj ((e1.2 q hq).symm.trans (e2.2 q hq))
/-- the class's own: words that stand for themselves, arities that stand, the theories in turn -/
def LB (s : ps_S) : Prop := (∀ (k : Nat) (w : List Nat), tx_keys[k]? = some w → ps_b s 904 k = tx_x w) ∧ cv_base s 2 ∧ cv_base s 26 ∧ (ps_r s 0 2 = 2 ∨ ps_r s 0 2 = 26) ∧ (ps_r s 0 3 = 2 ∨ ps_r s 0 3 = 26)
theorem LB_mk {s s' : ps_S} (h : LB s) (h9 : ∀ k, k < 28 → ps_b s' 904 k = ps_b s 904 k) (h6 : ∀ i, i < 10 → ps_a s' 6 i = ps_a s 6 i ∧ ps_a s' 30 i = ps_a s 30 i) (r2 : ps_r s' 0 2 = 2 ∨ ps_r s' 0 2 = 26) (r3 : ps_r s' 0 3 = 2 ∨ ps_r s' 0 3 = 26) : LB s' := by
  obtain ⟨a1, a2, a3, -, -⟩ := h
  refine ⟨fun k w hk => ?_, ?_, ?_, r2, r3⟩
  · have hl : k < 28 := (List.getElem?_eq_some_iff.mp hk).1
    rw [h9 k hl]
    exact a1 k w hk
  · unfold cv_base at *
    rw [(h6 0 (by decide)).1, (h6 1 (by decide)).1, (h6 2 (by decide)).1, (h6 3 (by decide)).1, (h6 4 (by decide)).1, (h6 5 (by decide)).1, (h6 6 (by decide)).1]
    exact a2
  · unfold cv_base at *
    rw [(h6 0 (by decide)).2, (h6 1 (by decide)).2, (h6 2 (by decide)).2, (h6 3 (by decide)).2, (h6 4 (by decide)).2, (h6 5 (by decide)).2, (h6 6 (by decide)).2]
    exact a3
theorem LB_det {w : pm_W} {s s' : ps_S} (h : ps_R w s) (h' : ps_R w s') (H : LB s) : LB s' := by
  have f2 : ps_r s 0 2 = ps_r s' 0 2 := by
    have := ps_det_f h h' (r := 0) (c := 11) (q := 2) (by decide) rfl (by decide)
    exact Value.ref.inj this
  have f3 : ps_r s 0 3 = ps_r s' 0 3 := by
    have := ps_det_f h h' (r := 0) (c := 11) (q := 3) (by decide) rfl (by decide)
    exact Value.ref.inj this
  exact LB_mk H (fun k hk => (ps_det_b h h' (r := 904) (by decide) rfl hk).symm) (fun i hi => ⟨(ps_det_a h h' (r := 6) (t := 0) (n := 40) (by decide) rfl (by decide) (by omega)).symm, (ps_det_a h h' (r := 30) (t := 0) (n := 40) (by decide) rfl (by decide) (by omega)).symm⟩) (by rw [← f2]; exact H.2.2.2.1) (by rw [← f3]; exact H.2.2.2.2)
/-- what holds between two calls besides: t is the class's count -/
def LF (s : ps_S) (t : Int32) : Prop := (∀ k : Nat, (k : Int) < t.toInt → ps_a s 1 k = ps_a s 1132 k) ∧ LB s
theorem LF_det {w : pm_W} {s s' : ps_S} {t : Int32} (ht : t.toInt ≤ 1600) (h : ps_R w s) (h' : ps_R w s') (H : LF s t) : LF s' t := by
  refine ⟨fun k hk => ?_, LB_det h h' H.2⟩
  rw [← ps_det_a h h' (r := 1) (t := 1) (n := 1600) (i := k) (by decide) rfl (by decide) (by omega), ← ps_det_a h h' (r := 1132) (t := 1) (n := 1620) (i := k) (by decide) rfl (by decide) (by omega)]
  exact H.1 k hk
theorem LB_y {m s s' : ps_S} {t' : Int32} (H : LB s) (J : yJ s t' s') : LB s' := by
  obtain ⟨-, -, p2, p3, p4, p5⟩ := J
  exact LB_mk H (fun k _ => by rw [p2]) p3 p4 p5
theorem LF_x {s s' : ps_S} {t t' : Int32} (H : LF s t) (J : yJ s t' s') (ht : t'.toInt ≤ t.toInt) : LF s' t' := by
  refine ⟨fun k hk => ?_, LB_y (m := s) H.2 J⟩
  rw [J.2.1, (J.1.2.2 1132 (by decide)).2.2.1]
  exact H.1 k (by omega)
theorem LF_J {s : ps_S} {t : Int32} (hI : LI s t) (hF : LF s t) : yJ s t s := ⟨LI_J hI, rfl, rfl, fun _ _ => ⟨rfl, rfl⟩, hF.2.2.2.2.1, hF.2.2.2.2.2⟩
theorem LB_m {s s' : ps_S} {t : Int32} {A F : List Nat} (H : LB s) (J : mJ s.1.2.2 t s') (K : kp A F s s') (a6 : A.contains 6 = false) (a30 : A.contains 30 = false) (a904 : A.contains 904 = false) : LB s' := by
  have hr : ps_r s' = ps_r s := J.1
  exact LB_mk H (fun k _ => by rw [(K.2 904 a904).2]) (fun i _ => ⟨by rw [(K.2 6 a6).1], by rw [(K.2 30 a30).1]⟩) (by rw [hr]; exact H.2.2.2.1) (by rw [hr]; exact H.2.2.2.2)
theorem LF_m {s s' : ps_S} {t : Int32} {A F : List Nat} (H : LF s t) (J : mJ s.1.2.2 t s') (K : kp A F s s') (a1 : A.contains 1 = false) (a1132 : A.contains 1132 = false) (a6 : A.contains 6 = false) (a30 : A.contains 30 = false) (a904 : A.contains 904 = false) : LF s' t := by
  refine ⟨fun k hk => ?_, LB_m H.2 J K a6 a30 a904⟩
  rw [(K.2 1 a1).1, (K.2 1132 a1132).1]
  exact H.1 k hk
theorem s1_keys : (List.range 28).all (fun k => decide (ps_b ps_s1 904 k = tx_x (tx_keys.getD k []))) = true := by decide +kernel
theorem s1_LF : LF ps_s1 0 := by
  refine ⟨fun k hk => by rw [Int32.toInt_zero] at hk; omega, fun k w hk => ?_, by unfold cv_base; decide +kernel, by unfold cv_base; decide +kernel, Or.inl (by decide +kernel), Or.inr (by decide +kernel)⟩
  have hl : k < 28 := (List.getElem?_eq_some_iff.mp hk).1
  have := of_decide_eq_true (List.all_eq_true.mp s1_keys k (List.mem_range.mpr hl))
  rw [this, List.getD_eq_getElem?_getD, hk]
  rfl
/-- a call of the law, with what holds should it end -/
theorem l2_call2 {X : Option (Nat × (Nat → Int32))} {y pc k kd j a mm pl nest c q : Nat} {Lc : pm_L} {st : List Value} {w : pm_W} {s : ps_S} {i : Instr} {P P2 : Option Value → ps_S → Prop} {Q : Option Value → pm_W → Prop} (hc : pm_code y pc = some (i, k)) (hR : pm_isR i = false) (hcal : pm_cal i = (kd, j)) (hkd : kd ≠ 0) (hl : pm_l4 (pm_ML (pm_own y)) j = some (a, mm, pl, nest)) (h6 : 5 < mm) (hw : ps_R w s) (h13 : c < 13) (hi : ps_is q c = true) (hh : (st.take (pm_na kd mm)).reverse.head? = some (.ref q)) (hb : (Nat.ble (pm_na kd mm) st.length && Nat.ble (pm_cats (st.drop (pm_na kd mm))) 8 && Nat.ble (lg_sl (st.take (pm_na kd mm)).reverse).length (pm_ml (mm - 6)) && (cond (Nat.beq kd 3) (pm_st (mm - 6)) (!pm_st (mm - 6) && Nat.beq c (pm_own (mm - 6)) && (cond (Nat.beq kd 2) (pm_ini (mm - 6)) (Nat.beq nest 0 && !pm_ini (mm - 6)))))) = true)
    (hC : ps_Cl 299 (mm - 6) (st.take (pm_na kd mm)).reverse s P) (hD : ∀ n, pl_Cl n (mm - 6) (st.take (pm_na kd mm)).reverse s P2) (K : ∀ (o : Option Value) (w' : pm_W) (s' s2 : ps_S), ps_R w' s' → P o s' → ps_R w' s2 → P2 o s2 → pm_H X 300 y (pc + 3) Lc (o.toList ++ st.drop (pm_na kd mm)) w' Q) : pm_H X 300 y pc Lc st w Q := by
  refine pm_H.call (d' := 299) (Q1 := fun o w' => (∃ s', ps_R w' s' ∧ P o s') ∧ ∃ s2, ps_R w' s2 ∧ P2 o s2) hc hR hcal hkd hl h6 rfl (l2_ckd (ps_cls hw h13 hi) hh hb) ?_ (fun o w' hh => ?_)
  · obtain ⟨o, w', ⟨n, h1⟩, h2⟩ := hC w _ hw (ps_le_refl _)
    exact ⟨o, w', pm_T.lift ⟨n, h1⟩, h2, hD (n + 1) n 299 w _ o w' (Nat.lt_succ_self n) hw (ps_le_refl _) h1⟩
  · obtain ⟨⟨s', h1, h2⟩, s2, h3, h4⟩ := hh
    exact K o w' s' s2 h1 h2 h3 h4
/-- theory()'s answer -/
def AW (T : Nat → Nat) (N : Nat) (v : Int32) : Prop := (∃ (h : tx_H) (p : Nat), gt_go (tx_ln T N) (0, (([], []), []), 0, 0) (3, h, p, 0) ∧ v.toInt = h.2.length) ∨ ∃ (h : tx_H) (pl k : Nat), gt_go (tx_ln T N) (0, (([], []), []), 0, 0) (4, h, pl, k) ∧ v.toInt = -1
theorem AW_eq {T : Nat → Nat} {N : Nat} {v v' : Int32} (a : AW T N v) (b : AW T N v') : v = v' := by
  apply Int32.toInt_inj.mp
  rcases a with ⟨h, p, g, e⟩ | ⟨h, p, k, g, e⟩ <;> rcases b with ⟨h2, p2, g2, e2⟩ | ⟨h2, p2, k2, g2, e2⟩
  · have z := gt_det g g2 rfl rfl
    cases z
    rw [e, e2]
  · have z := gt_det g g2 rfl rfl
    cases z
  · have z := gt_det g g2 rfl rfl
    cases z
  · rw [e, e2]
def TT (s : ps_S) (k : Nat) : Nat := (ps_a s 1 k &&& 255).toInt.toNat
theorem AW_x {s : ps_S} {t : Int32} (hI : LI s t) (hF : LF s t) (n : Nat) : pl_Cl n 151 [.ref 0] s (ps_rI (fun v _ => AW (TT s) t.toInt.toNat v)) := by
  have ht := LI_t hI
  have e : ps_i s 0 1 = t := hI.2.1.2.1
  rcases hF.2.2.2.2.2 with h3 | h3
  · exact fs_151 (Or.inl rfl) h3 hF.2.2.1 (by rw [e]; omega) (by omega) (fun k _ => bytes_T) hF.2.1 (fun v _ h p g hv => Or.inl ⟨h, p, g, hv⟩) (fun _ h p k g _ _ => Or.inr ⟨h, p, k, g, by decide⟩)
  · exact fs_151 (Or.inr rfl) h3 hF.2.2.2.1 (by rw [e]; omega) (by omega) (fun k _ => bytes_T) hF.2.1 (fun v _ h p g hv => Or.inl ⟨h, p, g, hv⟩) (fun _ h p k g _ _ => Or.inr ⟨h, p, k, g, by decide⟩)
theorem AW_m {s s1 : ps_S} {t t1 : Int32} (hI : LI s t) (hF : LF s t) (J : yJ s t1 s1) (hX : LX s1 t1 t.toInt) (n : Nat) : pl_Cl n 201 [.ref 1131] s1 (ps_rI (fun v _ => AW (TT s) t.toInt.toNat v)) := by
  have ht := LI_t hI
  have h21 := hX.2.1.2.2.1 21 0 1 rfl
  have h3 := hX.2.2.1
  refine fm_201 (b := (ps_i s1 1131 21).toInt.toNat) (T := TT s) (N := t.toInt.toNat) (by omega) (by omega) (by omega) (by omega) (fun k hk => ?_) (fun v _ z => ?_) (fun v _ z => ?_)
  · rw [(J.1.2.2 1132 (by decide)).2.2.1, ← hF.1 k (by omega)]
    exact bytes_T
  · obtain ⟨h, p, g, e, -⟩ := z
    exact Or.inl ⟨h, p, g, e⟩
  · obtain ⟨h, p, k, g, e, -⟩ := z
    exact Or.inr ⟨h, p, k, g, e⟩
/-- feed: between the two sides -/
def LM (s : ps_S) (t : Int32) (x1 x2 x3 x4 x5 : Int32) : Prop := (∀ k : Nat, (k : Int) < t.toInt → ps_a s 1 k = ps_a s 1132 k) ∧ LB s ∧ (t.toInt ≤ 1580 → ∀ j, j < 20 → ps_a s 1 (t.toInt.toNat + j) = fw x1 x2 x3 x4 x5 j)
theorem LM_det {w : pm_W} {s s' : ps_S} {t x1 x2 x3 x4 x5 : Int32} (h0 : 0 ≤ t.toInt) (ht : t.toInt ≤ 1600) (h : ps_R w s) (h' : ps_R w s') (H : LM s t x1 x2 x3 x4 x5) : LM s' t x1 x2 x3 x4 x5 := by
  obtain ⟨g1, g2⟩ := LF_det ht h h' (t := t) ⟨H.1, H.2.1⟩
  refine ⟨g1, g2, fun ht2 j hj => ?_⟩
  rw [← ps_det_a h h' (r := 1) (t := 1) (n := 1600) (i := t.toInt.toNat + j) (by decide) rfl (by decide) (by omega)]
  exact H.2.2 ht2 j hj
theorem LM_x {s : ps_S} {t x1 x2 x3 x4 x5 : Int32} (hI : LI s t) (hF : LF s t) (n : Nat) : pl_Cl n 149 [.ref 0, .int x1, .int x2, .int x3, .int x4, .int x5] s (ps_rI (fun _ s1 => LM s1 t x1 x2 x3 x4 x5)) := by
  have ht := LI_t hI
  have e : ps_i s 0 1 = t := hI.2.1.2.1
  refine fs_149 (t := t.toInt.toNat) (by omega) (by rw [e]; omega) (fun _ v s' g => ?_) (fun h => ⟨hF.1, hF.2, fun z => by omega⟩)
  obtain ⟨g1, g2, g3, g4, g5⟩ := g
  have K : ∀ q, q ≠ 0 → q ≠ 1 → ps_a s' q = ps_a s q ∧ ps_b s' q = ps_b s q := fun q h0 h1 => (g2 q (fun z => z.elim h0 h1)).2.2.2
  refine ⟨fun k hk => ?_, LB_mk hF.2 (fun k _ => by rw [(K 904 (by decide) (by decide)).2]) (fun i _ => ⟨by rw [(K 6 (by decide) (by decide)).1], by rw [(K 30 (by decide) (by decide)).1]⟩) (by rw [g3]; exact hF.2.2.2.2.1) (by rw [g3]; exact hF.2.2.2.2.2), fun _ j hj => g5 j hj⟩
  rw [g4 k (by omega), (K 1132 (by decide) (by decide)).1]
  exact hF.1 k hk
theorem LM_m {s1 : ps_S} {t x1 x2 x3 x4 x5 : Int32} (h0 : 0 ≤ t.toInt) (ht : t.toInt ≤ 1600) (h3 : (ps_i s1 1131 3).toInt = t.toInt) (H : LM s1 t x1 x2 x3 x4 x5) (n : Nat) : pl_Cl n 308 [.ref 1131, .int x1, .int x2, .int x3, .int x4, .int x5] s1 (ps_rI (fun _ s2 => ∀ t1 : Int32, ((t1 = t ∧ 1580 < t.toInt) ∨ (t1.toInt = t.toInt + 20 ∧ t.toInt ≤ 1580)) → LF s2 t1)) := by
  refine fm_308 (t := t.toInt.toNat) (by omega) (by omega) (fun h4 v s' g => ?_) (fun h4 => ?_)
  · intro t1 ht1
    obtain ⟨g1, g2, g3, g4⟩ := g
    refine ⟨fun k hk => ?_, LB_mk H.2.1 (fun k _ => by rw [kq_b g2 904 (by decide)]) (fun i _ => ⟨by rw [kq_a g2 6 (by decide)], by rw [kq_a g2 30 (by decide)]⟩) (by rw [g2.2]; exact H.2.1.2.2.2.1) (by rw [g2.2]; exact H.2.1.2.2.2.2)⟩
    rw [kq_a g2 1 (by decide)]
    by_cases hk2 : (k : Int) < t.toInt
    · rw [g3 k (by omega)]
      exact H.1 k hk2
    · have e : k = t.toInt.toNat + (k - t.toInt.toNat) := by omega
      rw [e, g4 _ (by omega), H.2.2 (by omega) _ (by omega)]
  · intro t1 ht1
    refine ⟨fun k hk => H.1 k ?_, H.2.1⟩
    rcases ht1 with ⟨e, -⟩ | ⟨-, e⟩
    · rw [← e]; exact hk
    · omega
theorem ys_150 {m s : ps_S} {t : Int32} {d : Nat} {x1 : Int32} {f : Int32 → ps_S → Prop} (J : yJ m t s) (k : ∀ (v : Int32) (s' : ps_S) (t' : Int32), yJ m t' s' → (v.toInt = -1 ∧ t' = t ∧ (x1.toInt < 0 ∨ t.toInt < x1.toInt)) ∨ (v = x1 ∧ t' = x1 ∧ 0 ≤ x1.toInt ∧ x1.toInt ≤ t.toInt) → f v s') : ps_Cl d 150 [.ref 0, .int x1] s (ps_rI f) := by
  have e : ps_i s 0 1 = t := J.1.2.1
  refine pg_150_0 (And.intro (fun h1 => ?_) (fun h1 => And.intro (fun h2 => ?_) (fun h2 => ?_)))
  · exact k (-1) s t J (Or.inl ⟨by decide, rfl, Or.inl (xlt h1)⟩)
  · rw [e] at h2
    exact k x1 _ x1 (yw_tape J) (Or.inr ⟨rfl, rfl, xle h1, xle h2⟩)
  · rw [e] at h2
    exact k (-1) s t J (Or.inl ⟨by decide, rfl, Or.inr (xlt h2)⟩)
end
section
set_option maxRecDepth 100000
/-! where the class's calls write: own cells (C) of the objects that they are given -/
def zsz (c : Nat) : Nat := [77, 8, 410, 6, 17, 2, 4, 31, 9, 24, 2, 1131].getD c 0
def zof : Nat → List (Nat × Nat)
  | 0 => [(0, 1), (1, 2), (3, 3), (4, 4), (5, 5), (6, 6), (7, 10), (8, 11), (9, 12), (12, 13), (13, 14)]
  | 1 => [(0, 1), (1, 5), (3, 6), (5, 7)]
  | 2 => [(0, 1), (1, 2), (2, 11), (3, 12), (4, 14), (5, 16)]
  | 3 => [(0, 1), (1, 4), (3, 5)]
  | 4 => [(0, 1), (1, 3), (2, 5), (3, 9), (4, 13), (5, 14), (6, 15), (7, 16)]
  | 5 => [(0, 1)]
  | 6 => [(0, 1), (1, 2), (2, 3)]
  | 7 => [(0, 1), (1, 2), (2, 4), (3, 5), (4, 6)]
  | 8 => [(1, 1), (4, 2), (5, 4), (6, 6), (7, 8)]
  | 9 => [(0, 1), (1, 2), (2, 3), (3, 4), (4, 5), (5, 6)]
  | 10 => [(0, 1)]
  | _ => []
/-- arrays of objects: field, how many, the first's place, their step -/
def zel : Nat → List (Nat × Nat × Nat × Nat)
  | 0 => [(5, 8, 45, 4)]
  | 2 => [(0, 40, 44, 9), (2, 3, 404, 2)]
  | 7 => [(0, 12, 7, 2)]
  | 9 => [(4, 8, 8, 2)]
  | _ => []
def zee (a b k : Nat) : Nat → Bool
  | 0 => true
  | n + 1 => Nat.beq (ps_e0 a n) (b + k * n) && zee a b k n
theorem zee_ok {a b k : Nat} : ∀ {n : Nat}, zee a b k n = true → ∀ i, i < n → ps_e0 a i = b + k * i
  | 0, _, i, hi => by omega
  | n + 1, h, i, hi => by
    unfold zee at h
    rw [Bool.and_eq_true] at h
    by_cases e : i = n
    · rw [e]; exact Nat.eq_of_beq_eq_true h.1
    · exact zee_ok h.2 i (by omega)
def zck (r : Nat) : Bool := match pm_wx r with
  | .inr (c, _) => (zof c).all (fun p => Nat.beq (ps_c0 r p.1) (r + p.2)) && (zel c).all (fun p => Nat.beq (ps_ln (ps_c0 r p.1)) p.2.1 && zee (ps_c0 r p.1) (r + p.2.2.1) p.2.2.2 p.2.1)
  | .inl _ => true
def zall (a : Nat) : Nat → Bool
  | 0 => true
  | n + 1 => zck (a + n) && zall a n
theorem zall_ok {a : Nat} : ∀ {n : Nat}, zall a n = true → ∀ r, a ≤ r → r < a + n → zck r = true
  | 0, _, r, h1, h2 => by omega
  | n + 1, h, r, h1, h2 => by
    unfold zall at h
    rw [Bool.and_eq_true] at h
    by_cases e : r = a + n
    · rw [e]; exact h.1
    · exact zall_ok h.2 r h1 (by omega)
set_option maxRecDepth 1000000
theorem zall_0 : zall 0 150 = true := by decide +kernel
theorem zall_150 : zall 150 150 = true := by decide +kernel
theorem zall_300 : zall 300 150 = true := by decide +kernel
theorem zall_450 : zall 450 150 = true := by decide +kernel
theorem zall_600 : zall 600 150 = true := by decide +kernel
theorem zall_750 : zall 750 150 = true := by decide +kernel
theorem zall_900 : zall 900 150 = true := by decide +kernel
theorem zall_1050 : zall 1050 81 = true := by decide +kernel
set_option maxRecDepth 100000
theorem zck_all {r : Nat} (h : r < 1131) : zck r = true := by
  by_cases h150 : r < 150
  · exact zall_ok zall_0 r (by omega) (by omega)
  by_cases h300 : r < 300
  · exact zall_ok zall_150 r (by omega) (by omega)
  by_cases h450 : r < 450
  · exact zall_ok zall_300 r (by omega) (by omega)
  by_cases h600 : r < 600
  · exact zall_ok zall_450 r (by omega) (by omega)
  by_cases h750 : r < 750
  · exact zall_ok zall_600 r (by omega) (by omega)
  by_cases h900 : r < 900
  · exact zall_ok zall_750 r (by omega) (by omega)
  by_cases h1050 : r < 1050
  · exact zall_ok zall_900 r (by omega) (by omega)
  exact zall_ok zall_1050 r (by omega) (by omega)
theorem zck_c {r c : Nat} (hc : c < 12) (h : ps_is r c = true) : ((zof c).all (fun p => Nat.beq (ps_c0 r p.1) (r + p.2)) && (zel c).all (fun p => Nat.beq (ps_ln (ps_c0 r p.1)) p.2.1 && zee (ps_c0 r p.1) (r + p.2.2.1) p.2.2.2 p.2.1)) = true := by
  have k1 := zck_all (xis_lt hc h)
  obtain ⟨h1, h2⟩ := ps_is_lt (by omega) h
  unfold ps_K at h2
  unfold zck at k1
  cases e : pm_wx r with
  | inl a =>
    obtain ⟨t, n, f⟩ := a
    rw [e] at h2
    cases h2
  | inr a =>
    obtain ⟨c', fs⟩ := a
    rw [e] at h2 k1
    cases h2
    exact k1
theorem zof_is {r c q o : Nat} (hc : c < 12) (hm : (q, o) ∈ zof c) (h : ps_is r c = true) : ps_c0 r q = r + o := by
  have k := zck_c hc h
  rw [Bool.and_eq_true, List.all_eq_true] at k
  exact Nat.eq_of_beq_eq_true (k.1 _ hm)
theorem zel_is {r c q n eo k : Nat} (hc : c < 12) (hm : (q, n, eo, k) ∈ zel c) (h : ps_is r c = true) : ps_ln (ps_c0 r q) = n ∧ ∀ i, i < n → ps_e0 (ps_c0 r q) i = r + eo + k * i := by
  have z := zck_c hc h
  rw [Bool.and_eq_true, List.all_eq_true, List.all_eq_true] at z
  have y := z.2 _ hm
  rw [Bool.and_eq_true] at y
  exact ⟨Nat.eq_of_beq_eq_true y.1, zee_ok y.2⟩
def zI (C : Nat → Prop) (r c : Nat) : Prop := ps_is r c = true ∧ ∀ q, r ≤ q → q < r + zsz c → C q
theorem zI_m {C C' : Nat → Prop} {r c : Nat} (h : zI C r c) (k : ∀ q, C q → C' q) : zI C' r c := ⟨h.1, fun q a b => k q (h.2 q a b)⟩
theorem zo {C : Nat → Prop} {r c q o c' : Nat} (hc : c < 12) (hm : (q, o) ∈ zof c) (hk : ps_is (ps_c0 r q) c' = true) (hs : o + zsz c' ≤ zsz c) (h : zI C r c) : zI C (ps_c0 r q) c' := by
  refine ⟨hk, fun p h1 h2 => ?_⟩
  rw [zof_is hc hm h.1] at h1 h2
  exact h.2 p (by omega) (by omega)
theorem za {C : Nat → Prop} {r c q o t : Nat} (hc : c < 12) (hm : (q, o) ∈ zof c) (hk : ps_ar (ps_c0 r q) t = true ∧ ps_c0 r q < 1131) (hs : o < zsz c) (h : zI C r c) : ps_ar (ps_c0 r q) t = true ∧ ps_c0 r q < 1131 ∧ C (ps_c0 r q) := by
  refine ⟨hk.1, hk.2, ?_⟩
  rw [zof_is hc hm h.1]
  exact h.2 _ (by omega) (by omega)
theorem ze {C : Nat → Prop} {r c q n eo k c' : Nat} {i : Int32} (hc : c < 12) (hm : (q, n, eo, k) ∈ zel c) (hk : ps_is (ps_e0 (ps_c0 r q) i.toNatClampNeg) c' = true) (hs : eo + k * (n - 1) + zsz c' ≤ zsz c) (h : zI C r c) (hi : pm_in i (ps_ln (ps_c0 r q)) = true) : zI C (ps_e0 (ps_c0 r q) i.toNatClampNeg) c' := by
  obtain ⟨l1, l2⟩ := zel_is hc hm h.1
  have hi2 := xg_lt hi
  rw [l1] at hi2
  refine ⟨hk, fun p h1 h2 => ?_⟩
  rw [l2 _ hi2] at h1 h2
  have hj : k * i.toNatClampNeg ≤ k * (n - 1) := Nat.mul_le_mul_left k (by omega)
  exact h.2 p (by omega) (by omega)
theorem za_0_0 {C : Nat → Prop} {r : Nat} (h : zI C r 0) : ps_ar (ps_c0 r 0) 0 = true ∧ ps_c0 r 0 < 1131 ∧ C (ps_c0 r 0) := za (o := 1) (by decide) (by decide) (xk_0_0 h.1) (by decide) h
theorem za_0_1 {C : Nat → Prop} {r : Nat} (h : zI C r 0) : ps_ar (ps_c0 r 1) 0 = true ∧ ps_c0 r 1 < 1131 ∧ C (ps_c0 r 1) := za (o := 2) (by decide) (by decide) (xk_0_1 h.1) (by decide) h
theorem za_0_3 {C : Nat → Prop} {r : Nat} (h : zI C r 0) : ps_ar (ps_c0 r 3) 0 = true ∧ ps_c0 r 3 < 1131 ∧ C (ps_c0 r 3) := za (o := 3) (by decide) (by decide) (xk_0_3 h.1) (by decide) h
theorem za_0_4 {C : Nat → Prop} {r : Nat} (h : zI C r 0) : ps_ar (ps_c0 r 4) 0 = true ∧ ps_c0 r 4 < 1131 ∧ C (ps_c0 r 4) := za (o := 4) (by decide) (by decide) (xk_0_4 h.1) (by decide) h
theorem ze_0_5 {C : Nat → Prop} {r : Nat} {i : Int32} (h : zI C r 0) (hi : pm_in i (ps_ln (ps_c0 r 5)) = true) : zI C (ps_e0 (ps_c0 r 5) i.toNatClampNeg) 6 := ze (n := 8) (eo := 45) (k := 4) (by decide) (by decide) (xe_5 (xk_0_5 h.1).1 hi) (by decide) h hi
theorem zo_0_6 {C : Nat → Prop} {r : Nat} (h : zI C r 0) : zI C (ps_c0 r 6) 6 := zo (o := 6) (by decide) (by decide) (xk_0_6 h.1) (by decide) h
theorem za_0_7 {C : Nat → Prop} {r : Nat} (h : zI C r 0) : ps_ar (ps_c0 r 7) 0 = true ∧ ps_c0 r 7 < 1131 ∧ C (ps_c0 r 7) := za (o := 10) (by decide) (by decide) (xk_0_7 h.1) (by decide) h
theorem za_0_8 {C : Nat → Prop} {r : Nat} (h : zI C r 0) : ps_ar (ps_c0 r 8) 0 = true ∧ ps_c0 r 8 < 1131 ∧ C (ps_c0 r 8) := za (o := 11) (by decide) (by decide) (xk_0_8 h.1) (by decide) h
theorem za_0_9 {C : Nat → Prop} {r : Nat} (h : zI C r 0) : ps_ar (ps_c0 r 9) 0 = true ∧ ps_c0 r 9 < 1131 ∧ C (ps_c0 r 9) := za (o := 12) (by decide) (by decide) (xk_0_9 h.1) (by decide) h
theorem za_0_12 {C : Nat → Prop} {r : Nat} (h : zI C r 0) : ps_ar (ps_c0 r 12) 3 = true ∧ ps_c0 r 12 < 1131 ∧ C (ps_c0 r 12) := za (o := 13) (by decide) (by decide) (xk_0_12 h.1) (by decide) h
theorem za_0_13 {C : Nat → Prop} {r : Nat} (h : zI C r 0) : ps_ar (ps_c0 r 13) 3 = true ∧ ps_c0 r 13 < 1131 ∧ C (ps_c0 r 13) := za (o := 14) (by decide) (by decide) (xk_0_13 h.1) (by decide) h
theorem zo_1_0 {C : Nat → Prop} {r : Nat} (h : zI C r 1) : zI C (ps_c0 r 0) 6 := zo (o := 1) (by decide) (by decide) (xk_1_0 h.1) (by decide) h
theorem za_1_1 {C : Nat → Prop} {r : Nat} (h : zI C r 1) : ps_ar (ps_c0 r 1) 0 = true ∧ ps_c0 r 1 < 1131 ∧ C (ps_c0 r 1) := za (o := 5) (by decide) (by decide) (xk_1_1 h.1) (by decide) h
theorem za_1_3 {C : Nat → Prop} {r : Nat} (h : zI C r 1) : ps_ar (ps_c0 r 3) 0 = true ∧ ps_c0 r 3 < 1131 ∧ C (ps_c0 r 3) := za (o := 6) (by decide) (by decide) (xk_1_3 h.1) (by decide) h
theorem za_1_5 {C : Nat → Prop} {r : Nat} (h : zI C r 1) : ps_ar (ps_c0 r 5) 0 = true ∧ ps_c0 r 5 < 1131 ∧ C (ps_c0 r 5) := za (o := 7) (by decide) (by decide) (xk_1_5 h.1) (by decide) h
theorem ze_2_0 {C : Nat → Prop} {r : Nat} {i : Int32} (h : zI C r 2) (hi : pm_in i (ps_ln (ps_c0 r 0)) = true) : zI C (ps_e0 (ps_c0 r 0) i.toNatClampNeg) 8 := ze (n := 40) (eo := 44) (k := 9) (by decide) (by decide) (xe_7 (xk_2_0 h.1).1 hi) (by decide) h hi
theorem zo_2_1 {C : Nat → Prop} {r : Nat} (h : zI C r 2) : zI C (ps_c0 r 1) 8 := zo (o := 2) (by decide) (by decide) (xk_2_1 h.1) (by decide) h
theorem ze_2_2 {C : Nat → Prop} {r : Nat} {i : Int32} (h : zI C r 2) (hi : pm_in i (ps_ln (ps_c0 r 2)) = true) : zI C (ps_e0 (ps_c0 r 2) i.toNatClampNeg) 5 := ze (n := 3) (eo := 404) (k := 2) (by decide) (by decide) (xe_4 (xk_2_2 h.1).1 hi) (by decide) h hi
theorem zo_2_3 {C : Nat → Prop} {r : Nat} (h : zI C r 2) : zI C (ps_c0 r 3) 5 := zo (o := 12) (by decide) (by decide) (xk_2_3 h.1) (by decide) h
theorem zo_2_4 {C : Nat → Prop} {r : Nat} (h : zI C r 2) : zI C (ps_c0 r 4) 5 := zo (o := 14) (by decide) (by decide) (xk_2_4 h.1) (by decide) h
theorem zo_2_5 {C : Nat → Prop} {r : Nat} (h : zI C r 2) : zI C (ps_c0 r 5) 6 := zo (o := 16) (by decide) (by decide) (xk_2_5 h.1) (by decide) h
theorem zo_3_0 {C : Nat → Prop} {r : Nat} (h : zI C r 3) : zI C (ps_c0 r 0) 10 := zo (o := 1) (by decide) (by decide) (xk_3_0 h.1) (by decide) h
theorem za_3_1 {C : Nat → Prop} {r : Nat} (h : zI C r 3) : ps_ar (ps_c0 r 1) 3 = true ∧ ps_c0 r 1 < 1131 ∧ C (ps_c0 r 1) := za (o := 4) (by decide) (by decide) (xk_3_1 h.1) (by decide) h
theorem za_3_3 {C : Nat → Prop} {r : Nat} (h : zI C r 3) : ps_ar (ps_c0 r 3) 3 = true ∧ ps_c0 r 3 < 1131 ∧ C (ps_c0 r 3) := za (o := 5) (by decide) (by decide) (xk_3_3 h.1) (by decide) h
theorem zo_4_0 {C : Nat → Prop} {r : Nat} (h : zI C r 4) : zI C (ps_c0 r 0) 5 := zo (o := 1) (by decide) (by decide) (xk_4_0 h.1) (by decide) h
theorem zo_4_1 {C : Nat → Prop} {r : Nat} (h : zI C r 4) : zI C (ps_c0 r 1) 5 := zo (o := 3) (by decide) (by decide) (xk_4_1 h.1) (by decide) h
theorem zo_4_2 {C : Nat → Prop} {r : Nat} (h : zI C r 4) : zI C (ps_c0 r 2) 6 := zo (o := 5) (by decide) (by decide) (xk_4_2 h.1) (by decide) h
theorem zo_4_3 {C : Nat → Prop} {r : Nat} (h : zI C r 4) : zI C (ps_c0 r 3) 6 := zo (o := 9) (by decide) (by decide) (xk_4_3 h.1) (by decide) h
theorem za_4_4 {C : Nat → Prop} {r : Nat} (h : zI C r 4) : ps_ar (ps_c0 r 4) 0 = true ∧ ps_c0 r 4 < 1131 ∧ C (ps_c0 r 4) := za (o := 13) (by decide) (by decide) (xk_4_4 h.1) (by decide) h
theorem za_4_5 {C : Nat → Prop} {r : Nat} (h : zI C r 4) : ps_ar (ps_c0 r 5) 0 = true ∧ ps_c0 r 5 < 1131 ∧ C (ps_c0 r 5) := za (o := 14) (by decide) (by decide) (xk_4_5 h.1) (by decide) h
theorem za_4_6 {C : Nat → Prop} {r : Nat} (h : zI C r 4) : ps_ar (ps_c0 r 6) 0 = true ∧ ps_c0 r 6 < 1131 ∧ C (ps_c0 r 6) := za (o := 15) (by decide) (by decide) (xk_4_6 h.1) (by decide) h
theorem za_4_7 {C : Nat → Prop} {r : Nat} (h : zI C r 4) : ps_ar (ps_c0 r 7) 0 = true ∧ ps_c0 r 7 < 1131 ∧ C (ps_c0 r 7) := za (o := 16) (by decide) (by decide) (xk_4_7 h.1) (by decide) h
theorem za_5_0 {C : Nat → Prop} {r : Nat} (h : zI C r 5) : ps_ar (ps_c0 r 0) 0 = true ∧ ps_c0 r 0 < 1131 ∧ C (ps_c0 r 0) := za (o := 1) (by decide) (by decide) (xk_5_0 h.1) (by decide) h
theorem za_6_0 {C : Nat → Prop} {r : Nat} (h : zI C r 6) : ps_ar (ps_c0 r 0) 0 = true ∧ ps_c0 r 0 < 1131 ∧ C (ps_c0 r 0) := za (o := 1) (by decide) (by decide) (xk_6_0 h.1) (by decide) h
theorem za_6_1 {C : Nat → Prop} {r : Nat} (h : zI C r 6) : ps_ar (ps_c0 r 1) 0 = true ∧ ps_c0 r 1 < 1131 ∧ C (ps_c0 r 1) := za (o := 2) (by decide) (by decide) (xk_6_1 h.1) (by decide) h
theorem za_6_2 {C : Nat → Prop} {r : Nat} (h : zI C r 6) : ps_ar (ps_c0 r 2) 0 = true ∧ ps_c0 r 2 < 1131 ∧ C (ps_c0 r 2) := za (o := 3) (by decide) (by decide) (xk_6_2 h.1) (by decide) h
theorem ze_7_0 {C : Nat → Prop} {r : Nat} {i : Int32} (h : zI C r 7) (hi : pm_in i (ps_ln (ps_c0 r 0)) = true) : zI C (ps_e0 (ps_c0 r 0) i.toNatClampNeg) 5 := ze (n := 12) (eo := 7) (k := 2) (by decide) (by decide) (xe_4 (xk_7_0 h.1).1 hi) (by decide) h hi
theorem zo_7_1 {C : Nat → Prop} {r : Nat} (h : zI C r 7) : zI C (ps_c0 r 1) 5 := zo (o := 2) (by decide) (by decide) (xk_7_1 h.1) (by decide) h
theorem za_7_2 {C : Nat → Prop} {r : Nat} (h : zI C r 7) : ps_ar (ps_c0 r 2) 0 = true ∧ ps_c0 r 2 < 1131 ∧ C (ps_c0 r 2) := za (o := 4) (by decide) (by decide) (xk_7_2 h.1) (by decide) h
theorem za_7_3 {C : Nat → Prop} {r : Nat} (h : zI C r 7) : ps_ar (ps_c0 r 3) 0 = true ∧ ps_c0 r 3 < 1131 ∧ C (ps_c0 r 3) := za (o := 5) (by decide) (by decide) (xk_7_3 h.1) (by decide) h
theorem za_7_4 {C : Nat → Prop} {r : Nat} (h : zI C r 7) : ps_ar (ps_c0 r 4) 0 = true ∧ ps_c0 r 4 < 1131 ∧ C (ps_c0 r 4) := za (o := 6) (by decide) (by decide) (xk_7_4 h.1) (by decide) h
theorem za_8_1 {C : Nat → Prop} {r : Nat} (h : zI C r 8) : ps_ar (ps_c0 r 1) 0 = true ∧ ps_c0 r 1 < 1131 ∧ C (ps_c0 r 1) := za (o := 1) (by decide) (by decide) (xk_8_1 h.1) (by decide) h
theorem zo_8_4 {C : Nat → Prop} {r : Nat} (h : zI C r 8) : zI C (ps_c0 r 4) 5 := zo (o := 2) (by decide) (by decide) (xk_8_4 h.1) (by decide) h
theorem zo_8_5 {C : Nat → Prop} {r : Nat} (h : zI C r 8) : zI C (ps_c0 r 5) 5 := zo (o := 4) (by decide) (by decide) (xk_8_5 h.1) (by decide) h
theorem zo_8_6 {C : Nat → Prop} {r : Nat} (h : zI C r 8) : zI C (ps_c0 r 6) 5 := zo (o := 6) (by decide) (by decide) (xk_8_6 h.1) (by decide) h
theorem za_8_7 {C : Nat → Prop} {r : Nat} (h : zI C r 8) : ps_ar (ps_c0 r 7) 0 = true ∧ ps_c0 r 7 < 1131 ∧ C (ps_c0 r 7) := za (o := 8) (by decide) (by decide) (xk_8_7 h.1) (by decide) h
theorem za_9_0 {C : Nat → Prop} {r : Nat} (h : zI C r 9) : ps_ar (ps_c0 r 0) 3 = true ∧ ps_c0 r 0 < 1131 ∧ C (ps_c0 r 0) := za (o := 1) (by decide) (by decide) (xk_9_0 h.1) (by decide) h
theorem za_9_1 {C : Nat → Prop} {r : Nat} (h : zI C r 9) : ps_ar (ps_c0 r 1) 3 = true ∧ ps_c0 r 1 < 1131 ∧ C (ps_c0 r 1) := za (o := 2) (by decide) (by decide) (xk_9_1 h.1) (by decide) h
theorem za_9_2 {C : Nat → Prop} {r : Nat} (h : zI C r 9) : ps_ar (ps_c0 r 2) 3 = true ∧ ps_c0 r 2 < 1131 ∧ C (ps_c0 r 2) := za (o := 3) (by decide) (by decide) (xk_9_2 h.1) (by decide) h
theorem za_9_3 {C : Nat → Prop} {r : Nat} (h : zI C r 9) : ps_ar (ps_c0 r 3) 0 = true ∧ ps_c0 r 3 < 1131 ∧ C (ps_c0 r 3) := za (o := 4) (by decide) (by decide) (xk_9_3 h.1) (by decide) h
theorem ze_9_4 {C : Nat → Prop} {r : Nat} {i : Int32} (h : zI C r 9) (hi : pm_in i (ps_ln (ps_c0 r 4)) = true) : zI C (ps_e0 (ps_c0 r 4) i.toNatClampNeg) 5 := ze (n := 8) (eo := 8) (k := 2) (by decide) (by decide) (xe_4 (xk_9_4 h.1).1 hi) (by decide) h hi
theorem zo_9_5 {C : Nat → Prop} {r : Nat} (h : zI C r 9) : zI C (ps_c0 r 5) 5 := zo (o := 6) (by decide) (by decide) (xk_9_5 h.1) (by decide) h
theorem za_10_0 {C : Nat → Prop} {r : Nat} (h : zI C r 10) : ps_ar (ps_c0 r 0) 3 = true ∧ ps_c0 r 0 < 1131 ∧ C (ps_c0 r 0) := za (o := 1) (by decide) (by decide) (xk_10_0 h.1) (by decide) h
def zJ (C : Nat → Prop) (m : ps_S) (t : Int32) (s : ps_S) : Prop := xJ m t s ∧ cfr C m s
theorem zI_r {C : Nat → Prop} {r c : Nat} (hc : c < 11) (h : zI C r c) : C r := h.2 r (Nat.le_refl _) (by
  have : ∀ c, c < 11 → 0 < zsz c := by decide
  have := this c hc
  omega)
theorem zw_i {C : Nat → Prop} {m s : ps_S} {t : Int32} {r c q : Nat} {v : Int32} (hc : c < 11) (h : zI C r c) (J : zJ C m t s) : zJ C m t (ps_ui s r q v) := ⟨xw_i hc h.1 J.1, cfr_i J.2 (zI_r hc h)⟩
theorem zw_j {C : Nat → Prop} {m s : ps_S} {t : Int32} {r c q : Nat} {v : Int64} (hc : c < 11) (h : zI C r c) (J : zJ C m t s) : zJ C m t (ps_uj s r q v) := ⟨xw_j hc h.1 J.1, cfr_j J.2 (zI_r hc h)⟩
theorem zw_r {C : Nat → Prop} {m s : ps_S} {t : Int32} {r c q v : Nat} (hc : c < 11) (h : zI C r c) (J' : xJ m t (ps_ur s r q v)) (J : zJ C m t s) : zJ C m t (ps_ur s r q v) := ⟨J', cfr_r J.2 (zI_r hc h)⟩
theorem zw_a {C : Nat → Prop} {m s : ps_S} {t : Int32} {r q : Nat} {v : Int32} (p : ps_ar r 0 = true ∧ r < 1131 ∧ C r) (J : zJ C m t s) : zJ C m t (ps_ua s r q v) := ⟨xw_a p.2.1 J.1, cfr_a J.2 p.2.2⟩
theorem zw_b {C : Nat → Prop} {m s : ps_S} {t : Int32} {r q : Nat} {v : Int64} (p : ps_ar r 3 = true ∧ r < 1131 ∧ C r) (J : zJ C m t s) : zJ C m t (ps_ub s r q v) := ⟨xw_b p.2.1 J.1, cfr_b J.2 p.2.2⟩
theorem zJ_refl {C : Nat → Prop} {m : ps_S} {t : Int32} (h : xJ m t m) : zJ C m t m := ⟨h, cfr_refl⟩
theorem zJ_m {C C' : Nat → Prop} {m s : ps_S} {t : Int32} (h : zJ C m t s) (k : ∀ q, C q → C' q) : zJ C' m t s := ⟨h.1, cfr_mono h.2 k⟩
end
section
set_option maxRecDepth 100000
def zsS (C : Nat → Prop) (d : Nat) (x : Int32) : Prop := ∀ (m s : ps_S) (t : Int32) (r0 : Nat) (x1 x2 : Int32) (f : Int32 → ps_S → Prop), zI C r0 0 → zJ C m t s → (∀ (v : Int32) (s' : ps_S), v &&& 1 = v → zJ C m t s' → f v s') → ps_Cl (d + 8) 15 [.ref r0, .int x1, .int x2, .int x] s (ps_rI f)
def zsG (C : Nat → Prop) (d : Nat) (x : Int32) : Prop := ∀ (m s : ps_S) (t : Int32) (r0 : Nat) (x1 x2 : Int32) (f : Int32 → ps_S → Prop), ps_is r0 0 = true → zJ C m t s → (∀ (v : Int32), f v s) → ps_Cl (d + 8) 18 [.ref r0, .int x1, .int x2, .int x] s (ps_rI f)
theorem zs_183 {C : Nat → Prop} {m s : ps_S} {t : Int32} {d : Nat} {r0 : Nat} {x1 : Int32} {x2 : Int32} {f : ps_S → Prop} (h0 : ps_ar r0 0 = true ∧ r0 < 1131 ∧ C r0) (J : zJ C m t s) (k : ∀ (s' : ps_S), zJ C m t s' → ps_i s' = ps_i s → f s') : ps_Cl d 183 [.ref r0, .int x1, .int x2] s (ps_rV f) :=
  pg_183_0 (And.intro (fun f1 => (k s J rfl)) (fun f1 => (ps_nk_i (xn_l ((And.intro (h0).1 (h0).2.1)).1) (And.intro (fun f2 => (k s J rfl)) (fun f2 => (ps_nk_i (xn_0 ((And.intro (h0).1 (h0).2.1)).1) (ps_nd_i (xg_in f1 f2) (k (ps_ua s r0 (Int32.toNatClampNeg x1) x2) (zw_a h0 J) rfl))))))))

theorem zs_7_33 {C : Nat → Prop} {m s : ps_S} {t : Int32} {d : Nat} {r0 : Nat} {x1 : Int32} {x3 : Int32} {x4 : Int32} {Q : Option Value → ps_S → Prop} (h0 : zI C r0 0) (J : zJ C m t s) (k : ∀ (s' : ps_S), zJ C m t s' → Q none s') : ps_At (d + 1) 7 33 [(0, .ref r0), (1, .int x1), (3, .int x3), (4, .int x4)] [] s Q :=
  xs_up (P := fun x4 => ∀ (s : ps_S), zI C r0 0 → zJ C m t s → ps_At (d + 1) 7 33 [(0, .ref r0), (1, .int x1), (3, .int x3), (4, .int x4)] [] s Q) (fun x4 ih s h0 J => pg_7_33 (d := d) (And.intro (fun f1 => (k s J)) (fun f1 => (ps_nk_i (h0).1 (ps_nk_i (h0).1 (zs_183 (za_0_0 h0) J (fun s1 J1 e1 => (ps_nk_i (h0).1 (ps_nk_i (h0).1 (ih ((x4 + 1)) (xs_lt f1) (ps_ui s1 r0 2 ((ps_i s1 r0 2) + 1)) h0 (zw_i (c := 0) (by decide) h0 J1))))))))))) x4 s h0 J

theorem zs_7 {C : Nat → Prop} {m s : ps_S} {t : Int32} {d : Nat} {r0 : Nat} {x1 : Int32} {x2 : Int32} {f : ps_S → Prop} (h0 : zI C r0 0) (J : zJ C m t s) (k : ∀ (s' : ps_S), zJ C m t s' → f s') : ps_Cl (d + 1) 7 [.ref r0, .int x1, .int x2] s (ps_rV f) :=
  pg_7_0 (d := d) (And.intro (fun f1 => (And.intro (fun f2 => (ps_nk_i (h0).1 (ps_nk_i (h0).1 (zs_7_33 (d := d) (r0 := r0) (x1 := x1) (x3 := ((ps_i s r0 11) * (ps_i s r0 11))) (x4 := 0)  h0 J k )))) (fun f2 => (ps_nk_i (h0).1 (zs_7_33 (d := d) (r0 := r0) (x1 := x1) (x3 := (ps_i s r0 11)) (x4 := 0)  h0 J k ))))) (fun f1 => (zs_7_33 (d := d) (r0 := r0) (x1 := x1) (x3 := 1) (x4 := 0)  h0 J k )))

theorem zs_6_114 {C : Nat → Prop} {m s : ps_S} {t : Int32} {d : Nat} {r0 : Nat} {l3 : Int64} {x5 : Int32} {Q : Option Value → ps_S → Prop} (h0 : ps_is r0 0 = true) (J : zJ C m t s) (k : ∀ (v : Int64) (s' : ps_S), zJ C m t s' → Q (some (.long v)) s') : ps_At (d + 2) 6 114 [(0, .ref r0), (3, .long l3), (5, .int x5)] [] s Q :=
  xs_up (P := fun x5 => ∀ (l3 : Int64) (s : ps_S), ps_is r0 0 = true → zJ C m t s → ps_At (d + 2) 6 114 [(0, .ref r0), (3, .long l3), (5, .int x5)] [] s Q) (fun x5 ih l3 s h0 J => pg_6_114 (d := d + 1) (ps_nk_i h0 (And.intro (fun f1 => (k l3 s J)) (fun f1 => (ps_nk_i h0 (xs_182 (xk_0_0 h0) (J).1 (fun v1 => (ih ((x5 + 1)) (xs_lt f1) ((if (1099511627776 : Int64) < (l3 * (Int32.toInt64 v1)) then (1099511627776 : Int64) else (l3 * (Int32.toInt64 v1)))) s h0 J)))))))) x5 l3 s h0 J

theorem zs_6_64 {C : Nat → Prop} {m s : ps_S} {t : Int32} {d : Nat} {r0 : Nat} {x2 : Int32} {x3 : Int32} {Q : Option Value → ps_S → Prop} (h0 : zI C r0 0) (J : zJ C m t s) (k : ∀ (v : Int64) (s' : ps_S), zJ C m t s' → Q (some (.long v)) s') : ps_At (d + 2) 6 64 [(0, .ref r0), (2, .int x2), (3, .int x3)] [] s Q :=
  xs_up (P := fun x3 => ∀ (s : ps_S), zI C r0 0 → zJ C m t s → ps_At (d + 2) 6 64 [(0, .ref r0), (2, .int x2), (3, .int x3)] [] s Q) (fun x3 ih s h0 J => pg_6_64 (d := d + 1) (ps_nk_i (h0).1 (ps_nk_i (xj_0_16 (J).1 (h0).1) (And.intro (fun f1 => (zs_6_114 (d := d) (r0 := r0) (l3 := 1) (x5 := 0)  (h0).1 J k )) (fun f1 => (ps_nk_i (h0).1 (ps_nk_i (h0).1 (zs_183 (za_0_4 h0) J (fun s1 J1 e1 => (ps_nk_i (h0).1 (ps_nk_i (xj_0_16 (J1).1 (h0).1) (xs_136 (xj_0_16 (J1).1 (h0).1) (J1).1 (fun v2 => (ps_nk_i (h0).1 (zs_7 h0 J1 (fun s3 J3 => (ih ((x3 + 1)) (xs_lt f1) s3 h0 J3))))))))))))))))) x3 s h0 J

theorem zs_6_17 {C : Nat → Prop} {m s : ps_S} {t : Int32} {d : Nat} {r0 : Nat} {x2 : Int32} {x3 : Int32} {Q : Option Value → ps_S → Prop} (h0 : zI C r0 0) (J : zJ C m t s) (k : ∀ (v : Int64) (s' : ps_S), zJ C m t s' → Q (some (.long v)) s') : ps_At (d + 2) 6 17 [(0, .ref r0), (2, .int x2), (3, .int x3)] [] s Q :=
  xs_up (P := fun x3 => ∀ (s : ps_S), zI C r0 0 → zJ C m t s → ps_At (d + 2) 6 17 [(0, .ref r0), (2, .int x2), (3, .int x3)] [] s Q) (fun x3 ih s h0 J => pg_6_17 (d := d + 1) (ps_nk_i (h0).1 (ps_nk_i (xj_0_16 (J).1 (h0).1) (And.intro (fun f1 => (zs_6_64 (d := d) (r0 := r0) (x2 := x2) (x3 := 0)  h0 J k )) (fun f1 => (ps_nk_i (h0).1 (ps_nk_i (h0).1 (zs_183 (za_0_3 h0) J (fun s1 J1 e1 => (ps_nk_i (h0).1 (ps_nk_i (xj_0_16 (J1).1 (h0).1) (xs_136 (xj_0_16 (J1).1 (h0).1) (J1).1 (fun v2 => (ps_nk_i (h0).1 (zs_7 h0 J1 (fun s3 J3 => (ih ((x3 + 1)) (xs_lt f1) s3 h0 J3))))))))))))))))) x3 s h0 J

theorem zs_6 {C : Nat → Prop} {m s : ps_S} {t : Int32} {d : Nat} {r0 : Nat} {r1 : Nat} {x2 : Int32} {f : Int64 → ps_S → Prop} (h0 : zI C r0 0) (h1 : ps_is r1 9 = true) (J : zJ C m t s) (k : ∀ (v : Int64) (s' : ps_S), zJ C m t s' → f v s') : ps_Cl (d + 2) 6 [.ref r0, .ref r1, .int x2] s (ps_rJ f) :=
  pg_6_0 (d := d + 1) (ps_nk_i (h0).1 (ps_nk_i (h0).1 (ps_nk_i (h0).1 (zs_6_17 (d := d) (r0 := r0) (x2 := x2) (x3 := 0)  h0 (zw_i (c := 0) (by decide) h0 (zw_i (c := 0) (by decide) h0 (zw_r (c := 0) (by decide) h0 (xw_0_16 (h0).1 h1 (J).1) J))) k ))))

theorem zs_2 {C : Nat → Prop} {m s : ps_S} {t : Int32} {d : Nat} {r0 : Nat} {r1 : Nat} {x2 : Int32} {f : Int32 → ps_S → Prop} (h0 : zI C r0 0) (h1 : ps_is r1 9 = true) (J : zJ C m t s) (k : ∀ (v : Int32) (s' : ps_S), zJ C m t s' → f v s') : ps_Cl (d + 3) 2 [.ref r0, .ref r1, .int x2] s (ps_rI f) :=
  pg_2_0 (d := d + 2) (ps_nk_i (h0).1 (zs_6 h0 h1 J (fun v1 s1 J1 => (And.intro (fun f1 => (k (Int64.toInt32 v1) s1 J1)) (fun f1 => (k (-2) s1 J1))))))

theorem zs_10 {C : Nat → Prop} {m s : ps_S} {t : Int32} {d : Nat} {r0 : Nat} {x1 : Int32} {f : Nat → ps_S → Prop} (h0 : zI C r0 0) (J : zJ C m t s) (k : ∀ (v : Nat), zI C v 6 → f v s) : ps_Cl d 10 [.ref r0, .int x1] s (ps_rA f) :=
  pg_10_0 (And.intro (fun f1 => (ps_nk_i (h0).1 (k (ps_c0 r0 6) ((zo_0_6 h0))))) (fun f1 => (ps_nk_i (h0).1 (ps_nk_i (xn_l ((xk_0_5 (h0).1)).1) (And.intro (fun f2 => (ps_nk_i (h0).1 (k (ps_c0 r0 6) ((zo_0_6 h0))))) (fun f2 => (ps_nk_i (h0).1 (ps_nk_i (xn_5 ((xk_0_5 (h0).1)).1) (ps_nd_i (xg_in f1 f2) (k (ps_e0 (ps_c0 r0 5) (Int32.toNatClampNeg x1)) ((ze_0_5 h0 (xg_in f1 f2)))))))))))))

theorem zs_103_55 {C : Nat → Prop} {m s : ps_S} {t : Int32} {d : Nat} {r0 : Nat} {r1 : Nat} {r2 : Nat} {x3 : Int32} {x4 : Int32} {x5 : Int32} {Q : Option Value → ps_S → Prop} (h0 : zI C r0 6) (h1 : ps_is r1 5 = true) (h2 : ps_is r2 9 = true) (J : zJ C m t s) (k : ∀ (s' : ps_S), zJ C m t s' → Q none s') (K35 : ∀ (s : ps_S), zI C r0 6 → ps_is r1 5 = true → ps_is r2 9 = true → zJ C m t s → ps_At (d + 1) 103 35 [(0, .ref r0), (1, .ref r1), (2, .ref r2), (3, .int (x3 + (-1)))] [] s Q) : ps_At (d + 1) 103 55 [(0, .ref r0), (1, .ref r1), (2, .ref r2), (3, .int x3), (4, .int x4), (5, .int x5)] [] s Q :=
  xs_dn (P := fun x5 => ∀ (x4 : Int32) (s : ps_S), zI C r0 6 → ps_is r1 5 = true → ps_is r2 9 = true → zJ C m t s → ps_At (d + 1) 103 55 [(0, .ref r0), (1, .ref r1), (2, .ref r2), (3, .int x3), (4, .int x4), (5, .int x5)] [] s Q) (fun x5 ih x4 s h0 h1 h2 J => pg_103_55 (d := d) (And.intro (fun f1 => (ps_nk_i (h0).1 (zs_183 (za_6_0 h0) J (fun s1 J1 e1 => (K35 s1 h0 h1 h2 J1))))) (fun f1 => (ps_nk_i (h0).1 (xs_104 (h0).1 (J).1 (fun v2 => (ih ((x5 + (-1))) (xs_gt f1) (v2) s h0 h1 h2 J))))))) x5 x4 s h0 h1 h2 J

theorem zs_103_176 {C : Nat → Prop} {m s : ps_S} {t : Int32} {d : Nat} {r0 : Nat} {r1 : Nat} {r2 : Nat} {x3 : Int32} {x4 : Int32} {x5 : Int32} {x6 : Int32} {x7 : Int32} {Q : Option Value → ps_S → Prop} (h0 : zI C r0 6) (h1 : ps_is r1 5 = true) (h2 : ps_is r2 9 = true) (J : zJ C m t s) (k : ∀ (s' : ps_S), zJ C m t s' → Q none s') (K92 : ∀ (s : ps_S), zI C r0 6 → ps_is r1 5 = true → ps_is r2 9 = true → zJ C m t s → ps_At (d + 1) 103 92 [(0, .ref r0), (1, .ref r1), (2, .ref r2), (3, .int (x3 + 1))] [] s Q) : ps_At (d + 1) 103 176 [(0, .ref r0), (1, .ref r1), (2, .ref r2), (3, .int x3), (4, .int x4), (5, .int x5), (6, .int x6), (7, .int x7)] [] s Q :=
  xs_dn (P := fun x7 => ∀ (x6 : Int32) (s : ps_S), zI C r0 6 → ps_is r1 5 = true → ps_is r2 9 = true → zJ C m t s → ps_At (d + 1) 103 176 [(0, .ref r0), (1, .ref r1), (2, .ref r2), (3, .int x3), (4, .int x4), (5, .int x5), (6, .int x6), (7, .int x7)] [] s Q) (fun x7 ih x6 s h0 h1 h2 J => pg_103_176 (d := d) (And.intro (fun f1 => (K92 s h0 h1 h2 J)) (fun f1 => (ps_nk_i (h0).1 (zs_183 (za_6_1 h0) J (fun s1 J1 e1 => (ps_nk_i (h0).1 (zs_183 (za_6_2 h0) J1 (fun s2 J2 e2 => (ps_nk_i (h0).1 (xs_104 (h0).1 (J2).1 (fun v3 => (ih ((x7 + (-1))) (xs_gt f1) (v3) s2 h0 h1 h2 J2))))))))))))) x7 x6 s h0 h1 h2 J

theorem zs_103_92 {C : Nat → Prop} {m s : ps_S} {t : Int32} {d : Nat} {r0 : Nat} {r1 : Nat} {r2 : Nat} {x3 : Int32} {Q : Option Value → ps_S → Prop} (h0 : zI C r0 6) (h1 : ps_is r1 5 = true) (h2 : ps_is r2 9 = true) (J : zJ C m t s) (k : ∀ (s' : ps_S), zJ C m t s' → Q none s') : ps_At (d + 1) 103 92 [(0, .ref r0), (1, .ref r1), (2, .ref r2), (3, .int x3)] [] s Q :=
  xs_up (P := fun x3 => ∀ (s : ps_S), zI C r0 6 → ps_is r1 5 = true → ps_is r2 9 = true → zJ C m t s → ps_At (d + 1) 103 92 [(0, .ref r0), (1, .ref r1), (2, .ref r2), (3, .int x3)] [] s Q) (fun x3 ih s h0 h1 h2 J => pg_103_92 (d := d) (ps_nk_i h1 (And.intro (fun f1 => (k s J)) (fun f1 => (ps_nk_i (h0).1 (xs_182 (xk_6_1 (h0).1) (J).1 (fun v1 => (ps_nk_i (h0).1 (xs_105 (h0).1 (J).1 (fun v2 => (ps_nk_i h1 (xs_92 h1 (J).1 (fun v3 => (xs_184  (J).1 (fun v4 b4 => (And.intro (fun f2 => (ps_nk_i (h0).1 (ps_nk_i (h0).1 (ps_nk_i (h0).1 (ps_nk_i (h0).1 (ps_nk_i h1 (xs_92 h1 ((zw_i (c := 6) (by decide) h0 (zw_i (c := 6) (by decide) h0 J))).1 (fun v5 => (ps_nk_i h2 (xs_136 h2 ((zw_i (c := 6) (by decide) h0 (zw_i (c := 6) (by decide) h0 J))).1 (fun v6 => (zs_103_176 (d := d) (r0 := r0) (r1 := r1) (r2 := r2) (x3 := x3) (x4 := v1) (x5 := (v2 + 0)) (x6 := (x3 + 1)) (x7 := v6)  h0 h1 h2 (zw_i (c := 6) (by decide) h0 (zw_i (c := 6) (by decide) h0 J)) k (fun s9 h0z h1z h2z J9 => ih (x3 + 1) (xs_lt f1) s9 h0z h1z h2z J9))))))))))))) (fun f2 => (ps_nk_i (h0).1 (ps_nk_i (h0).1 (ps_nk_i (h0).1 (ps_nk_i (h0).1 (ps_nk_i h1 (xs_92 h1 ((zw_i (c := 6) (by decide) h0 (zw_i (c := 6) (by decide) h0 J))).1 (fun v7 => (ps_nk_i h2 (xs_136 h2 ((zw_i (c := 6) (by decide) h0 (zw_i (c := 6) (by decide) h0 J))).1 (fun v8 => (zs_103_176 (d := d) (r0 := r0) (r1 := r1) (r2 := r2) (x3 := x3) (x4 := v1) (x5 := (v2 + 1)) (x6 := (x3 + 1)) (x7 := v8)  h0 h1 h2 (zw_i (c := 6) (by decide) h0 (zw_i (c := 6) (by decide) h0 J)) k (fun s9 h0z h1z h2z J9 => ih (x3 + 1) (xs_lt f1) s9 h0z h1z h2z J9))))))))))))))))))))))))))))) x3 s h0 h1 h2 J

theorem zs_103_35 {C : Nat → Prop} {m s : ps_S} {t : Int32} {d : Nat} {r0 : Nat} {r1 : Nat} {r2 : Nat} {x3 : Int32} {Q : Option Value → ps_S → Prop} (h0 : zI C r0 6) (h1 : ps_is r1 5 = true) (h2 : ps_is r2 9 = true) (J : zJ C m t s) (k : ∀ (s' : ps_S), zJ C m t s' → Q none s') : ps_At (d + 1) 103 35 [(0, .ref r0), (1, .ref r1), (2, .ref r2), (3, .int x3)] [] s Q :=
  xs_dn (P := fun x3 => ∀ (s : ps_S), zI C r0 6 → ps_is r1 5 = true → ps_is r2 9 = true → zJ C m t s → ps_At (d + 1) 103 35 [(0, .ref r0), (1, .ref r1), (2, .ref r2), (3, .int x3)] [] s Q) (fun x3 ih s h0 h1 h2 J => pg_103_35 (d := d) (And.intro (fun f1 => (zs_103_92 (d := d) (r0 := r0) (r1 := r1) (r2 := r2) (x3 := 0)  h0 h1 h2 J k )) (fun f1 => (ps_nk_i h1 (xs_92 h1 (J).1 (fun v1 => (ps_nk_i h2 (xs_136 h2 (J).1 (fun v2 => (zs_103_55 (d := d) (r0 := r0) (r1 := r1) (r2 := r2) (x3 := x3) (x4 := (x3 + 1)) (x5 := v2)  h0 h1 h2 J k (fun s9 h0z h1z h2z J9 => ih (x3 + (-1)) (xs_ge f1) s9 h0z h1z h2z J9))))))))))) x3 s h0 h1 h2 J

theorem zs_103 {C : Nat → Prop} {m s : ps_S} {t : Int32} {d : Nat} {r0 : Nat} {r1 : Nat} {r2 : Nat} {f : ps_S → Prop} (h0 : zI C r0 6) (h1 : ps_is r1 5 = true) (h2 : ps_is r2 9 = true) (J : zJ C m t s) (k : ∀ (s' : ps_S), zJ C m t s' → f s') : ps_Cl (d + 1) 103 [.ref r0, .ref r1, .ref r2] s (ps_rV f) :=
  pg_103_0 (d := d) (ps_nk_i (h0).1 (ps_nk_i (h0).1 (ps_nk_i (h0).1 (zs_183 (za_6_1 h0) (zw_i (c := 6) (by decide) h0 (zw_i (c := 6) (by decide) h0 J)) (fun s1 J1 e1 => (ps_nk_i (h0).1 (zs_183 (za_6_2 h0) J1 (fun s2 J2 e2 => (ps_nk_i h1 (zs_103_35 (d := d) (r0 := r0) (r1 := r1) (r2 := r2) (x3 := ((ps_i s2 r1 1) - 1))  h0 h1 h2 J2 k ))))))))))

theorem zs_9_2 {C : Nat → Prop} {m s : ps_S} {t : Int32} {d : Nat} {r0 : Nat} {x1 : Int32} {Q : Option Value → ps_S → Prop} (h0 : zI C r0 0) (J : zJ C m t s) (k : ∀ (s' : ps_S), zJ C m t s' → Q none s') : ps_At (d + 2) 9 2 [(0, .ref r0), (1, .int x1)] [] s Q :=
  xs_up (P := fun x1 => ∀ (s : ps_S), zI C r0 0 → zJ C m t s → ps_At (d + 2) 9 2 [(0, .ref r0), (1, .int x1)] [] s Q) (fun x1 ih s h0 J => pg_9_2 (d := d + 1) (ps_nk_i (h0).1 (ps_nk_i (xj_0_16 (J).1 (h0).1) (And.intro (fun f1 => (k s J)) (fun f1 => (ps_nk_i (h0).1 (zs_10 h0 J (fun v1 g1 => (ps_nk_i (h0).1 (ps_nk_i (xj_0_16 (J).1 (h0).1) (xs_135 (xj_0_16 (J).1 (h0).1) (J).1 (fun v2 g2 => (ps_nk_i (h0).1 (ps_nk_i (g1).1 (zs_103 g1 g2 (xj_0_16 (J).1 (h0).1) J (fun s3 J3 => (ih ((x1 + 1)) (xs_lt f1) s3 h0 J3))))))))))))))))) x1 s h0 J

theorem zs_9 {C : Nat → Prop} {m s : ps_S} {t : Int32} {d : Nat} {r0 : Nat} {f : ps_S → Prop} (h0 : zI C r0 0) (J : zJ C m t s) (k : ∀ (s' : ps_S), zJ C m t s' → f s') : ps_Cl (d + 2) 9 [.ref r0] s (ps_rV f) :=
  pg_9_0 (d := d + 1) (zs_9_2 (d := d) (r0 := r0) (x1 := 0)  h0 J k )

theorem zs_8_9 {C : Nat → Prop} {m s : ps_S} {t : Int32} {d : Nat} {r0 : Nat} {x2 : Int32} {x3 : Int32} {Q : Option Value → ps_S → Prop} (h0 : zI C r0 0) (J : zJ C m t s) (k : ∀ (s' : ps_S), zJ C m t s' → Q none s') : ps_At (d + 1) 8 9 [(0, .ref r0), (2, .int x2), (3, .int x3)] [] s Q :=
  xs_dn (P := fun x3 => ∀ (x2 : Int32) (s : ps_S), zI C r0 0 → zJ C m t s → ps_At (d + 1) 8 9 [(0, .ref r0), (2, .int x2), (3, .int x3)] [] s Q) (fun x3 ih x2 s h0 J => pg_8_9 (d := d) (And.intro (fun f1 => (k s J)) (fun f1 => (ps_nk_i (h0).1 (xs_182 (xk_0_0 (h0).1) (J).1 (fun v1 => (And.intro (fun f2 => (ih ((x3 + (-1))) (xs_ge f1) (x2) s h0 J)) (fun f2 => (ps_nk_i (h0).1 (ps_nd_i (xg_nz f2) (zs_183 (za_0_1 h0) J (fun s2 J2 e2 => (ps_nd_i (xg_nz f2) (ih ((x3 + (-1))) (xs_ge f1) ((x2 / v1)) s2 h0 J2)))))))))))))) x3 x2 s h0 J

theorem zs_8 {C : Nat → Prop} {m s : ps_S} {t : Int32} {d : Nat} {r0 : Nat} {x1 : Int32} {f : ps_S → Prop} (h0 : zI C r0 0) (J : zJ C m t s) (k : ∀ (s' : ps_S), zJ C m t s' → f s') : ps_Cl (d + 1) 8 [.ref r0, .int x1] s (ps_rV f) :=
  pg_8_0 (d := d) (ps_nk_i (h0).1 (zs_8_9 (d := d) (r0 := r0) (x2 := x1) (x3 := ((ps_i s r0 2) - 1))  h0 J k ))

theorem zr_19 {C : Nat → Prop} {m s : ps_S} {t : Int32} {d : Nat} {r0 : Nat} {x1 : Int32} {x2 : Int32} {x3 : Int32} {f : Int32 → ps_S → Prop} (HG : zsG C d (x3 + 1)) (h0 : ps_is r0 0 = true) (J : zJ C m t s) (k : ∀ (v : Int32), f v s) : ps_Cl (d + 9) 19 [.ref r0, .int x1, .int x2, .int x3] s (ps_rI f) :=
  pg_19_0 (d := d + 8) (ps_nk_i h0 (ps_nk_i h0 (ps_nk_i (xj_0_14 (J).1 h0) (xs_92 (xj_0_14 (J).1 h0) (J).1 (fun v1 => (ps_nk_i (xj_0_16 (J).1 h0) (xs_136 (xj_0_16 (J).1 h0) (J).1 (fun v2 => (And.intro (fun f1 => (ps_nk_i h0 (HG _ _ _ _ _ _ _ h0 J (fun v3 => (And.intro (fun f2 => (ps_nk_i h0 (ps_nk_i h0 (ps_nk_i (xj_0_15 (J).1 h0) (xs_104 (xj_0_15 (J).1 h0) (J).1 (fun v4 => (ps_nk_i h0 (HG _ _ _ _ _ _ _ h0 J (fun v5 => (k ((v3 * (ps_i s r0 11)) + v5))))))))))) (fun f2 => (k v3))))))) (fun f1 => (k 0)))))))))))

theorem zr_18 {C : Nat → Prop} {m s : ps_S} {t : Int32} {d : Nat} {r0 : Nat} {x1 : Int32} {x2 : Int32} {x3 : Int32} {f : Int32 → ps_S → Prop} (H : x3 ≤ 12 → zsG C d (x3 + 1)) (h0 : ps_is r0 0 = true) (J : zJ C m t s) (k : ∀ (v : Int32), f v s) : ps_Cl (d + 10) 18 [.ref r0, .int x1, .int x2, .int x3] s (ps_rI f) :=
  pg_18_0 (d := d + 9) (And.intro (fun f1 => (ps_nk_i h0 (ps_nk_i (xj_0_14 (J).1 h0) (xs_92 (xj_0_14 (J).1 h0) (J).1 (fun v1 => (And.intro (fun f2 => (xs_185  (J).1 (fun v2 b2 => (And.intro (fun f3 => (ps_nk_i h0 (ps_nk_i h0 (xs_182 (xk_0_4 h0) (J).1 (fun v3 => (ps_nk_i h0 (zr_19 (H f1) h0 J (fun v4 => (xs_182 (xk_0_1 h0) (J).1 (fun v5 => (k v5))))))))))) (fun f3 => (ps_nk_i h0 (xs_182 (xk_0_7 h0) (J).1 (fun v6 => (k v6))))))))) (fun f2 => (ps_nk_i h0 (xs_182 (xk_0_8 h0) (J).1 (fun v7 => (k v7))))))))))) (fun f1 => (k 0)))

theorem zr_16 {C : Nat → Prop} {m s : ps_S} {t : Int32} {d : Nat} {r0 : Nat} {x1 : Int32} {x2 : Int32} {x3 : Int32} {f : Int32 → ps_S → Prop} (HS : zsS C d x3) (h0 : zI C r0 0) (J : zJ C m t s) (k : ∀ (v : Int32) (s' : ps_S), v &&& 1 = v → zJ C m t s' → f v s') : ps_Cl (d + 9) 16 [.ref r0, .int x1, .int x2, .int x3] s (ps_rI f) :=
  pg_16_0 (d := d + 8) (ps_nk_i (h0).1 (HS _ _ _ _ _ _ _ h0 J (fun v1 s1 b1 J1 => (ps_nk_i (h0).1 (ps_nk_i (xj_0_14 (J1).1 (h0).1) (xs_92 (xj_0_14 (J1).1 (h0).1) (J1).1 (fun v2 => (And.intro (fun f1 => (And.intro (fun f2 => (k 0 s1 (by decide) J1)) (fun f2 => (ps_nk_i (h0).1 (ps_nk_i (xj_0_15 (J1).1 (h0).1) (xs_104 (xj_0_15 (J1).1 (h0).1) (J1).1 (fun v3 => (ps_nk_i (h0).1 (HS _ _ _ _ _ _ _ h0 J1 (fun v4 s4 b4 J4 => (And.intro (fun f3 => (k 0 s4 (by decide) J4)) (fun f3 => (k 1 s4 (by decide) J4))))))))))))) (fun f1 => (And.intro (fun f4 => (And.intro (fun f5 => (k 1 s1 (by decide) J1)) (fun f5 => (ps_nk_i (h0).1 (ps_nk_i (xj_0_15 (J1).1 (h0).1) (xs_104 (xj_0_15 (J1).1 (h0).1) (J1).1 (fun v5 => (ps_nk_i (h0).1 (HS _ _ _ _ _ _ _ h0 J1 (fun v6 s6 b6 J6 => (And.intro (fun f6 => (k 0 s6 (by decide) J6)) (fun f6 => (k 1 s6 (by decide) J6))))))))))))) (fun f4 => (And.intro (fun f7 => (k 1 s1 (by decide) J1)) (fun f7 => (ps_nk_i (h0).1 (ps_nk_i (xj_0_15 (J1).1 (h0).1) (xs_104 (xj_0_15 (J1).1 (h0).1) (J1).1 (fun v7 => (ps_nk_i (h0).1 (HS _ _ _ _ _ _ _ h0 J1 (fun v8 s8 b8 J8 => (And.intro (fun f8 => (k 0 s8 (by decide) J8)) (fun f8 => (k 1 s8 (by decide) J8)))))))))))))))))))))))

theorem zr_17_22 {C : Nat → Prop} {m s : ps_S} {t : Int32} {d : Nat} {r0 : Nat} {x1 : Int32} {x2 : Int32} {x3 : Int32} {x4 : Int32} {x5 : Int32} {Q : Option Value → ps_S → Prop} (HS : zsS C d (x3 + 1)) (h0 : zI C r0 0) (e0 : x4 &&& 1 = x4) (J : zJ C m t s) (k : ∀ (v : Int32) (s' : ps_S), v &&& 1 = v → zJ C m t s' → Q (some (.int v)) s') : ps_At (d + 9) 17 22 [(0, .ref r0), (1, .int x1), (2, .int x2), (3, .int x3), (4, .int x4), (5, .int x5)] [] s Q :=
  xs_up (P := fun x5 => ∀ (s : ps_S), zI C r0 0 → x4 &&& 1 = x4 → zJ C m t s → ps_At (d + 9) 17 22 [(0, .ref r0), (1, .int x1), (2, .int x2), (3, .int x3), (4, .int x4), (5, .int x5)] [] s Q) (fun x5 ih s h0 e0 J => pg_17_22 (d := d + 8) (ps_nk_i (h0).1 (And.intro (fun f1 => (ps_nd_i (decide_eq_true e0) ((k x4 s (of_decide_eq_true (decide_eq_true e0)) J)))) (fun f1 => (ps_nk_i (h0).1 (zs_183 (za_0_7 h0) J (fun s1 J1 e1 => (ps_nk_i (h0).1 (HS _ _ _ _ _ _ _ h0 J1 (fun v2 s2 b2 J2 => (And.intro (fun f2 => (ih ((x5 + 1)) (xs_lt f1) s2 h0 e0 J2)) (fun f2 => (And.intro (fun f3 => (k 0 s2 (by decide) J2)) (fun f3 => (k 1 s2 (by decide) J2))))))))))))))) x5 s h0 e0 J

theorem zr_17 {C : Nat → Prop} {m s : ps_S} {t : Int32} {d : Nat} {r0 : Nat} {x1 : Int32} {x2 : Int32} {x3 : Int32} {f : Int32 → ps_S → Prop} (HS : zsS C d (x3 + 1)) (h0 : zI C r0 0) (J : zJ C m t s) (k : ∀ (v : Int32) (s' : ps_S), v &&& 1 = v → zJ C m t s' → f v s') : ps_Cl (d + 9) 17 [.ref r0, .int x1, .int x2, .int x3] s (ps_rI f) :=
  pg_17_0 (d := d + 8) (ps_nk_i (h0).1 (ps_nk_i (xj_0_14 (J).1 (h0).1) (xs_92 (xj_0_14 (J).1 (h0).1) (J).1 (fun v1 => (And.intro (fun f1 => (zr_17_22 (d := d) (r0 := r0) (x1 := x1) (x2 := x2) (x3 := x3) (x4 := 0) (x5 := 0) HS h0 (by decide) J k )) (fun f1 => (zr_17_22 (d := d) (r0 := r0) (x1 := x1) (x2 := x2) (x3 := x3) (x4 := 1) (x5 := 0) HS h0 (by decide) J k )))))))

theorem zr_15 {C : Nat → Prop} {m s : ps_S} {t : Int32} {d : Nat} {r0 : Nat} {x1 : Int32} {x2 : Int32} {x3 : Int32} {f : Int32 → ps_S → Prop} (HS : x3 ≤ 12 → zsS C d (x3 + 1)) (HG : ∀ e, x3 ≤ 12 → zsG C (d + e) (x3 + 1)) (h0 : zI C r0 0) (J : zJ C m t s) (k : ∀ (v : Int32) (s' : ps_S), v &&& 1 = v → zJ C m t s' → f v s') : ps_Cl (d + 10) 15 [.ref r0, .int x1, .int x2, .int x3] s (ps_rI f) :=
  pg_15_0 (d := d + 9) (And.intro (fun f1 => (ps_nk_i (h0).1 (ps_nk_i (xj_0_14 (J).1 (h0).1) (xs_92 (xj_0_14 (J).1 (h0).1) (J).1 (fun v1 => (And.intro (fun f2 => (k 0 s (by decide) J)) (fun f2 => (And.intro (fun f3 => (ps_nk_i (h0).1 (zr_16 (HS f1) h0 J (fun v2 s2 b2 J2 => (ps_nd_i (decide_eq_true b2) ((k v2 s2 (of_decide_eq_true (decide_eq_true b2)) J2))))))) (fun f3 => (And.intro (fun f4 => (ps_nk_i (h0).1 (zr_16 (HS f1) h0 J (fun v3 s3 b3 J3 => (ps_nd_i (decide_eq_true b3) ((k v3 s3 (of_decide_eq_true (decide_eq_true b3)) J3))))))) (fun f4 => (And.intro (fun f5 => (ps_nk_i (h0).1 (zr_16 (HS f1) h0 J (fun v4 s4 b4 J4 => (ps_nd_i (decide_eq_true b4) ((k v4 s4 (of_decide_eq_true (decide_eq_true b4)) J4))))))) (fun f5 => (And.intro (fun f6 => (ps_nk_i (h0).1 (zr_17 (HS f1) h0 J (fun v5 s5 b5 J5 => (ps_nd_i (decide_eq_true b5) ((k v5 s5 (of_decide_eq_true (decide_eq_true b5)) J5))))))) (fun f6 => (And.intro (fun f7 => (ps_nk_i (h0).1 (zr_17 (HS f1) h0 J (fun v6 s6 b6 J6 => (ps_nd_i (decide_eq_true b6) ((k v6 s6 (of_decide_eq_true (decide_eq_true b6)) J6))))))) (fun f7 => (And.intro (fun f8 => (ps_nk_i (h0).1 ((HG 1 f1) _ _ _ _ _ _ _ (h0).1 J (fun v7 => (ps_nk_i (h0).1 (ps_nk_i (xj_0_15 (J).1 (h0).1) (xs_104 (xj_0_15 (J).1 (h0).1) (J).1 (fun v8 => (ps_nk_i (h0).1 ((HG 1 f1) _ _ _ _ _ _ _ (h0).1 J (fun v9 => (And.intro (fun f9 => (k 0 s (by decide) J)) (fun f9 => (k 1 s (by decide) J)))))))))))))) (fun f8 => (ps_nk_i (h0).1 (ps_nk_i (h0).1 (xs_182 (xk_0_3 (h0).1) (J).1 (fun v10 => (ps_nk_i (h0).1 (zr_19 (HG 0 f1) (h0).1 J (fun v11 => (xs_182 (xk_0_1 (h0).1) (J).1 (fun v12 => (And.intro (fun f10 => (k 0 s (by decide) J)) (fun f10 => (k 1 s (by decide) J))))))))))))))))))))))))))))))) (fun f1 => (k 0 s (by decide) J)))

theorem zr_G {C : Nat → Prop} : ∀ (k : Nat) (x : Int32) (d : Nat), 0 ≤ x.toInt → x.toInt ≤ 13 → 13 - x.toInt ≤ k → 2 * k + 2 ≤ d → zsG C d x := by
  intro k
  induction k with
  | zero =>
    intro x d h0 h1 h2 h3
    obtain ⟨e, rfl⟩ : ∃ e, d = e + 2 := ⟨d - 2, by omega⟩
    have e1 : (12 : Int32).toInt = 12 := by decide
    have hx : ¬ x ≤ 12 := by rw [Int32.le_iff_toInt_le, e1]; omega
    exact fun m s t r0 x1 x2 f h J k => zr_18 (d := e) (fun q => absurd q hx) h J k
  | succ k ih =>
    intro x d h0 h1 h2 h3
    obtain ⟨e, rfl⟩ : ∃ e, d = e + 2 := ⟨d - 2, by omega⟩
    have e1 : (12 : Int32).toInt = 12 := by decide
    have s1 : x ≤ 12 → zsG C e (x + 1) := fun q => by
      rw [Int32.le_iff_toInt_le, e1] at q
      have ex : (x + 1).toInt = x.toInt + 1 := by rw [xI_add (by rw [xone]; omega) (by rw [xone]; omega), xone]
      exact ih (x + 1) e (by omega) (by omega) (by omega) (by omega)
    exact fun m s t r0 x1 x2 f h J k => zr_18 (d := e) s1 h J k
theorem zr_S {C : Nat → Prop} : ∀ (k : Nat) (x : Int32) (d : Nat), 0 ≤ x.toInt → x.toInt ≤ 13 → 13 - x.toInt ≤ k → 2 * k + 2 ≤ d → zsS C d x := by
  intro k
  induction k with
  | zero =>
    intro x d h0 h1 h2 h3
    obtain ⟨e, rfl⟩ : ∃ e, d = e + 2 := ⟨d - 2, by omega⟩
    have e1 : (12 : Int32).toInt = 12 := by decide
    have hx : ¬ x ≤ 12 := by rw [Int32.le_iff_toInt_le, e1]; omega
    exact fun m s t r0 x1 x2 f h J k => zr_15 (d := e) (fun q => absurd q hx) (fun _ q => absurd q hx) h J k
  | succ k ih =>
    intro x d h0 h1 h2 h3
    obtain ⟨e, rfl⟩ : ∃ e, d = e + 2 := ⟨d - 2, by omega⟩
    have e1 : (12 : Int32).toInt = 12 := by decide
    have ex : x ≤ 12 → (x + 1).toInt = x.toInt + 1 ∧ x.toInt ≤ 12 := fun q => by
      rw [Int32.le_iff_toInt_le, e1] at q
      exact ⟨by rw [xI_add (by rw [xone]; omega) (by rw [xone]; omega), xone], q⟩
    exact fun m s t r0 x1 x2 f h J k' => zr_15 (d := e) (fun q => ih (x + 1) e (by have := ex q; omega) (by have := ex q; omega) (by have := ex q; omega) (by omega)) (fun i q => zr_G k (x + 1) (e + i) (by have := ex q; omega) (by have := ex q; omega) (by have := ex q; omega) (by omega)) h J k'
theorem zs_15 {C : Nat → Prop} {m s : ps_S} {t x1 x2 : Int32} {d r0 : Nat} {f : Int32 → ps_S → Prop} (h0 : zI C r0 0) (J : zJ C m t s) (k : ∀ (v : Int32) (s' : ps_S), v &&& 1 = v → zJ C m t s' → f v s') : ps_Cl (d + 36) 15 [.ref r0, .int x1, .int x2, .int 0] s (ps_rI f) :=
  (zr_S 13 0 (d + 28) (by decide) (by decide) (by decide) (by omega)) m s t r0 x1 x2 f h0 J k

theorem zs_12_7 {C : Nat → Prop} {m s : ps_S} {t : Int32} {d : Nat} {r0 : Nat} {x2 : Int32} {Q : Option Value → ps_S → Prop} (h0 : zI C r0 0) (J : zJ C m t s) (k : ∀ (v : Int32) (s' : ps_S), v &&& 1 = v → zJ C m t s' → Q (some (.int v)) s') : ps_At (d + 37) 12 7 [(0, .ref r0), (2, .int x2)] [] s Q :=
  xs_up (P := fun x2 => ∀ (s : ps_S), zI C r0 0 → zJ C m t s → ps_At (d + 37) 12 7 [(0, .ref r0), (2, .int x2)] [] s Q) (fun x2 ih s h0 J => pg_12_7 (d := d + 36) (ps_nk_i (h0).1 (ps_nk_i (xj_0_16 (J).1 (h0).1) (And.intro (fun f1 => (k 1 s (by decide) J)) (fun f1 => (ps_nk_i (h0).1 (ps_nk_i (xj_0_16 (J).1 (h0).1) (xs_135 (xj_0_16 (J).1 (h0).1) (J).1 (fun v1 g1 => (ps_nk_i (h0).1 (ps_nk_i (h0).1 (xs_10 (h0).1 ((zw_r (c := 0) (by decide) h0 (xw_0_14 (h0).1 g1 (J).1) J)).1 (fun v2 g2 => (ps_nk_i (h0).1 (ps_nk_i (h0).1 (zs_15 h0 (zw_r (c := 0) (by decide) h0 (xw_0_15 (h0).1 g2 ((zw_r (c := 0) (by decide) h0 (xw_0_14 (h0).1 g1 (J).1) J)).1) (zw_r (c := 0) (by decide) h0 (xw_0_14 (h0).1 g1 (J).1) J)) (fun v3 s3 b3 J3 => (And.intro (fun f2 => (ih ((x2 + 1)) (xs_lt f1) s3 h0 J3)) (fun f2 => (k 0 s3 (by decide) J3)))))))))))))))))))) x2 s h0 J

theorem zs_12 {C : Nat → Prop} {m s : ps_S} {t : Int32} {d : Nat} {r0 : Nat} {x1 : Int32} {f : Int32 → ps_S → Prop} (h0 : zI C r0 0) (J : zJ C m t s) (k : ∀ (v : Int32) (s' : ps_S), v &&& 1 = v → zJ C m t s' → f v s') : ps_Cl (d + 37) 12 [.ref r0, .int x1] s (ps_rI f) :=
  pg_12_0 (d := d + 36) (ps_nk_i (h0).1 (zs_8 h0 J (fun s1 J1 => (zs_12_7 (d := d) (r0 := r0) (x2 := 0)  h0 J1 k ))))
end
section
set_option maxRecDepth 100000
theorem zs_11_106 {C : Nat → Prop} {m s : ps_S} {t : Int32} {d : Nat} {r0 : Nat} {x2 : Int32} {l3 : Int64} {Q : Option Value → ps_S → Prop} (h0 : ps_is r0 0 = true) (e0 : 0 ≤ x2) (e1 : x2 < (nI (ps_ln (ps_c0 r0 13)))) (J : zJ C m t s) (k : ∀ (v : Int32) (s' : ps_S), v &&& 1 = v → zJ C m t s' → Q (some (.int v)) s') : ps_At (d + 38) 11 106 [(0, .ref r0), (2, .int x2), (3, .long l3)] [] s Q :=
  pg_11_106 (d := d + 37) (ps_nk_i h0 (ps_nk_i (xn_3 ((xk_0_13 h0)).1) (ps_nd_i (xg_in e0 e1) (And.intro (fun f1 => (k 0 s (by decide) J)) (fun f1 => (k 1 s (by decide) J))))))

theorem zs_11 {C : Nat → Prop} {m s : ps_S} {t : Int32} {d : Nat} {r0 : Nat} {x1 : Int32} {f : Int32 → ps_S → Prop} (h0 : zI C r0 0) (J : zJ C m t s) (k : ∀ (v : Int32) (s' : ps_S), v &&& 1 = v → zJ C m t s' → f v s') : ps_Cl (d + 38) 11 [.ref r0, .int x1] s (ps_rI f) :=
  pg_11_0 (d := d + 37) (ps_nk_i (h0).1 (And.intro (fun f1 => (k 0 s (by decide) J)) (fun f1 => (ps_nk_i (h0).1 (ps_nk_i (xn_l ((xk_0_12 (h0).1)).1) (And.intro (fun f2 => (k 0 s (by decide) J)) (fun f2 => (ps_nk_i (h0).1 (ps_nk_i (xn_l ((xk_0_13 (h0).1)).1) (And.intro (fun f3 => (ps_nk_i (h0).1 (ps_nk_i (xn_3 ((xk_0_12 (h0).1)).1) (ps_nd_i (xg_in f1 f2) (And.intro (fun f4 => (zs_11_106 (d := d) (r0 := r0) (x2 := ((((ps_i s r0 11) - 1) * 64) + (x1 / 64))) (l3 := ((1 : Int64) <<< (Int32.toInt64 (x1 - (x1 / 64) * 64) &&& 63)))  (h0).1 f1 f3 J k )) (fun f4 => (ps_nk_i (h0).1 (ps_nk_i (xn_3 ((xk_0_12 (h0).1)).1) (ps_nd_i (xg_in f1 f2) (ps_nk_i (xn_3 ((xk_0_12 (h0).1)).1) (ps_nd_i (xg_in f1 f2) (ps_nk_i (h0).1 (ps_nk_i (h0).1 (zs_12 h0 (zw_b (za_0_12 h0) J) (fun v1 s1 b1 J1 => (And.intro (fun f5 => (ps_nk_i (h0).1 (ps_nk_i (xn_3 ((xk_0_13 (h0).1)).1) (ps_nd_i (xg_in f1 f3) (ps_nk_i (xn_3 ((xk_0_13 (h0).1)).1) (ps_nd_i (xg_in f1 f3) (zs_11_106 (d := d) (r0 := r0) (x2 := ((((ps_i s r0 11) - 1) * 64) + (x1 / 64))) (l3 := ((1 : Int64) <<< (Int32.toInt64 (x1 - (x1 / 64) * 64) &&& 63)))  (h0).1 f1 f3 (zw_b (za_0_13 h0) J1) k ))))))) (fun f5 => (ps_nk_i (h0).1 (ps_nk_i (xn_3 ((xk_0_13 (h0).1)).1) (ps_nd_i (xg_in f1 f3) (ps_nk_i (xn_3 ((xk_0_13 (h0).1)).1) (ps_nd_i (xg_in f1 f3) (zs_11_106 (d := d) (r0 := r0) (x2 := ((((ps_i s r0 11) - 1) * 64) + (x1 / 64))) (l3 := ((1 : Int64) <<< (Int32.toInt64 (x1 - (x1 / 64) * 64) &&& 63)))  (h0).1 f1 f3 (zw_b (za_0_13 h0) J1) k ))))))))))))))))))))))) (fun f3 => (k 0 s (by decide) J))))))))))))

theorem zs_3_17 {C : Nat → Prop} {m s : ps_S} {t : Int32} {d : Nat} {r0 : Nat} {x3 : Int32} {x4 : Int32} {x5 : Int32} {Q : Option Value → ps_S → Prop} (h0 : zI C r0 0) (J : zJ C m t s) (k : ∀ (v : Int32) (s' : ps_S), zJ C m t s' → Q (some (.int v)) s') : ps_At (d + 39) 3 17 [(0, .ref r0), (3, .int x3), (4, .int x4), (5, .int x5)] [] s Q :=
  xs_up (P := fun x5 => ∀ (x4 : Int32) (s : ps_S), zI C r0 0 → zJ C m t s → ps_At (d + 39) 3 17 [(0, .ref r0), (3, .int x3), (4, .int x4), (5, .int x5)] [] s Q) (fun x5 ih x4 s h0 J => pg_3_17 (d := d + 38) (And.intro (fun f1 => (And.intro (fun f2 => (k x4 s J)) (fun f2 => (k (-2) s J)))) (fun f1 => (ps_nk_i (h0).1 (zs_11 h0 J (fun v1 s1 b1 J1 => (And.intro (fun f3 => (ih ((x5 + 1)) (xs_lt f1) (x4) s1 h0 J1)) (fun f3 => (ih ((x5 + 1)) (xs_lt f1) ((x4 + 1)) s1 h0 J1))))))))) x5 x4 s h0 J

theorem zs_3 {C : Nat → Prop} {m s : ps_S} {t : Int32} {d : Nat} {r0 : Nat} {r1 : Nat} {x2 : Int32} {f : Int32 → ps_S → Prop} (h0 : zI C r0 0) (h1 : ps_is r1 9 = true) (J : zJ C m t s) (k : ∀ (v : Int32) (s' : ps_S), zJ C m t s' → f v s') : ps_Cl (d + 39) 3 [.ref r0, .ref r1, .int x2] s (ps_rI f) :=
  pg_3_0 (d := d + 38) (ps_nk_i (h0).1 (zs_2 h0 h1 J (fun v1 s1 J1 => (ps_nk_i (h0).1 (zs_9 h0 J1 (fun s2 J2 => (zs_3_17 (d := d) (r0 := r0) (x3 := v1) (x4 := 0) (x5 := 0)  h0 J2 k )))))))

theorem zs_13_7 {C : Nat → Prop} {m s : ps_S} {t : Int32} {d : Nat} {r0 : Nat} {r1 : Nat} {x2 : Int32} {Q : Option Value → ps_S → Prop} (h0 : zI C r0 0) (h1 : ps_is r1 5 = true) (J : zJ C m t s) (k : ∀ (s' : ps_S), zJ C m t s' → Q none s') : ps_At (d + 2) 13 7 [(0, .ref r0), (1, .ref r1), (2, .int x2)] [] s Q :=
  xs_up (P := fun x2 => ∀ (s : ps_S), zI C r0 0 → ps_is r1 5 = true → zJ C m t s → ps_At (d + 2) 13 7 [(0, .ref r0), (1, .ref r1), (2, .int x2)] [] s Q) (fun x2 ih s h0 h1 J => pg_13_7 (d := d + 1) (And.intro (fun f1 => (k s J)) (fun f1 => (ps_nk_i h1 (xs_100 h1 (J).1 (fun v1 b1 => (And.intro (fun f2 => (ih ((x2 + 1)) (xs_lt f1) s h0 h1 J)) (fun f2 => (ps_nk_i (h0).1 (ps_nk_i (h0).1 (zs_183 (za_0_9 h0) J (fun s2 J2 e2 => (ps_nk_i (h0).1 (ps_nk_i (h0).1 (ih ((x2 + 1)) (xs_lt f1) (ps_ui s2 r0 10 ((ps_i s2 r0 10) + 1)) h0 h1 (zw_i (c := 0) (by decide) h0 J2)))))))))))))))) x2 s h0 h1 J

theorem zs_13 {C : Nat → Prop} {m s : ps_S} {t : Int32} {d : Nat} {r0 : Nat} {r1 : Nat} {f : ps_S → Prop} (h0 : zI C r0 0) (h1 : ps_is r1 5 = true) (J : zJ C m t s) (k : ∀ (s' : ps_S), zJ C m t s' → f s') : ps_Cl (d + 2) 13 [.ref r0, .ref r1] s (ps_rV f) :=
  pg_13_0 (d := d + 1) (ps_nk_i (h0).1 (zs_13_7 (d := d) (r0 := r0) (r1 := r1) (x2 := 0)  h0 h1 (zw_i (c := 0) (by decide) h0 J) k ))

theorem zs_14_105 {C : Nat → Prop} {m s : ps_S} {t : Int32} {d : Nat} {r0 : Nat} {x2 : Int32} {x3 : Int32} {Q : Option Value → ps_S → Prop} (h0 : zI C r0 0) (J : zJ C m t s) (k : ∀ (v : Int32) (s' : ps_S), v &&& 1 = v → zJ C m t s' → Q (some (.int v)) s') (K40 : ∀ (s : ps_S), zI C r0 0 → zJ C m t s → ps_At (d + 37) 14 40 [(0, .ref r0), (2, .int x2), (3, .int (x3 + 1))] [] s Q) : ps_At (d + 37) 14 105 [(0, .ref r0), (2, .int x2), (3, .int x3)] [] s Q :=
  pg_14_105 (d := d + 36) (ps_nk_i (h0).1 (zs_15 h0 J (fun v1 s1 b1 J1 => (And.intro (fun f1 => (K40 s1 h0 J1)) (fun f1 => (k 0 s1 (by decide) J1))))))

theorem zs_14_51 {C : Nat → Prop} {m s : ps_S} {t : Int32} {d : Nat} {r0 : Nat} {x2 : Int32} {x3 : Int32} {x4 : Int32} {x5 : Int32} {Q : Option Value → ps_S → Prop} (h0 : zI C r0 0) (J : zJ C m t s) (k : ∀ (v : Int32) (s' : ps_S), v &&& 1 = v → zJ C m t s' → Q (some (.int v)) s') (K40 : ∀ (s : ps_S), zI C r0 0 → zJ C m t s → ps_At (d + 37) 14 40 [(0, .ref r0), (2, .int x2), (3, .int (x3 + 1))] [] s Q) : ps_At (d + 37) 14 51 [(0, .ref r0), (2, .int x2), (3, .int x3), (4, .int x4), (5, .int x5)] [] s Q :=
  xs_up (P := fun x5 => ∀ (x4 : Int32) (s : ps_S), zI C r0 0 → zJ C m t s → ps_At (d + 37) 14 51 [(0, .ref r0), (2, .int x2), (3, .int x3), (4, .int x4), (5, .int x5)] [] s Q) (fun x5 ih x4 s h0 J => pg_14_51 (d := d + 36) (ps_nk_i (h0).1 (And.intro (fun f1 => (zs_14_105 (d := d) (r0 := r0) (x2 := x2) (x3 := x3)  h0 J k K40)) (fun f1 => (ps_nk_i (h0).1 (And.intro (fun f2 => (zs_14_105 (d := d) (r0 := r0) (x2 := x2) (x3 := x3)  h0 J k K40)) (fun f2 => (ps_nk_i (h0).1 (ps_nk_i (h0).1 (xs_182 (xk_0_9 (h0).1) (J).1 (fun v1 => (ps_nk_i (h0).1 (ps_nd_i (xg_nz f2) (zs_183 (za_0_8 h0) J (fun s2 J2 e2 => (ps_nk_i (h0).1 (ps_nd_i (xg_nz (by rw [e2]; exact f2)) (ih ((x5 + 1)) (xs_lt f1) ((x4 / (ps_i s2 r0 11))) s2 h0 J2)))))))))))))))))) x5 x4 s h0 J

theorem zs_14_40 {C : Nat → Prop} {m s : ps_S} {t : Int32} {d : Nat} {r0 : Nat} {x2 : Int32} {x3 : Int32} {Q : Option Value → ps_S → Prop} (h0 : zI C r0 0) (J : zJ C m t s) (k : ∀ (v : Int32) (s' : ps_S), v &&& 1 = v → zJ C m t s' → Q (some (.int v)) s') : ps_At (d + 37) 14 40 [(0, .ref r0), (2, .int x2), (3, .int x3)] [] s Q :=
  xs_up (P := fun x3 => ∀ (s : ps_S), zI C r0 0 → zJ C m t s → ps_At (d + 37) 14 40 [(0, .ref r0), (2, .int x2), (3, .int x3)] [] s Q) (fun x3 ih s h0 J => pg_14_40 (d := d + 36) (And.intro (fun f1 => (k 1 s (by decide) J)) (fun f1 => (zs_14_51 (d := d) (r0 := r0) (x2 := x2) (x3 := x3) (x4 := x3) (x5 := 0)  h0 J k (fun s9 h0z J9 => ih (x3 + 1) (xs_lt f1) s9 h0z J9))))) x3 s h0 J

theorem zs_14_17 {C : Nat → Prop} {m s : ps_S} {t : Int32} {d : Nat} {r0 : Nat} {x2 : Int32} {x3 : Int32} {Q : Option Value → ps_S → Prop} (h0 : zI C r0 0) (J : zJ C m t s) (k : ∀ (v : Int32) (s' : ps_S), v &&& 1 = v → zJ C m t s' → Q (some (.int v)) s') : ps_At (d + 37) 14 17 [(0, .ref r0), (2, .int x2), (3, .int x3)] [] s Q :=
  xs_up (P := fun x3 => ∀ (x2 : Int32) (s : ps_S), zI C r0 0 → zJ C m t s → ps_At (d + 37) 14 17 [(0, .ref r0), (2, .int x2), (3, .int x3)] [] s Q) (fun x3 ih x2 s h0 J => pg_14_17 (d := d + 36) (ps_nk_i (h0).1 (And.intro (fun f1 => (zs_14_40 (d := d) (r0 := r0) (x2 := x2) (x3 := 0)  h0 J k )) (fun f1 => (ps_nk_i (h0).1 (ih ((x3 + 1)) (xs_lt f1) ((x2 * (ps_i s r0 11))) s h0 J)))))) x3 x2 s h0 J

theorem zs_14 {C : Nat → Prop} {m s : ps_S} {t : Int32} {d : Nat} {r0 : Nat} {r1 : Nat} {f : Int32 → ps_S → Prop} (h0 : zI C r0 0) (h1 : ps_is r1 5 = true) (J : zJ C m t s) (k : ∀ (v : Int32) (s' : ps_S), v &&& 1 = v → zJ C m t s' → f v s') : ps_Cl (d + 37) 14 [.ref r0, .ref r1] s (ps_rI f) :=
  pg_14_0 (d := d + 36) (ps_nk_i (h0).1 (ps_nk_i (h0).1 (ps_nk_i (h0).1 (zs_14_17 (d := d) (r0 := r0) (x2 := 1) (x3 := 0)  h0 (zw_r (c := 0) (by decide) h0 (xw_0_15 (h0).1 (xk_0_6 (h0).1) ((zw_r (c := 0) (by decide) h0 (xw_0_14 (h0).1 h1 (J).1) J)).1) (zw_r (c := 0) (by decide) h0 (xw_0_14 (h0).1 h1 (J).1) J)) k ))))

theorem zs_4 {C : Nat → Prop} {m s : ps_S} {t : Int32} {d : Nat} {r0 : Nat} {r1 : Nat} {r2 : Nat} {x3 : Int32} {x4 : Int32} {f : Int32 → ps_S → Prop} (h0 : zI C r0 0) (h1 : ps_is r1 9 = true) (h2 : ps_is r2 5 = true) (J : zJ C m t s) (k : ∀ (v : Int32) (s' : ps_S), zJ C m t s' → f v s') : ps_Cl (d + 38) 4 [.ref r0, .ref r1, .ref r2, .int x3, .int x4] s (ps_rI f) :=
  pg_4_0 (d := d + 37) (ps_nk_i (h0).1 (zs_6 h0 h1 J (fun v1 s1 J1 => (And.intro (fun f1 => (ps_nk_i (h0).1 (zs_13 h0 h2 J1 (fun s2 J2 => (And.intro (fun f2 => (k (-2) s2 J2)) (fun f2 => (ps_nk_i (h0).1 (And.intro (fun f3 => (ps_nk_i (h0).1 (ps_nk_i (h0).1 (ps_nk_i (xk_0_6 (h0).1) (zs_103 (zo_0_6 h0) h2 (xj_0_16 (J2).1 (h0).1) J2 (fun s3 J3 => (ps_nk_i (h0).1 (zs_8 h0 J3 (fun s4 J4 => (ps_nk_i (h0).1 (zs_14 h0 h2 J4 (fun v5 s5 b5 J5 => (And.intro (fun f4 => (k 0 s5 J5)) (fun f4 => (k 1 s5 J5))))))))))))))) (fun f3 => (k (-2) s2 J2)))))))))) (fun f1 => (k (-1) s1 J1))))))

theorem zs_5_50 {C : Nat → Prop} {m s : ps_S} {t : Int32} {d : Nat} {r0 : Nat} {r2 : Nat} {x4 : Int32} {x5 : Int32} {Q : Option Value → ps_S → Prop} (h0 : zI C r0 0) (h2 : ps_is r2 5 = true) (J : zJ C m t s) (k : ∀ (v : Int32) (s' : ps_S), zJ C m t s' → Q (some (.int v)) s') : ps_At (d + 39) 5 50 [(0, .ref r0), (2, .ref r2), (4, .int x4), (5, .int x5)] [] s Q :=
  xs_up (P := fun x5 => ∀ (s : ps_S), zI C r0 0 → ps_is r2 5 = true → zJ C m t s → ps_At (d + 39) 5 50 [(0, .ref r0), (2, .ref r2), (4, .int x4), (5, .int x5)] [] s Q) (fun x5 ih s h0 h2 J => pg_5_50 (d := d + 38) (And.intro (fun f1 => (k (-1) s J)) (fun f1 => (ps_nk_i (h0).1 (zs_11 h0 J (fun v1 s1 b1 J1 => (And.intro (fun f2 => (ih ((x5 + 1)) (xs_lt f1) s1 h0 h2 J1)) (fun f2 => (ps_nk_i (h0).1 (zs_8 h0 J1 (fun s2 J2 => (ps_nk_i (h0).1 (zs_14 h0 h2 J2 (fun v3 s3 b3 J3 => (And.intro (fun f3 => (ih ((x5 + 1)) (xs_lt f1) s3 h0 h2 J3)) (fun f3 => (k x5 s3 J3))))))))))))))))) x5 s h0 h2 J

theorem zs_5 {C : Nat → Prop} {m s : ps_S} {t : Int32} {d : Nat} {r0 : Nat} {r1 : Nat} {r2 : Nat} {x3 : Int32} {f : Int32 → ps_S → Prop} (h0 : zI C r0 0) (h1 : ps_is r1 9 = true) (h2 : ps_is r2 5 = true) (J : zJ C m t s) (k : ∀ (v : Int32) (s' : ps_S), zJ C m t s' → f v s') : ps_Cl (d + 39) 5 [.ref r0, .ref r1, .ref r2, .int x3] s (ps_rI f) :=
  pg_5_0 (d := d + 38) (ps_nk_i (h0).1 (zs_2 h0 h1 J (fun v1 s1 J1 => (ps_nk_i (h0).1 (zs_13 h0 h2 J1 (fun s2 J2 => (And.intro (fun f1 => (k (-2) s2 J2)) (fun f1 => (ps_nk_i (h0).1 (And.intro (fun f2 => (ps_nk_i (h0).1 (zs_9 h0 J2 (fun s3 J3 => (ps_nk_i (h0).1 (ps_nk_i (h0).1 (ps_nk_i (xk_0_6 (h0).1) (zs_103 (zo_0_6 h0) h2 (xj_0_16 (J3).1 (h0).1) J3 (fun s4 J4 => (zs_5_50 (d := d) (r0 := r0) (r2 := r2) (x4 := v1) (x5 := 0)  h0 h2 J4 k )))))))))) (fun f2 => (k (-2) s2 J2))))))))))))

theorem zs_22_2 {C : Nat → Prop} {m s : ps_S} {t : Int32} {d : Nat} {r0 : Nat} {r1 : Nat} {x2 : Int32} {x3 : Int32} {Q : Option Value → ps_S → Prop} (h0 : zI C r0 1) (h1 : ps_is r1 5 = true) (J : zJ C m t s) (k : ∀ (v : Int32) (s' : ps_S), zJ C m t s' → Q (some (.int v)) s') : ps_At (d + 2) 22 2 [(0, .ref r0), (1, .ref r1), (2, .int x2), (3, .int x3)] [] s Q :=
  xs_up (P := fun x3 => ∀ (s : ps_S), zI C r0 1 → ps_is r1 5 = true → zJ C m t s → ps_At (d + 2) 22 2 [(0, .ref r0), (1, .ref r1), (2, .int x2), (3, .int x3)] [] s Q) (fun x3 ih s h0 h1 J => pg_22_2 (d := d + 1) (ps_nk_i (h0).1 (And.intro (fun f1 => (ps_nk_i (h0).1 (ps_nk_i (h0).1 (zs_183 (za_1_3 h0) J (fun s1 J1 e1 => (ps_nk_i (h0).1 (ps_nk_i (h0).1 (ps_nk_i (h0).1 (k ((ps_i (ps_ui s1 r0 4 ((ps_i s1 r0 4) + 1)) r0 4) - 1) (ps_ui s1 r0 4 ((ps_i s1 r0 4) + 1)) (zw_i (c := 1) (by decide) h0 J1)))))))))) (fun f1 => (ps_nk_i (h0).1 (ps_nk_i (xk_1_0 (h0).1) (xs_104 (xk_1_0 (h0).1) (J).1 (fun v2 => (ps_nk_i (h0).1 (xs_182 (xk_1_3 (h0).1) (J).1 (fun v3 => (ps_nk_i h1 (xs_99 h1 h1 (J).1 (fun v4 b4 => (And.intro (fun f2 => (ih ((x3 + 1)) (xs_lt f1) s h0 h1 J)) (fun f2 => (k x3 s J))))))))))))))))) x3 s h0 h1 J

theorem zs_22 {C : Nat → Prop} {m s : ps_S} {t : Int32} {d : Nat} {r0 : Nat} {r1 : Nat} {x2 : Int32} {f : Int32 → ps_S → Prop} (h0 : zI C r0 1) (h1 : ps_is r1 5 = true) (J : zJ C m t s) (k : ∀ (v : Int32) (s' : ps_S), zJ C m t s' → f v s') : ps_Cl (d + 2) 22 [.ref r0, .ref r1, .int x2] s (ps_rI f) :=
  pg_22_0 (d := d + 1) (zs_22_2 (d := d) (r0 := r0) (r1 := r1) (x2 := x2) (x3 := 0)  h0 h1 J k )

theorem zs_21_21 {C : Nat → Prop} {m s : ps_S} {t : Int32} {d : Nat} {r0 : Nat} {r1 : Nat} {x3 : Int32} {Q : Option Value → ps_S → Prop} (h0 : zI C r0 1) (h1 : ps_is r1 5 = true) (J : zJ C m t s) (k : ∀ (s' : ps_S), zJ C m t s' → Q none s') : ps_At (d + 3) 21 21 [(0, .ref r0), (1, .ref r1), (3, .int x3)] [] s Q :=
  xs_up (P := fun x3 => ∀ (s : ps_S), zI C r0 1 → ps_is r1 5 = true → zJ C m t s → ps_At (d + 3) 21 21 [(0, .ref r0), (1, .ref r1), (3, .int x3)] [] s Q) (fun x3 ih s h0 h1 J => pg_21_21 (d := d + 2) (ps_nk_i h1 (And.intro (fun f1 => (k s J)) (fun f1 => (ps_nk_i h1 (xs_92 h1 (J).1 (fun v1 => (And.intro (fun f2 => (ps_nk_i (h0).1 (ps_nk_i (h0).1 (And.intro (fun f3 => (ps_nk_i h1 (xs_92 h1 (J).1 (fun v2 => (zs_183 (za_1_1 h0) J (fun s3 J3 e3 => (ps_nk_i (h0).1 (ps_nk_i (h0).1 (And.intro (fun f4 => (ih ((x3 + 1)) (xs_lt f1) (ps_ui s3 r0 2 ((ps_i s3 r0 2) + 1)) h0 h1 (zw_i (c := 1) (by decide) h0 J3))) (fun f4 => (ps_nk_i (h0).1 (ps_nk_i (xk_1_0 (h0).1) (xs_104 (xk_1_0 (h0).1) ((zw_i (c := 1) (by decide) h0 J3)).1 (fun v4 => (ih ((if (x3 + 1) < v4 then v4 else (x3 + 1))) (xs_max f1) (ps_ui s3 r0 2 ((ps_i s3 r0 2) + 1)) h0 h1 (zw_i (c := 1) (by decide) h0 J3)))))))))))))))) (fun f3 => (ps_nk_i (h0).1 (zs_22 h0 h1 J (fun v5 s5 J5 => (zs_183 (za_1_1 h0) J5 (fun s6 J6 e6 => (ps_nk_i (h0).1 (ps_nk_i (h0).1 (And.intro (fun f5 => (ih ((x3 + 1)) (xs_lt f1) (ps_ui s6 r0 2 ((ps_i s6 r0 2) + 1)) h0 h1 (zw_i (c := 1) (by decide) h0 J6))) (fun f5 => (ps_nk_i (h0).1 (ps_nk_i (xk_1_0 (h0).1) (xs_104 (xk_1_0 (h0).1) ((zw_i (c := 1) (by decide) h0 J6)).1 (fun v7 => (ih ((if (x3 + 1) < v7 then v7 else (x3 + 1))) (xs_max f1) (ps_ui s6 r0 2 ((ps_i s6 r0 2) + 1)) h0 h1 (zw_i (c := 1) (by decide) h0 J6)))))))))))))))))))) (fun f2 => (ps_nk_i (h0).1 (ps_nk_i (h0).1 (And.intro (fun f6 => (ps_nk_i h1 (xs_92 h1 (J).1 (fun v8 => (zs_183 (za_1_1 h0) J (fun s9 J9 e9 => (ps_nk_i (h0).1 (ps_nk_i (h0).1 (And.intro (fun f7 => (ih ((x3 + 1)) (xs_lt f1) (ps_ui s9 r0 2 ((ps_i s9 r0 2) + 1)) h0 h1 (zw_i (c := 1) (by decide) h0 J9))) (fun f7 => (ps_nk_i (h0).1 (ps_nk_i (xk_1_0 (h0).1) (xs_104 (xk_1_0 (h0).1) ((zw_i (c := 1) (by decide) h0 J9)).1 (fun v10 => (ih ((if (x3 + 1) < v10 then v10 else (x3 + 1))) (xs_max f1) (ps_ui s9 r0 2 ((ps_i s9 r0 2) + 1)) h0 h1 (zw_i (c := 1) (by decide) h0 J9)))))))))))))))) (fun f6 => (ps_nk_i (h0).1 (zs_22 h0 h1 J (fun v11 s11 J11 => (zs_183 (za_1_1 h0) J11 (fun s12 J12 e12 => (ps_nk_i (h0).1 (ps_nk_i (h0).1 (And.intro (fun f8 => (ih ((x3 + 1)) (xs_lt f1) (ps_ui s12 r0 2 ((ps_i s12 r0 2) + 1)) h0 h1 (zw_i (c := 1) (by decide) h0 J12))) (fun f8 => (ps_nk_i (h0).1 (ps_nk_i (xk_1_0 (h0).1) (xs_104 (xk_1_0 (h0).1) ((zw_i (c := 1) (by decide) h0 J12)).1 (fun v13 => (ih ((if (x3 + 1) < v13 then v13 else (x3 + 1))) (xs_max f1) (ps_ui s12 r0 2 ((ps_i s12 r0 2) + 1)) h0 h1 (zw_i (c := 1) (by decide) h0 J12)))))))))))))))))))))))))))) x3 s h0 h1 J

theorem zs_21 {C : Nat → Prop} {m s : ps_S} {t : Int32} {d : Nat} {r0 : Nat} {r1 : Nat} {r2 : Nat} {f : ps_S → Prop} (h0 : zI C r0 1) (h1 : ps_is r1 5 = true) (h2 : ps_is r2 9 = true) (J : zJ C m t s) (k : ∀ (s' : ps_S), zJ C m t s' → f s') : ps_Cl (d + 3) 21 [.ref r0, .ref r1, .ref r2] s (ps_rV f) :=
  pg_21_0 (d := d + 2) (ps_nk_i (h0).1 (ps_nk_i (xk_1_0 (h0).1) (zs_103 (zo_1_0 h0) h1 h2 J (fun s1 J1 => (ps_nk_i (h0).1 (ps_nk_i (h0).1 (zs_21_21 (d := d) (r0 := r0) (r1 := r1) (x3 := 0)  h0 h1 (zw_i (c := 1) (by decide) h0 (zw_i (c := 1) (by decide) h0 J1)) k )))))))

theorem zs_28 {C : Nat → Prop} {m s : ps_S} {t : Int32} {d : Nat} {r0 : Nat} {x1 : Int32} {f : ps_S → Prop} (h0 : zI C r0 1) (J : zJ C m t s) (k : ∀ (s' : ps_S), zJ C m t s' → f s') : ps_Cl (d + 1) 28 [.ref r0, .int x1] s (ps_rV f) :=
  pg_28_0 (d := d) (ps_nk_i (h0).1 (ps_nk_i (h0).1 (zs_183 (za_1_5 h0) J (fun s1 J1 e1 => (ps_nk_i (h0).1 (ps_nk_i (h0).1 (k (ps_ui s1 r0 6 ((ps_i s1 r0 6) + 1)) (zw_i (c := 1) (by decide) h0 J1))))))))

theorem zs_29 {C : Nat → Prop} {m s : ps_S} {t : Int32} {d : Nat} {r0 : Nat} {f : Int32 → ps_S → Prop} (h0 : zI C r0 1) (J : zJ C m t s) (k : ∀ (v : Int32) (s' : ps_S), zJ C m t s' → f v s') : ps_Cl (d + 1) 29 [.ref r0] s (ps_rI f) :=
  pg_29_0 (d := d) (ps_nk_i (h0).1 (ps_nk_i (h0).1 (ps_nk_i (h0).1 (ps_nk_i (h0).1 (xs_182 (xk_1_5 (h0).1) ((zw_i (c := 1) (by decide) h0 J)).1 (fun v1 => (k v1 (ps_ui s r0 6 ((ps_i s r0 6) - 1)) (zw_i (c := 1) (by decide) h0 J))))))))

theorem zs_26_12 {C : Nat → Prop} {m s : ps_S} {t : Int32} {d : Nat} {r0 : Nat} {x1 : Int32} {x2 : Int32} {Q : Option Value → ps_S → Prop} (h0 : zI C r0 1) (J : zJ C m t s) (k : ∀ (v : Int32) (s' : ps_S), v &&& 1 = v → zJ C m t s' → Q (some (.int v)) s') : ps_At (d + 2) 26 12 [(0, .ref r0), (1, .int x1), (2, .int x2)] [] s Q :=
  xs_dn (P := fun x2 => ∀ (s : ps_S), zI C r0 1 → zJ C m t s → ps_At (d + 2) 26 12 [(0, .ref r0), (1, .int x1), (2, .int x2)] [] s Q) (fun x2 ih s h0 J => pg_26_12 (d := d + 1) (And.intro (fun f1 => (ps_nk_i (h0).1 (zs_29 h0 J (fun v1 s1 J1 => (And.intro (fun f2 => (k 0 s1 (by decide) J1)) (fun f2 => (k 1 s1 (by decide) J1))))))) (fun f1 => (ps_nk_i (h0).1 (xs_182 (xk_1_1 (h0).1) (J).1 (fun v2 => (And.intro (fun f3 => (And.intro (fun f4 => (ps_nk_i (h0).1 (zs_29 h0 J (fun v3 s3 J3 => (ps_nk_i (h0).1 (zs_29 h0 J3 (fun v4 s4 J4 => (xs_27  (J4).1 (fun v5 => (ps_nk_i (h0).1 (zs_28 h0 J4 (fun s6 J6 => (ih ((x2 + (-1))) (xs_ge f1) s6 h0 J6))))))))))))) (fun f4 => (ps_nk_i (h0).1 (zs_28 h0 J (fun s7 J7 => (ih ((x2 + (-1))) (xs_ge f1) s7 h0 J7))))))) (fun f3 => (ps_nk_i (h0).1 (ps_nk_i (h0).1 (zs_28 h0 J (fun s8 J8 => (ih ((x2 + (-1))) (xs_ge f1) s8 h0 J8))))))))))))) x2 s h0 J

theorem zs_26 {C : Nat → Prop} {m s : ps_S} {t : Int32} {d : Nat} {r0 : Nat} {x1 : Int32} {f : Int32 → ps_S → Prop} (h0 : zI C r0 1) (J : zJ C m t s) (k : ∀ (v : Int32) (s' : ps_S), v &&& 1 = v → zJ C m t s' → f v s') : ps_Cl (d + 2) 26 [.ref r0, .int x1] s (ps_rI f) :=
  pg_26_0 (d := d + 1) (ps_nk_i (h0).1 (ps_nk_i (h0).1 (zs_26_12 (d := d) (r0 := r0) (x1 := x1) (x2 := ((ps_i (ps_ui s r0 6 0) r0 2) - 1))  h0 (zw_i (c := 1) (by decide) h0 J) k )))

theorem zs_23_4 {C : Nat → Prop} {m s : ps_S} {t : Int32} {d : Nat} {r0 : Nat} {x1 : Int32} {x2 : Int32} {Q : Option Value → ps_S → Prop} (h0 : zI C r0 1) (J : zJ C m t s) (k : ∀ (v : Int32) (s' : ps_S), zJ C m t s' → Q (some (.int v)) s') : ps_At (d + 3) 23 4 [(0, .ref r0), (1, .int x1), (2, .int x2)] [] s Q :=
  xs_up (P := fun x2 => ∀ (x1 : Int32) (s : ps_S), zI C r0 1 → zJ C m t s → ps_At (d + 3) 23 4 [(0, .ref r0), (1, .int x1), (2, .int x2)] [] s Q) (fun x2 ih x1 s h0 J => pg_23_4 (d := d + 2) (ps_nk_i (h0).1 (xs_25 (h0).1 (J).1 (fun v1 => (And.intro (fun f1 => (k x1 s J)) (fun f1 => (ps_nk_i (h0).1 (zs_26 h0 J (fun v2 s2 b2 J2 => (And.intro (fun f2 => (ih ((x2 + 1)) (xs_lt f1) (x1) s2 h0 J2)) (fun f2 => (ih ((x2 + 1)) (xs_lt f1) ((x1 + 1)) s2 h0 J2)))))))))))) x2 x1 s h0 J

theorem zs_23 {C : Nat → Prop} {m s : ps_S} {t : Int32} {d : Nat} {r0 : Nat} {f : Int32 → ps_S → Prop} (h0 : zI C r0 1) (J : zJ C m t s) (k : ∀ (v : Int32) (s' : ps_S), zJ C m t s' → f v s') : ps_Cl (d + 3) 23 [.ref r0] s (ps_rI f) :=
  pg_23_0 (d := d + 2) (zs_23_4 (d := d) (r0 := r0) (x1 := 0) (x2 := 0)  h0 J k )

theorem zs_24_2 {C : Nat → Prop} {m s : ps_S} {t : Int32} {d : Nat} {r0 : Nat} {x1 : Int32} {Q : Option Value → ps_S → Prop} (h0 : zI C r0 1) (J : zJ C m t s) (k : ∀ (v : Int32) (s' : ps_S), zJ C m t s' → Q (some (.int v)) s') : ps_At (d + 3) 24 2 [(0, .ref r0), (1, .int x1)] [] s Q :=
  xs_up (P := fun x1 => ∀ (s : ps_S), zI C r0 1 → zJ C m t s → ps_At (d + 3) 24 2 [(0, .ref r0), (1, .int x1)] [] s Q) (fun x1 ih s h0 J => pg_24_2 (d := d + 2) (ps_nk_i (h0).1 (xs_25 (h0).1 (J).1 (fun v1 => (And.intro (fun f1 => (k (-1) s J)) (fun f1 => (ps_nk_i (h0).1 (zs_26 h0 J (fun v2 s2 b2 J2 => (And.intro (fun f2 => (ih ((x1 + 1)) (xs_lt f1) s2 h0 J2)) (fun f2 => (k x1 s2 J2)))))))))))) x1 s h0 J

theorem zs_24 {C : Nat → Prop} {m s : ps_S} {t : Int32} {d : Nat} {r0 : Nat} {f : Int32 → ps_S → Prop} (h0 : zI C r0 1) (J : zJ C m t s) (k : ∀ (v : Int32) (s' : ps_S), zJ C m t s' → f v s') : ps_Cl (d + 3) 24 [.ref r0] s (ps_rI f) :=
  pg_24_0 (d := d + 2) (zs_24_2 (d := d) (r0 := r0) (x1 := 0)  h0 J k )

theorem zs_31 {C : Nat → Prop} {m s : ps_S} {t : Int32} {d : Nat} {r0 : Nat} {f : ps_S → Prop} (h0 : zI C r0 2) (J : zJ C m t s) (k : ∀ (s' : ps_S), zJ C m t s' → f s') : ps_Cl d 31 [.ref r0] s (ps_rV f) :=
  pg_31_0 (ps_nk_i (h0).1 (ps_nk_i (h0).1 (ps_nk_i (h0).1 (k (ps_ui (ps_ui (ps_ui s r0 7 0) r0 8 0) r0 9 0) (zw_i (c := 2) (by decide) h0 (zw_i (c := 2) (by decide) h0 (zw_i (c := 2) (by decide) h0 J)))))))
end
section
set_option maxRecDepth 100000
theorem zs_33 {C : Nat → Prop} {m s : ps_S} {t : Int32} {d : Nat} {r0 : Nat} {x1 : Int32} {f : Nat → ps_S → Prop} (h0 : zI C r0 2) (J : zJ C m t s) (k : ∀ (v : Nat), zI C v 8 → f v s) : ps_Cl d 33 [.ref r0, .int x1] s (ps_rA f) :=
  pg_33_0 (And.intro (fun f1 => (ps_nk_i (h0).1 (k (ps_c0 r0 1) ((zo_2_1 h0))))) (fun f1 => (ps_nk_i (h0).1 (ps_nk_i (xn_l ((xk_2_0 (h0).1)).1) (And.intro (fun f2 => (ps_nk_i (h0).1 (k (ps_c0 r0 1) ((zo_2_1 h0))))) (fun f2 => (ps_nk_i (h0).1 (ps_nk_i (xn_7 ((xk_2_0 (h0).1)).1) (ps_nd_i (xg_in f1 f2) (k (ps_e0 (ps_c0 r0 0) (Int32.toNatClampNeg x1)) ((ze_2_0 h0 (xg_in f1 f2)))))))))))))

theorem zs_38 {C : Nat → Prop} {m s : ps_S} {t : Int32} {d : Nat} {r0 : Nat} {x1 : Int32} {f : Nat → ps_S → Prop} (h0 : zI C r0 2) (J : zJ C m t s) (k : ∀ (v : Nat), zI C v 5 → f v s) : ps_Cl d 38 [.ref r0, .int x1] s (ps_rA f) :=
  pg_38_0 (And.intro (fun f1 => (ps_nk_i (h0).1 (k (ps_c0 r0 3) ((zo_2_3 h0))))) (fun f1 => (ps_nk_i (h0).1 (ps_nk_i (xn_l ((xk_2_2 (h0).1)).1) (And.intro (fun f2 => (ps_nk_i (h0).1 (k (ps_c0 r0 3) ((zo_2_3 h0))))) (fun f2 => (ps_nk_i (h0).1 (ps_nk_i (xn_4 ((xk_2_2 (h0).1)).1) (ps_nd_i (xg_in f1 f2) (k (ps_e0 (ps_c0 r0 2) (Int32.toNatClampNeg x1)) ((ze_2_2 h0 (xg_in f1 f2)))))))))))))

theorem zs_91 {C : Nat → Prop} {m s : ps_S} {t : Int32} {d : Nat} {r0 : Nat} {f : ps_S → Prop} (h0 : zI C r0 5) (J : zJ C m t s) (k : ∀ (s' : ps_S), zJ C m t s' → f s') : ps_Cl d 91 [.ref r0] s (ps_rV f) :=
  pg_91_0 (ps_nk_i (h0).1 (ps_nk_i (h0).1 (k (ps_ui (ps_ui s r0 1 0) r0 2 0) (zw_i (c := 5) (by decide) h0 (zw_i (c := 5) (by decide) h0 J)))))

theorem zs_93 {C : Nat → Prop} {m s : ps_S} {t : Int32} {d : Nat} {r0 : Nat} {x1 : Int32} {f : ps_S → Prop} (h0 : zI C r0 5) (J : zJ C m t s) (k : ∀ (s' : ps_S), zJ C m t s' → f s') : ps_Cl d 93 [.ref r0, .int x1] s (ps_rV f) :=
  pg_93_0 (ps_nk_i (h0).1 (And.intro (fun f1 => (ps_nk_i (h0).1 (k (ps_ui s r0 2 1) (zw_i (c := 5) (by decide) h0 J)))) (fun f1 => (ps_nk_i (h0).1 (ps_nk_i (h0).1 (ps_nk_i (xn_l ((xk_5_0 (h0).1)).1) (And.intro (fun f2 => (ps_nk_i (h0).1 (k (ps_ui s r0 2 1) (zw_i (c := 5) (by decide) h0 J)))) (fun f2 => (ps_nk_i (h0).1 (ps_nk_i (h0).1 (ps_nk_i (xn_0 ((xk_5_0 (h0).1)).1) (ps_nd_i (xg_in f1 f2) (ps_nk_i (h0).1 (ps_nk_i (h0).1 (k (ps_ui (ps_ua s (ps_c0 r0 0) (Int32.toNatClampNeg (ps_i s r0 1)) x1) r0 1 ((ps_i (ps_ua s (ps_c0 r0 0) (Int32.toNatClampNeg (ps_i s r0 1)) x1) r0 1) + 1)) (zw_i (c := 5) (by decide) h0 (zw_a (za_5_0 h0) J)))))))))))))))))

theorem zs_94_3 {C : Nat → Prop} {m s : ps_S} {t : Int32} {d : Nat} {r0 : Nat} {r1 : Nat} {x3 : Int32} {x4 : Int32} {Q : Option Value → ps_S → Prop} (h0 : zI C r0 5) (h1 : ps_is r1 5 = true) (J : zJ C m t s) (k : ∀ (s' : ps_S), zJ C m t s' → Q none s') : ps_At (d + 1) 94 3 [(0, .ref r0), (1, .ref r1), (3, .int x3), (4, .int x4)] [] s Q :=
  xs_up (P := fun x4 => ∀ (s : ps_S), zI C r0 5 → ps_is r1 5 = true → zJ C m t s → ps_At (d + 1) 94 3 [(0, .ref r0), (1, .ref r1), (3, .int x3), (4, .int x4)] [] s Q) (fun x4 ih s h0 h1 J => pg_94_3 (d := d) (And.intro (fun f1 => (k s J)) (fun f1 => (ps_nk_i h1 (xs_92 h1 (J).1 (fun v1 => (ps_nk_i (h0).1 (zs_93 h0 J (fun s2 J2 => (ih ((x4 + 1)) (xs_lt f1) s2 h0 h1 J2)))))))))) x4 s h0 h1 J

theorem zs_94 {C : Nat → Prop} {m s : ps_S} {t : Int32} {d : Nat} {r0 : Nat} {r1 : Nat} {x2 : Int32} {x3 : Int32} {f : ps_S → Prop} (h0 : zI C r0 5) (h1 : ps_is r1 5 = true) (J : zJ C m t s) (k : ∀ (s' : ps_S), zJ C m t s' → f s') : ps_Cl (d + 1) 94 [.ref r0, .ref r1, .int x2, .int x3] s (ps_rV f) :=
  pg_94_0 (d := d) (zs_94_3 (d := d) (r0 := r0) (r1 := r1) (x3 := x3) (x4 := x2)  h0 h1 J k )

theorem zs_95 {C : Nat → Prop} {m s : ps_S} {t : Int32} {d : Nat} {r0 : Nat} {r1 : Nat} {f : ps_S → Prop} (h0 : zI C r0 5) (h1 : ps_is r1 5 = true) (J : zJ C m t s) (k : ∀ (s' : ps_S), zJ C m t s' → f s') : ps_Cl (d + 2) 95 [.ref r0, .ref r1] s (ps_rV f) :=
  pg_95_0 (d := d + 1) (ps_nk_i (h0).1 (zs_91 h0 J (fun s1 J1 => (ps_nk_i h1 (ps_nk_i (h0).1 (zs_94 h0 h1 J1 (fun s2 J2 => (k s2 J2))))))))

theorem zs_123 {C : Nat → Prop} {m s : ps_S} {t : Int32} {d : Nat} {r0 : Nat} {x1 : Int32} {f : ps_S → Prop} (h0 : zI C r0 8) (J : zJ C m t s) (k : ∀ (s' : ps_S), zJ C m t s' → f s') : ps_Cl d 123 [.ref r0, .int x1] s (ps_rV f) :=
  pg_123_0 (ps_nk_i (h0).1 (And.intro (fun f1 => (ps_nk_i (h0).1 (k (ps_ui s r0 9 1) (zw_i (c := 8) (by decide) h0 J)))) (fun f1 => (ps_nk_i (h0).1 (ps_nk_i (h0).1 (ps_nk_i (xn_l ((xk_8_7 (h0).1)).1) (And.intro (fun f2 => (ps_nk_i (h0).1 (k (ps_ui s r0 9 1) (zw_i (c := 8) (by decide) h0 J)))) (fun f2 => (ps_nk_i (h0).1 (ps_nk_i (h0).1 (ps_nk_i (xn_0 ((xk_8_7 (h0).1)).1) (ps_nd_i (xg_in f1 f2) (ps_nk_i (h0).1 (ps_nk_i (h0).1 (k (ps_ui (ps_ua s (ps_c0 r0 7) (Int32.toNatClampNeg (ps_i s r0 8)) x1) r0 8 ((ps_i (ps_ua s (ps_c0 r0 7) (Int32.toNatClampNeg (ps_i s r0 8)) x1) r0 8) + 1)) (zw_i (c := 8) (by decide) h0 (zw_a (za_8_7 h0) J)))))))))))))))))

theorem zs_110 {C : Nat → Prop} {m s : ps_S} {t : Int32} {d : Nat} {r0 : Nat} {x1 : Int32} {f : Nat → ps_S → Prop} (h0 : zI C r0 7) (J : zJ C m t s) (k : ∀ (v : Nat), zI C v 5 → f v s) : ps_Cl d 110 [.ref r0, .int x1] s (ps_rA f) :=
  pg_110_0 (And.intro (fun f1 => (ps_nk_i (h0).1 (k (ps_c0 r0 1) ((zo_7_1 h0))))) (fun f1 => (ps_nk_i (h0).1 (ps_nk_i (xn_l ((xk_7_0 (h0).1)).1) (And.intro (fun f2 => (ps_nk_i (h0).1 (k (ps_c0 r0 1) ((zo_7_1 h0))))) (fun f2 => (ps_nk_i (h0).1 (ps_nk_i (xn_4 ((xk_7_0 (h0).1)).1) (ps_nd_i (xg_in f1 f2) (k (ps_e0 (ps_c0 r0 0) (Int32.toNatClampNeg x1)) ((ze_7_0 h0 (xg_in f1 f2)))))))))))))

theorem zs_97 {C : Nat → Prop} {m s : ps_S} {t : Int32} {d : Nat} {r0 : Nat} {x1 : Int32} {r2 : Nat} {r3 : Nat} {f : ps_S → Prop} (h0 : zI C r0 5) (h2 : ps_is r2 5 = true) (h3 : ps_is r3 5 = true) (J : zJ C m t s) (k : ∀ (s' : ps_S), zJ C m t s' → f s') : ps_Cl (d + 2) 97 [.ref r0, .int x1, .ref r2, .ref r3] s (ps_rV f) :=
  pg_97_0 (d := d + 1) (ps_nk_i (h0).1 (zs_91 h0 J (fun s1 J1 => (ps_nk_i (h0).1 (zs_93 h0 J1 (fun s2 J2 => (ps_nk_i h2 (ps_nk_i (h0).1 (zs_94 h0 h2 J2 (fun s3 J3 => (ps_nk_i h3 (ps_nk_i (h0).1 (zs_94 h0 h3 J3 (fun s4 J4 => (k s4 J4)))))))))))))))

theorem zs_43 {C : Nat → Prop} {m s : ps_S} {t : Int32} {d : Nat} {r0 : Nat} {r1 : Nat} {x2 : Int32} {r3 : Nat} {f : Int32 → ps_S → Prop} (h0 : ps_is r0 2 = true) (h1 : zI C r1 8) (h3 : ps_is r3 7 = true) (J : zJ C m t s) (k : ∀ (v : Int32) (s' : ps_S), zJ C m t s' → f v s') : ps_Cl (d + 3) 43 [.ref r0, .ref r1, .int x2, .ref r3] s (ps_rI f) :=
  pg_43_0 (d := d + 2) (ps_nk_i (h1).1 (And.intro (fun f1 => (ps_nk_i (h1).1 (ps_nk_i h0 (ps_nk_i (h1).1 (ps_nk_i (xj_2_6 (J).1 h0) (xs_135 (xj_2_6 (J).1 h0) (J).1 (fun v1 g1 => (ps_nk_i (xk_8_6 (h1).1) (zs_95 (zo_8_6 h1) g1 J (fun s2 J2 => (ps_nk_i (h1).1 (ps_nk_i (h1).1 (k 0 (ps_ui s2 r1 10 ((1 : Int32) <<< ((ps_i s2 r1 2) &&& 31))) (zw_i (c := 8) (by decide) h1 J2)))))))))))))) (fun f1 => (And.intro (fun f2 => (ps_nk_i (h1).1 (ps_nk_i (h1).1 (ps_nk_i (xk_8_6 (h1).1) (zs_95 (zo_8_6 h1) (xk_8_5 (h1).1) J (fun s3 J3 => (ps_nk_i (h1).1 (zs_123 h1 J3 (fun s4 J4 => (k 0 s4 J4)))))))))) (fun f2 => (And.intro (fun f3 => (ps_nk_i (h1).1 (ps_nk_i (h1).1 (xs_121 (h1).1 (J).1 (fun v5 => (ps_nk_i h3 (xs_110 h3 (J).1 (fun v6 g6 => (ps_nk_i (xk_8_6 (h1).1) (zs_95 (zo_8_6 h1) g6 J (fun s7 J7 => (ps_nk_i (h1).1 (xs_121 (h1).1 (J7).1 (fun v8 => (ps_nk_i (h1).1 (k 0 (ps_ui s7 r1 11 ((1 : Int32) <<< (v8 &&& 31))) (zw_i (c := 8) (by decide) h1 J7))))))))))))))))) (fun f3 => (ps_nk_i (h1).1 (ps_nk_i (h1).1 (ps_nk_i (h1).1 (ps_nk_i (xk_8_6 (h1).1) (zs_97 (zo_8_6 h1) (xk_8_4 (h1).1) (xk_8_4 (h1).1) J (fun s9 J9 => (k 0 s9 J9))))))))))))))

theorem zs_44 {C : Nat → Prop} {m s : ps_S} {t : Int32} {d : Nat} {r0 : Nat} {r1 : Nat} {r2 : Nat} {f : Int32 → ps_S → Prop} (h0 : zI C r0 2) (h1 : zI C r1 8) (h2 : ps_is r2 5 = true) (J : zJ C m t s) (k : ∀ (v : Int32) (s' : ps_S), zJ C m t s' → f v s') : ps_Cl (d + 3) 44 [.ref r0, .ref r1, .ref r2] s (ps_rI f) :=
  pg_44_0 (d := d + 2) (ps_nk_i (h1).1 (And.intro (fun f1 => (ps_nk_i (h1).1 (ps_nk_i (h0).1 (xs_37 (h0).1 (h1).1 (J).1 (fun v1 g1 => (ps_nk_i g1 (ps_nk_i (xk_8_6 (h1).1) (zs_97 (zo_8_6 h1) h2 (xk_8_6 g1) J (fun s2 J2 => (k 0 s2 J2)))))))))) (fun f1 => (And.intro (fun f2 => (ps_nk_i (h1).1 (ps_nk_i (h1).1 (ps_nk_i (xk_8_6 (h1).1) (zs_97 (zo_8_6 h1) (xk_8_5 (h1).1) h2 J (fun s3 J3 => (ps_nk_i (h0).1 (zs_38 h0 J3 (fun v4 g4 => (ps_nk_i (h1).1 (ps_nk_i (g4).1 (zs_95 g4 (xk_8_5 (h1).1) J3 (fun s5 J5 => (k 0 s5 J5)))))))))))))) (fun f2 => (And.intro (fun f3 => (ps_nk_i (h1).1 (ps_nk_i (h1).1 (ps_nk_i (xk_8_6 (h1).1) (zs_97 (zo_8_6 h1) (xk_8_5 (h1).1) h2 J (fun s6 J6 => (ps_nk_i (h0).1 (zs_38 h0 J6 (fun v7 g7 => (ps_nk_i (h1).1 (ps_nk_i (g7).1 (zs_95 g7 (xk_8_5 (h1).1) J6 (fun s8 J8 => (k 0 s8 J8)))))))))))))) (fun f3 => (And.intro (fun f4 => (ps_nk_i (h1).1 (ps_nk_i (h1).1 (ps_nk_i (xk_8_6 (h1).1) (zs_97 (zo_8_6 h1) h2 (xk_8_5 (h1).1) J (fun s9 J9 => (k 0 s9 J9))))))) (fun f4 => (And.intro (fun f5 => (ps_nk_i (h1).1 (ps_nk_i (h1).1 (ps_nk_i (xk_8_6 (h1).1) (zs_97 (zo_8_6 h1) (xk_8_5 (h1).1) h2 J (fun s10 J10 => (k 0 s10 J10))))))) (fun f5 => (ps_nk_i (h1).1 (ps_nk_i (h1).1 (ps_nk_i (xk_8_6 (h1).1) (zs_97 (zo_8_6 h1) (xk_8_5 (h1).1) h2 J (fun s11 J11 => (ps_nk_i (h0).1 (zs_38 h0 J11 (fun v12 g12 => (ps_nk_i (h1).1 (ps_nk_i (g12).1 (zs_95 g12 (xk_8_5 (h1).1) J11 (fun s13 J13 => (k 0 s13 J13))))))))))))))))))))))))

theorem zs_96 {C : Nat → Prop} {m s : ps_S} {t : Int32} {d : Nat} {r0 : Nat} {r1 : Nat} {x2 : Int32} {x3 : Int32} {f : ps_S → Prop} (h0 : zI C r0 5) (h1 : ps_is r1 5 = true) (J : zJ C m t s) (k : ∀ (s' : ps_S), zJ C m t s' → f s') : ps_Cl (d + 2) 96 [.ref r0, .ref r1, .int x2, .int x3] s (ps_rV f) :=
  pg_96_0 (d := d + 1) (ps_nk_i (h0).1 (zs_91 h0 J (fun s1 J1 => (ps_nk_i (h0).1 (zs_94 h0 h1 J1 (fun s2 J2 => (k s2 J2)))))))

theorem zs_45 {C : Nat → Prop} {m s : ps_S} {t : Int32} {d : Nat} {r0 : Nat} {r1 : Nat} {r2 : Nat} {f : Int32 → ps_S → Prop} (h0 : zI C r0 2) (h1 : zI C r1 8) (h2 : ps_is r2 5 = true) (J : zJ C m t s) (k : ∀ (v : Int32) (s' : ps_S), zJ C m t s' → f v s') : ps_Cl (d + 3) 45 [.ref r0, .ref r1, .ref r2] s (ps_rI f) :=
  pg_45_0 (d := d + 2) (ps_nk_i h2 (xs_92 h2 (J).1 (fun v1 => (And.intro (fun f1 => (ps_nk_i (h0).1 (ps_nk_i (h0).1 (ps_nk_i (xk_2_5 (h0).1) (zs_103 (zo_2_5 h0) h2 (xj_2_6 (J).1 (h0).1) J (fun s2 J2 => (ps_nk_i (h0).1 (ps_nk_i (xk_2_5 (h0).1) (xs_104 (xk_2_5 (h0).1) (J2).1 (fun v3 => (ps_nk_i (h1).1 (And.intro (fun f2 => (ps_nk_i (h1).1 (ps_nk_i h2 (ps_nk_i (xk_8_6 (h1).1) (zs_96 (zo_8_6 h1) h2 J2 (fun s4 J4 => (k 0 s4 J4))))))) (fun f2 => (ps_nk_i (h1).1 (ps_nk_i (xk_8_6 (h1).1) (zs_96 (zo_8_6 h1) h2 J2 (fun s5 J5 => (k 0 s5 J5)))))))))))))))))) (fun f1 => (k 2 s J))))))

theorem zs_46 {C : Nat → Prop} {m s : ps_S} {t : Int32} {d : Nat} {r0 : Nat} {r1 : Nat} {r2 : Nat} {f : Int32 → ps_S → Prop} (h0 : zI C r0 2) (h1 : zI C r1 8) (h2 : ps_is r2 5 = true) (J : zJ C m t s) (k : ∀ (v : Int32) (s' : ps_S), zJ C m t s' → f v s') : ps_Cl (d + 3) 46 [.ref r0, .ref r1, .ref r2] s (ps_rI f) :=
  pg_46_0 (d := d + 2) (ps_nk_i (h0).1 (xs_37 (h0).1 (h1).1 (J).1 (fun v1 g1 => (ps_nk_i g1 (ps_nk_i h2 (xs_92 h2 (J).1 (fun v2 => (And.intro (fun f1 => (k 2 s J)) (fun f1 => (ps_nk_i (h0).1 (xs_37 (h0).1 (h1).1 (J).1 (fun v3 g3 => (ps_nk_i g3 (ps_nk_i (xk_8_6 g1) (xs_98 (xk_8_6 g1) (xk_8_6 g3) (J).1 (fun v4 b4 => (And.intro (fun f2 => (ps_nk_i (h0).1 (ps_nk_i (h0).1 (ps_nk_i (xk_2_5 (h0).1) (zs_103 (zo_2_5 h0) h2 (xj_2_6 (J).1 (h0).1) J (fun s5 J5 => (ps_nk_i (h0).1 (ps_nk_i (xk_2_5 (h0).1) (xs_104 (xk_2_5 (h0).1) (J5).1 (fun v6 => (ps_nk_i (h0).1 (zs_38 h0 J5 (fun v7 g7 => (ps_nk_i (g7).1 (zs_96 g7 h2 J5 (fun s8 J8 => (ps_nk_i (h0).1 (zs_38 h0 J8 (fun v9 g9 => (ps_nk_i h2 (ps_nk_i (g9).1 (zs_96 g9 h2 J8 (fun s10 J10 => (ps_nk_i (h1).1 (ps_nk_i (xk_8_6 (h1).1) (zs_95 (zo_8_6 h1) (xk_8_6 g1) J10 (fun s11 J11 => (k 0 s11 J11)))))))))))))))))))))))))))) (fun f2 => (k 2 s J)))))))))))))))))))
end
section
set_option maxRecDepth 100000
theorem zs_47 {C : Nat → Prop} {m s : ps_S} {t : Int32} {d : Nat} {r0 : Nat} {r1 : Nat} {r2 : Nat} {r3 : Nat} {f : Int32 → ps_S → Prop} (h0 : zI C r0 2) (h1 : zI C r1 8) (h2 : ps_is r2 5 = true) (h3 : ps_is r3 5 = true) (J : zJ C m t s) (k : ∀ (v : Int32) (s' : ps_S), zJ C m t s' → f v s') : ps_Cl (d + 3) 47 [.ref r0, .ref r1, .ref r2, .ref r3] s (ps_rI f) :=
  pg_47_0 (d := d + 2) (ps_nk_i (h0).1 (ps_nk_i (h0).1 (ps_nk_i (xk_2_5 (h0).1) (zs_103 (zo_2_5 h0) h2 (xj_2_6 (J).1 (h0).1) J (fun s1 J1 => (ps_nk_i (h0).1 (ps_nk_i (xk_2_5 (h0).1) (xs_104 (xk_2_5 (h0).1) (J1).1 (fun v2 => (ps_nk_i h2 (xs_92 h2 (J1).1 (fun v3 => (And.intro (fun f1 => (k 2 s1 J1)) (fun f1 => (ps_nk_i h3 (And.intro (fun f2 => (k 2 s1 J1)) (fun f2 => (ps_nk_i h2 (xs_99 h2 h3 (J1).1 (fun v4 b4 => (And.intro (fun f3 => (ps_nk_i (h1).1 (ps_nk_i h2 (ps_nk_i (xk_8_6 (h1).1) (zs_96 (zo_8_6 h1) h2 J1 (fun s5 J5 => (k 0 s5 J5))))))) (fun f3 => (k 2 s1 J1)))))))))))))))))))))))

theorem zs_49_52 {C : Nat → Prop} {m s : ps_S} {t : Int32} {d : Nat} {r0 : Nat} {r1 : Nat} {r2 : Nat} {x3 : Int32} {Q : Option Value → ps_S → Prop} (h0 : ps_is r0 2 = true) (h1 : zI C r1 8) (h2 : ps_is r2 5 = true) (J : zJ C m t s) (k : ∀ (v : Int32) (s' : ps_S), zJ C m t s' → Q (some (.int v)) s') : ps_At (d + 3) 49 52 [(0, .ref r0), (1, .ref r1), (2, .ref r2), (3, .int x3)] [] s Q :=
  xs_up (P := fun x3 => ∀ (s : ps_S), ps_is r0 2 = true → zI C r1 8 → ps_is r2 5 = true → zJ C m t s → ps_At (d + 3) 49 52 [(0, .ref r0), (1, .ref r1), (2, .ref r2), (3, .int x3)] [] s Q) (fun x3 ih s h0 h1 h2 J => pg_49_52 (d := d + 2) (ps_nk_i h2 (And.intro (fun f1 => (k 0 s J)) (fun f1 => (ps_nk_i (h1).1 (ps_nk_i h2 (xs_92 h2 (J).1 (fun v1 => (ps_nk_i (h1).1 (And.intro (fun f2 => (ps_nk_i h2 (xs_92 h2 (J).1 (fun v2 => (ps_nk_i (xk_8_6 (h1).1) (zs_93 (zo_8_6 h1) J (fun s3 J3 => (ih ((x3 + 1)) (xs_lt f1) s3 h0 h1 h2 J3)))))))) (fun f2 => (ps_nk_i h0 (ps_nk_i (xk_2_5 h0) (xs_105 (xk_2_5 h0) (J).1 (fun v4 => (ps_nk_i (xk_8_6 (h1).1) (zs_93 (zo_8_6 h1) J (fun s5 J5 => (ih ((x3 + 1)) (xs_lt f1) s5 h0 h1 h2 J5))))))))))))))))))) x3 s h0 h1 h2 J

theorem zs_49 {C : Nat → Prop} {m s : ps_S} {t : Int32} {d : Nat} {r0 : Nat} {r1 : Nat} {r2 : Nat} {f : Int32 → ps_S → Prop} (h0 : zI C r0 2) (h1 : zI C r1 8) (h2 : ps_is r2 5 = true) (J : zJ C m t s) (k : ∀ (v : Int32) (s' : ps_S), zJ C m t s' → f v s') : ps_Cl (d + 3) 49 [.ref r0, .ref r1, .ref r2] s (ps_rI f) :=
  pg_49_0 (d := d + 2) (ps_nk_i (h0).1 (xs_37 (h0).1 (h1).1 (J).1 (fun v1 g1 => (ps_nk_i (h1).1 (ps_nk_i (h0).1 (ps_nk_i (h0).1 (xs_51 (h0).1 g1 (xk_2_3 (h0).1) (J).1 (fun v2 b2 => (And.intro (fun f1 => (ps_nk_i (h0).1 (ps_nk_i (h0).1 (ps_nk_i (xk_2_5 (h0).1) (zs_103 (zo_2_5 h0) h2 (xj_2_6 (J).1 (h0).1) J (fun s3 J3 => (ps_nk_i (h1).1 (ps_nk_i (xk_8_6 (h1).1) (zs_91 (zo_8_6 h1) J3 (fun s4 J4 => (ps_nk_i (h1).1 (ps_nk_i (xk_8_6 (h1).1) (zs_93 (zo_8_6 h1) J4 (fun s5 J5 => (zs_49_52 (d := d) (r0 := r0) (r1 := r1) (r2 := r2) (x3 := 0)  (h0).1 h1 h2 J5 k ))))))))))))))) (fun f1 => (k 3 s J)))))))))))

theorem zs_52_19 {C : Nat → Prop} {m s : ps_S} {t : Int32} {d : Nat} {r0 : Nat} {r1 : Nat} {r2 : Nat} {r3 : Nat} {x4 : Int32} {Q : Option Value → ps_S → Prop} (h0 : ps_is r0 2 = true) (h1 : zI C r1 5) (h2 : ps_is r2 5 = true) (h3 : ps_is r3 5 = true) (J : zJ C m t s) (k : ∀ (s' : ps_S), zJ C m t s' → Q none s') : ps_At (d + 2) 52 19 [(0, .ref r0), (1, .ref r1), (2, .ref r2), (3, .ref r3), (4, .int x4)] [] s Q :=
  xs_up (P := fun x4 => ∀ (s : ps_S), ps_is r0 2 = true → zI C r1 5 → ps_is r2 5 = true → ps_is r3 5 = true → zJ C m t s → ps_At (d + 2) 52 19 [(0, .ref r0), (1, .ref r1), (2, .ref r2), (3, .ref r3), (4, .int x4)] [] s Q) (fun x4 ih s h0 h1 h2 h3 J => pg_52_19 (d := d + 1) (ps_nk_i h2 (And.intro (fun f1 => (k s J)) (fun f1 => (ps_nk_i h2 (xs_92 h2 (J).1 (fun v1 => (ps_nk_i h0 (ps_nk_i (xk_2_5 h0) (xs_105 (xk_2_5 h0) (J).1 (fun v2 => (And.intro (fun f2 => (ps_nk_i h2 (xs_92 h2 (J).1 (fun v3 => (ps_nk_i (h1).1 (zs_93 h1 J (fun s4 J4 => (ih ((x4 + 1)) (xs_lt f1) s4 h0 h1 h2 h3 J4)))))))) (fun f2 => (ps_nk_i h3 (ps_nk_i (h1).1 (zs_94 h1 h3 J (fun s5 J5 => (ih ((x4 + 1)) (xs_lt f1) s5 h0 h1 h2 h3 J5)))))))))))))))))) x4 s h0 h1 h2 h3 J

theorem zs_52 {C : Nat → Prop} {m s : ps_S} {t : Int32} {d : Nat} {r0 : Nat} {r1 : Nat} {r2 : Nat} {r3 : Nat} {f : ps_S → Prop} (h0 : zI C r0 2) (h1 : zI C r1 5) (h2 : ps_is r2 5 = true) (h3 : ps_is r3 5 = true) (J : zJ C m t s) (k : ∀ (s' : ps_S), zJ C m t s' → f s') : ps_Cl (d + 2) 52 [.ref r0, .ref r1, .ref r2, .ref r3] s (ps_rV f) :=
  pg_52_0 (d := d + 1) (ps_nk_i (h0).1 (ps_nk_i (h0).1 (ps_nk_i (xk_2_5 (h0).1) (zs_103 (zo_2_5 h0) h2 (xj_2_6 (J).1 (h0).1) J (fun s1 J1 => (ps_nk_i (h1).1 (zs_91 h1 J1 (fun s2 J2 => (zs_52_19 (d := d) (r0 := r0) (r1 := r1) (r2 := r2) (r3 := r3) (x4 := 1)  (h0).1 h1 h2 h3 J2 k )))))))))

theorem zs_50 {C : Nat → Prop} {m s : ps_S} {t : Int32} {d : Nat} {r0 : Nat} {r1 : Nat} {r2 : Nat} {f : Int32 → ps_S → Prop} (h0 : zI C r0 2) (h1 : zI C r1 8) (h2 : ps_is r2 5 = true) (J : zJ C m t s) (k : ∀ (v : Int32) (s' : ps_S), zJ C m t s' → f v s') : ps_Cl (d + 3) 50 [.ref r0, .ref r1, .ref r2] s (ps_rI f) :=
  pg_50_0 (d := d + 2) (ps_nk_i h2 (xs_92 h2 (J).1 (fun v1 => (And.intro (fun f1 => (ps_nk_i (h1).1 (ps_nk_i (h1).1 (ps_nk_i (h0).1 (zs_52 h0 (zo_8_6 h1) h2 (xk_8_4 (h1).1) J (fun s2 J2 => (k 0 s2 J2))))))) (fun f1 => (k 2 s J))))))

theorem zs_53 {C : Nat → Prop} {m s : ps_S} {t : Int32} {d : Nat} {r0 : Nat} {r1 : Nat} {r2 : Nat} {f : Int32 → ps_S → Prop} (h0 : zI C r0 2) (h1 : zI C r1 8) (h2 : ps_is r2 5 = true) (J : zJ C m t s) (k : ∀ (v : Int32) (s' : ps_S), zJ C m t s' → f v s') : ps_Cl (d + 3) 53 [.ref r0, .ref r1, .ref r2] s (ps_rI f) :=
  pg_53_0 (d := d + 2) (ps_nk_i (h1).1 (ps_nk_i (xk_8_5 (h1).1) (xs_92 (xk_8_5 (h1).1) (J).1 (fun v1 => (And.intro (fun f1 => (ps_nk_i (h0).1 (ps_nk_i (h1).1 (ps_nk_i (h1).1 (ps_nk_i (h0).1 (zs_52 h0 (zo_2_4 h0) (xk_8_5 (h1).1) (xk_8_4 (h1).1) J (fun s2 J2 => (ps_nk_i (h0).1 (ps_nk_i (xk_2_4 (h0).1) (xs_98 (xk_2_4 (h0).1) h2 (J2).1 (fun v3 b3 => (And.intro (fun f2 => (ps_nk_i (h1).1 (ps_nk_i (h1).1 (ps_nk_i (xk_8_6 (h1).1) (zs_95 (zo_8_6 h1) (xk_8_5 (h1).1) J2 (fun s4 J4 => (k 0 s4 J4))))))) (fun f2 => (k 4 s2 J2)))))))))))))) (fun f1 => (k 4 s J)))))))

theorem zs_54_68 {C : Nat → Prop} {m s : ps_S} {t : Int32} {d : Nat} {r0 : Nat} {r1 : Nat} {r3 : Nat} {Q : Option Value → ps_S → Prop} (h0 : ps_is r0 2 = true) (h1 : zI C r1 8) (h3 : ps_is r3 8 = true) (J : zJ C m t s) (k : ∀ (v : Int32) (s' : ps_S), zJ C m t s' → Q (some (.int v)) s') : ps_At (d + 3) 54 68 [(0, .ref r0), (1, .ref r1), (3, .ref r3)] [] s Q :=
  pg_54_68 (d := d + 2) (And.intro (fun f1 => (k 3 s J)) (fun f1 => (ps_nk_i (h1).1 (ps_nk_i h0 (xs_38 h0 (J).1 (fun v1 g1 => (ps_nk_i h0 (xs_51 h0 h3 g1 (J).1 (fun v2 b2 => (And.intro (fun f2 => (ps_nk_i (h1).1 (ps_nk_i h3 (ps_nk_i (xk_8_6 (h1).1) (zs_95 (zo_8_6 h1) (xk_8_6 h3) J (fun s3 J3 => (k 0 s3 J3))))))) (fun f2 => (k 3 s J))))))))))))

theorem zs_54 {C : Nat → Prop} {m s : ps_S} {t : Int32} {d : Nat} {r0 : Nat} {r1 : Nat} {r2 : Nat} {r3 : Nat} {f : Int32 → ps_S → Prop} (h0 : zI C r0 2) (h1 : zI C r1 8) (h2 : ps_is r2 5 = true) (h3 : ps_is r3 8 = true) (J : zJ C m t s) (k : ∀ (v : Int32) (s' : ps_S), zJ C m t s' → f v s') : ps_Cl (d + 3) 54 [.ref r0, .ref r1, .ref r2, .ref r3] s (ps_rI f) :=
  pg_54_0 (d := d + 2) (ps_nk_i h2 (xs_92 h2 (J).1 (fun v1 => (And.intro (fun f1 => (ps_nk_i (h1).1 (ps_nk_i (xk_8_4 (h1).1) (zs_91 (zo_8_4 h1) J (fun s2 J2 => (ps_nk_i (h1).1 (ps_nk_i (h1).1 (ps_nk_i (xk_8_4 (h1).1) (zs_93 (zo_8_4 h1) J2 (fun s3 J3 => (ps_nk_i (h0).1 (zs_38 h0 J3 (fun v4 g4 => (ps_nk_i (h1).1 (ps_nk_i (h0).1 (zs_52 h0 g4 h2 (xk_8_4 (h1).1) J3 (fun s5 J5 => (ps_nk_i (h1).1 (ps_nk_i h2 (xs_100 h2 (J5).1 (fun v6 b6 => (And.intro (fun f2 => (zs_54_68 (d := d) (r0 := r0) (r1 := r1) (r3 := r3)  (h0).1 h1 h3 J5 k )) (fun f2 => (ps_nk_i h3 (ps_nk_i (h1).1 (ps_nk_i (xk_8_6 h3) (xs_100 (xk_8_6 h3) (J5).1 (fun v7 b7 => (And.intro (fun f3 => (And.intro (fun f4 => (k 3 s5 J5)) (fun f4 => (ps_nk_i (h1).1 (ps_nk_i (h0).1 (xs_38 (h0).1 (J5).1 (fun v8 g8 => (ps_nk_i (h0).1 (xs_51 (h0).1 h3 g8 (J5).1 (fun v9 b9 => (And.intro (fun f5 => (ps_nk_i (h1).1 (ps_nk_i h3 (ps_nk_i (xk_8_6 (h1).1) (zs_95 (zo_8_6 h1) (xk_8_6 h3) J5 (fun s10 J10 => (k 0 s10 J10))))))) (fun f5 => (k 3 s5 J5))))))))))))) (fun f3 => (zs_54_68 (d := d) (r0 := r0) (r1 := r1) (r3 := r3)  (h0).1 h1 h3 J5 k ))))))))))))))))))))))))))))))) (fun f1 => (k 2 s J))))))

theorem zs_56_117 {C : Nat → Prop} {m s : ps_S} {t : Int32} {d : Nat} {r1 : Nat} {r2 : Nat} {r3 : Nat} {x4 : Int32} {x5 : Int32} {x6 : Int32} {x7 : Int32} {x8 : Int32} {x9 : Int32} {Q : Option Value → ps_S → Prop} (h1 : ps_is r1 5 = true) (h2 : ps_is r2 5 = true) (h3 : ps_is r3 5 = true) (J : zJ C m t s) (k : ∀ (v : Int32) (s' : ps_S), v &&& 1 = v → zJ C m t s' → Q (some (.int v)) s') (K46 : ∀ (x7 : Int32) (x8 : Int32) (s : ps_S), ps_is r1 5 = true → ps_is r2 5 = true → ps_is r3 5 = true → zJ C m t s → ps_At (d + 2) 56 46 [(1, .ref r1), (2, .ref r2), (3, .ref r3), (4, .int x4), (5, .int x5), (6, .int x6), (7, .int x7), (8, .int x8), (9, .int (x9 + 1))] [] s Q) : ps_At (d + 2) 56 117 [(1, .ref r1), (2, .ref r2), (3, .ref r3), (4, .int x4), (5, .int x5), (6, .int x6), (7, .int x7), (8, .int x8), (9, .int x9)] [] s Q :=
  pg_56_117 (d := d + 1) (ps_nk_i h1 (xs_92 h1 (J).1 (fun v1 => (ps_nk_i h3 (xs_92 h3 (J).1 (fun v2 => (And.intro (fun f1 => (k 0 s (by decide) J)) (fun f1 => (K46 ((x7 + 1)) ((x8 + 1)) s h1 h2 h3 J)))))))))

theorem zs_56_149 {C : Nat → Prop} {m s : ps_S} {t : Int32} {d : Nat} {r1 : Nat} {r3 : Nat} {x7 : Int32} {x8 : Int32} {Q : Option Value → ps_S → Prop} (h1 : ps_is r1 5 = true) (h3 : ps_is r3 5 = true) (J : zJ C m t s) (k : ∀ (v : Int32) (s' : ps_S), v &&& 1 = v → zJ C m t s' → Q (some (.int v)) s') : ps_At (d + 2) 56 149 [(1, .ref r1), (3, .ref r3), (7, .int x7), (8, .int x8)] [] s Q :=
  pg_56_149 (d := d + 1) (ps_nk_i h1 (And.intro (fun f1 => (k 0 s (by decide) J)) (fun f1 => (ps_nk_i h3 (And.intro (fun f2 => (k 0 s (by decide) J)) (fun f2 => (k 1 s (by decide) J)))))))

theorem zs_56_46 {C : Nat → Prop} {m s : ps_S} {t : Int32} {d : Nat} {r1 : Nat} {r2 : Nat} {r3 : Nat} {x4 : Int32} {x5 : Int32} {x6 : Int32} {x7 : Int32} {x8 : Int32} {x9 : Int32} {Q : Option Value → ps_S → Prop} (h1 : ps_is r1 5 = true) (h2 : ps_is r2 5 = true) (h3 : ps_is r3 5 = true) (J : zJ C m t s) (k : ∀ (v : Int32) (s' : ps_S), v &&& 1 = v → zJ C m t s' → Q (some (.int v)) s') : ps_At (d + 2) 56 46 [(1, .ref r1), (2, .ref r2), (3, .ref r3), (4, .int x4), (5, .int x5), (6, .int x6), (7, .int x7), (8, .int x8), (9, .int x9)] [] s Q :=
  xs_up (P := fun x9 => ∀ (x7 : Int32) (x8 : Int32) (s : ps_S), ps_is r1 5 = true → ps_is r2 5 = true → ps_is r3 5 = true → zJ C m t s → ps_At (d + 2) 56 46 [(1, .ref r1), (2, .ref r2), (3, .ref r3), (4, .int x4), (5, .int x5), (6, .int x6), (7, .int x7), (8, .int x8), (9, .int x9)] [] s Q) (fun x9 ih x7 x8 s h1 h2 h3 J => pg_56_46 (d := d + 1) (And.intro (fun f1 => (zs_56_149 (d := d) (r1 := r1) (r3 := r3) (x7 := x7) (x8 := x8)  h1 h3 J k )) (fun f1 => (ps_nk_i h1 (And.intro (fun f2 => (zs_56_149 (d := d) (r1 := r1) (r3 := r3) (x7 := x7) (x8 := x8)  h1 h3 J k )) (fun f2 => (ps_nk_i h3 (And.intro (fun f3 => (zs_56_149 (d := d) (r1 := r1) (r3 := r3) (x7 := x7) (x8 := x8)  h1 h3 J k )) (fun f3 => (ps_nk_i h2 (xs_99 h2 h3 (J).1 (fun v1 b1 => (And.intro (fun f4 => (zs_56_117 (d := d) (r1 := r1) (r2 := r2) (r3 := r3) (x4 := x4) (x5 := x5) (x6 := x6) (x7 := x7) (x8 := x8) (x9 := x9)  h1 h2 h3 J k (fun x7 x8 s9 h1z h2z h3z J9 => ih (x9 + 1) (xs_lt f1) x7 x8 s9 h1z h2z h3z J9))) (fun f4 => (ps_nk_i h2 (ps_nk_i h2 (xs_99 h2 h1 (J).1 (fun v2 b2 => (And.intro (fun f5 => (zs_56_117 (d := d) (r1 := r1) (r2 := r2) (r3 := r3) (x4 := x4) (x5 := x5) (x6 := x6) (x7 := x7) (x8 := x8) (x9 := x9)  h1 h2 h3 J k (fun x7 x8 s9 h1z h2z h3z J9 => ih (x9 + 1) (xs_lt f1) x7 x8 s9 h1z h2z h3z J9))) (fun f5 => (ih ((x9 + 1)) (xs_lt f1) ((x7 + x6)) ((x8 + x5)) s h1 h2 h3 J))))))))))))))))))))) x9 x7 x8 s h1 h2 h3 J

theorem zs_56 {C : Nat → Prop} {m s : ps_S} {t : Int32} {d : Nat} {r0 : Nat} {r1 : Nat} {r2 : Nat} {r3 : Nat} {f : Int32 → ps_S → Prop} (h0 : zI C r0 2) (h1 : ps_is r1 5 = true) (h2 : ps_is r2 5 = true) (h3 : ps_is r3 5 = true) (J : zJ C m t s) (k : ∀ (v : Int32) (s' : ps_S), v &&& 1 = v → zJ C m t s' → f v s') : ps_Cl (d + 2) 56 [.ref r0, .ref r1, .ref r2, .ref r3] s (ps_rI f) :=
  pg_56_0 (d := d + 1) (ps_nk_i (h0).1 (ps_nk_i (h0).1 (ps_nk_i (xk_2_5 (h0).1) (zs_103 (zo_2_5 h0) h2 (xj_2_6 (J).1 (h0).1) J (fun s1 J1 => (ps_nk_i (h0).1 (ps_nk_i (xk_2_5 (h0).1) (xs_104 (xk_2_5 (h0).1) (J1).1 (fun v2 => (ps_nk_i h2 (zs_56_46 (d := d) (r1 := r1) (r2 := r2) (r3 := r3) (x4 := v2) (x5 := (v2 - 1)) (x6 := ((ps_i s1 r2 1) - v2)) (x7 := 0) (x8 := 0) (x9 := 0)  h1 h2 h3 J1 k )))))))))))

theorem zs_55 {C : Nat → Prop} {m s : ps_S} {t : Int32} {d : Nat} {r0 : Nat} {r1 : Nat} {r2 : Nat} {r3 : Nat} {f : Int32 → ps_S → Prop} (h0 : zI C r0 2) (h1 : zI C r1 8) (h2 : ps_is r2 5 = true) (h3 : ps_is r3 5 = true) (J : zJ C m t s) (k : ∀ (v : Int32) (s' : ps_S), zJ C m t s' → f v s') : ps_Cl (d + 3) 55 [.ref r0, .ref r1, .ref r2, .ref r3] s (ps_rI f) :=
  pg_55_0 (d := d + 2) (ps_nk_i h2 (xs_92 h2 (J).1 (fun v1 => (And.intro (fun f1 => (ps_nk_i (h1).1 (ps_nk_i (h0).1 (zs_56 h0 (xk_8_5 (h1).1) h2 h3 J (fun v2 s2 b2 J2 => (And.intro (fun f2 => (ps_nk_i (h1).1 (ps_nk_i (h1).1 (ps_nk_i (xk_8_6 (h1).1) (zs_95 (zo_8_6 h1) (xk_8_5 (h1).1) J2 (fun s3 J3 => (k 0 s3 J3))))))) (fun f2 => (k 4 s2 J2)))))))) (fun f1 => (k 2 s J))))))

theorem zs_48 {C : Nat → Prop} {m s : ps_S} {t : Int32} {d : Nat} {r0 : Nat} {r1 : Nat} {r2 : Nat} {f : Int32 → ps_S → Prop} (h0 : zI C r0 2) (h1 : zI C r1 8) (h2 : ps_is r2 5 = true) (J : zJ C m t s) (k : ∀ (v : Int32) (s' : ps_S), zJ C m t s' → f v s') : ps_Cl (d + 3) 48 [.ref r0, .ref r1, .ref r2] s (ps_rI f) :=
  pg_48_0 (d := d + 2) (ps_nk_i h2 (xs_92 h2 (J).1 (fun v1 => (And.intro (fun f1 => (ps_nk_i (h1).1 (ps_nk_i (h1).1 (ps_nk_i (xk_8_6 (h1).1) (zs_95 (zo_8_6 h1) (xk_8_5 (h1).1) J (fun s2 J2 => (ps_nk_i (h1).1 (And.intro (fun f2 => (k 0 s2 J2)) (fun f2 => (ps_nk_i (h0).1 (zs_38 h0 J2 (fun v3 g3 => (ps_nk_i (g3).1 (zs_91 g3 J2 (fun s4 J4 => (ps_nk_i (h0).1 (zs_38 h0 J4 (fun v5 g5 => (ps_nk_i (g5).1 (zs_93 g5 J4 (fun s6 J6 => (ps_nk_i (h0).1 (zs_38 h0 J6 (fun v7 g7 => (ps_nk_i (h1).1 (ps_nk_i (h1).1 (ps_nk_i (xk_8_5 (h1).1) (ps_nk_i (g7).1 (zs_94 g7 (xk_8_5 (h1).1) J6 (fun s8 J8 => (ps_nk_i (h0).1 (zs_38 h0 J8 (fun v9 g9 => (ps_nk_i (g9).1 (zs_93 g9 J8 (fun s10 J10 => (k 0 s10 J10))))))))))))))))))))))))))))))))))))) (fun f1 => (k 2 s J))))))

theorem zs_42 {C : Nat → Prop} {m s : ps_S} {t : Int32} {d : Nat} {r0 : Nat} {r1 : Nat} {x2 : Int32} {r3 : Nat} {f : Int32 → ps_S → Prop} (h0 : zI C r0 2) (h1 : zI C r1 8) (h3 : ps_is r3 7 = true) (J : zJ C m t s) (k : ∀ (v : Int32) (s' : ps_S), zJ C m t s' → f v s') : ps_Cl (d + 4) 42 [.ref r0, .ref r1, .int x2, .ref r3] s (ps_rI f) :=
  pg_42_0 (d := d + 3) (ps_nk_i (h0).1 (xs_37 (h0).1 (h1).1 (J).1 (fun v1 g1 => (ps_nk_i g1 (ps_nk_i (h1).1 (And.intro (fun f1 => (ps_nk_i (h0).1 (zs_43 (h0).1 h1 h3 J (fun v2 s2 J2 => (k v2 s2 J2))))) (fun f1 => (And.intro (fun f2 => (ps_nk_i (h0).1 (zs_48 h0 h1 (xk_8_6 g1) J (fun v3 s3 J3 => (k v3 s3 J3))))) (fun f2 => (And.intro (fun f3 => (ps_nk_i (h0).1 (zs_48 h0 h1 (xk_8_6 g1) J (fun v4 s4 J4 => (k v4 s4 J4))))) (fun f3 => (And.intro (fun f4 => (ps_nk_i (h0).1 (zs_48 h0 h1 (xk_8_6 g1) J (fun v5 s5 J5 => (k v5 s5 J5))))) (fun f4 => (And.intro (fun f5 => (ps_nk_i (h0).1 (zs_43 (h0).1 h1 h3 J (fun v6 s6 J6 => (k v6 s6 J6))))) (fun f5 => (And.intro (fun f6 => (ps_nk_i (h0).1 (zs_43 (h0).1 h1 h3 J (fun v7 s7 J7 => (k v7 s7 J7))))) (fun f6 => (And.intro (fun f7 => (ps_nk_i (h0).1 (zs_43 (h0).1 h1 h3 J (fun v8 s8 J8 => (k v8 s8 J8))))) (fun f7 => (And.intro (fun f8 => (ps_nk_i (h0).1 (zs_44 h0 h1 (xk_8_6 g1) J (fun v9 s9 J9 => (k v9 s9 J9))))) (fun f8 => (And.intro (fun f9 => (ps_nk_i (h0).1 (zs_45 h0 h1 (xk_8_6 g1) J (fun v10 s10 J10 => (k v10 s10 J10))))) (fun f9 => (And.intro (fun f10 => (ps_nk_i (h0).1 (zs_45 h0 h1 (xk_8_6 g1) J (fun v11 s11 J11 => (k v11 s11 J11))))) (fun f10 => (And.intro (fun f11 => (ps_nk_i (h0).1 (zs_44 h0 h1 (xk_8_6 g1) J (fun v12 s12 J12 => (k v12 s12 J12))))) (fun f11 => (And.intro (fun f12 => (ps_nk_i (h0).1 (zs_44 h0 h1 (xk_8_6 g1) J (fun v13 s13 J13 => (k v13 s13 J13))))) (fun f12 => (And.intro (fun f13 => (ps_nk_i (h0).1 (zs_46 h0 h1 (xk_8_6 g1) J (fun v14 s14 J14 => (k v14 s14 J14))))) (fun f13 => (And.intro (fun f14 => (ps_nk_i (h0).1 (xs_37 (h0).1 (h1).1 (J).1 (fun v15 g15 => (ps_nk_i g15 (ps_nk_i (h0).1 (zs_47 h0 h1 (xk_8_6 g1) (xk_8_6 g15) J (fun v16 s16 J16 => (k v16 s16 J16))))))))) (fun f14 => (And.intro (fun f15 => (ps_nk_i (h0).1 (zs_44 h0 h1 (xk_8_6 g1) J (fun v17 s17 J17 => (k v17 s17 J17))))) (fun f15 => (And.intro (fun f16 => (ps_nk_i (h0).1 (zs_49 h0 h1 (xk_8_6 g1) J (fun v18 s18 J18 => (k v18 s18 J18))))) (fun f16 => (And.intro (fun f17 => (ps_nk_i (h0).1 (zs_50 h0 h1 (xk_8_6 g1) J (fun v19 s19 J19 => (k v19 s19 J19))))) (fun f17 => (And.intro (fun f18 => (ps_nk_i (h0).1 (zs_53 h0 h1 (xk_8_6 g1) J (fun v20 s20 J20 => (k v20 s20 J20))))) (fun f18 => (And.intro (fun f19 => (ps_nk_i (h0).1 (xs_37 (h0).1 (h1).1 (J).1 (fun v21 g21 => (ps_nk_i (h0).1 (zs_54 h0 h1 (xk_8_6 g1) g21 J (fun v22 s22 J22 => (k v22 s22 J22)))))))) (fun f19 => (And.intro (fun f20 => (ps_nk_i (h0).1 (xs_37 (h0).1 (h1).1 (J).1 (fun v23 g23 => (ps_nk_i g23 (ps_nk_i (h0).1 (zs_55 h0 h1 (xk_8_6 g1) (xk_8_6 g23) J (fun v24 s24 J24 => (k v24 s24 J24))))))))) (fun f20 => (ps_nk_i (h0).1 (zs_48 h0 h1 (xk_8_6 g1) J (fun v25 s25 J25 => (k v25 s25 J25)))))))))))))))))))))))))))))))))))))))))))))))))

theorem zs_124 {C : Nat → Prop} {m s : ps_S} {t : Int32} {d : Nat} {r0 : Nat} {r1 : Nat} {f : ps_S → Prop} (h0 : zI C r0 8) (h1 : ps_is r1 8 = true) (J : zJ C m t s) (k : ∀ (s' : ps_S), zJ C m t s' → f s') : ps_Cl d 124 [.ref r0, .ref r1] s (ps_rV f) :=
  pg_124_0 (ps_nk_i (h0).1 (ps_nk_i h1 (ps_nk_i (h0).1 (ps_nk_i (h0).1 (ps_nk_i h1 (ps_nk_i (h0).1 (ps_nk_i (h0).1 (ps_nk_i h1 (ps_nk_i (h0).1 (k (ps_uj (ps_ui (ps_ui s r0 10 ((ps_i s r0 10) ||| (ps_i s r1 10))) r0 11 ((ps_i (ps_ui s r0 10 ((ps_i s r0 10) ||| (ps_i s r1 10))) r0 11) ||| (ps_i (ps_ui s r0 10 ((ps_i s r0 10) ||| (ps_i s r1 10))) r1 11))) r0 12 ((ps_j (ps_ui (ps_ui s r0 10 ((ps_i s r0 10) ||| (ps_i s r1 10))) r0 11 ((ps_i (ps_ui s r0 10 ((ps_i s r0 10) ||| (ps_i s r1 10))) r0 11) ||| (ps_i (ps_ui s r0 10 ((ps_i s r0 10) ||| (ps_i s r1 10))) r1 11))) r0 12) ||| (ps_j (ps_ui (ps_ui s r0 10 ((ps_i s r0 10) ||| (ps_i s r1 10))) r0 11 ((ps_i (ps_ui s r0 10 ((ps_i s r0 10) ||| (ps_i s r1 10))) r0 11) ||| (ps_i (ps_ui s r0 10 ((ps_i s r0 10) ||| (ps_i s r1 10))) r1 11))) r1 12))) (zw_j (c := 8) (by decide) h0 (zw_i (c := 8) (by decide) h0 (zw_i (c := 8) (by decide) h0 J)))))))))))))

theorem zs_39_3 {C : Nat → Prop} {m s : ps_S} {t : Int32} {d : Nat} {r0 : Nat} {r1 : Nat} {r2 : Nat} {r3 : Nat} {x4 : Int32} {Q : Option Value → ps_S → Prop} (h0 : ps_is r0 2 = true) (h1 : zI C r1 8) (h2 : ps_is r2 8 = true) (h3 : ps_is r3 5 = true) (J : zJ C m t s) (k : ∀ (s' : ps_S), zJ C m t s' → Q none s') : ps_At (d + 3) 39 3 [(0, .ref r0), (1, .ref r1), (2, .ref r2), (3, .ref r3), (4, .int x4)] [] s Q :=
  xs_up (P := fun x4 => ∀ (s : ps_S), ps_is r0 2 = true → zI C r1 8 → ps_is r2 8 = true → ps_is r3 5 = true → zJ C m t s → ps_At (d + 3) 39 3 [(0, .ref r0), (1, .ref r1), (2, .ref r2), (3, .ref r3), (4, .int x4)] [] s Q) (fun x4 ih s h0 h1 h2 h3 J => pg_39_3 (d := d + 2) (ps_nk_i h2 (And.intro (fun f1 => (k s J)) (fun f1 => (ps_nk_i h2 (xs_122 h2 (J).1 (fun v1 => (ps_nk_i h0 (xs_33 h0 (J).1 (fun v2 g2 => (ps_nk_i g2 (ps_nk_i (xk_8_6 g2) (xs_98 (xk_8_6 g2) h3 (J).1 (fun v3 b3 => (And.intro (fun f2 => (ih ((x4 + 1)) (xs_lt f1) s h0 h1 h2 h3 J)) (fun f2 => (ps_nk_i h0 (xs_40 h0 (h1).1 (xk_8_6 g2) (J).1 (fun v4 b4 => (And.intro (fun f3 => (ih ((x4 + 1)) (xs_lt f1) s h0 h1 h2 h3 J)) (fun f3 => (ps_nk_i (h1).1 (zs_123 h1 J (fun s5 J5 => (ih ((x4 + 1)) (xs_lt f1) s5 h0 h1 h2 h3 J5))))))))))))))))))))))))) x4 s h0 h1 h2 h3 J

theorem zs_39 {C : Nat → Prop} {m s : ps_S} {t : Int32} {d : Nat} {r0 : Nat} {r1 : Nat} {r2 : Nat} {r3 : Nat} {f : ps_S → Prop} (h0 : ps_is r0 2 = true) (h1 : zI C r1 8) (h2 : ps_is r2 8 = true) (h3 : ps_is r3 5 = true) (J : zJ C m t s) (k : ∀ (s' : ps_S), zJ C m t s' → f s') : ps_Cl (d + 3) 39 [.ref r0, .ref r1, .ref r2, .ref r3] s (ps_rV f) :=
  pg_39_0 (d := d + 2) (zs_39_3 (d := d) (r0 := r0) (r1 := r1) (r2 := r2) (r3 := r3) (x4 := 0)  h0 h1 h2 h3 J k )

theorem zs_41 {C : Nat → Prop} {m s : ps_S} {t : Int32} {d : Nat} {r0 : Nat} {r1 : Nat} {f : Int32 → ps_S → Prop} (h0 : zI C r0 2) (h1 : ps_is r1 8 = true) (J : zJ C m t s) (k : ∀ (v : Int32) (s' : ps_S), v &&& 1 = v → zJ C m t s' → f v s') : ps_Cl (d + 2) 41 [.ref r0, .ref r1] s (ps_rI f) :=
  pg_41_0 (d := d + 1) (ps_nk_i h1 (ps_nk_i (xk_8_6 h1) (And.intro (fun f1 => (k 1 s (by decide) J)) (fun f1 => (ps_nk_i h1 (And.intro (fun f2 => (ps_nk_i (h0).1 (ps_nk_i h1 (ps_nk_i (h0).1 (ps_nk_i (xk_2_5 (h0).1) (zs_103 (zo_2_5 h0) (xk_8_6 h1) (xj_2_6 (J).1 (h0).1) J (fun s1 J1 => (ps_nk_i (h0).1 (ps_nk_i (xk_2_5 (h0).1) (xs_106 (xk_2_5 (h0).1) (J1).1 (fun v2 b2 => (ps_nd_i (decide_eq_true b2) ((k v2 s1 (of_decide_eq_true (decide_eq_true b2)) J1)))))))))))))) (fun f2 => (k 1 s (by decide) J))))))))

theorem zs_35_73 {C : Nat → Prop} {m s : ps_S} {t : Int32} {d : Nat} {r0 : Nat} {r3 : Nat} {x5 : Int32} {Q : Option Value → ps_S → Prop} (h0 : zI C r0 2) (h3 : zI C r3 8) (J : zJ C m t s) (k : ∀ (v : Int32) (s' : ps_S), zJ C m t s' → Q (some (.int v)) s') : ps_At (d + 5) 35 73 [(0, .ref r0), (3, .ref r3), (5, .int x5)] [] s Q :=
  xs_up (P := fun x5 => ∀ (s : ps_S), zI C r0 2 → zI C r3 8 → zJ C m t s → ps_At (d + 5) 35 73 [(0, .ref r0), (3, .ref r3), (5, .int x5)] [] s Q) (fun x5 ih s h0 h3 J => pg_35_73 (d := d + 4) (ps_nk_i (h3).1 (xs_116  (J).1 (fun v1 => (And.intro (fun f1 => (ps_nk_i (h0).1 (zs_41 h0 (h3).1 J (fun v2 s2 b2 J2 => (And.intro (fun f2 => (k 0 s2 J2)) (fun f2 => (k 5 s2 J2))))))) (fun f1 => (ps_nk_i (h0).1 (xs_37 (h0).1 (h3).1 (J).1 (fun v3 g3 => (ps_nk_i (h3).1 (zs_124 h3 g3 J (fun s4 J4 => (ps_nk_i (h0).1 (xs_37 (h0).1 (h3).1 (J4).1 (fun v5 g5 => (ps_nk_i (h0).1 (xs_38 (h0).1 (J4).1 (fun v6 g6 => (ps_nk_i (h0).1 (zs_39 (h0).1 h3 g5 g6 J4 (fun s7 J7 => (ih ((x5 + 1)) (xs_lt f1) s7 h0 h3 J7)))))))))))))))))))))) x5 s h0 h3 J

theorem zs_35_21 {C : Nat → Prop} {m s : ps_S} {t : Int32} {d : Nat} {r0 : Nat} {x1 : Int32} {r2 : Nat} {r3 : Nat} {x4 : Int32} {Q : Option Value → ps_S → Prop} (h0 : zI C r0 2) (h2 : ps_is r2 7 = true) (h3 : zI C r3 8) (J : zJ C m t s) (k : ∀ (v : Int32) (s' : ps_S), zJ C m t s' → Q (some (.int v)) s') : ps_At (d + 5) 35 21 [(0, .ref r0), (1, .int x1), (2, .ref r2), (3, .ref r3), (4, .int x4)] [] s Q :=
  xs_up (P := fun x4 => ∀ (s : ps_S), zI C r0 2 → ps_is r2 7 = true → zI C r3 8 → zJ C m t s → ps_At (d + 5) 35 21 [(0, .ref r0), (1, .int x1), (2, .ref r2), (3, .ref r3), (4, .int x4)] [] s Q) (fun x4 ih s h0 h2 h3 J => pg_35_21 (d := d + 4) (ps_nk_i (h0).1 (ps_nk_i (xn_l ((xk_2_2 (h0).1)).1) (And.intro (fun f1 => (ps_nk_i (h0).1 (zs_42 h0 h3 h2 J (fun v1 s1 J1 => (And.intro (fun f2 => (ps_nk_i (h3).1 (zs_35_73 (d := d) (r0 := r0) (r3 := r3) (x5 := 0)  h0 h3 (zw_j (c := 8) (by decide) h3 J1) k ))) (fun f2 => (k v1 s1 J1))))))) (fun f1 => (ps_nk_i (h0).1 (zs_38 h0 J (fun v2 g2 => (ps_nk_i (g2).1 (zs_91 g2 J (fun s3 J3 => (ih ((x4 + 1)) (xs_lt f1) s3 h0 h2 h3 J3)))))))))))) x4 s h0 h2 h3 J

theorem zs_35 {C : Nat → Prop} {m s : ps_S} {t : Int32} {d : Nat} {r0 : Nat} {x1 : Int32} {r2 : Nat} {f : Int32 → ps_S → Prop} (h0 : zI C r0 2) (h2 : ps_is r2 7 = true) (J : zJ C m t s) (k : ∀ (v : Int32) (s' : ps_S), zJ C m t s' → f v s') : ps_Cl (d + 5) 35 [.ref r0, .int x1, .ref r2] s (ps_rI f) :=
  pg_35_0 (d := d + 4) (ps_nk_i (h0).1 (zs_33 h0 J (fun v1 g1 => (ps_nk_i (h0).1 (xs_36 (h0).1 (g1).1 h2 (J).1 (fun v2 b2 => (And.intro (fun f1 => (zs_35_21 (d := d) (r0 := r0) (x1 := x1) (r2 := r2) (r3 := v1) (x4 := 0)  h0 h2 g1 J k )) (fun f1 => (k 1 s J)))))))))
end
section
set_option maxRecDepth 100000
theorem zs_34_7 {C : Nat → Prop} {m s : ps_S} {t : Int32} {d : Nat} {r0 : Nat} {r2 : Nat} {x3 : Int32} {Q : Option Value → ps_S → Prop} (h0 : zI C r0 2) (h2 : ps_is r2 7 = true) (J : zJ C m t s) (k : ∀ (s' : ps_S), zJ C m t s' → Q none s') : ps_At (d + 6) 34 7 [(0, .ref r0), (2, .ref r2), (3, .int x3)] [] s Q :=
  xs_up (P := fun x3 => ∀ (s : ps_S), zI C r0 2 → ps_is r2 7 = true → zJ C m t s → ps_At (d + 6) 34 7 [(0, .ref r0), (2, .ref r2), (3, .int x3)] [] s Q) (fun x3 ih s h0 h2 J => pg_34_7 (d := d + 5) (ps_nk_i (h0).1 (And.intro (fun f1 => (k s J)) (fun f1 => (ps_nk_i (h0).1 (zs_35 h0 h2 J (fun v1 s1 J1 => (ps_nk_i (h0).1 (ps_nk_i (h0).1 (And.intro (fun f2 => (ps_nk_i (h0).1 (ih ((x3 + 1)) (xs_lt f1) (ps_ui (ps_ui s1 r0 9 v1) r0 8 (x3 + 1)) h0 h2 (zw_i (c := 2) (by decide) h0 (zw_i (c := 2) (by decide) h0 J1))))) (fun f2 => (k (ps_ui s1 r0 9 v1) (zw_i (c := 2) (by decide) h0 J1))))))))))))) x3 s h0 h2 J

theorem zs_34 {C : Nat → Prop} {m s : ps_S} {t : Int32} {d : Nat} {r0 : Nat} {r1 : Nat} {r2 : Nat} {f : ps_S → Prop} (h0 : zI C r0 2) (h1 : ps_is r1 9 = true) (h2 : ps_is r2 7 = true) (J : zJ C m t s) (k : ∀ (s' : ps_S), zJ C m t s' → f s') : ps_Cl (d + 6) 34 [.ref r0, .ref r1, .ref r2] s (ps_rV f) :=
  pg_34_0 (d := d + 5) (ps_nk_i (h0).1 (zs_34_7 (d := d) (r0 := r0) (r2 := r2) (x3 := 0)  h0 h2 (zw_r (c := 2) (by decide) h0 (xw_2_6 (h0).1 h1 (J).1) J) k ))

theorem zs_83_109 {C : Nat → Prop} {m s : ps_S} {t : Int32} {d : Nat} {r0 : Nat} {r1 : Nat} {x2 : Int32} {x5 : Int32} {x6 : Int32} {Q : Option Value → ps_S → Prop} (h0 : zI C r0 4) (h1 : ps_is r1 9 = true) (J : zJ C m t s) (k : ∀ (s' : ps_S), zJ C m t s' → Q none s') (K2 : ∀ (s : ps_S), zI C r0 4 → ps_is r1 9 = true → zJ C m t s → ps_At (d + 2) 83 2 [(0, .ref r0), (1, .ref r1), (2, .int (x2 + 1))] [] s Q) : ps_At (d + 2) 83 109 [(0, .ref r0), (1, .ref r1), (2, .int x2), (5, .int x5), (6, .int x6)] [] s Q :=
  pg_83_109 (d := d + 1) (ps_nk_i (h0).1 (zs_183 (za_4_6 h0) J (fun s1 J1 e1 => (ps_nk_i (h0).1 (And.intro (fun f1 => (zs_183 (za_4_7 h0) J1 (fun s2 J2 e2 => (K2 s2 h0 h1 J2)))) (fun f1 => (zs_183 (za_4_7 h0) J1 (fun s3 J3 e3 => (K2 s3 h0 h1 J3)))))))))

theorem zs_83_44 {C : Nat → Prop} {m s : ps_S} {t : Int32} {d : Nat} {r0 : Nat} {r1 : Nat} {x2 : Int32} {r3 : Nat} {x4 : Int32} {Q : Option Value → ps_S → Prop} (h0 : zI C r0 4) (h1 : ps_is r1 9 = true) (h3 : ps_is r3 5 = true) (J : zJ C m t s) (k : ∀ (s' : ps_S), zJ C m t s' → Q none s') (K2 : ∀ (s : ps_S), zI C r0 4 → ps_is r1 9 = true → zJ C m t s → ps_At (d + 2) 83 2 [(0, .ref r0), (1, .ref r1), (2, .int (x2 + 1))] [] s Q) : ps_At (d + 2) 83 44 [(0, .ref r0), (1, .ref r1), (2, .int x2), (3, .ref r3), (4, .int x4)] [] s Q :=
  pg_83_44 (d := d + 1) (ps_nk_i (h0).1 (ps_nk_i (xk_4_3 (h0).1) (zs_103 (zo_4_3 h0) h3 h1 J (fun s1 J1 => (ps_nk_i (h0).1 (ps_nk_i (xk_4_3 (h0).1) (xs_104 (xk_4_3 (h0).1) (J1).1 (fun v2 => (ps_nk_i h3 (xs_92 h3 (J1).1 (fun v3 => (And.intro (fun f1 => (zs_83_109 (d := d) (r0 := r0) (r1 := r1) (x2 := x2) (x5 := (x4 + 1)) (x6 := v2)  h0 h1 J1 k K2)) (fun f1 => (ps_nk_i h3 (xs_92 h3 (J1).1 (fun v4 => (xs_186  (J1).1 (fun v5 b5 => (And.intro (fun f2 => (zs_83_109 (d := d) (r0 := r0) (r1 := r1) (x2 := x2) (x5 := (x4 + 1)) (x6 := v2)  h0 h1 J1 k K2)) (fun f2 => (ps_nk_i (h0).1 (xs_84 (h0).1 h3 (J1).1 (fun v6 b6 => (And.intro (fun f3 => (zs_83_109 (d := d) (r0 := r0) (r1 := r1) (x2 := x2) (x5 := (x4 + 1)) (x6 := v2)  h0 h1 J1 k K2)) (fun f3 => (ps_nk_i (h0).1 (zs_183 (za_4_6 h0) J1 (fun s7 J7 e7 => (ps_nk_i (h0).1 (And.intro (fun f4 => (zs_183 (za_4_7 h0) J7 (fun s8 J8 e8 => (K2 s8 h0 h1 J8)))) (fun f4 => (zs_183 (za_4_7 h0) J7 (fun s9 J9 e9 => (K2 s9 h0 h1 J9))))))))))))))))))))))))))))))))))

theorem zs_83_19 {C : Nat → Prop} {m s : ps_S} {t : Int32} {d : Nat} {r0 : Nat} {r1 : Nat} {x2 : Int32} {r3 : Nat} {x4 : Int32} {Q : Option Value → ps_S → Prop} (h0 : zI C r0 4) (h1 : ps_is r1 9 = true) (h3 : ps_is r3 5 = true) (J : zJ C m t s) (k : ∀ (s' : ps_S), zJ C m t s' → Q none s') (K2 : ∀ (s : ps_S), zI C r0 4 → ps_is r1 9 = true → zJ C m t s → ps_At (d + 2) 83 2 [(0, .ref r0), (1, .ref r1), (2, .int (x2 + 1))] [] s Q) : ps_At (d + 2) 83 19 [(0, .ref r0), (1, .ref r1), (2, .int x2), (3, .ref r3), (4, .int x4)] [] s Q :=
  xs_up (P := fun x4 => ∀ (s : ps_S), zI C r0 4 → ps_is r1 9 = true → ps_is r3 5 = true → zJ C m t s → ps_At (d + 2) 83 19 [(0, .ref r0), (1, .ref r1), (2, .int x2), (3, .ref r3), (4, .int x4)] [] s Q) (fun x4 ih s h0 h1 h3 J => pg_83_19 (d := d + 1) (ps_nk_i h3 (And.intro (fun f1 => (zs_83_44 (d := d) (r0 := r0) (r1 := r1) (x2 := x2) (r3 := r3) (x4 := x4)  h0 h1 h3 J k K2)) (fun f1 => (ps_nk_i h3 (xs_92 h3 (J).1 (fun v1 => (And.intro (fun f2 => (zs_83_44 (d := d) (r0 := r0) (r1 := r1) (x2 := x2) (r3 := r3) (x4 := x4)  h0 h1 h3 J k K2)) (fun f2 => (ih ((x4 + 1)) (xs_lt f1) s h0 h1 h3 J)))))))))) x4 s h0 h1 h3 J

theorem zs_83_2 {C : Nat → Prop} {m s : ps_S} {t : Int32} {d : Nat} {r0 : Nat} {r1 : Nat} {x2 : Int32} {Q : Option Value → ps_S → Prop} (h0 : zI C r0 4) (h1 : ps_is r1 9 = true) (J : zJ C m t s) (k : ∀ (s' : ps_S), zJ C m t s' → Q none s') : ps_At (d + 2) 83 2 [(0, .ref r0), (1, .ref r1), (2, .int x2)] [] s Q :=
  xs_up (P := fun x2 => ∀ (s : ps_S), zI C r0 4 → ps_is r1 9 = true → zJ C m t s → ps_At (d + 2) 83 2 [(0, .ref r0), (1, .ref r1), (2, .int x2)] [] s Q) (fun x2 ih s h0 h1 J => pg_83_2 (d := d + 1) (ps_nk_i h1 (And.intro (fun f1 => (k s J)) (fun f1 => (ps_nk_i h1 (xs_135 h1 (J).1 (fun v1 g1 => (zs_83_19 (d := d) (r0 := r0) (r1 := r1) (x2 := x2) (r3 := v1) (x4 := 0)  h0 h1 g1 J k (fun s9 h0z h1z J9 => ih (x2 + 1) (xs_lt f1) s9 h0z h1z J9))))))))) x2 s h0 h1 J

theorem zs_83 {C : Nat → Prop} {m s : ps_S} {t : Int32} {d : Nat} {r0 : Nat} {r1 : Nat} {f : ps_S → Prop} (h0 : zI C r0 4) (h1 : ps_is r1 9 = true) (J : zJ C m t s) (k : ∀ (s' : ps_S), zJ C m t s' → f s') : ps_Cl (d + 2) 83 [.ref r0, .ref r1] s (ps_rV f) :=
  pg_83_0 (d := d + 1) (zs_83_2 (d := d) (r0 := r0) (r1 := r1) (x2 := 0)  h0 h1 J k )

theorem zs_82_9 {C : Nat → Prop} {m s : ps_S} {t : Int32} {d : Nat} {r0 : Nat} {r1 : Nat} {x2 : Int32} {x3 : Int32} {Q : Option Value → ps_S → Prop} (h0 : ps_is r0 4 = true) (h1 : ps_is r1 9 = true) (J : zJ C m t s) (k : ∀ (v : Int32) (s' : ps_S), zJ C m t s' → Q (some (.int v)) s') : ps_At (d + 3) 82 9 [(0, .ref r0), (1, .ref r1), (2, .int x2), (3, .int x3)] [] s Q :=
  xs_up (P := fun x3 => ∀ (x2 : Int32) (s : ps_S), ps_is r0 4 = true → ps_is r1 9 = true → zJ C m t s → ps_At (d + 3) 82 9 [(0, .ref r0), (1, .ref r1), (2, .int x2), (3, .int x3)] [] s Q) (fun x3 ih x2 s h0 h1 J => pg_82_9 (d := d + 2) (ps_nk_i h1 (And.intro (fun f1 => (k x2 s J)) (fun f1 => (ps_nk_i h0 (xs_182 (xk_4_7 h0) (J).1 (fun v1 => (And.intro (fun f2 => (ih ((x3 + 1)) (xs_lt f1) (x2) s h0 h1 J)) (fun f2 => (ih ((x3 + 1)) (xs_lt f1) ((x2 ||| ((1 : Int32) <<< (x3 &&& 31)))) s h0 h1 J)))))))))) x3 x2 s h0 h1 J

theorem zs_82 {C : Nat → Prop} {m s : ps_S} {t : Int32} {d : Nat} {r0 : Nat} {r1 : Nat} {f : Int32 → ps_S → Prop} (h0 : zI C r0 4) (h1 : ps_is r1 9 = true) (J : zJ C m t s) (k : ∀ (v : Int32) (s' : ps_S), zJ C m t s' → f v s') : ps_Cl (d + 3) 82 [.ref r0, .ref r1] s (ps_rI f) :=
  pg_82_0 (d := d + 2) (ps_nk_i (h0).1 (zs_83 h0 h1 J (fun s1 J1 => (zs_82_9 (d := d) (r0 := r0) (r1 := r1) (x2 := 0) (x3 := 0)  (h0).1 h1 J1 k ))))

theorem zs_108 {C : Nat → Prop} {m s : ps_S} {t : Int32} {d : Nat} {r0 : Nat} {f : ps_S → Prop} (h0 : zI C r0 7) (J : zJ C m t s) (k : ∀ (s' : ps_S), zJ C m t s' → f s') : ps_Cl d 108 [.ref r0] s (ps_rV f) :=
  pg_108_0 (ps_nk_i (h0).1 (ps_nk_i (h0).1 (k (ps_ui (ps_ui s r0 5 0) r0 6 0) (zw_i (c := 7) (by decide) h0 (zw_i (c := 7) (by decide) h0 J)))))

theorem zs_111_18 {C : Nat → Prop} {m s : ps_S} {t : Int32} {d : Nat} {r0 : Nat} {r1 : Nat} {x2 : Int32} {x3 : Int32} {Q : Option Value → ps_S → Prop} (h0 : zI C r0 7) (h1 : ps_is r1 8 = true) (J : zJ C m t s) (k : ∀ (v : Int32) (s' : ps_S), zJ C m t s' → Q (some (.int v)) s') : ps_At (d + 3) 111 18 [(0, .ref r0), (1, .ref r1), (2, .int x2), (3, .int x3)] [] s Q :=
  xs_up (P := fun x3 => ∀ (x2 : Int32) (s : ps_S), zI C r0 7 → ps_is r1 8 = true → zJ C m t s → ps_At (d + 3) 111 18 [(0, .ref r0), (1, .ref r1), (2, .int x2), (3, .int x3)] [] s Q) (fun x3 ih x2 s h0 h1 J => pg_111_18 (d := d + 2) (ps_nk_i (h0).1 (And.intro (fun f1 => (ps_nk_i (h0).1 (ps_nk_i (h0).1 (zs_110 h0 J (fun v1 g1 => (ps_nk_i h1 (ps_nk_i (g1).1 (zs_95 g1 (xk_8_6 h1) J (fun s2 J2 => (ps_nk_i (h0).1 (ps_nk_i (h0).1 (ps_nk_i h1 (zs_183 (za_7_2 h0) J2 (fun s3 J3 e3 => (ps_nk_i (h0).1 (ps_nk_i (h0).1 (ps_nk_i h1 (zs_183 (za_7_3 h0) J3 (fun s4 J4 e4 => (ps_nk_i (h0).1 (ps_nk_i (h0).1 (zs_183 (za_7_4 h0) J4 (fun s5 J5 e5 => (ps_nk_i (h0).1 (ps_nk_i (h0).1 (ps_nk_i (h0).1 (k ((ps_i (ps_ui s5 r0 5 ((ps_i s5 r0 5) + 1)) r0 5) - 1) (ps_ui s5 r0 5 ((ps_i s5 r0 5) + 1)) (zw_i (c := 7) (by decide) h0 J5)))))))))))))))))))))))))))) (fun f1 => (ps_nk_i h1 (And.intro (fun f2 => (ih ((x3 + 1)) (xs_lt f1) (x2) s h0 h1 J)) (fun f2 => (ps_nk_i (h0).1 (xs_182 (xk_7_4 (h0).1) (J).1 (fun v6 => (ih ((x3 + 1)) (xs_lt f1) ((x2 ||| v6)) s h0 h1 J))))))))))) x3 x2 s h0 h1 J

theorem zs_111 {C : Nat → Prop} {m s : ps_S} {t : Int32} {d : Nat} {r0 : Nat} {r1 : Nat} {f : Int32 → ps_S → Prop} (h0 : zI C r0 7) (h1 : ps_is r1 8 = true) (J : zJ C m t s) (k : ∀ (v : Int32) (s' : ps_S), zJ C m t s' → f v s') : ps_Cl (d + 3) 111 [.ref r0, .ref r1] s (ps_rI f) :=
  pg_111_0 (d := d + 2) (ps_nk_i (h0).1 (And.intro (fun f1 => (ps_nk_i h1 (zs_111_18 (d := d) (r0 := r0) (r1 := r1) (x2 := (ps_i s r1 10)) (x3 := 0)  h0 h1 J k ))) (fun f1 => (k (-1) s J))))

theorem zs_158 {C : Nat → Prop} {m s : ps_S} {t : Int32} {d : Nat} {f : Int32 → ps_S → Prop} (q870 : zI C 870 7) (J : zJ C m t s) (k : ∀ (v : Int32) (s' : ps_S), zJ C m t s' → f v s') : ps_Cl (d + 4) 158 [.ref 0] s (ps_rI f) :=
  pg_158_0 (d := d + 3) (ps_nk_i (xj_11_4 (J).1 (rfl : ps_is 0 11 = true)) (And.intro (fun f1 => (k (-1) s J)) (fun f1 => (ps_nk_i (xj_11_4 (J).1 (rfl : ps_is 0 11 = true)) (And.intro (fun f2 => (ps_nk_i (xj_11_4 (J).1 (rfl : ps_is 0 11 = true)) (ps_nk_i (xj_11_4 (J).1 (rfl : ps_is 0 11 = true)) (xs_33 (xj_11_4 (J).1 (rfl : ps_is 0 11 = true)) (J).1 (fun v1 g1 => (ps_nk_i g1 (And.intro (fun f3 => (k (-1) s J)) (fun f3 => (ps_nk_i g1 (ps_nk_i (xk_8_6 g1) (xs_101 (xk_8_6 g1) (J).1 (fun v2 b2 => (And.intro (fun f4 => (zs_111 q870 g1 J (fun v3 s3 J3 => (k v3 s3 J3)))) (fun f4 => (k (-1) s J))))))))))))))) (fun f2 => (k (-1) s J)))))))

theorem zs_166 {C : Nat → Prop} {m s : ps_S} {t : Int32} {d : Nat} {f : Int32 → ps_S → Prop} (q936 : zI C 936 1) (J : zJ C m t s) (k : ∀ (v : Int32) (s' : ps_S), zJ C m t s' → f v s') : ps_Cl (d + 4) 166 [.ref 0] s (ps_rI f) :=
  pg_166_0 (d := d + 3) (And.intro (fun f1 => (zs_21 q936 (rfl : ps_is 934 5 = true) (xj_11_2 (J).1 (rfl : ps_is 0 11 = true)) J (fun s1 J1 => (k (ps_i s1 936 4) s1 J1)))) (fun f1 => (k (-1) s J)))

theorem zs_167 {C : Nat → Prop} {m s : ps_S} {t : Int32} {d : Nat} {f : Int32 → ps_S → Prop} (q936 : zI C 936 1) (J : zJ C m t s) (k : ∀ (v : Int32) (s' : ps_S), zJ C m t s' → f v s') : ps_Cl (d + 4) 167 [.ref 0] s (ps_rI f) :=
  pg_167_0 (d := d + 3) (And.intro (fun f1 => (zs_21 q936 (rfl : ps_is 934 5 = true) (xj_11_2 (J).1 (rfl : ps_is 0 11 = true)) J (fun s1 J1 => (And.intro (fun f2 => (zs_23 q936 J1 (fun v2 s2 J2 => (k v2 s2 J2)))) (fun f2 => (k (-2) s1 J1)))))) (fun f1 => (k (-1) s J)))

theorem zs_168 {C : Nat → Prop} {m s : ps_S} {t : Int32} {d : Nat} {f : Int32 → ps_S → Prop} (q936 : zI C 936 1) (J : zJ C m t s) (k : ∀ (v : Int32) (s' : ps_S), zJ C m t s' → f v s') : ps_Cl (d + 4) 168 [.ref 0] s (ps_rI f) :=
  pg_168_0 (d := d + 3) (And.intro (fun f1 => (zs_21 q936 (rfl : ps_is 934 5 = true) (xj_11_2 (J).1 (rfl : ps_is 0 11 = true)) J (fun s1 J1 => (And.intro (fun f2 => (zs_24 q936 J1 (fun v2 s2 J2 => (k v2 s2 J2)))) (fun f2 => (k (-2) s1 J1)))))) (fun f1 => (k (-1) s J)))

theorem zs_171 {C : Nat → Prop} {m s : ps_S} {t : Int32} {d : Nat} {f : Int32 → ps_S → Prop} (q1021 : zI C 1021 4) (J : zJ C m t s) (k : ∀ (v : Int32) (s' : ps_S), zJ C m t s' → f v s') : ps_Cl (d + 4) 171 [.ref 0] s (ps_rI f) :=
  pg_171_0 (d := d + 3) (zs_82 q1021 (xj_11_2 (J).1 (rfl : ps_is 0 11 = true)) J (fun v1 s1 J1 => (k v1 s1 J1)))

theorem zs_172 {C : Nat → Prop} {m s : ps_S} {t : Int32} {d : Nat} {x1 : Int32} {f : Int32 → ps_S → Prop} (q944 : zI C 944 0) (J : zJ C m t s) (k : ∀ (v : Int32) (s' : ps_S), zJ C m t s' → f v s') : ps_Cl (d + 4) 172 [.ref 0, .int x1] s (ps_rI f) :=
  pg_172_0 (d := d + 3) (xs_181  (J).1 (fun v1 b1 => (And.intro (fun f1 => (k (-1) s J)) (fun f1 => (zs_2 q944 (xj_11_2 (J).1 (rfl : ps_is 0 11 = true)) J (fun v2 s2 J2 => (k v2 s2 J2)))))))

theorem zs_173 {C : Nat → Prop} {m s : ps_S} {t : Int32} {d : Nat} {x1 : Int32} {f : Int32 → ps_S → Prop} (q944 : zI C 944 0) (J : zJ C m t s) (k : ∀ (v : Int32) (s' : ps_S), zJ C m t s' → f v s') : ps_Cl (d + 40) 173 [.ref 0, .int x1] s (ps_rI f) :=
  pg_173_0 (d := d + 39) (xs_181  (J).1 (fun v1 b1 => (And.intro (fun f1 => (k (-1) s J)) (fun f1 => (zs_3 q944 (xj_11_2 (J).1 (rfl : ps_is 0 11 = true)) J (fun v2 s2 J2 => (k v2 s2 J2)))))))

theorem zs_174 {C : Nat → Prop} {m s : ps_S} {t : Int32} {d : Nat} {x1 : Int32} {x2 : Int32} {f : Int32 → ps_S → Prop} (q944 : zI C 944 0) (J : zJ C m t s) (k : ∀ (v : Int32) (s' : ps_S), zJ C m t s' → f v s') : ps_Cl (d + 39) 174 [.ref 0, .int x1, .int x2] s (ps_rI f) :=
  pg_174_0 (d := d + 38) (xs_181  (J).1 (fun v1 b1 => (And.intro (fun f1 => (k (-1) s J)) (fun f1 => (And.intro (fun f2 => (k (-1) s J)) (fun f2 => (And.intro (fun f3 => (zs_4 q944 (xj_11_2 (J).1 (rfl : ps_is 0 11 = true)) (rfl : ps_is 934 5 = true) J (fun v2 s2 J2 => (k v2 s2 J2)))) (fun f3 => (k (-1) s J)))))))))

theorem zs_175 {C : Nat → Prop} {m s : ps_S} {t : Int32} {d : Nat} {x1 : Int32} {f : Int32 → ps_S → Prop} (q944 : zI C 944 0) (J : zJ C m t s) (k : ∀ (v : Int32) (s' : ps_S), zJ C m t s' → f v s') : ps_Cl (d + 40) 175 [.ref 0, .int x1] s (ps_rI f) :=
  pg_175_0 (d := d + 39) (xs_181  (J).1 (fun v1 b1 => (And.intro (fun f1 => (k (-1) s J)) (fun f1 => (And.intro (fun f2 => (zs_5 q944 (xj_11_2 (J).1 (rfl : ps_is 0 11 = true)) (rfl : ps_is 934 5 = true) J (fun v2 s2 J2 => (k v2 s2 J2)))) (fun f2 => (k (-1) s J)))))))
end
section
set_option maxRecDepth 100000
/-! a text that is one formula or one term: what both sides read; read() -/
-- ProofBench$Reader.takeText([BILProofBench$Theory;LProofBench$Row;Z)Z
theorem pl_60_0 {n : Nat} {r1 : Nat} {x2 : Int32} {r3 : Nat} {r4 : Nat} {x5 : Int32} {s : ps_S} {Q : Option Value → ps_S → Prop} (h :
  pl_Cl n 61 [.ref 902, .ref r1, .int x2, .ref r3] s (ps_rV (fun s1 =>
    pl_Cl n 69 [.ref 902, .ref r4, .int x5] s1 (ps_rI (fun v2 s2 =>
      (v2 ≠ 0 →
        ((ps_i s2 903 4) = 0 →
          Q (some (.int 1)) s2) ∧
        ((ps_i s2 903 4) ≠ 0 →
          pl_Cl n 62 [.ref 902, .int 2] s2 (ps_rI (fun v3 s3 =>
            pl_nk (decide (v3 &&& 1 = v3)) (Q (some (.int v3)) s3))))) ∧
      (v2 = 0 →
        Q (some (.int 0)) s2)))))) : pl_At (n + 1) 60 0 [(0, .ref 902), (1, .ref r1), (2, .int x2), (3, .ref r3), (4, .ref r4), (5, .int x5)] [] s Q :=
  pl_wp_at (stops := []) (f := 24) h rfl

-- ProofBench$Row.at(I)I
theorem pl_92_0 {n : Nat} {r0 : Nat} {x1 : Int32} {s : ps_S} {Q : Option Value → ps_S → Prop} (h :
  (x1 < 0 →
    Q (some (.int (-1))) s) ∧
  (0 ≤ x1 →
    pl_nk (ps_is r0 5) (((ps_i s r0 1) ≤ x1 →
      Q (some (.int (-1))) s) ∧
    (x1 < (ps_i s r0 1) →
      pl_nk (ps_is r0 5) (pl_nk (Nat.beq (ps_K (ps_c0 r0 0)).1 0) (((nI (ps_ln (ps_c0 r0 0))) ≤ x1 →
        Q (some (.int (-1))) s) ∧
      (x1 < (nI (ps_ln (ps_c0 r0 0))) →
        pl_nk (ps_is r0 5) (pl_nk (ps_ar (ps_c0 r0 0) 0) ((pm_in x1 (ps_ln (ps_c0 r0 0)) = true →
          Q (some (.int (ps_a s (ps_c0 r0 0) (Int32.toNatClampNeg x1)))) s)))))))))) : pl_At (n + 1) 92 0 [(0, .ref r0), (1, .int x1)] [] s Q :=
  pl_wp_at (stops := []) (f := 25) h rfl

-- ProofBench.read()I
theorem pl_162_0 {n : Nat} {s : ps_S} {Q : Option Value → ps_S → Prop} (h :
  pl_Cl n 60 [.ref 902, .ref 1, .int (ps_i s 0 1), .ref (ps_r s 0 2), .ref 934, .int 0] s (ps_rI (fun v1 s1 =>
    (v1 ≠ 0 →
      Q (some (.int (ps_i (ps_ui s1 0 1 0) 934 1))) (ps_ui s1 0 1 0)) ∧
    (v1 = 0 →
      pl_Cl n 91 [.ref 934] (ps_ui s1 0 1 0) (ps_rV (fun s2 =>
        Q (some (.int (-1))) s2)))))) : pl_At (n + 1) 162 0 [(0, .ref 0)] [] s Q :=
  pl_wp_at (stops := []) (f := 29) h rfl

-- ProofBench.piece(I)I
theorem pl_163_0 {n : Nat} {x1 : Int32} {s : ps_S} {Q : Option Value → ps_S → Prop} (h :
  pl_Cl n 92 [.ref 934, .int x1] s (ps_rI (fun v1 s1 =>
    Q (some (.int v1)) s1))) : pl_At (n + 1) 163 0 [(0, .ref 0), (1, .int x1)] [] s Q :=
  pl_wp_at (stops := []) (f := 7) h rfl

-- ProofBenchModel.read()I
theorem pl_274_0 {n : Nat} {s : ps_S} {Q : Option Value → ps_S → Prop} (h :
  pl_Cl n 198 [.ref 1131] s (ps_rV (fun s1 =>
    pl_Cl n 209 [.ref 1131, .int 25748, .int 1, .int 0] s1 (ps_rV (fun s2 =>
      pl_Cl n 192 [.ref 1131] s2 (ps_rI (fun v3 s3 =>
        (v3 = 0 →
          pl_At n 274 31 [(0, .ref 1131)] [] s3 Q) ∧
        (v3 ≠ 0 →
          ((ps_i s3 1131 9) = 0 →
            pl_At n 274 31 [(0, .ref 1131)] [] s3 Q) ∧
          ((ps_i s3 1131 9) ≠ 0 →
            pl_Cl n 196 [.ref 1131] s3 (ps_rV (fun s4 =>
              pl_At n 274 31 [(0, .ref 1131)] [] s4 Q))))))))))) : pl_At (n + 1) 274 0 [(0, .ref 1131)] [] s Q :=
  pl_wp_at (stops := [(31, [0])]) (f := 17) h rfl

theorem pl_274_31 {n : Nat} {s : ps_S} {Q : Option Value → ps_S → Prop} (h :
  pl_Cl n 192 [.ref 1131] s (ps_rI (fun v1 s1 =>
    (v1 ≠ 0 →
      pl_Cl n 219 [.ref 1131, .int 25748] s1 (ps_rI (fun v2 s2 =>
        Q (some (.int v2)) s2))) ∧
    (v1 = 0 →
      (pm_in (25748 : Int32) 27400 = true →
        Q (some (.int (-1))) (ps_ua s1 1134 (Int32.toNatClampNeg (25748 : Int32)) 0)))))) : pl_At (n + 1) 274 31 [(0, .ref 1131)] [] s Q :=
  pl_wp_at (stops := [(31, [0])]) (f := 16) h rfl

def rd_ok (T : Nat → Nat) (N : Nat) (E : tx_E) (ph : Nat) (l : List Nat) : Prop := ∃ (p : Nat) (fr : List (List Nat)), gt_go (tx_st T N E) (ph, [], 0, [], [], 0) (2, [], p, l, fr, 0) ∧ (tx_tok T N p).1 = 0
def rd_bad (T : Nat → Nat) (N : Nat) (E : tx_E) (ph k pl : Nat) : Prop := (∃ (S : List tx_F) (l : List Nat) (fr : List (List Nat)), gt_go (tx_st T N E) (ph, [], 0, [], [], 0) (4, S, pl, l, fr, k)) ∨ ∃ (p : Nat) (l : List Nat) (fr : List (List Nat)), gt_go (tx_st T N E) (ph, [], 0, [], [], 0) (2, [], p, l, fr, 0) ∧ (tx_tok T N p).1 ≠ 0 ∧ k = tx_bk (tx_tok T N p) ∧ pl = (tx_tok T N p).2.1
theorem rd_3 {T : Nat → Nat} {N : Nat} {E : tx_E} {ph p : Nat} {l : List Nat} {fr : List (List Nat)} (h : gt_go (tx_st T N E) (ph, [], 0, [], [], 0) (2, [], p, l, fr, 0)) : gt_go (tx_st T N E) (ph, [], 0, [], [], 0) (3, [], p, l, fr, 0) := gt_trans h (gt_one rfl)
theorem rd_oo {T : Nat → Nat} {N : Nat} {E : tx_E} {ph : Nat} {l l' : List Nat} (h : rd_ok T N E ph l) (h' : rd_ok T N E ph l') : l = l' := by
  obtain ⟨p, fr, g, -⟩ := h
  obtain ⟨p', fr', g', -⟩ := h'
  have z := gt_det (rd_3 g) (rd_3 g') rfl rfl
  cases z
  rfl
theorem rd_ob {T : Nat → Nat} {N : Nat} {E : tx_E} {ph k pl : Nat} {l : List Nat} (h : rd_ok T N E ph l) (h' : rd_bad T N E ph k pl) : False := by
  obtain ⟨p, fr, g, e⟩ := h
  rcases h' with ⟨S, l', fr', g'⟩ | ⟨p', l', fr', g', e', -⟩
  · have z := gt_det (rd_3 g) g' rfl rfl
    cases z
  · have z := gt_det (rd_3 g) (rd_3 g') rfl rfl
    cases z
    exact e' e
theorem rd_bb {T : Nat → Nat} {N : Nat} {E : tx_E} {ph k pl k' pl' : Nat} (h : rd_bad T N E ph k pl) (h' : rd_bad T N E ph k' pl') : k = k' ∧ pl = pl' := by
  rcases h with ⟨S, l, fr, g⟩ | ⟨p, l, fr, g, e, rfl, rfl⟩ <;> rcases h' with ⟨S', l', fr', g'⟩ | ⟨p', l', fr', g', e', rfl, rfl⟩
  · have z := gt_det g g' rfl rfl
    cases z
    exact ⟨rfl, rfl⟩
  · have z := gt_det g (rd_3 g') rfl rfl
    cases z
  · have z := gt_det (rd_3 g) g' rfl rfl
    cases z
  · have z := gt_det (rd_3 g) (rd_3 g') rfl rfl
    cases z
    exact ⟨rfl, rfl⟩
theorem cWr_2 {r q : Nat} (h : q = 902 ∨ q = 903) : cWr r q := by
  rcases h with h | h
  · exact Or.inl h
  · exact Or.inr (Or.inl h)
theorem fs_60 {n th r ph : Nat} {s : ps_S} {T : Nat → Nat} {N : Nat} {gg : tx_g} {x2 x5 : Int32} {R : Int32 → ps_S → Prop} (hph : (x5.toInt = 0 ∧ ph = 1) ∨ (x5.toInt ≠ 0 ∧ ph = 0)) (hth : th = 2 ∨ th = 26) (hr : ps_is r 5 = true) (hE : cv_E s th gg) (hx : x2.toInt = N) (hN : N ≤ 1600) (hT : ∀ k, k < N → (ps_a s 1 k &&& 255).toInt = T k) (hkw : ∀ (k : Nat) (w : List Nat), tx_keys[k]? = some w → ps_b s 904 k = tx_x w) (k1 : ∀ (s' : ps_S) (l : List Nat), rd_ok T N (gg, false) ph l → cv_W s' r l → (ps_i s' 902 9).toInt = 0 ∧ (ps_i s' 902 10).toInt = -1 → cfr (cWr r) s s' → R 1 s') (k0 : ∀ (s' : ps_S) (k pl : Nat), rd_bad T N (gg, false) ph k pl → (ps_i s' 902 9).toInt = k → (ps_i s' 902 10).toInt = pl → cfr (cWr r) s s' → R 0 s') : pl_Cl n 60 [.ref 902, .ref 1, .int x2, .ref th, .ref r, .int x5] s (ps_rI R) := by
  cases n with
  | zero => exact pl_At_0
  | succ n =>
  show pl_At (n + 1) 60 0 [(0, .ref 902), (1, .ref 1), (2, .int x2), (3, .ref th), (4, .ref r), (5, .int x5)] [] s (ps_rI R)
  have C0 : cfr (fun q => q = 902 ∨ q = 903) s (cv_b0 s th x2) := cfr_i (cfr_i (cfr_r (cfr_i (cfr_i (cfr_i (cfr_i (cfr_i (cfr_r cfr_refl (Or.inl rfl)) (Or.inl rfl)) (Or.inl rfl)) (Or.inl rfl)) (Or.inl rfl)) (Or.inl rfl)) (Or.inr rfl)) (Or.inr rfl)) (Or.inr rfl)
  have hT0 : cv_T (cv_b0 s th x2) T N := ⟨rfl, hx, hN, hT, hkw⟩
  refine pl_60_0 ?_
  refine fs_61 hx hT0 (fun s4 q4 => ?_)
  have F4 := cfr_fl q4.1
  have C7 : cfr (cWr r) s s4 := cfr_tr (cfr_mono C0 (fun q z => cWr_2 z)) (cfr_mono F4 (fun q z => cWr_2 (Or.inr z)))
  refine fs_69 (th := th) (r := r) (ph := ph) (E := (gg, false)) (p := 0) (fr := []) hph hth hr (by rw [q4.1.2.2.1]; rfl) (by rw [(F4 902 (by decide)).1]; rfl) (cv_T_fl hT0 q4.1) (cv_E_cfr (cv_E_cfr hE C0 (by omega) (by omega) (by omega) (by omega)) F4 (by omega) (by omega) (by omega) (by omega)) (Nat.zero_le _) q4.2 ⟨by rw [(F4 902 (by decide)).1]; rfl, Nat.zero_le _, fun k w z => by cases z⟩ (by rw [(F4 902 (by decide)).1]; rfl) ⟨by rw [(F4 902 (by decide)).1]; rfl, by rw [(F4 902 (by decide)).1]; rfl⟩ (fun s12 q12 => ?_) (fun s12 q12 => ?_)
  · refine ⟨fun h15 => ?_, fun h15 => ?_⟩
    · refine ⟨fun h27 => ?_, fun h27 => ?_⟩
      · have h27 : (ps_i s12 903 4).toInt = (0 : Int) := xeq h27
        obtain ⟨p', l', fr', g1, g2, g3, g4⟩ := q12
        exact k1 _ l' ⟨p', fr', g1, by have := g3.2.2.1.1; omega⟩ g3.2.2.2.1 g3.2.2.2.2.2.2.2 (cfr_tr C7 g4)
      · have h27 : (ps_i s12 903 4).toInt ≠ (0 : Int) := xne h27
        obtain ⟨p', l', fr', g1, g2, g3, g4⟩ := q12
        refine fs_62g (K := 2) g3.2.2.1 rfl (fun s32 q32 => ?_)
        refine pl_nk_i (fun z35 => ?_)
        exact k0 _ (tx_bk (tx_tok T N p')) _ (Or.inr ⟨p', l', fr', g1, by have := g3.2.2.1.1; omega, rfl, rfl⟩) q32.1 q32.2.1 (cfr_tr C7 (cfr_tr g4 (cfr_mono q32.2.2 (fun q z => Or.inl z))))
    · exact absurd h15 (by decide)
  · refine ⟨fun h15 => ?_, fun h15 => ?_⟩
    · exact absurd h15 (by decide)
    · obtain ⟨S', pl, l', fr', k, g1, g2, g3, g4⟩ := q12
      exact k0 _ k pl (Or.inl ⟨S', l', fr', g1⟩) g2 g3 (cfr_tr C7 g4)
theorem fs_92 {n r0 : Nat} {x1 : Int32} {s : ps_S} {l : List Nat} {R : Int32 → ps_S → Prop} (hr : ps_is r0 5 = true) (h0 : ps_c0 r0 0 = r0 + 1) (hln : ps_ln (ps_c0 r0 0) = 40) (hW : cv_W s r0 l) (k : ∀ v : Int32, ((0 ≤ x1.toInt ∧ x1.toInt < l.length → ∀ c, l[x1.toInt.toNat]? = some c → v.toInt = c) ∧ (¬ (0 ≤ x1.toInt ∧ x1.toInt < l.length) → v.toInt = -1)) → R v s) : pl_Cl n 92 [.ref r0, .int x1] s (ps_rI R) := by
  cases n with
  | zero => exact pl_At_0
  | succ n =>
  show pl_At (n + 1) 92 0 [(0, .ref r0), (1, .int x1)] [] s (ps_rI R)
  obtain ⟨w1, w2, w3, w4⟩ := hW
  have e40 : (nI (ps_ln (ps_c0 r0 0))).toInt = 40 := by rw [hln]; decide
  refine pl_92_0 ?_
  refine ⟨fun h1 => ?_, fun h1 => ?_⟩
  · have h1 : x1.toInt < (0 : Int) := xlt h1
    exact k _ ⟨fun z => by omega, fun _ => by decide⟩
  · have h1 : (0 : Int) ≤ x1.toInt := xle h1
    refine pl_nk_i (fun nk6 => ?_)
    refine ⟨fun h9 => ?_, fun h9 => ?_⟩
    · have h9 : (ps_i s r0 1).toInt ≤ x1.toInt := xle h9
      exact k _ ⟨fun z => by omega, fun _ => by decide⟩
    · have h9 : x1.toInt < (ps_i s r0 1).toInt := xlt h9
      refine pl_nk_i (fun nk14 => ?_)
      refine pl_nk_i (fun nk17 => ?_)
      refine ⟨fun h18 => ?_, fun h18 => ?_⟩
      · have h18 : (nI (ps_ln (ps_c0 r0 0))).toInt ≤ x1.toInt := xle h18
        exact k _ ⟨fun z => by omega, fun _ => by decide⟩
      · have h18 : x1.toInt < (nI (ps_ln (ps_c0 r0 0))).toInt := xlt h18
        refine pl_nk_i (fun nk22 => ?_)
        refine pl_nk_i (fun nk26 => ?_)
        intro b26
        obtain ⟨b26, c26⟩ := pl_in b26
        rw [h0]
        refine k _ ⟨fun z c hc => w4 _ c hc, fun z => absurd ⟨by omega, by omega⟩ z⟩
end
section
set_option maxRecDepth 100000
/-! read(), piece(): both sides -/
-- ProofBenchModel.manyOf(I)I
theorem pl_219_0 {n : Nat} {x1 : Int32} {s : ps_S} {Q : Option Value → ps_S → Prop} (h :
  (pm_in x1 27400 = true →
    Q (some (.int (ps_a s 1134 (Int32.toNatClampNeg x1)))) s)) : pl_At (n + 1) 219 0 [(0, .ref 1131), (1, .int x1)] [] s Q :=
  pl_wp_at (stops := []) (f := 7) h rfl

-- ProofBenchModel.pieceOf(II)I
theorem pl_264_0 {n : Nat} {x1 : Int32} {x2 : Int32} {s : ps_S} {Q : Option Value → ps_S → Prop} (h :
  pl_Cl n 219 [.ref 1131, .int x1] s (ps_rI (fun v1 s1 =>
    pl_Cl n 200 [.int x2, .int 0, .int (v1 - 1)] s1 (ps_rI (fun v2 s2 =>
      (v2 = 0 →
        Q (some (.int (-1))) s2) ∧
      (v2 ≠ 0 →
        pl_Cl n 220 [.ref 1131, .int x1, .int x2] s2 (ps_rI (fun v3 s3 =>
          Q (some (.int v3)) s3)))))))) : pl_At (n + 1) 264 0 [(0, .ref 1131), (1, .int x1), (2, .int x2)] [] s Q :=
  pl_wp_at (stops := []) (f := 19) h rfl

-- ProofBenchModel.piece(I)I
theorem pl_275_0 {n : Nat} {x1 : Int32} {s : ps_S} {Q : Option Value → ps_S → Prop} (h :
  pl_Cl n 264 [.ref 1131, .int 25748, .int x1] s (ps_rI (fun v1 s1 =>
    Q (some (.int v1)) s1))) : pl_At (n + 1) 275 0 [(0, .ref 1131), (1, .int x1)] [] s Q :=
  pl_wp_at (stops := []) (f := 7) h rfl

/-- a row's piece as piece() answers it -/
def pc_is (l : List Nat) (x v : Int32) : Prop := (∀ c, 0 ≤ x.toInt → l[x.toInt.toNat]? = some c → v.toInt = c) ∧ (x.toInt < 0 ∨ (l.length : Int) ≤ x.toInt → v.toInt = -1)
theorem pc_eq {l : List Nat} {x v v' : Int32} (h : pc_is l x v) (h' : pc_is l x v') : v = v' := by
  apply Int32.toInt_inj.mp
  by_cases z : x.toInt < 0 ∨ (l.length : Int) ≤ x.toInt
  · rw [h.2 z, h'.2 z]
  · have hl : x.toInt.toNat < l.length := by omega
    have e := List.getElem?_eq_getElem hl
    rw [h.1 _ (by omega) e, h'.1 _ (by omega) e]
theorem fs_60u {n th r ph : Nat} {s : ps_S} {T : Nat → Nat} {N : Nat} {gg : tx_g} {x2 x5 : Int32} {R : Int32 → ps_S → Prop} (hph : (x5.toInt = 0 ∧ ph = 1) ∨ (x5.toInt ≠ 0 ∧ ph = 0)) (hth : th = 2 ∨ th = 26) (hr : ps_is r 5 = true) (hE : cv_E s th gg) (hx : x2.toInt = N) (hN : N ≤ 1600) (hT : ∀ k, k < N → (ps_a s 1 k &&& 255).toInt = T k) (hkw : ∀ (k : Nat) (w : List Nat), tx_keys[k]? = some w → ps_b s 904 k = tx_x w) (k1 : ∀ (s' : ps_S), (∃ l : List Nat, rd_ok T N (gg, false) ph l ∧ cv_W s' r l ∧ ((ps_i s' 902 9).toInt = 0 ∧ (ps_i s' 902 10).toInt = -1) ∧ cfr (cWr r) s s') → R 1 s') (k0 : ∀ (s' : ps_S), (∃ k pl : Nat, rd_bad T N (gg, false) ph k pl ∧ (ps_i s' 902 9).toInt = k ∧ (ps_i s' 902 10).toInt = pl ∧ cfr (cWr r) s s') → R 0 s') : pl_Cl n 60 [.ref 902, .ref 1, .int x2, .ref th, .ref r, .int x5] s (ps_rI R) :=
  fs_60 hph hth hr hE hx hN hT hkw (fun s' l a b c d => k1 s' ⟨l, a, b, c, d⟩) (fun s' k pl a b c d => k0 s' ⟨k, pl, a, b, c, d⟩)
theorem fs_162 {n th : Nat} {s : ps_S} {T : Nat → Nat} {N : Nat} {gg : tx_g} {R : Int32 → ps_S → Prop} (hth : th = 2 ∨ th = 26) (h2 : ps_r s 0 2 = th) (hE : cv_E s th gg) (hx : (ps_i s 0 1).toInt = N) (hN : N ≤ 1600) (hT : ∀ k, k < N → (ps_a s 1 k &&& 255).toInt = T k) (hkw : ∀ (k : Nat) (w : List Nat), tx_keys[k]? = some w → ps_b s 904 k = tx_x w) (k1 : ∀ (v : Int32) (s' : ps_S) (l : List Nat), rd_ok T N (gg, false) 1 l → v.toInt = l.length → cv_W s' 934 l → (ps_i s' 902 9).toInt = 0 ∧ (ps_i s' 902 10).toInt = -1 → cfr (fun q => q = 0 ∨ cWr 934 q) s s' → R v s') (k0 : ∀ (s' : ps_S) (k pl : Nat), rd_bad T N (gg, false) 1 k pl → cv_W s' 934 [] → (ps_i s' 902 9).toInt = k → (ps_i s' 902 10).toInt = pl → cfr (fun q => q = 0 ∨ cWr 934 q) s s' → R (-1) s') : pl_Cl n 162 [.ref 0] s (ps_rI R) := by
  cases n with
  | zero => exact pl_At_0
  | succ n =>
  show pl_At (n + 1) 162 0 [(0, .ref 0)] [] s (ps_rI R)
  refine pl_162_0 ?_
  rw [h2]
  refine fs_60u (th := th) (r := 934) (ph := 1) (gg := gg) (T := T) (N := N) (Or.inl ⟨rfl, rfl⟩) hth rfl hE hx hN hT hkw (fun s21 q21 => ?_) (fun s21 q21 => ?_)
  · refine ⟨fun h31 => ?_, fun h31 => ?_⟩
    · obtain ⟨l, z, W, G, F⟩ := q21
      exact k1 _ _ l z W.1 W G (cfr_i (cfr_mono F (fun q z => Or.inr z)) (Or.inl rfl))
    · exact absurd h31 (by decide)
  · refine ⟨fun h31 => ?_, fun h31 => ?_⟩
    · exact absurd h31 (by decide)
    · refine fs_91 ?_
      obtain ⟨k, pl, z, e1, e2, F⟩ := q21
      exact k0 _ k pl z ⟨rfl, rfl, Nat.zero_le _, fun k c z => by cases z⟩ e1 e2 (cfr_i (cfr_i (cfr_i (cfr_mono F (fun q z => Or.inr z)) (Or.inl rfl)) (Or.inr (Or.inr (Or.inr (Or.inl rfl))))) (Or.inr (Or.inr (Or.inr (Or.inl rfl)))))
theorem fs_163 {n : Nat} {x1 : Int32} {s : ps_S} {l : List Nat} {R : Int32 → ps_S → Prop} (hW : cv_W s 934 l) (k : ∀ v : Int32, pc_is l x1 v → R v s) : pl_Cl n 163 [.ref 0, .int x1] s (ps_rI R) := by
  cases n with
  | zero => exact pl_At_0
  | succ n =>
  show pl_At (n + 1) 163 0 [(0, .ref 0), (1, .int x1)] [] s (ps_rI R)
  refine pl_163_0 ?_
  refine fs_92 rfl rfl rfl hW (fun v z => ?_)
  refine k v ⟨fun c h0 hc => ?_, fun h => z.2 (by omega)⟩
  have hl := (List.getElem?_eq_some_iff.mp hc).1
  exact z.1 ⟨h0, by omega⟩ c hc
theorem fm_219 {n to : Nat} {x1 : Int32} {s : ps_S} {R : Int32 → ps_S → Prop} (hx : x1.toInt = to) (k : R (ps_a s 1134 to) s) : pl_Cl n 219 [.ref 1131, .int x1] s (ps_rI R) := by
  cases n with
  | zero => exact pl_At_0
  | succ n =>
  show pl_At (n + 1) 219 0 [(0, .ref 1131), (1, .int x1)] [] s (ps_rI R)
  refine pl_219_0 ?_
  intro b5
  obtain ⟨b5, c5⟩ := pl_in b5
  rw [xtn hx]
  exact k

/-- what reading one text leaves: the row at to, the fault -/
def mq_ok (to ph b : Nat) (gg : tx_g) (T : Nat → Nat) (N : Nat) (s s' : ps_S) : Prop := (∃ l : List Nat, rd_ok T N (gg, false) ph l ∧ mv_W s' to l ∧ mv_G s') ∧ kq [1133, 1134, 1143, 1144, 1145, 1146, 1147, 1148] [3, 4, 5, 6, 7, 8, 9, 10, 11, 22, 23, 29, 30, 31, 32] s s' ∧ mv_po to s s' ∧ (ps_i s' 1131 3).toInt = 0
def mq_bad (to ph b : Nat) (gg : tx_g) (T : Nat → Nat) (N : Nat) (s s' : ps_S) : Prop := (∃ k pl : Nat, rd_bad T N (gg, false) ph k pl ∧ k ≠ 0 ∧ (ps_i s' 1131 5).toInt = k ∧ (ps_i s' 1131 6).toInt = pl) ∧ kq [1133, 1134, 1143, 1144, 1145, 1146, 1147, 1148] [3, 4, 5, 6, 7, 8, 9, 10, 11, 22, 23, 29, 30, 31, 32] s s' ∧ mv_po to s s' ∧ (ps_i s' 1131 3).toInt = 0
theorem fm_274_31g {n b : Nat} {s0 s : ps_S} {T : Nat → Nat} {N : Nat} {gg : tx_g} {R : Int32 → ps_S → Prop} (h : mq_ok 25748 1 b gg T N s0 s) (k1 : ∀ (v : Int32) (s' : ps_S) (l : List Nat), rd_ok T N (gg, false) 1 l → v.toInt = l.length → mv_W s' 25748 l → mq_ok 25748 1 b gg T N s0 s' → R v s') : pl_At n 274 31 [(0, .ref 1131)] [] s (ps_rI R) := by
  cases n with
  | zero => exact pl_At_0
  | succ n =>
  obtain ⟨⟨l, z, W, G⟩, -⟩ := id h
  refine pl_274_31 ?_
  refine fm_192 (fun _ => ⟨fun _ => ?_, fun z => absurd z (by decide)⟩) (fun z => absurd G.1 z)
  refine fm_219 (to := 25748) (by decide) ?_
  exact k1 _ _ l z W.1 W h
theorem fm_274_31b {n b : Nat} {s0 s : ps_S} {T : Nat → Nat} {N : Nat} {gg : tx_g} {R : Int32 → ps_S → Prop} (h : mq_bad 25748 1 b gg T N s0 s) (k0 : ∀ (s' : ps_S), mv_W s' 25748 [] → mq_bad 25748 1 b gg T N s0 s' → R (-1) s') : pl_At n 274 31 [(0, .ref 1131)] [] s (ps_rI R) := by
  cases n with
  | zero => exact pl_At_0
  | succ n =>
  obtain ⟨⟨k, pl, z, hk, e5, e6⟩, K, P, h3⟩ := id h
  refine pl_274_31 ?_
  refine fm_192 (fun z => by omega) (fun _ => ⟨fun z => absurd rfl z, fun _ => ?_⟩)
  intro b1
  rw [xtn (a := 25748) (by decide)]
  refine k0 _ ⟨?_, Nat.zero_le _, fun k c z => by cases z⟩ ⟨⟨k, pl, z, hk, e5, e6⟩, kqa K rfl, fun i hi => ?_, h3⟩
  · rw [ps_a_ua, if_pos ⟨rfl, rfl⟩]
    rfl
  · rw [ps_a_ua, if_neg (by omega)]
    exact P i hi
theorem fm_196v {n : Nat} {s : ps_S} {R : ps_S → Prop} (h5 : (ps_i s 1131 5).toInt = 0) (k : ∀ s', (∀ tk : tx_K, mv_K s tk → (ps_i s' 1131 5).toInt = (tx_bk tk : Nat) ∧ (ps_i s' 1131 6).toInt = tk.2.1 ∧ kq [] [5, 6] s s') → R s') : pl_Cl n 196 [.ref 1131] s (ps_rV R) := by
  cases n with
  | zero => exact pl_At_0
  | succ n =>
  show pl_At (n + 1) 196 0 [(0, .ref 1131)] [] s (ps_rV R)
  refine pl_196_0 ?_
  refine ⟨fun h6 => ?_, fun h6 => ?_⟩
  · have h6 : (ps_i s 1131 9).toInt ≠ (1 : Int) := xne h6
    refine fm_191 h5 ?_
    refine k _ (fun tk hK => ⟨?_, hK.2.1, kqi (kqi kq_refl rfl) rfl⟩)
    have h9 := hK.1
    unfold tx_bk
    rw [if_neg (by omega)]
    rfl
  · have h6 : (ps_i s 1131 9).toInt = (1 : Int) := xeq h6
    refine fm_191 h5 ?_
    refine k _ (fun tk hK => ⟨?_, hK.2.1, kqi (kqi kq_refl rfl) rfl⟩)
    have h9 := hK.1
    unfold tx_bk
    rw [if_pos (by omega)]
    rfl
theorem fm_274 {n b : Nat} {s : ps_S} {T : Nat → Nat} {N : Nat} {gg : tx_g} {R : Int32 → ps_S → Prop} (hb : b < 2) (h21 : (ps_i s 1131 21).toInt = b) (hE : mv_E s b gg) (h3 : (ps_i s 1131 3).toInt = N) (hN : N ≤ 1600) (hT : ∀ k, k < N → (ps_a s 1132 k &&& 255).toInt = T k) (k1 : ∀ (v : Int32) (s' : ps_S) (l : List Nat), rd_ok T N (gg, false) 1 l → v.toInt = l.length → mv_W s' 25748 l → mq_ok 25748 1 b gg T N s s' → R v s') (k0 : ∀ (s' : ps_S), mv_W s' 25748 [] → mq_bad 25748 1 b gg T N s s' → R (-1) s') : pl_Cl n 274 [.ref 1131] s (ps_rI R) := by
  cases n with
  | zero => exact pl_At_0
  | succ n =>
  show pl_At (n + 1) 274 0 [(0, .ref 1131)] [] s (ps_rI R)
  refine pl_274_0 ?_
  refine fm_198 h21 h3 hN hT (fun s1 q1 => ?_)
  obtain ⟨K1, t1, t2, t3, t4, t5, t6⟩ := q1
  refine fm_209u (to := 25748) (rb := b) (ph := 1) (E := (gg, false)) (p := 0) (fr := []) (by decide) (Or.inr ⟨by decide, rfl⟩) rfl hb t5 t1 (mv_E_kq hE K1 (by decide)) (Nat.zero_le _) t2 ⟨t4, Nat.zero_le _, fun k w z => by cases z⟩ t3 (fun s10 q10 => ?_)
  refine fm_192 (fun q14 => ?_) (fun q14 => ?_)
  · refine ⟨fun h17 => ?_, fun h17 => ?_⟩
    · exact absurd h17 (by decide)
    · refine ⟨fun h24 => ?_, fun h24 => ?_⟩
      · have h24 : (ps_i s10 1131 9).toInt = (0 : Int) := xeq h24
        rcases q10 with ⟨p', l', fr', g1, g2, g3, g4⟩ | ⟨S', pl, l', fr', k, g1, g2, g3, g4, g5⟩
        · have h0 : (tx_tok T N p').1 = 0 := by have := g3.2.2.1.1; omega
          exact fm_274_31g ⟨⟨l', ⟨p', fr', g1, h0⟩, g3.2.2.2.2.2.2.1, g3.2.2.2.2.2.2.2.2⟩, kqt (kqt kq_refl K1 (by decide) (by decide)) g4.1 (by decide) (by decide), fun i hi => (g4.2 i hi).trans (by rw [kq_a K1 1134 (by decide)]), by rw [kq_i g4.1 3 (by decide)]; exact t6⟩ k1
        · exfalso; omega
      · have h24 : (ps_i s10 1131 9).toInt ≠ (0 : Int) := xne h24
        refine fm_196v q14 (fun s28 q28 => ?_)
        rcases q10 with ⟨p', l', fr', g1, g2, g3, g4⟩ | ⟨S', pl, l', fr', k, g1, g2, g3, g4, g5⟩
        · have h0 : (tx_tok T N p').1 ≠ 0 := by have := g3.2.2.1.1; omega
          have J := q28 _ g3.2.2.1
          exact fm_274_31b ⟨⟨_, _, Or.inr ⟨p', l', fr', g1, h0, rfl, rfl⟩, (by unfold tx_bk; split <;> decide), J.1, J.2.1⟩, kqt (kqt (kqt kq_refl K1 (by decide) (by decide)) g4.1 (by decide) (by decide)) J.2.2 (by decide) (by decide), fun i hi => (by rw [kq_a J.2.2 1134 (by decide), g4.2 i hi, kq_a K1 1134 (by decide)]), by rw [kq_i J.2.2 3 (by decide), kq_i g4.1 3 (by decide)]; exact t6⟩ k0
        · exfalso; omega
  · refine ⟨fun h17 => ?_, fun h17 => ?_⟩
    · rcases q10 with ⟨p', l', fr', g1, g2, g3, g4⟩ | ⟨S', pl, l', fr', k, g1, g2, g3, g4, g5⟩
      · exact absurd g3.2.2.2.2.2.2.2.2.1 q14
      · exact fm_274_31b ⟨⟨k, pl, Or.inl ⟨S', l', fr', g1⟩, g2, g3, g4⟩, kqt (kqt kq_refl K1 (by decide) (by decide)) g5.1 (by decide) (by decide), fun i hi => (g5.2 i hi).trans (by rw [kq_a K1 1134 (by decide)]), by rw [kq_i g5.1 3 (by decide)]; exact t6⟩ k0
    · exact absurd h17 (by decide)
end
section
set_option maxRecDepth 100000
/-! the reader: it writes its own cells and the row that it fills -/
def rJ (C : Nat → Prop) (m : ps_S) (t : Int32) (s : ps_S) : Prop := zJ C m t s ∧ zI C (ps_r s 902 6) 5
theorem rw_i {C : Nat → Prop} {m s : ps_S} {t : Int32} {r c q : Nat} {v : Int32} (hc : c < 11) (h : zI C r c) (J : rJ C m t s) : rJ C m t (ps_ui s r q v) := ⟨zw_i hc h J.1, J.2⟩
theorem rw_j {C : Nat → Prop} {m s : ps_S} {t : Int32} {r c q : Nat} {v : Int64} (hc : c < 11) (h : zI C r c) (J : rJ C m t s) : rJ C m t (ps_uj s r q v) := ⟨zw_j hc h J.1, J.2⟩
theorem rw_a {C : Nat → Prop} {m s : ps_S} {t : Int32} {r q : Nat} {v : Int32} (p : ps_ar r 0 = true ∧ r < 1131 ∧ C r) (J : rJ C m t s) : rJ C m t (ps_ua s r q v) := ⟨zw_a p J.1, J.2⟩
theorem rw_b {C : Nat → Prop} {m s : ps_S} {t : Int32} {r q : Nat} {v : Int64} (p : ps_ar r 3 = true ∧ r < 1131 ∧ C r) (J : rJ C m t s) : rJ C m t (ps_ub s r q v) := ⟨zw_b p J.1, J.2⟩
def rdr (a : Nat) : Nat → Bool
  | 0 => true
  | n + 1 => (!ps_is (a + n) 3 || Nat.beq (a + n) 902) && rdr a n
theorem rdr_ok {a : Nat} : ∀ {n : Nat}, rdr a n = true → ∀ r, a ≤ r → r < a + n → ps_is r 3 = true → r = 902
  | 0, _, r, h1, h2, _ => by omega
  | n + 1, h, r, h1, h2, h3 => by
    unfold rdr at h
    rw [Bool.and_eq_true] at h
    by_cases e : r = a + n
    · have g := h.1
      rw [← e, h3, Bool.or_eq_true] at g
      rcases g with g | g
      · cases g
      · exact Nat.eq_of_beq_eq_true g
    · exact rdr_ok h.2 r h1 (by omega) h3
set_option maxRecDepth 1000000
theorem rdr_0 : rdr 0 150 = true := by decide +kernel
theorem rdr_150 : rdr 150 150 = true := by decide +kernel
theorem rdr_300 : rdr 300 150 = true := by decide +kernel
theorem rdr_450 : rdr 450 150 = true := by decide +kernel
theorem rdr_600 : rdr 600 150 = true := by decide +kernel
theorem rdr_750 : rdr 750 150 = true := by decide +kernel
theorem rdr_900 : rdr 900 150 = true := by decide +kernel
theorem rdr_1050 : rdr 1050 81 = true := by decide +kernel
set_option maxRecDepth 100000
theorem rdr_is {r : Nat} (h : ps_is r 3 = true) : r = 902 := by
  have hr := xis_lt (by decide) h
  by_cases h150 : r < 150
  · exact rdr_ok rdr_0 r (by omega) (by omega) h
  by_cases h300 : r < 300
  · exact rdr_ok rdr_150 r (by omega) (by omega) h
  by_cases h450 : r < 450
  · exact rdr_ok rdr_300 r (by omega) (by omega) h
  by_cases h600 : r < 600
  · exact rdr_ok rdr_450 r (by omega) (by omega) h
  by_cases h750 : r < 750
  · exact rdr_ok rdr_600 r (by omega) (by omega) h
  by_cases h900 : r < 900
  · exact rdr_ok rdr_750 r (by omega) (by omega) h
  by_cases h1050 : r < 1050
  · exact rdr_ok rdr_900 r (by omega) (by omega) h
  exact rdr_ok rdr_1050 r (by omega) (by omega) h
theorem rw_row {C : Nat → Prop} {m s : ps_S} {t : Int32} {r : Nat} (J : rJ C m t s) (h : ps_is r 3 = true) : zI C (ps_r s r 6) 5 := by
  rw [rdr_is h]
  exact J.2
def qsF (C : Nat → Prop) (d : Nat) (x : Int32) : Prop := ∀ (m s : ps_S) (t : Int32) (r0 : Nat) (f : Int32 → ps_S → Prop), zI C r0 3 → rJ C m t s → (∀ (v : Int32) (s' : ps_S), v &&& 1 = v → rJ C m t s' → f v s') → ps_Cl (d + 8) 70 [.ref r0, .int x] s (ps_rI f)
def qsT (C : Nat → Prop) (d : Nat) (x : Int32) : Prop := ∀ (m s : ps_S) (t : Int32) (r0 : Nat) (f : Int32 → ps_S → Prop), zI C r0 3 → rJ C m t s → (∀ (v : Int32) (s' : ps_S), v &&& 1 = v → rJ C m t s' → f v s') → ps_Cl (d + 8) 76 [.ref r0, .int x] s (ps_rI f)
theorem qs_93 {C : Nat → Prop} {m s : ps_S} {t : Int32} {d : Nat} {r0 : Nat} {x1 : Int32} {f : ps_S → Prop} (h0 : zI C r0 5) (J : rJ C m t s) (k : ∀ (s' : ps_S), rJ C m t s' → f s') : ps_Cl d 93 [.ref r0, .int x1] s (ps_rV f) :=
  pg_93_0 (ps_nk_i (h0).1 (And.intro (fun f1 => (ps_nk_i (h0).1 (k (ps_ui s r0 2 1) (rw_i (c := 5) (by decide) h0 J)))) (fun f1 => (ps_nk_i (h0).1 (ps_nk_i (h0).1 (ps_nk_i (xn_l ((xk_5_0 (h0).1)).1) (And.intro (fun f2 => (ps_nk_i (h0).1 (k (ps_ui s r0 2 1) (rw_i (c := 5) (by decide) h0 J)))) (fun f2 => (ps_nk_i (h0).1 (ps_nk_i (h0).1 (ps_nk_i (xn_0 ((xk_5_0 (h0).1)).1) (ps_nd_i (xg_in f1 f2) (ps_nk_i (h0).1 (ps_nk_i (h0).1 (k (ps_ui (ps_ua s (ps_c0 r0 0) (Int32.toNatClampNeg (ps_i s r0 1)) x1) r0 1 ((ps_i (ps_ua s (ps_c0 r0 0) (Int32.toNatClampNeg (ps_i s r0 1)) x1) r0 1) + 1)) (rw_i (c := 5) (by decide) h0 (rw_a (za_5_0 h0) J)))))))))))))))))

theorem qs_141_78 {C : Nat → Prop} {m s : ps_S} {t : Int32} {d : Nat} {r0 : Nat} {x2 : Int32} {Q : Option Value → ps_S → Prop} (h0 : zI C r0 10) (e0 : 0 ≤ x2) (J : rJ C m t s) (k : ∀ (s' : ps_S), rJ C m t s' → Q none s') : ps_At (d + 1) 141 78 [(0, .ref r0), (2, .int x2)] [] s Q :=
  xs_up (P := fun x2 => ∀ (s : ps_S), zI C r0 10 → 0 ≤ x2 → rJ C m t s → ps_At (d + 1) 141 78 [(0, .ref r0), (2, .int x2)] [] s Q) (fun x2 ih s h0 e0 J => pg_141_78 (d := d) (ps_nk_i (h0).1 (ps_nk_i (xn_l ((xk_10_0 (h0).1)).1) (And.intro (fun f1 => (k s J)) (fun f1 => (ps_nk_i (h0).1 (And.intro (fun f2 => (k s J)) (fun f2 => (ps_nk_i (h0).1 (ps_nk_i (xn_3 ((xk_10_0 (h0).1)).1) (ps_nd_i (xg_in e0 f1) (ps_nk_i (h0).1 (And.intro (fun f3 => (ih ((x2 + 1)) (xs_lt f1) s h0 (xs_nn e0 f1) J)) (fun f3 => (ps_nk_i (h0).1 (ps_nk_i (h0).1 (ih ((x2 + 1)) (xs_lt f1) (ps_ui (ps_ui s r0 4 3) r0 6 x2) h0 (xs_nn e0 f1) (rw_i (c := 10) (by decide) h0 (rw_i (c := 10) (by decide) h0 J))))))))))))))))))) x2 s h0 e0 J

theorem qs_141_51 {C : Nat → Prop} {m s : ps_S} {t : Int32} {d : Nat} {r0 : Nat} {x1 : Int32} {Q : Option Value → ps_S → Prop} (h0 : zI C r0 10) (J : rJ C m t s) (k : ∀ (s' : ps_S), rJ C m t s' → Q none s') : ps_At (d + 1) 141 51 [(0, .ref r0), (1, .int x1)] [] s Q :=
  pg_141_51 (d := d) (ps_nk_i (h0).1 (ps_nk_i (h0).1 (And.intro (fun f1 => (ps_nk_i (h0).1 (qs_141_78 (d := d) (r0 := r0) (x2 := 0)  h0 (by decide) (rw_i (c := 10) (by decide) h0 (rw_i (c := 10) (by decide) h0 J)) k ))) (fun f1 => (ps_nk_i (h0).1 (qs_141_78 (d := d) (r0 := r0) (x2 := 0)  h0 (by decide) (rw_i (c := 10) (by decide) h0 (rw_i (c := 10) (by decide) h0 J)) k ))))))

theorem qs_141_10 {C : Nat → Prop} {m s : ps_S} {t : Int32} {d : Nat} {r0 : Nat} {x1 : Int32} {Q : Option Value → ps_S → Prop} (h0 : zI C r0 10) (J : rJ C m t s) (k : ∀ (s' : ps_S), rJ C m t s' → Q none s') : ps_At (d + 1) 141 10 [(0, .ref r0), (1, .int x1)] [] s Q :=
  xs_up (P := fun x1 => ∀ (s : ps_S), zI C r0 10 → rJ C m t s → ps_At (d + 1) 141 10 [(0, .ref r0), (1, .int x1)] [] s Q) (fun x1 ih s h0 J => pg_141_10 (d := d) (ps_nk_i (h0).1 (And.intro (fun f1 => (qs_141_51 (d := d) (r0 := r0) (x1 := x1)  h0 J k )) (fun f1 => (ps_nk_i (h0).1 (xs_143 (h0).1 (J).1.1 (fun v1 => (xs_146  (J).1.1 (fun v2 b2 => (And.intro (fun f2 => (qs_141_51 (d := d) (r0 := r0) (x1 := x1)  h0 J k )) (fun f2 => (ps_nk_i (h0).1 (ps_nk_i (h0).1 (xs_143 (h0).1 (J).1.1 (fun v3 => (xs_144  (J).1.1 (fun v4 => (ps_nk_i (h0).1 (ih ((x1 + 1)) (xs_lt f1) (ps_uj s r0 8 v4) h0 (rw_j (c := 10) (by decide) h0 J)))))))))))))))))))) x1 s h0 J

theorem qs_141 {C : Nat → Prop} {m s : ps_S} {t : Int32} {d : Nat} {r0 : Nat} {f : ps_S → Prop} (h0 : zI C r0 10) (J : rJ C m t s) (k : ∀ (s' : ps_S), rJ C m t s' → f s') : ps_Cl (d + 1) 141 [.ref r0] s (ps_rV f) :=
  pg_141_0 (d := d) (ps_nk_i (h0).1 (ps_nk_i (h0).1 (qs_141_10 (d := d) (r0 := r0) (x1 := (ps_i s r0 5))  h0 (rw_j (c := 10) (by decide) h0 J) k )))

theorem qs_142_55 {C : Nat → Prop} {m s : ps_S} {t : Int32} {d : Nat} {r0 : Nat} {x1 : Int32} {Q : Option Value → ps_S → Prop} (h0 : zI C r0 10) (J : rJ C m t s) (k : ∀ (s' : ps_S), rJ C m t s' → Q none s') : ps_At (d + 1) 142 55 [(0, .ref r0), (1, .int x1)] [] s Q :=
  pg_142_55 (d := d) (ps_nk_i (h0).1 (ps_nk_i (h0).1 (And.intro (fun f1 => (ps_nk_i (h0).1 (k (ps_ui (ps_ui s r0 3 x1) r0 4 1) (rw_i (c := 10) (by decide) h0 (rw_i (c := 10) (by decide) h0 J))))) (fun f1 => (ps_nk_i (h0).1 (xs_143 (h0).1 ((rw_i (c := 10) (by decide) h0 J)).1.1 (fun v1 => (xs_146  ((rw_i (c := 10) (by decide) h0 J)).1.1 (fun v2 b2 => (And.intro (fun f2 => (ps_nk_i (h0).1 (k (ps_ui (ps_ui s r0 3 x1) r0 4 4) (rw_i (c := 10) (by decide) h0 (rw_i (c := 10) (by decide) h0 J))))) (fun f2 => (ps_nk_i (h0).1 (k (ps_ui (ps_ui s r0 3 x1) r0 4 1) (rw_i (c := 10) (by decide) h0 (rw_i (c := 10) (by decide) h0 J)))))))))))))))

theorem qs_142_10 {C : Nat → Prop} {m s : ps_S} {t : Int32} {d : Nat} {r0 : Nat} {x1 : Int32} {Q : Option Value → ps_S → Prop} (h0 : zI C r0 10) (J : rJ C m t s) (k : ∀ (s' : ps_S), rJ C m t s' → Q none s') : ps_At (d + 1) 142 10 [(0, .ref r0), (1, .int x1)] [] s Q :=
  xs_up (P := fun x1 => ∀ (s : ps_S), zI C r0 10 → rJ C m t s → ps_At (d + 1) 142 10 [(0, .ref r0), (1, .int x1)] [] s Q) (fun x1 ih s h0 J => pg_142_10 (d := d) (ps_nk_i (h0).1 (And.intro (fun f1 => (qs_142_55 (d := d) (r0 := r0) (x1 := x1)  h0 J k )) (fun f1 => (ps_nk_i (h0).1 (xs_143 (h0).1 (J).1.1 (fun v1 => (xs_147  (J).1.1 (fun v2 b2 => (And.intro (fun f2 => (qs_142_55 (d := d) (r0 := r0) (x1 := x1)  h0 J k )) (fun f2 => (ps_nk_i (h0).1 (ps_nk_i (h0).1 (xs_143 (h0).1 (J).1.1 (fun v3 => (ps_nk_i (h0).1 (ih ((x1 + 1)) (xs_lt f1) (ps_ui s r0 7 ((((ps_i s r0 7) * 10) + v3) - 48)) h0 (rw_i (c := 10) (by decide) h0 J)))))))))))))))))) x1 s h0 J

theorem qs_142 {C : Nat → Prop} {m s : ps_S} {t : Int32} {d : Nat} {r0 : Nat} {f : ps_S → Prop} (h0 : zI C r0 10) (J : rJ C m t s) (k : ∀ (s' : ps_S), rJ C m t s' → f s') : ps_Cl (d + 1) 142 [.ref r0] s (ps_rV f) :=
  pg_142_0 (d := d) (ps_nk_i (h0).1 (ps_nk_i (h0).1 (qs_142_10 (d := d) (r0 := r0) (x1 := (ps_i s r0 5))  h0 (rw_i (c := 10) (by decide) h0 J) k )))

theorem qs_140_30 {C : Nat → Prop} {m s : ps_S} {t : Int32} {d : Nat} {r0 : Nat} {x1 : Int32} {Q : Option Value → ps_S → Prop} (h0 : zI C r0 10) (J : rJ C m t s) (k : ∀ (s' : ps_S), rJ C m t s' → Q none s') : ps_At (d + 2) 140 30 [(0, .ref r0), (1, .int x1)] [] s Q :=
  pg_140_30 (d := d + 1) (ps_nk_i (h0).1 (ps_nk_i (h0).1 (ps_nk_i (h0).1 (xs_143 (h0).1 ((rw_i (c := 10) (by decide) h0 (rw_i (c := 10) (by decide) h0 J))).1.1 (fun v1 => (ps_nk_i (h0).1 (And.intro (fun f1 => (xs_146  ((rw_i (c := 10) (by decide) h0 (rw_i (c := 10) (by decide) h0 J))).1.1 (fun v2 b2 => (And.intro (fun f2 => (xs_147  ((rw_i (c := 10) (by decide) h0 (rw_i (c := 10) (by decide) h0 J))).1.1 (fun v3 b3 => (And.intro (fun f3 => (And.intro (fun f4 => (ps_nk_i (h0).1 (ps_nk_i (h0).1 (k (ps_ui (ps_ui (ps_ui (ps_ui s r0 5 x1) r0 6 (-1)) r0 4 1) r0 3 (x1 + 1)) (rw_i (c := 10) (by decide) h0 (rw_i (c := 10) (by decide) h0 (rw_i (c := 10) (by decide) h0 (rw_i (c := 10) (by decide) h0 J)))))))) (fun f4 => (ps_nk_i (h0).1 (ps_nk_i (h0).1 (k (ps_ui (ps_ui (ps_ui (ps_ui s r0 5 x1) r0 6 (-1)) r0 4 5) r0 3 (x1 + 1)) (rw_i (c := 10) (by decide) h0 (rw_i (c := 10) (by decide) h0 (rw_i (c := 10) (by decide) h0 (rw_i (c := 10) (by decide) h0 J)))))))))) (fun f3 => (ps_nk_i (h0).1 (qs_142 h0 (rw_i (c := 10) (by decide) h0 (rw_i (c := 10) (by decide) h0 J)) (fun s4 J4 => (k s4 J4))))))))) (fun f2 => (ps_nk_i (h0).1 (qs_141 h0 (rw_i (c := 10) (by decide) h0 (rw_i (c := 10) (by decide) h0 J)) (fun s5 J5 => (k s5 J5))))))))) (fun f1 => (ps_nk_i (h0).1 (ps_nk_i (h0).1 (k (ps_ui (ps_ui (ps_ui (ps_ui s r0 5 x1) r0 6 (-1)) r0 4 0) r0 3 x1) (rw_i (c := 10) (by decide) h0 (rw_i (c := 10) (by decide) h0 (rw_i (c := 10) (by decide) h0 (rw_i (c := 10) (by decide) h0 J)))))))))))))))

theorem qs_140_5 {C : Nat → Prop} {m s : ps_S} {t : Int32} {d : Nat} {r0 : Nat} {x1 : Int32} {Q : Option Value → ps_S → Prop} (h0 : zI C r0 10) (J : rJ C m t s) (k : ∀ (s' : ps_S), rJ C m t s' → Q none s') : ps_At (d + 2) 140 5 [(0, .ref r0), (1, .int x1)] [] s Q :=
  xs_up (P := fun x1 => ∀ (s : ps_S), zI C r0 10 → rJ C m t s → ps_At (d + 2) 140 5 [(0, .ref r0), (1, .int x1)] [] s Q) (fun x1 ih s h0 J => pg_140_5 (d := d + 1) (ps_nk_i (h0).1 (And.intro (fun f1 => (qs_140_30 (d := d) (r0 := r0) (x1 := x1)  h0 J k )) (fun f1 => (ps_nk_i (h0).1 (xs_143 (h0).1 (J).1.1 (fun v1 => (xs_145  (J).1.1 (fun v2 b2 => (And.intro (fun f2 => (qs_140_30 (d := d) (r0 := r0) (x1 := x1)  h0 J k )) (fun f2 => (ih ((x1 + 1)) (xs_lt f1) s h0 J)))))))))))) x1 s h0 J

theorem qs_140 {C : Nat → Prop} {m s : ps_S} {t : Int32} {d : Nat} {r0 : Nat} {f : ps_S → Prop} (h0 : zI C r0 10) (J : rJ C m t s) (k : ∀ (s' : ps_S), rJ C m t s' → f s') : ps_Cl (d + 2) 140 [.ref r0] s (ps_rV f) :=
  pg_140_0 (d := d + 1) (ps_nk_i (h0).1 (qs_140_5 (d := d) (r0 := r0) (x1 := (ps_i s r0 3))  h0 J k ))

theorem qs_62 {C : Nat → Prop} {m s : ps_S} {t : Int32} {d : Nat} {r0 : Nat} {x1 : Int32} {f : Int32 → ps_S → Prop} (h0 : zI C r0 3) (J : rJ C m t s) (k : ∀ (v : Int32) (s' : ps_S), v &&& 1 = v → rJ C m t s' → f v s') : ps_Cl d 62 [.ref r0, .int x1] s (ps_rI f) :=
  pg_62_0 (ps_nk_i (h0).1 (ps_nk_i (xk_3_0 (h0).1) (And.intro (fun f1 => (ps_nk_i (h0).1 (ps_nk_i (h0).1 (ps_nk_i (xk_3_0 (h0).1) (ps_nk_i (h0).1 (k 0 (ps_ui (ps_ui s r0 9 x1) r0 10 (ps_i (ps_ui s r0 9 x1) (ps_c0 r0 0) 5)) (by decide) (rw_i (c := 3) (by decide) h0 (rw_i (c := 3) (by decide) h0 J)))))))) (fun f1 => (ps_nk_i (h0).1 (ps_nk_i (h0).1 (ps_nk_i (xk_3_0 (h0).1) (ps_nk_i (h0).1 (k 0 (ps_ui (ps_ui s r0 9 1) r0 10 (ps_i (ps_ui s r0 9 1) (ps_c0 r0 0) 5)) (by decide) (rw_i (c := 3) (by decide) h0 (rw_i (c := 3) (by decide) h0 J)))))))))))

theorem qs_79_47 {C : Nat → Prop} {m s : ps_S} {t : Int32} {d : Nat} {r0 : Nat} {Q : Option Value → ps_S → Prop} (h0 : zI C r0 3) (J : rJ C m t s) (k : ∀ (v : Int32) (s' : ps_S), rJ C m t s' → Q (some (.int v)) s') : ps_At d 79 47 [(0, .ref r0)] [] s Q :=
  pg_79_47 (ps_nk_i (h0).1 (And.intro (fun f1 => (k (-1) s J)) (fun f1 => (ps_nk_i (h0).1 (ps_nk_i (h0).1 (ps_nk_i (xn_l ((xk_3_1 (h0).1)).1) (And.intro (fun f2 => (ps_nk_i (h0).1 (ps_nk_i (h0).1 (ps_nk_i (h0).1 (ps_nk_i (xk_3_0 (h0).1) (ps_nk_i (xn_3 ((xk_3_1 (h0).1)).1) (ps_nd_i (xg_in f1 f2) (ps_nk_i (h0).1 (ps_nk_i (h0).1 (ps_nk_i (h0).1 (k (((60 : Int32) + (ps_i (ps_ui (ps_ub s (ps_c0 r0 1) (Int32.toNatClampNeg (ps_i s r0 2)) (ps_j s (ps_c0 r0 0) 8)) r0 2 ((ps_i (ps_ub s (ps_c0 r0 1) (Int32.toNatClampNeg (ps_i s r0 2)) (ps_j s (ps_c0 r0 0) 8)) r0 2) + 1)) r0 2)) - 1) (ps_ui (ps_ub s (ps_c0 r0 1) (Int32.toNatClampNeg (ps_i s r0 2)) (ps_j s (ps_c0 r0 0) 8)) r0 2 ((ps_i (ps_ub s (ps_c0 r0 1) (Int32.toNatClampNeg (ps_i s r0 2)) (ps_j s (ps_c0 r0 0) 8)) r0 2) + 1)) (rw_i (c := 3) (by decide) h0 (rw_b (za_3_1 h0) J))))))))))))) (fun f2 => (k (-1) s J)))))))))

theorem qs_79_2 {C : Nat → Prop} {m s : ps_S} {t : Int32} {d : Nat} {r0 : Nat} {x1 : Int32} {Q : Option Value → ps_S → Prop} (h0 : zI C r0 3) (e0 : 0 ≤ x1) (J : rJ C m t s) (k : ∀ (v : Int32) (s' : ps_S), rJ C m t s' → Q (some (.int v)) s') : ps_At d 79 2 [(0, .ref r0), (1, .int x1)] [] s Q :=
  xs_up (P := fun x1 => ∀ (s : ps_S), zI C r0 3 → 0 ≤ x1 → rJ C m t s → ps_At d 79 2 [(0, .ref r0), (1, .int x1)] [] s Q) (fun x1 ih s h0 e0 J => pg_79_2 (ps_nk_i (h0).1 (And.intro (fun f1 => (qs_79_47 (d := d) (r0 := r0)  h0 J k )) (fun f1 => (ps_nk_i (h0).1 (ps_nk_i (xn_l ((xk_3_1 (h0).1)).1) (And.intro (fun f2 => (qs_79_47 (d := d) (r0 := r0)  h0 J k )) (fun f2 => (ps_nk_i (h0).1 (ps_nk_i (xn_3 ((xk_3_1 (h0).1)).1) (ps_nd_i (xg_in e0 f2) (ps_nk_i (h0).1 (ps_nk_i (xk_3_0 (h0).1) (And.intro (fun f3 => (ih ((x1 + 1)) (xs_lt f1) s h0 (xs_nn e0 f1) J)) (fun f3 => (k ((60 : Int32) + x1) s J)))))))))))))))) x1 s h0 e0 J

theorem qs_79 {C : Nat → Prop} {m s : ps_S} {t : Int32} {d : Nat} {r0 : Nat} {f : Int32 → ps_S → Prop} (h0 : zI C r0 3) (J : rJ C m t s) (k : ∀ (v : Int32) (s' : ps_S), rJ C m t s' → f v s') : ps_Cl d 79 [.ref r0] s (ps_rI f) :=
  pg_79_0 (qs_79_2 (d := d) (r0 := r0) (x1 := 0)  h0 (by decide) J k )

theorem qs_78_2 {C : Nat → Prop} {m s : ps_S} {t : Int32} {d : Nat} {r0 : Nat} {x1 : Int32} {Q : Option Value → ps_S → Prop} (h0 : zI C r0 3) (J : rJ C m t s) (k : ∀ (v : Int32) (s' : ps_S), rJ C m t s' → Q (some (.int v)) s') : ps_At (d + 1) 78 2 [(0, .ref r0), (1, .int x1)] [] s Q :=
  xs_up (P := fun x1 => ∀ (s : ps_S), zI C r0 3 → rJ C m t s → ps_At (d + 1) 78 2 [(0, .ref r0), (1, .int x1)] [] s Q) (fun x1 ih s h0 J => pg_78_2 (d := d) (ps_nk_i (h0).1 (And.intro (fun f1 => (ps_nk_i (h0).1 (And.intro (fun f2 => (ps_nk_i (h0).1 (qs_79 h0 J (fun v1 s1 J1 => (k v1 s1 J1))))) (fun f2 => (k (-1) s J))))) (fun f1 => (ps_nk_i (h0).1 (And.intro (fun f3 => (ih ((x1 + 1)) (xs_lt f1) s h0 J)) (fun f3 => (ps_nk_i (h0).1 (ps_nk_i (xn_l ((xk_3_3 (h0).1)).1) (And.intro (fun f4 => (ih ((x1 + 1)) (xs_lt f1) s h0 J)) (fun f4 => (ps_nk_i (h0).1 (ps_nk_i (xn_3 ((xk_3_3 (h0).1)).1) (ps_nd_i (xg_in f3 f4) (ps_nk_i (h0).1 (ps_nk_i (xk_3_0 (h0).1) (And.intro (fun f5 => (ih ((x1 + 1)) (xs_lt f1) s h0 J)) (fun f5 => (k ((40 : Int32) + x1) s J))))))))))))))))))) x1 s h0 J

theorem qs_78 {C : Nat → Prop} {m s : ps_S} {t : Int32} {d : Nat} {r0 : Nat} {f : Int32 → ps_S → Prop} (h0 : zI C r0 3) (J : rJ C m t s) (k : ∀ (v : Int32) (s' : ps_S), rJ C m t s' → f v s') : ps_Cl (d + 1) 78 [.ref r0] s (ps_rI f) :=
  pg_78_0 (d := d) (qs_78_2 (d := d) (r0 := r0) (x1 := 0)  h0 J k )

theorem qr_71_9 {C : Nat → Prop} {m s : ps_S} {t : Int32} {d : Nat} {r0 : Nat} {x1 : Int32} {x2 : Int32} {x3 : Int32} {Q : Option Value → ps_S → Prop} (HF : qsF C d x2) (HT : qsT C d x2) (h0 : zI C r0 3) (J : rJ C m t s) (k : ∀ (v : Int32) (s' : ps_S), v &&& 1 = v → rJ C m t s' → Q (some (.int v)) s') : ps_At (d + 9) 71 9 [(0, .ref r0), (1, .int x1), (2, .int x2), (3, .int x3)] [] s Q :=
  xs_dn (P := fun x3 => ∀ (s : ps_S), zI C r0 3 → rJ C m t s → ps_At (d + 9) 71 9 [(0, .ref r0), (1, .int x1), (2, .int x2), (3, .int x3)] [] s Q) (fun x3 ih s h0 J => pg_71_9 (d := d + 8) (And.intro (fun f1 => (k 1 s (by decide) J)) (fun f1 => (And.intro (fun f2 => (ps_nk_i (h0).1 (HF _ _ _ _ _ h0 J (fun v1 s1 b1 J1 => (And.intro (fun f3 => (ih ((x3 + (-1))) (xs_gt f1) s1 h0 J1)) (fun f3 => (k 0 s1 (by decide) J1))))))) (fun f2 => (ps_nk_i (h0).1 (HT _ _ _ _ _ h0 J (fun v2 s2 b2 J2 => (And.intro (fun f4 => (k 0 s2 (by decide) J2)) (fun f4 => (ih ((x3 + (-1))) (xs_gt f1) s2 h0 J2))))))))))) x3 s h0 J

theorem qr_71 {C : Nat → Prop} {m s : ps_S} {t : Int32} {d : Nat} {r0 : Nat} {x1 : Int32} {x2 : Int32} {f : Int32 → ps_S → Prop} (HF : qsF C d x2) (HT : qsT C d x2) (h0 : zI C r0 3) (J : rJ C m t s) (k : ∀ (v : Int32) (s' : ps_S), v &&& 1 = v → rJ C m t s' → f v s') : ps_Cl (d + 9) 71 [.ref r0, .int x1, .int x2] s (ps_rI f) :=
  pg_71_0 (d := d + 8) (ps_nk_i (h0).1 (ps_nk_i (xj_3_5 (J).1.1 (h0).1) (xs_136 (xj_3_5 (J).1.1 (h0).1) (J).1.1 (fun v1 => (qr_71_9 (d := d) (r0 := r0) (x1 := x1) (x2 := x2) (x3 := v1) HF HT h0 J k )))))

theorem qr_75_58 {C : Nat → Prop} {m s : ps_S} {t : Int32} {d : Nat} {r0 : Nat} {x1 : Int32} {Q : Option Value → ps_S → Prop} (HF : qsF C d (x1 + 1)) (h0 : zI C r0 3) (J : rJ C m t s) (k : ∀ (v : Int32) (s' : ps_S), v &&& 1 = v → rJ C m t s' → Q (some (.int v)) s') : ps_At (d + 9) 75 58 [(0, .ref r0), (1, .int x1)] [] s Q :=
  pg_75_58 (d := d + 8) (ps_nk_i (h0).1 (ps_nk_i (xk_3_0 (h0).1) (qs_140 (zo_3_0 h0) J (fun s1 J1 => (ps_nk_i (h0).1 (HF _ _ _ _ _ h0 J1 (fun v2 s2 b2 J2 => (ps_nk_i (h0).1 (ps_nk_i (h0).1 (ps_nd_i (decide_eq_true b2) ((k v2 (ps_ui s2 r0 4 ((ps_i s2 r0 4) - 1)) (of_decide_eq_true (decide_eq_true b2)) (rw_i (c := 3) (by decide) h0 J2)))))))))))))

theorem qr_75 {C : Nat → Prop} {m s : ps_S} {t : Int32} {d : Nat} {r0 : Nat} {x1 : Int32} {f : Int32 → ps_S → Prop} (HF : qsF C d (x1 + 1)) (h0 : zI C r0 3) (J : rJ C m t s) (k : ∀ (v : Int32) (s' : ps_S), v &&& 1 = v → rJ C m t s' → f v s') : ps_Cl (d + 9) 75 [.ref r0, .int x1] s (ps_rI f) :=
  pg_75_0 (d := d + 8) (ps_nk_i (h0).1 (xs_77 (h0).1 (J).1.1 (fun v1 b1 => (And.intro (fun f1 => (ps_nk_i (h0).1 (And.intro (fun f2 => (qr_75_58 (d := d) (r0 := r0) (x1 := x1) HF h0 J k )) (fun f2 => (ps_nk_i (h0).1 (ps_nk_i (h0).1 (ps_nk_i (xn_l ((xk_3_3 (h0).1)).1) (And.intro (fun f3 => (qr_75_58 (d := d) (r0 := r0) (x1 := x1) HF h0 J k )) (fun f3 => (ps_nk_i (h0).1 (ps_nk_i (h0).1 (ps_nk_i (h0).1 (ps_nk_i (xk_3_0 (h0).1) (ps_nk_i (xn_3 ((xk_3_3 (h0).1)).1) (ps_nd_i (xg_in f2 f3) (ps_nk_i (h0).1 (ps_nk_i (h0).1 (qr_75_58 (d := d) (r0 := r0) (x1 := x1) HF h0 (rw_i (c := 3) (by decide) h0 (rw_b (za_3_3 h0) J)) k )))))))))))))))))) (fun f1 => (ps_nk_i (h0).1 (qs_62 h0 J (fun v2 s2 b2 J2 => (ps_nd_i (decide_eq_true b2) ((k v2 s2 (of_decide_eq_true (decide_eq_true b2)) J2)))))))))))

theorem qr_74 {C : Nat → Prop} {m s : ps_S} {t : Int32} {d : Nat} {r0 : Nat} {x1 : Int32} {f : Int32 → ps_S → Prop} (HF : x1 + 1 ≤ 12 → qsF C d (x1 + 1)) (h0 : zI C r0 3) (J : rJ C m t s) (k : ∀ (v : Int32) (s' : ps_S), v &&& 1 = v → rJ C m t s' → f v s') : ps_Cl (d + 9) 74 [.ref r0, .int x1] s (ps_rI f) :=
  pg_74_0 (d := d + 8) (ps_nk_i (h0).1 (xs_73 (h0).1 (J).1.1 (fun v1 b1 q1 => (And.intro (fun f1 => (ps_nk_i (h0).1 (ps_nk_i (xj_3_6 (J).1.1 (h0).1) (qs_93 (rw_row J (h0).1) J (fun s2 J2 => (ps_nk_i (h0).1 (ps_nk_i (xk_3_0 (h0).1) (qs_140 (zo_3_0 h0) J2 (fun s3 J3 => (ps_nk_i (h0).1 (ps_nk_i (h0).1 (ps_nk_i (h0).1 ((HF (q1 f1)) _ _ _ _ _ h0 (rw_i (c := 3) (by decide) h0 J3) (fun v4 s4 b4 J4 => (And.intro (fun f2 => (ps_nk_i (h0).1 (ps_nk_i (h0).1 (ps_nk_i (h0).1 (ps_nk_i (xj_3_6 ((rw_i (c := 3) (by decide) h0 J4)).1.1 (h0).1) (qs_93 (rw_row (rw_i (c := 3) (by decide) h0 J4) (h0).1) (rw_i (c := 3) (by decide) h0 J4) (fun s5 J5 => (k 1 s5 (by decide) J5)))))))) (fun f2 => (k 0 s4 (by decide) J4))))))))))))))))) (fun f1 => (ps_nk_i (h0).1 (qs_62 h0 J (fun v6 s6 b6 J6 => (ps_nd_i (decide_eq_true b6) ((k v6 s6 (of_decide_eq_true (decide_eq_true b6)) J6)))))))))))

theorem qr_70_62 {C : Nat → Prop} {m s : ps_S} {t : Int32} {d : Nat} {r0 : Nat} {Q : Option Value → ps_S → Prop} (h0 : zI C r0 3) (J : rJ C m t s) (k : ∀ (v : Int32) (s' : ps_S), v &&& 1 = v → rJ C m t s' → Q (some (.int v)) s') : ps_At (d + 10) 70 62 [(0, .ref r0)] [] s Q :=
  pg_70_62 (d := d + 9) (ps_nk_i (h0).1 (qs_62 h0 J (fun v1 s1 b1 J1 => (ps_nd_i (decide_eq_true b1) ((k v1 s1 (of_decide_eq_true (decide_eq_true b1)) J1))))))

theorem qr_70_42 {C : Nat → Prop} {m s : ps_S} {t : Int32} {d : Nat} {r0 : Nat} {x1 : Int32} {x2 : Int32} {Q : Option Value → ps_S → Prop} (H : x1 ≤ 12 → qsF C d (x1 + 1) ∧ qsT C d (x1 + 1)) (H2 : x1 + 1 ≤ 12 → qsF C d (x1 + 1)) (h0 : zI C r0 3) (J : rJ C m t s) (k : ∀ (v : Int32) (s' : ps_S), v &&& 1 = v → rJ C m t s' → Q (some (.int v)) s') : ps_At (d + 10) 70 42 [(0, .ref r0), (1, .int x1), (2, .int x2)] [] s Q :=
  pg_70_42 (d := d + 9) (And.intro (fun f1 => (qr_70_62 (d := d) (r0 := r0)  h0 J k )) (fun f1 => (And.intro (fun f2 => (qr_70_62 (d := d) (r0 := r0)  h0 J k )) (fun f2 => (ps_nk_i (h0).1 (xs_73 (h0).1 (J).1.1 (fun v1 b1 q1 => (And.intro (fun f3 => (ps_nk_i (h0).1 (ps_nk_i (xj_3_6 (J).1.1 (h0).1) (qs_93 (rw_row J (h0).1) J (fun s2 J2 => (ps_nk_i (h0).1 (ps_nk_i (xk_3_0 (h0).1) (qs_140 (zo_3_0 h0) J2 (fun s3 J3 => (xs_184  (J3).1.1 (fun v4 b4 => (And.intro (fun f4 => (ps_nk_i (h0).1 (qr_71 (H (q1 f3)).1 (H (q1 f3)).2 h0 J3 (fun v5 s5 b5 J5 => (ps_nd_i (decide_eq_true b5) ((k v5 s5 (of_decide_eq_true (decide_eq_true b5)) J5))))))) (fun f4 => (ps_nk_i (h0).1 (qr_75 (H (q1 f3)).1 h0 J3 (fun v6 s6 b6 J6 => (ps_nd_i (decide_eq_true b6) ((k v6 s6 (of_decide_eq_true (decide_eq_true b6)) J6))))))))))))))))))) (fun f3 => (qr_70_62 (d := d) (r0 := r0)  h0 J k ))))))))))

theorem qr_70 {C : Nat → Prop} {m s : ps_S} {t : Int32} {d : Nat} {r0 : Nat} {x1 : Int32} {f : Int32 → ps_S → Prop} (H : x1 ≤ 12 → qsF C d (x1 + 1) ∧ qsT C d (x1 + 1)) (H2 : x1 + 1 ≤ 12 → qsF C d (x1 + 1)) (h0 : zI C r0 3) (J : rJ C m t s) (k : ∀ (v : Int32) (s' : ps_S), v &&& 1 = v → rJ C m t s' → f v s') : ps_Cl (d + 10) 70 [.ref r0, .int x1] s (ps_rI f) :=
  pg_70_0 (d := d + 9) (ps_nk_i (h0).1 (ps_nk_i (xk_3_0 (h0).1) (And.intro (fun f1 => (ps_nk_i (h0).1 (xs_72 (h0).1 (J).1.1 (fun v1 => (xs_184  (J).1.1 (fun v2 b2 => (And.intro (fun f2 => (qr_70_42 (d := d) (r0 := r0) (x1 := x1) (x2 := v1) H H2 h0 J k )) (fun f2 => (ps_nk_i (h0).1 (And.intro (fun f3 => (qr_70_42 (d := d) (r0 := r0) (x1 := x1) (x2 := v1) H H2 h0 J k )) (fun f3 => (And.intro (fun f4 => (qr_70_62 (d := d) (r0 := r0)  h0 J k )) (fun f4 => (And.intro (fun f5 => (qr_70_62 (d := d) (r0 := r0)  h0 J k )) (fun f5 => (ps_nk_i (h0).1 (xs_73 (h0).1 (J).1.1 (fun v3 b3 q3 => (And.intro (fun f6 => (ps_nk_i (h0).1 (ps_nk_i (xj_3_6 (J).1.1 (h0).1) (qs_93 (rw_row J (h0).1) J (fun s4 J4 => (ps_nk_i (h0).1 (ps_nk_i (xk_3_0 (h0).1) (qs_140 (zo_3_0 h0) J4 (fun s5 J5 => (xs_184  (J5).1.1 (fun v6 b6 => (And.intro (fun f7 => (ps_nk_i (h0).1 (qr_71 (H (q3 f6)).1 (H (q3 f6)).2 h0 J5 (fun v7 s7 b7 J7 => (ps_nd_i (decide_eq_true b7) ((k v7 s7 (of_decide_eq_true (decide_eq_true b7)) J7))))))) (fun f7 => (ps_nk_i (h0).1 (qr_75 (H (q3 f6)).1 h0 J5 (fun v8 s8 b8 J8 => (ps_nd_i (decide_eq_true b8) ((k v8 s8 (of_decide_eq_true (decide_eq_true b8)) J8))))))))))))))))))) (fun f6 => (qr_70_62 (d := d) (r0 := r0)  h0 J k ))))))))))))))))))))) (fun f1 => (ps_nk_i (h0).1 (qr_74 H2 h0 J (fun v9 s9 b9 J9 => (ps_nd_i (decide_eq_true b9) ((k v9 s9 (of_decide_eq_true (decide_eq_true b9)) J9))))))))))

theorem qr_76_20 {C : Nat → Prop} {m s : ps_S} {t : Int32} {d : Nat} {r0 : Nat} {Q : Option Value → ps_S → Prop} (h0 : zI C r0 3) (J : rJ C m t s) (k : ∀ (v : Int32) (s' : ps_S), v &&& 1 = v → rJ C m t s' → Q (some (.int v)) s') : ps_At (d + 10) 76 20 [(0, .ref r0)] [] s Q :=
  pg_76_20 (d := d + 9) (ps_nk_i (h0).1 (qs_62 h0 J (fun v1 s1 b1 J1 => (ps_nd_i (decide_eq_true b1) ((k v1 s1 (of_decide_eq_true (decide_eq_true b1)) J1))))))

theorem qr_76_59 {C : Nat → Prop} {m s : ps_S} {t : Int32} {d : Nat} {r0 : Nat} {x1 : Int32} {x2 : Int32} {Q : Option Value → ps_S → Prop} (H : x1 ≤ 12 → qsF C d (x1 + 1) ∧ qsT C d (x1 + 1)) (h0 : zI C r0 3) (e0 : x1 ≤ 12) (J : rJ C m t s) (k : ∀ (v : Int32) (s' : ps_S), v &&& 1 = v → rJ C m t s' → Q (some (.int v)) s') : ps_At (d + 10) 76 59 [(0, .ref r0), (1, .int x1), (2, .int x2)] [] s Q :=
  pg_76_59 (d := d + 9) (And.intro (fun f1 => (And.intro (fun f2 => (ps_nk_i (h0).1 (ps_nk_i (xj_3_6 (J).1.1 (h0).1) (qs_93 (rw_row J (h0).1) J (fun s1 J1 => (ps_nk_i (h0).1 (ps_nk_i (xk_3_0 (h0).1) (qs_140 (zo_3_0 h0) J1 (fun s2 J2 => (ps_nk_i (h0).1 (qr_71 (H e0).1 (H e0).2 h0 J2 (fun v3 s3 b3 J3 => (ps_nd_i (decide_eq_true b3) ((k v3 s3 (of_decide_eq_true (decide_eq_true b3)) J3))))))))))))))) (fun f2 => (ps_nk_i (h0).1 (And.intro (fun f3 => (ps_nk_i (h0).1 (qs_62 h0 J (fun v4 s4 b4 J4 => (ps_nd_i (decide_eq_true b4) ((k v4 s4 (of_decide_eq_true (decide_eq_true b4)) J4))))))) (fun f3 => (ps_nk_i (h0).1 (qs_62 h0 J (fun v5 s5 b5 J5 => (ps_nd_i (decide_eq_true b5) ((k v5 s5 (of_decide_eq_true (decide_eq_true b5)) J5)))))))))))) (fun f1 => (ps_nk_i (h0).1 (qs_78 h0 J (fun v6 s6 J6 => (And.intro (fun f4 => (ps_nk_i (h0).1 (ps_nk_i (xj_3_6 (J6).1.1 (h0).1) (qs_93 (rw_row J6 (h0).1) J6 (fun s7 J7 => (ps_nk_i (h0).1 (ps_nk_i (xk_3_0 (h0).1) (qs_140 (zo_3_0 h0) J7 (fun s8 J8 => (ps_nk_i (h0).1 (qr_71 (H e0).1 (H e0).2 h0 J8 (fun v9 s9 b9 J9 => (ps_nd_i (decide_eq_true b9) ((k v9 s9 (of_decide_eq_true (decide_eq_true b9)) J9))))))))))))))) (fun f4 => (ps_nk_i (h0).1 (And.intro (fun f5 => (ps_nk_i (h0).1 (qs_62 h0 J6 (fun v10 s10 b10 J10 => (ps_nd_i (decide_eq_true b10) ((k v10 s10 (of_decide_eq_true (decide_eq_true b10)) J10))))))) (fun f5 => (ps_nk_i (h0).1 (qs_62 h0 J6 (fun v11 s11 b11 J11 => (ps_nd_i (decide_eq_true b11) ((k v11 s11 (of_decide_eq_true (decide_eq_true b11)) J11))))))))))))))))

theorem qr_76 {C : Nat → Prop} {m s : ps_S} {t : Int32} {d : Nat} {r0 : Nat} {x1 : Int32} {f : Int32 → ps_S → Prop} (H : x1 ≤ 12 → qsF C d (x1 + 1) ∧ qsT C d (x1 + 1)) (h0 : zI C r0 3) (J : rJ C m t s) (k : ∀ (v : Int32) (s' : ps_S), v &&& 1 = v → rJ C m t s' → f v s') : ps_Cl (d + 10) 76 [.ref r0, .int x1] s (ps_rI f) :=
  pg_76_0 (d := d + 9) (ps_nk_i (h0).1 (ps_nk_i (xk_3_0 (h0).1) (And.intro (fun f1 => (qr_76_20 (d := d) (r0 := r0)  h0 J k )) (fun f1 => (ps_nk_i (h0).1 (xs_73 (h0).1 (J).1.1 (fun v1 b1 q1 => (And.intro (fun f2 => (ps_nk_i (h0).1 (ps_nk_i (h0).1 (ps_nk_i (xk_3_0 (h0).1) (ps_nk_i (xj_3_5 (J).1.1 (h0).1) (xs_128 (xj_3_5 (J).1.1 (h0).1) (J).1.1 (fun v2 => (And.intro (fun f3 => (qr_76_59 (d := d) (r0 := r0) (x1 := x1) (x2 := v2) H h0 (q1 f2) J k )) (fun f3 => (ps_nk_i (h0).1 (xs_77 (h0).1 (J).1.1 (fun v3 b3 => (And.intro (fun f4 => (qr_76_59 (d := d) (r0 := r0) (x1 := x1) (x2 := v2) H h0 (q1 f2) J k )) (fun f4 => (ps_nk_i (h0).1 (qs_62 h0 J (fun v4 s4 b4 J4 => (ps_nd_i (decide_eq_true b4) ((k v4 s4 (of_decide_eq_true (decide_eq_true b4)) J4)))))))))))))))))))) (fun f2 => (qr_76_20 (d := d) (r0 := r0)  h0 J k ))))))))))

theorem qr_A {C : Nat → Prop} : ∀ (k : Nat) (x : Int32) (d : Nat), 0 ≤ x.toInt → x.toInt ≤ 13 → 13 - x.toInt ≤ k → 2 * k + 2 ≤ d → qsF C d x ∧ qsT C d x := by
  intro k
  induction k with
  | zero =>
    intro x d h0 h1 h2 h3
    obtain ⟨e, rfl⟩ : ∃ e, d = e + 2 := ⟨d - 2, by omega⟩
    have e1 : (12 : Int32).toInt = 12 := by decide
    have hx : ¬ x ≤ 12 := by rw [Int32.le_iff_toInt_le, e1]; omega
    have hx2 : ¬ x + 1 ≤ 12 := by
      rw [Int32.le_iff_toInt_le, e1, xI_add (by rw [xone]; omega) (by rw [xone]; omega), xone]; omega
    exact ⟨fun m s t r0 f h J k => qr_70 (d := e) (fun q => absurd q hx) (fun q => absurd q hx2) h J k, fun m s t r0 f h J k => qr_76 (d := e) (fun q => absurd q hx) h J k⟩
  | succ k ih =>
    intro x d h0 h1 h2 h3
    obtain ⟨e, rfl⟩ : ∃ e, d = e + 2 := ⟨d - 2, by omega⟩
    have e1 : (12 : Int32).toInt = 12 := by decide
    have ex : (x + 1).toInt = x.toInt + 1 := by rw [xI_add (by rw [xone]; omega) (by rw [xone]; omega), xone]
    have st : x.toInt ≤ 12 → qsF C e (x + 1) ∧ qsT C e (x + 1) := fun q => ih (x + 1) e (by omega) (by omega) (by omega) (by omega)
    have s1 : x ≤ 12 → qsF C e (x + 1) ∧ qsT C e (x + 1) := fun q => st (by rw [Int32.le_iff_toInt_le, e1] at q; exact q)
    have s2 : x + 1 ≤ 12 → qsF C e (x + 1) := fun q => (st (by rw [Int32.le_iff_toInt_le, e1, ex] at q; omega)).1
    exact ⟨fun m s t r0 f h J k => qr_70 (d := e) s1 s2 h J k, fun m s t r0 f h J k => qr_76 (d := e) s1 h J k⟩
theorem qs_70 {C : Nat → Prop} {m s : ps_S} {t : Int32} {d r0 : Nat} {f : Int32 → ps_S → Prop} (h0 : zI C r0 3) (J : rJ C m t s) (k : ∀ (v : Int32) (s' : ps_S), v &&& 1 = v → rJ C m t s' → f v s') : ps_Cl (d + 36) 70 [.ref r0, .int 0] s (ps_rI f) :=
  (qr_A 13 0 (d + 28) (by decide) (by decide) (by decide) (by omega)).1 m s t r0 f h0 J k
theorem qs_76 {C : Nat → Prop} {m s : ps_S} {t : Int32} {d r0 : Nat} {f : Int32 → ps_S → Prop} (h0 : zI C r0 3) (J : rJ C m t s) (k : ∀ (v : Int32) (s' : ps_S), v &&& 1 = v → rJ C m t s' → f v s') : ps_Cl (d + 36) 76 [.ref r0, .int 0] s (ps_rI f) :=
  (qr_A 13 0 (d + 28) (by decide) (by decide) (by decide) (by omega)).2 m s t r0 f h0 J k
end
section
set_option maxRecDepth 100000
theorem rw_put {C : Nat → Prop} {m s : ps_S} {t : Int32} {r v : Nat} (h : zI C r 3) (hv : zI C v 5) (J' : xJ m t (ps_ur s r 6 v)) (J : zJ C m t s) : rJ C m t (ps_ur s r 6 v) := by
  refine ⟨zw_r (c := 3) (by decide) h J' J, ?_⟩
  rw [rdr_is h.1, ps_r_ur, if_pos ⟨rfl, rfl⟩]
  exact hv
theorem qs_91 {C : Nat → Prop} {m s : ps_S} {t : Int32} {d : Nat} {r0 : Nat} {f : ps_S → Prop} (h0 : zI C r0 5) (J : rJ C m t s) (k : ∀ (s' : ps_S), rJ C m t s' → f s') : ps_Cl d 91 [.ref r0] s (ps_rV f) :=
  pg_91_0 (ps_nk_i (h0).1 (ps_nk_i (h0).1 (k (ps_ui (ps_ui s r0 1 0) r0 2 0) (rw_i (c := 5) (by decide) h0 (rw_i (c := 5) (by decide) h0 J)))))

theorem qs_69 {C : Nat → Prop} {m s : ps_S} {t : Int32} {d : Nat} {r0 : Nat} {r1 : Nat} {x2 : Int32} {f : Int32 → ps_S → Prop} (h0 : zI C r0 3) (h1 : zI C r1 5) (J : zJ C m t s) (k : ∀ (v : Int32) (s' : ps_S), v &&& 1 = v → rJ C m t s' → f v s') : ps_Cl (d + 37) 69 [.ref r0, .ref r1, .int x2] s (ps_rI f) :=
  pg_69_0 (d := d + 36) (ps_nk_i (h0).1 (ps_nk_i (h0).1 (ps_nk_i (xj_3_6 ((rw_put h0 h1 (xw_3_6 (h0).1 (h1).1 (J).1) J)).1.1 (h0).1) (qs_91 (rw_row (rw_put h0 h1 (xw_3_6 (h0).1 (h1).1 (J).1) J) (h0).1) (rw_put h0 h1 (xw_3_6 (h0).1 (h1).1 (J).1) J) (fun s1 J1 => (ps_nk_i (h0).1 (And.intro (fun f1 => (ps_nk_i (h0).1 (qs_70 h0 (rw_i (c := 3) (by decide) h0 J1) (fun v2 s2 b2 J2 => (ps_nd_i (decide_eq_true b2) ((k v2 s2 (of_decide_eq_true (decide_eq_true b2)) J2))))))) (fun f1 => (ps_nk_i (h0).1 (qs_76 h0 (rw_i (c := 3) (by decide) h0 J1) (fun v3 s3 b3 J3 => (ps_nd_i (decide_eq_true b3) ((k v3 s3 (of_decide_eq_true (decide_eq_true b3)) J3))))))))))))))
theorem zs_69 {C : Nat → Prop} {m s : ps_S} {t : Int32} {d : Nat} {r0 : Nat} {r1 : Nat} {x2 : Int32} {f : Int32 → ps_S → Prop} (h0 : zI C r0 3) (h1 : zI C r1 5) (J : zJ C m t s) (k : ∀ (v : Int32) (s' : ps_S), v &&& 1 = v → zJ C m t s' → f v s') : ps_Cl (d + 37) 69 [.ref r0, .ref r1, .int x2] s (ps_rI f) :=
  qs_69 h0 h1 J (fun v s' b J' => k v s' b J'.1)
theorem zs_141_78 {C : Nat → Prop} {m s : ps_S} {t : Int32} {d : Nat} {r0 : Nat} {x2 : Int32} {Q : Option Value → ps_S → Prop} (h0 : zI C r0 10) (e0 : 0 ≤ x2) (J : zJ C m t s) (k : ∀ (s' : ps_S), zJ C m t s' → Q none s') : ps_At (d + 1) 141 78 [(0, .ref r0), (2, .int x2)] [] s Q :=
  xs_up (P := fun x2 => ∀ (s : ps_S), zI C r0 10 → 0 ≤ x2 → zJ C m t s → ps_At (d + 1) 141 78 [(0, .ref r0), (2, .int x2)] [] s Q) (fun x2 ih s h0 e0 J => pg_141_78 (d := d) (ps_nk_i (h0).1 (ps_nk_i (xn_l ((xk_10_0 (h0).1)).1) (And.intro (fun f1 => (k s J)) (fun f1 => (ps_nk_i (h0).1 (And.intro (fun f2 => (k s J)) (fun f2 => (ps_nk_i (h0).1 (ps_nk_i (xn_3 ((xk_10_0 (h0).1)).1) (ps_nd_i (xg_in e0 f1) (ps_nk_i (h0).1 (And.intro (fun f3 => (ih ((x2 + 1)) (xs_lt f1) s h0 (xs_nn e0 f1) J)) (fun f3 => (ps_nk_i (h0).1 (ps_nk_i (h0).1 (ih ((x2 + 1)) (xs_lt f1) (ps_ui (ps_ui s r0 4 3) r0 6 x2) h0 (xs_nn e0 f1) (zw_i (c := 10) (by decide) h0 (zw_i (c := 10) (by decide) h0 J))))))))))))))))))) x2 s h0 e0 J

theorem zs_141_51 {C : Nat → Prop} {m s : ps_S} {t : Int32} {d : Nat} {r0 : Nat} {x1 : Int32} {Q : Option Value → ps_S → Prop} (h0 : zI C r0 10) (J : zJ C m t s) (k : ∀ (s' : ps_S), zJ C m t s' → Q none s') : ps_At (d + 1) 141 51 [(0, .ref r0), (1, .int x1)] [] s Q :=
  pg_141_51 (d := d) (ps_nk_i (h0).1 (ps_nk_i (h0).1 (And.intro (fun f1 => (ps_nk_i (h0).1 (zs_141_78 (d := d) (r0 := r0) (x2 := 0)  h0 (by decide) (zw_i (c := 10) (by decide) h0 (zw_i (c := 10) (by decide) h0 J)) k ))) (fun f1 => (ps_nk_i (h0).1 (zs_141_78 (d := d) (r0 := r0) (x2 := 0)  h0 (by decide) (zw_i (c := 10) (by decide) h0 (zw_i (c := 10) (by decide) h0 J)) k ))))))

theorem zs_141_10 {C : Nat → Prop} {m s : ps_S} {t : Int32} {d : Nat} {r0 : Nat} {x1 : Int32} {Q : Option Value → ps_S → Prop} (h0 : zI C r0 10) (J : zJ C m t s) (k : ∀ (s' : ps_S), zJ C m t s' → Q none s') : ps_At (d + 1) 141 10 [(0, .ref r0), (1, .int x1)] [] s Q :=
  xs_up (P := fun x1 => ∀ (s : ps_S), zI C r0 10 → zJ C m t s → ps_At (d + 1) 141 10 [(0, .ref r0), (1, .int x1)] [] s Q) (fun x1 ih s h0 J => pg_141_10 (d := d) (ps_nk_i (h0).1 (And.intro (fun f1 => (zs_141_51 (d := d) (r0 := r0) (x1 := x1)  h0 J k )) (fun f1 => (ps_nk_i (h0).1 (xs_143 (h0).1 (J).1 (fun v1 => (xs_146  (J).1 (fun v2 b2 => (And.intro (fun f2 => (zs_141_51 (d := d) (r0 := r0) (x1 := x1)  h0 J k )) (fun f2 => (ps_nk_i (h0).1 (ps_nk_i (h0).1 (xs_143 (h0).1 (J).1 (fun v3 => (xs_144  (J).1 (fun v4 => (ps_nk_i (h0).1 (ih ((x1 + 1)) (xs_lt f1) (ps_uj s r0 8 v4) h0 (zw_j (c := 10) (by decide) h0 J)))))))))))))))))))) x1 s h0 J

theorem zs_141 {C : Nat → Prop} {m s : ps_S} {t : Int32} {d : Nat} {r0 : Nat} {f : ps_S → Prop} (h0 : zI C r0 10) (J : zJ C m t s) (k : ∀ (s' : ps_S), zJ C m t s' → f s') : ps_Cl (d + 1) 141 [.ref r0] s (ps_rV f) :=
  pg_141_0 (d := d) (ps_nk_i (h0).1 (ps_nk_i (h0).1 (zs_141_10 (d := d) (r0 := r0) (x1 := (ps_i s r0 5))  h0 (zw_j (c := 10) (by decide) h0 J) k )))

theorem zs_142_55 {C : Nat → Prop} {m s : ps_S} {t : Int32} {d : Nat} {r0 : Nat} {x1 : Int32} {Q : Option Value → ps_S → Prop} (h0 : zI C r0 10) (J : zJ C m t s) (k : ∀ (s' : ps_S), zJ C m t s' → Q none s') : ps_At (d + 1) 142 55 [(0, .ref r0), (1, .int x1)] [] s Q :=
  pg_142_55 (d := d) (ps_nk_i (h0).1 (ps_nk_i (h0).1 (And.intro (fun f1 => (ps_nk_i (h0).1 (k (ps_ui (ps_ui s r0 3 x1) r0 4 1) (zw_i (c := 10) (by decide) h0 (zw_i (c := 10) (by decide) h0 J))))) (fun f1 => (ps_nk_i (h0).1 (xs_143 (h0).1 ((zw_i (c := 10) (by decide) h0 J)).1 (fun v1 => (xs_146  ((zw_i (c := 10) (by decide) h0 J)).1 (fun v2 b2 => (And.intro (fun f2 => (ps_nk_i (h0).1 (k (ps_ui (ps_ui s r0 3 x1) r0 4 4) (zw_i (c := 10) (by decide) h0 (zw_i (c := 10) (by decide) h0 J))))) (fun f2 => (ps_nk_i (h0).1 (k (ps_ui (ps_ui s r0 3 x1) r0 4 1) (zw_i (c := 10) (by decide) h0 (zw_i (c := 10) (by decide) h0 J)))))))))))))))

theorem zs_142_10 {C : Nat → Prop} {m s : ps_S} {t : Int32} {d : Nat} {r0 : Nat} {x1 : Int32} {Q : Option Value → ps_S → Prop} (h0 : zI C r0 10) (J : zJ C m t s) (k : ∀ (s' : ps_S), zJ C m t s' → Q none s') : ps_At (d + 1) 142 10 [(0, .ref r0), (1, .int x1)] [] s Q :=
  xs_up (P := fun x1 => ∀ (s : ps_S), zI C r0 10 → zJ C m t s → ps_At (d + 1) 142 10 [(0, .ref r0), (1, .int x1)] [] s Q) (fun x1 ih s h0 J => pg_142_10 (d := d) (ps_nk_i (h0).1 (And.intro (fun f1 => (zs_142_55 (d := d) (r0 := r0) (x1 := x1)  h0 J k )) (fun f1 => (ps_nk_i (h0).1 (xs_143 (h0).1 (J).1 (fun v1 => (xs_147  (J).1 (fun v2 b2 => (And.intro (fun f2 => (zs_142_55 (d := d) (r0 := r0) (x1 := x1)  h0 J k )) (fun f2 => (ps_nk_i (h0).1 (ps_nk_i (h0).1 (xs_143 (h0).1 (J).1 (fun v3 => (ps_nk_i (h0).1 (ih ((x1 + 1)) (xs_lt f1) (ps_ui s r0 7 ((((ps_i s r0 7) * 10) + v3) - 48)) h0 (zw_i (c := 10) (by decide) h0 J)))))))))))))))))) x1 s h0 J

theorem zs_142 {C : Nat → Prop} {m s : ps_S} {t : Int32} {d : Nat} {r0 : Nat} {f : ps_S → Prop} (h0 : zI C r0 10) (J : zJ C m t s) (k : ∀ (s' : ps_S), zJ C m t s' → f s') : ps_Cl (d + 1) 142 [.ref r0] s (ps_rV f) :=
  pg_142_0 (d := d) (ps_nk_i (h0).1 (ps_nk_i (h0).1 (zs_142_10 (d := d) (r0 := r0) (x1 := (ps_i s r0 5))  h0 (zw_i (c := 10) (by decide) h0 J) k )))

theorem zs_140_30 {C : Nat → Prop} {m s : ps_S} {t : Int32} {d : Nat} {r0 : Nat} {x1 : Int32} {Q : Option Value → ps_S → Prop} (h0 : zI C r0 10) (J : zJ C m t s) (k : ∀ (s' : ps_S), zJ C m t s' → Q none s') : ps_At (d + 2) 140 30 [(0, .ref r0), (1, .int x1)] [] s Q :=
  pg_140_30 (d := d + 1) (ps_nk_i (h0).1 (ps_nk_i (h0).1 (ps_nk_i (h0).1 (xs_143 (h0).1 ((zw_i (c := 10) (by decide) h0 (zw_i (c := 10) (by decide) h0 J))).1 (fun v1 => (ps_nk_i (h0).1 (And.intro (fun f1 => (xs_146  ((zw_i (c := 10) (by decide) h0 (zw_i (c := 10) (by decide) h0 J))).1 (fun v2 b2 => (And.intro (fun f2 => (xs_147  ((zw_i (c := 10) (by decide) h0 (zw_i (c := 10) (by decide) h0 J))).1 (fun v3 b3 => (And.intro (fun f3 => (And.intro (fun f4 => (ps_nk_i (h0).1 (ps_nk_i (h0).1 (k (ps_ui (ps_ui (ps_ui (ps_ui s r0 5 x1) r0 6 (-1)) r0 4 1) r0 3 (x1 + 1)) (zw_i (c := 10) (by decide) h0 (zw_i (c := 10) (by decide) h0 (zw_i (c := 10) (by decide) h0 (zw_i (c := 10) (by decide) h0 J)))))))) (fun f4 => (ps_nk_i (h0).1 (ps_nk_i (h0).1 (k (ps_ui (ps_ui (ps_ui (ps_ui s r0 5 x1) r0 6 (-1)) r0 4 5) r0 3 (x1 + 1)) (zw_i (c := 10) (by decide) h0 (zw_i (c := 10) (by decide) h0 (zw_i (c := 10) (by decide) h0 (zw_i (c := 10) (by decide) h0 J)))))))))) (fun f3 => (ps_nk_i (h0).1 (zs_142 h0 (zw_i (c := 10) (by decide) h0 (zw_i (c := 10) (by decide) h0 J)) (fun s4 J4 => (k s4 J4))))))))) (fun f2 => (ps_nk_i (h0).1 (zs_141 h0 (zw_i (c := 10) (by decide) h0 (zw_i (c := 10) (by decide) h0 J)) (fun s5 J5 => (k s5 J5))))))))) (fun f1 => (ps_nk_i (h0).1 (ps_nk_i (h0).1 (k (ps_ui (ps_ui (ps_ui (ps_ui s r0 5 x1) r0 6 (-1)) r0 4 0) r0 3 x1) (zw_i (c := 10) (by decide) h0 (zw_i (c := 10) (by decide) h0 (zw_i (c := 10) (by decide) h0 (zw_i (c := 10) (by decide) h0 J)))))))))))))))

theorem zs_140_5 {C : Nat → Prop} {m s : ps_S} {t : Int32} {d : Nat} {r0 : Nat} {x1 : Int32} {Q : Option Value → ps_S → Prop} (h0 : zI C r0 10) (J : zJ C m t s) (k : ∀ (s' : ps_S), zJ C m t s' → Q none s') : ps_At (d + 2) 140 5 [(0, .ref r0), (1, .int x1)] [] s Q :=
  xs_up (P := fun x1 => ∀ (s : ps_S), zI C r0 10 → zJ C m t s → ps_At (d + 2) 140 5 [(0, .ref r0), (1, .int x1)] [] s Q) (fun x1 ih s h0 J => pg_140_5 (d := d + 1) (ps_nk_i (h0).1 (And.intro (fun f1 => (zs_140_30 (d := d) (r0 := r0) (x1 := x1)  h0 J k )) (fun f1 => (ps_nk_i (h0).1 (xs_143 (h0).1 (J).1 (fun v1 => (xs_145  (J).1 (fun v2 b2 => (And.intro (fun f2 => (zs_140_30 (d := d) (r0 := r0) (x1 := x1)  h0 J k )) (fun f2 => (ih ((x1 + 1)) (xs_lt f1) s h0 J)))))))))))) x1 s h0 J

theorem zs_140 {C : Nat → Prop} {m s : ps_S} {t : Int32} {d : Nat} {r0 : Nat} {f : ps_S → Prop} (h0 : zI C r0 10) (J : zJ C m t s) (k : ∀ (s' : ps_S), zJ C m t s' → f s') : ps_Cl (d + 2) 140 [.ref r0] s (ps_rV f) :=
  pg_140_0 (d := d + 1) (ps_nk_i (h0).1 (zs_140_5 (d := d) (r0 := r0) (x1 := (ps_i s r0 3))  h0 J k ))

theorem zs_139 {C : Nat → Prop} {m s : ps_S} {t : Int32} {d : Nat} {r0 : Nat} {r1 : Nat} {x2 : Int32} {f : ps_S → Prop} (h0 : zI C r0 10) (h1 : ps_ar r1 1 = true ∧ r1 < 1131) (J : zJ C m t s) (k : ∀ (s' : ps_S), zJ C m t s' → f s') : ps_Cl (d + 3) 139 [.ref r0, .ref r1, .int x2] s (ps_rV f) :=
  pg_139_0 (d := d + 2) (ps_nk_i (h0).1 (ps_nk_i (h0).1 (ps_nk_i (h0).1 (ps_nk_i (h0).1 (zs_140 h0 (zw_i (c := 10) (by decide) h0 (zw_i (c := 10) (by decide) h0 (zw_r (c := 10) (by decide) h0 (xw_10_1 (h0).1 h1 (J).1) J))) (fun s1 J1 => (k s1 J1)))))))

theorem zs_61 {C : Nat → Prop} {m s : ps_S} {t : Int32} {d : Nat} {r0 : Nat} {r1 : Nat} {x2 : Int32} {r3 : Nat} {f : ps_S → Prop} (h0 : zI C r0 3) (h1 : ps_ar r1 1 = true ∧ r1 < 1131) (h3 : ps_is r3 9 = true) (J : zJ C m t s) (k : ∀ (s' : ps_S), zJ C m t s' → f s') : ps_Cl (d + 4) 61 [.ref r0, .ref r1, .int x2, .ref r3] s (ps_rV f) :=
  pg_61_0 (d := d + 3) (ps_nk_i (h0).1 (ps_nk_i (h0).1 (ps_nk_i (h0).1 (ps_nk_i (h0).1 (ps_nk_i (h0).1 (ps_nk_i (h0).1 (ps_nk_i (h0).1 (ps_nk_i (xk_3_0 (h0).1) (zs_139 (zo_3_0 h0) h1 (zw_i (c := 3) (by decide) h0 (zw_i (c := 3) (by decide) h0 (zw_i (c := 3) (by decide) h0 (zw_i (c := 3) (by decide) h0 (zw_i (c := 3) (by decide) h0 (zw_r (c := 3) (by decide) h0 (xw_3_5 (h0).1 h3 (J).1) J)))))) (fun s1 J1 => (k s1 J1)))))))))))

theorem zs_62 {C : Nat → Prop} {m s : ps_S} {t : Int32} {d : Nat} {r0 : Nat} {x1 : Int32} {f : Int32 → ps_S → Prop} (h0 : zI C r0 3) (J : zJ C m t s) (k : ∀ (v : Int32) (s' : ps_S), v &&& 1 = v → zJ C m t s' → f v s') : ps_Cl d 62 [.ref r0, .int x1] s (ps_rI f) :=
  pg_62_0 (ps_nk_i (h0).1 (ps_nk_i (xk_3_0 (h0).1) (And.intro (fun f1 => (ps_nk_i (h0).1 (ps_nk_i (h0).1 (ps_nk_i (xk_3_0 (h0).1) (ps_nk_i (h0).1 (k 0 (ps_ui (ps_ui s r0 9 x1) r0 10 (ps_i (ps_ui s r0 9 x1) (ps_c0 r0 0) 5)) (by decide) (zw_i (c := 3) (by decide) h0 (zw_i (c := 3) (by decide) h0 J)))))))) (fun f1 => (ps_nk_i (h0).1 (ps_nk_i (h0).1 (ps_nk_i (xk_3_0 (h0).1) (ps_nk_i (h0).1 (k 0 (ps_ui (ps_ui s r0 9 1) r0 10 (ps_i (ps_ui s r0 9 1) (ps_c0 r0 0) 5)) (by decide) (zw_i (c := 3) (by decide) h0 (zw_i (c := 3) (by decide) h0 J)))))))))))

theorem zs_79_47 {C : Nat → Prop} {m s : ps_S} {t : Int32} {d : Nat} {r0 : Nat} {Q : Option Value → ps_S → Prop} (h0 : zI C r0 3) (J : zJ C m t s) (k : ∀ (v : Int32) (s' : ps_S), zJ C m t s' → Q (some (.int v)) s') : ps_At d 79 47 [(0, .ref r0)] [] s Q :=
  pg_79_47 (ps_nk_i (h0).1 (And.intro (fun f1 => (k (-1) s J)) (fun f1 => (ps_nk_i (h0).1 (ps_nk_i (h0).1 (ps_nk_i (xn_l ((xk_3_1 (h0).1)).1) (And.intro (fun f2 => (ps_nk_i (h0).1 (ps_nk_i (h0).1 (ps_nk_i (h0).1 (ps_nk_i (xk_3_0 (h0).1) (ps_nk_i (xn_3 ((xk_3_1 (h0).1)).1) (ps_nd_i (xg_in f1 f2) (ps_nk_i (h0).1 (ps_nk_i (h0).1 (ps_nk_i (h0).1 (k (((60 : Int32) + (ps_i (ps_ui (ps_ub s (ps_c0 r0 1) (Int32.toNatClampNeg (ps_i s r0 2)) (ps_j s (ps_c0 r0 0) 8)) r0 2 ((ps_i (ps_ub s (ps_c0 r0 1) (Int32.toNatClampNeg (ps_i s r0 2)) (ps_j s (ps_c0 r0 0) 8)) r0 2) + 1)) r0 2)) - 1) (ps_ui (ps_ub s (ps_c0 r0 1) (Int32.toNatClampNeg (ps_i s r0 2)) (ps_j s (ps_c0 r0 0) 8)) r0 2 ((ps_i (ps_ub s (ps_c0 r0 1) (Int32.toNatClampNeg (ps_i s r0 2)) (ps_j s (ps_c0 r0 0) 8)) r0 2) + 1)) (zw_i (c := 3) (by decide) h0 (zw_b (za_3_1 h0) J))))))))))))) (fun f2 => (k (-1) s J)))))))))

theorem zs_79_2 {C : Nat → Prop} {m s : ps_S} {t : Int32} {d : Nat} {r0 : Nat} {x1 : Int32} {Q : Option Value → ps_S → Prop} (h0 : zI C r0 3) (e0 : 0 ≤ x1) (J : zJ C m t s) (k : ∀ (v : Int32) (s' : ps_S), zJ C m t s' → Q (some (.int v)) s') : ps_At d 79 2 [(0, .ref r0), (1, .int x1)] [] s Q :=
  xs_up (P := fun x1 => ∀ (s : ps_S), zI C r0 3 → 0 ≤ x1 → zJ C m t s → ps_At d 79 2 [(0, .ref r0), (1, .int x1)] [] s Q) (fun x1 ih s h0 e0 J => pg_79_2 (ps_nk_i (h0).1 (And.intro (fun f1 => (zs_79_47 (d := d) (r0 := r0)  h0 J k )) (fun f1 => (ps_nk_i (h0).1 (ps_nk_i (xn_l ((xk_3_1 (h0).1)).1) (And.intro (fun f2 => (zs_79_47 (d := d) (r0 := r0)  h0 J k )) (fun f2 => (ps_nk_i (h0).1 (ps_nk_i (xn_3 ((xk_3_1 (h0).1)).1) (ps_nd_i (xg_in e0 f2) (ps_nk_i (h0).1 (ps_nk_i (xk_3_0 (h0).1) (And.intro (fun f3 => (ih ((x1 + 1)) (xs_lt f1) s h0 (xs_nn e0 f1) J)) (fun f3 => (k ((60 : Int32) + x1) s J)))))))))))))))) x1 s h0 e0 J

theorem zs_79 {C : Nat → Prop} {m s : ps_S} {t : Int32} {d : Nat} {r0 : Nat} {f : Int32 → ps_S → Prop} (h0 : zI C r0 3) (J : zJ C m t s) (k : ∀ (v : Int32) (s' : ps_S), zJ C m t s' → f v s') : ps_Cl d 79 [.ref r0] s (ps_rI f) :=
  pg_79_0 (zs_79_2 (d := d) (r0 := r0) (x1 := 0)  h0 (by decide) J k )

theorem zs_65 {C : Nat → Prop} {m s : ps_S} {t : Int32} {d : Nat} {r0 : Nat} {f : Int32 → ps_S → Prop} (h0 : zI C r0 3) (J : zJ C m t s) (k : ∀ (v : Int32) (s' : ps_S), v &&& 1 = v → zJ C m t s' → f v s') : ps_Cl (d + 3) 65 [.ref r0] s (ps_rI f) :=
  pg_65_0 (d := d + 2) (ps_nk_i (h0).1 (ps_nk_i (xk_3_0 (h0).1) (And.intro (fun f1 => (ps_nk_i (h0).1 (ps_nk_i (xk_3_0 (h0).1) (zs_140 (zo_3_0 h0) J (fun s1 J1 => (k 1 s1 (by decide) J1)))))) (fun f1 => (ps_nk_i (h0).1 (zs_62 h0 J (fun v2 s2 b2 J2 => (ps_nd_i (decide_eq_true b2) ((k v2 s2 (of_decide_eq_true (decide_eq_true b2)) J2))))))))))

theorem zs_120 {C : Nat → Prop} {m s : ps_S} {t : Int32} {d : Nat} {r0 : Nat} {x1 : Int32} {f : ps_S → Prop} (h0 : zI C r0 8) (J : zJ C m t s) (k : ∀ (s' : ps_S), zJ C m t s' → f s') : ps_Cl (d + 1) 120 [.ref r0, .int x1] s (ps_rV f) :=
  pg_120_0 (d := d) (ps_nk_i (h0).1 (ps_nk_i (h0).1 (ps_nk_i (h0).1 (ps_nk_i (h0).1 (ps_nk_i (xk_8_4 (h0).1) (zs_91 (zo_8_4 h0) (zw_i (c := 8) (by decide) h0 (zw_i (c := 8) (by decide) h0 (zw_i (c := 8) (by decide) h0 J))) (fun s1 J1 => (ps_nk_i (h0).1 (ps_nk_i (xk_8_5 (h0).1) (zs_91 (zo_8_5 h0) J1 (fun s2 J2 => (ps_nk_i (h0).1 (ps_nk_i (xk_8_6 (h0).1) (zs_91 (zo_8_6 h0) J2 (fun s3 J3 => (ps_nk_i (h0).1 (ps_nk_i (h0).1 (ps_nk_i (h0).1 (ps_nk_i (h0).1 (ps_nk_i (h0).1 (k (ps_uj (ps_ui (ps_ui (ps_ui (ps_ui s3 r0 8 0) r0 9 0) r0 10 0) r0 11 0) r0 12 0) (zw_j (c := 8) (by decide) h0 (zw_i (c := 8) (by decide) h0 (zw_i (c := 8) (by decide) h0 (zw_i (c := 8) (by decide) h0 (zw_i (c := 8) (by decide) h0 J3))))))))))))))))))))))))))

theorem zs_67 {C : Nat → Prop} {m s : ps_S} {t : Int32} {d : Nat} {r0 : Nat} {r1 : Nat} {f : Int32 → ps_S → Prop} (h0 : zI C r0 3) (h1 : zI C r1 8) (J : zJ C m t s) (k : ∀ (v : Int32) (s' : ps_S), v &&& 1 = v → zJ C m t s' → f v s') : ps_Cl (d + 3) 67 [.ref r0, .ref r1] s (ps_rI f) :=
  pg_67_0 (d := d + 2) (ps_nk_i (h0).1 (ps_nk_i (xk_3_0 (h0).1) (And.intro (fun f1 => (ps_nk_i (h0).1 (ps_nk_i (h0).1 (ps_nk_i (xk_3_0 (h0).1) (ps_nk_i (xj_3_5 (J).1 (h0).1) (xs_129 (xj_3_5 (J).1 (h0).1) (J).1 (fun v1 => (ps_nk_i (h1).1 (ps_nk_i (h1).1 (And.intro (fun f2 => (ps_nk_i (h0).1 (ps_nk_i (xk_3_0 (h0).1) (zs_140 (zo_3_0 h0) (zw_i (c := 8) (by decide) h1 J) (fun s2 J2 => (k 1 s2 (by decide) J2)))))) (fun f2 => (ps_nk_i (h0).1 (zs_62 h0 (zw_i (c := 8) (by decide) h1 J) (fun v3 s3 b3 J3 => (ps_nd_i (decide_eq_true b3) ((k v3 s3 (of_decide_eq_true (decide_eq_true b3)) J3))))))))))))))))) (fun f1 => (ps_nk_i (h0).1 (zs_62 h0 J (fun v4 s4 b4 J4 => (ps_nd_i (decide_eq_true b4) ((k v4 s4 (of_decide_eq_true (decide_eq_true b4)) J4))))))))))

theorem zs_68 {C : Nat → Prop} {m s : ps_S} {t : Int32} {d : Nat} {r0 : Nat} {r1 : Nat} {f : Int32 → ps_S → Prop} (h0 : zI C r0 3) (h1 : zI C r1 8) (J : zJ C m t s) (k : ∀ (v : Int32) (s' : ps_S), v &&& 1 = v → zJ C m t s' → f v s') : ps_Cl (d + 3) 68 [.ref r0, .ref r1] s (ps_rI f) :=
  pg_68_0 (d := d + 2) (ps_nk_i (h0).1 (xs_77 (h0).1 (J).1 (fun v1 b1 => (And.intro (fun f1 => (ps_nk_i (h0).1 (zs_79 h0 J (fun v2 s2 J2 => (ps_nk_i (h1).1 (ps_nk_i (h1).1 (And.intro (fun f2 => (ps_nk_i (h0).1 (ps_nk_i (xk_3_0 (h0).1) (zs_140 (zo_3_0 h0) (zw_i (c := 8) (by decide) h1 J2) (fun s3 J3 => (k 1 s3 (by decide) J3)))))) (fun f2 => (ps_nk_i (h0).1 (zs_62 h0 (zw_i (c := 8) (by decide) h1 J2) (fun v4 s4 b4 J4 => (ps_nd_i (decide_eq_true b4) ((k v4 s4 (of_decide_eq_true (decide_eq_true b4)) J4)))))))))))))) (fun f1 => (ps_nk_i (h0).1 (zs_62 h0 J (fun v5 s5 b5 J5 => (ps_nd_i (decide_eq_true b5) ((k v5 s5 (of_decide_eq_true (decide_eq_true b5)) J5)))))))))))

theorem zs_66_161 {C : Nat → Prop} {m s : ps_S} {t : Int32} {d : Nat} {r0 : Nat} {Q : Option Value → ps_S → Prop} (h0 : zI C r0 3) (J : zJ C m t s) (k : ∀ (v : Int32) (s' : ps_S), v &&& 1 = v → zJ C m t s' → Q (some (.int v)) s') : ps_At (d + 38) 66 161 [(0, .ref r0)] [] s Q :=
  pg_66_161 (d := d + 37) (ps_nk_i (h0).1 (zs_65 h0 J (fun v1 s1 b1 J1 => (ps_nd_i (decide_eq_true b1) ((k v1 s1 (of_decide_eq_true (decide_eq_true b1)) J1))))))

theorem zs_66_140 {C : Nat → Prop} {m s : ps_S} {t : Int32} {d : Nat} {r0 : Nat} {r1 : Nat} {x2 : Int32} {Q : Option Value → ps_S → Prop} (h0 : zI C r0 3) (h1 : zI C r1 8) (J : zJ C m t s) (k : ∀ (v : Int32) (s' : ps_S), v &&& 1 = v → zJ C m t s' → Q (some (.int v)) s') : ps_At (d + 38) 66 140 [(0, .ref r0), (1, .ref r1), (2, .int x2)] [] s Q :=
  pg_66_140 (d := d + 37) (xs_119  (J).1 (fun v1 b1 => (And.intro (fun f1 => (zs_66_161 (d := d) (r0 := r0)  h0 J k )) (fun f1 => (ps_nk_i (h1).1 (ps_nk_i (h0).1 (zs_69 h0 (zo_8_5 h1) J (fun v2 s2 b2 J2 => (And.intro (fun f2 => (zs_66_161 (d := d) (r0 := r0)  h0 J2 k )) (fun f2 => (k 0 s2 (by decide) J2)))))))))))

theorem zs_66_119 {C : Nat → Prop} {m s : ps_S} {t : Int32} {d : Nat} {r0 : Nat} {r1 : Nat} {x2 : Int32} {Q : Option Value → ps_S → Prop} (h0 : zI C r0 3) (h1 : zI C r1 8) (J : zJ C m t s) (k : ∀ (v : Int32) (s' : ps_S), v &&& 1 = v → zJ C m t s' → Q (some (.int v)) s') : ps_At (d + 38) 66 119 [(0, .ref r0), (1, .ref r1), (2, .int x2)] [] s Q :=
  pg_66_119 (d := d + 37) (xs_118  (J).1 (fun v1 b1 => (And.intro (fun f1 => (zs_66_140 (d := d) (r0 := r0) (r1 := r1) (x2 := x2)  h0 h1 J k )) (fun f1 => (ps_nk_i (h1).1 (ps_nk_i (h0).1 (zs_69 h0 (zo_8_4 h1) J (fun v2 s2 b2 J2 => (And.intro (fun f2 => (zs_66_140 (d := d) (r0 := r0) (r1 := r1) (x2 := x2)  h0 h1 J2 k )) (fun f2 => (k 0 s2 (by decide) J2)))))))))))

theorem zs_66_102 {C : Nat → Prop} {m s : ps_S} {t : Int32} {d : Nat} {r0 : Nat} {r1 : Nat} {x2 : Int32} {Q : Option Value → ps_S → Prop} (h0 : zI C r0 3) (h1 : zI C r1 8) (J : zJ C m t s) (k : ∀ (v : Int32) (s' : ps_S), v &&& 1 = v → zJ C m t s' → Q (some (.int v)) s') : ps_At (d + 38) 66 102 [(0, .ref r0), (1, .ref r1), (2, .int x2)] [] s Q :=
  pg_66_102 (d := d + 37) (xs_117  (J).1 (fun v1 b1 => (And.intro (fun f1 => (zs_66_119 (d := d) (r0 := r0) (r1 := r1) (x2 := x2)  h0 h1 J k )) (fun f1 => (ps_nk_i (h0).1 (zs_68 h0 h1 J (fun v2 s2 b2 J2 => (And.intro (fun f2 => (zs_66_119 (d := d) (r0 := r0) (r1 := r1) (x2 := x2)  h0 h1 J2 k )) (fun f2 => (k 0 s2 (by decide) J2))))))))))

theorem zs_66_35 {C : Nat → Prop} {m s : ps_S} {t : Int32} {d : Nat} {r0 : Nat} {r1 : Nat} {x2 : Int32} {x3 : Int32} {Q : Option Value → ps_S → Prop} (h0 : zI C r0 3) (h1 : zI C r1 8) (J : zJ C m t s) (k : ∀ (v : Int32) (s' : ps_S), v &&& 1 = v → zJ C m t s' → Q (some (.int v)) s') : ps_At (d + 38) 66 35 [(0, .ref r0), (1, .ref r1), (2, .int x2), (3, .int x3)] [] s Q :=
  xs_up (P := fun x3 => ∀ (s : ps_S), zI C r0 3 → zI C r1 8 → zJ C m t s → ps_At (d + 38) 66 35 [(0, .ref r0), (1, .ref r1), (2, .int x2), (3, .int x3)] [] s Q) (fun x3 ih s h0 h1 J => pg_66_35 (d := d + 37) (xs_115  (J).1 (fun v1 => (And.intro (fun f1 => (And.intro (fun f2 => (zs_66_102 (d := d) (r0 := r0) (r1 := r1) (x2 := x2)  h0 h1 J k )) (fun f2 => (ps_nk_i (h0).1 (zs_67 h0 h1 J (fun v2 s2 b2 J2 => (And.intro (fun f3 => (k 0 s2 (by decide) J2)) (fun f3 => (zs_66_102 (d := d) (r0 := r0) (r1 := r1) (x2 := x2)  h0 h1 J2 k ))))))))) (fun f1 => (ps_nk_i (h0).1 (ps_nk_i (xk_3_0 (h0).1) (And.intro (fun f4 => (ps_nk_i (h1).1 (ps_nk_i (h0).1 (ps_nk_i (xk_3_0 (h0).1) (zs_183 (za_8_1 h1) J (fun s3 J3 e3 => (ps_nk_i (h0).1 (ps_nk_i (xk_3_0 (h0).1) (zs_140 (zo_3_0 h0) J3 (fun s4 J4 => (ih ((x3 + 1)) (xs_lt f1) s4 h0 h1 J4))))))))))) (fun f4 => (ps_nk_i (h0).1 (zs_62 h0 J (fun v5 s5 b5 J5 => (ps_nd_i (decide_eq_true b5) ((k v5 s5 (of_decide_eq_true (decide_eq_true b5)) J5))))))))))))))) x3 s h0 h1 J

theorem zs_66 {C : Nat → Prop} {m s : ps_S} {t : Int32} {d : Nat} {r0 : Nat} {r1 : Nat} {f : Int32 → ps_S → Prop} (h0 : zI C r0 3) (h1 : zI C r1 8) (J : zJ C m t s) (k : ∀ (v : Int32) (s' : ps_S), v &&& 1 = v → zJ C m t s' → f v s') : ps_Cl (d + 38) 66 [.ref r0, .ref r1] s (ps_rI f) :=
  pg_66_0 (d := d + 37) (ps_nk_i (h0).1 (ps_nk_i (xk_3_0 (h0).1) (xs_114  (J).1 (fun v1 b1 => (And.intro (fun f1 => (ps_nk_i (h1).1 (zs_120 h1 J (fun s2 J2 => (ps_nk_i (h0).1 (ps_nk_i (xk_3_0 (h0).1) (zs_140 (zo_3_0 h0) J2 (fun s3 J3 => (zs_66_35 (d := d) (r0 := r0) (r1 := r1) (x2 := (ps_i s (ps_c0 r0 0) 6)) (x3 := 0)  h0 h1 J3 k ))))))))) (fun f1 => (ps_nk_i (h0).1 (zs_62 h0 J (fun v4 s4 b4 J4 => (ps_nd_i (decide_eq_true b4) ((k v4 s4 (of_decide_eq_true (decide_eq_true b4)) J4))))))))))))

theorem zs_59_15 {C : Nat → Prop} {m s : ps_S} {t : Int32} {d : Nat} {r0 : Nat} {r4 : Nat} {x5 : Int32} {Q : Option Value → ps_S → Prop} (h0 : zI C r0 3) (h4 : zI C r4 2) (J : zJ C m t s) (k : ∀ (v : Int32) (s' : ps_S), v &&& 1 = v → zJ C m t s' → Q (some (.int v)) s') : ps_At (d + 39) 59 15 [(0, .ref r0), (4, .ref r4), (5, .int x5)] [] s Q :=
  xs_up (P := fun x5 => ∀ (s : ps_S), zI C r0 3 → zI C r4 2 → zJ C m t s → ps_At (d + 39) 59 15 [(0, .ref r0), (4, .ref r4), (5, .int x5)] [] s Q) (fun x5 ih s h0 h4 J => pg_59_15 (d := d + 38) (And.intro (fun f1 => (k 1 s (by decide) J)) (fun f1 => (ps_nk_i (h0).1 (ps_nk_i (xk_3_0 (h0).1) (And.intro (fun f2 => (k 1 s (by decide) J)) (fun f2 => (And.intro (fun f3 => (ps_nk_i (h4).1 (zs_33 h4 J (fun v1 g1 => (ps_nk_i (h0).1 (zs_66 h0 g1 J (fun v2 s2 b2 J2 => (And.intro (fun f4 => (ps_nk_i (h4).1 (ih ((x5 + 1)) (xs_le f1 (by decide)) (ps_ui s2 r4 7 (x5 + 1)) h0 h4 (zw_i (c := 2) (by decide) h4 J2)))) (fun f4 => (k 0 s2 (by decide) J2)))))))))) (fun f3 => (ps_nk_i (h0).1 (zs_62 h0 J (fun v3 s3 b3 J3 => (ps_nd_i (decide_eq_true b3) ((k v3 s3 (of_decide_eq_true (decide_eq_true b3)) J3))))))))))))))) x5 s h0 h4 J

theorem zs_59 {C : Nat → Prop} {m s : ps_S} {t : Int32} {d : Nat} {r0 : Nat} {r1 : Nat} {x2 : Int32} {r3 : Nat} {r4 : Nat} {f : Int32 → ps_S → Prop} (h0 : zI C r0 3) (h1 : ps_ar r1 1 = true ∧ r1 < 1131) (h3 : ps_is r3 9 = true) (h4 : zI C r4 2) (J : zJ C m t s) (k : ∀ (v : Int32) (s' : ps_S), v &&& 1 = v → zJ C m t s' → f v s') : ps_Cl (d + 39) 59 [.ref r0, .ref r1, .int x2, .ref r3, .ref r4] s (ps_rI f) :=
  pg_59_0 (d := d + 38) (ps_nk_i (h4).1 (zs_31 h4 J (fun s1 J1 => (ps_nk_i (h0).1 (zs_61 h0 h1 h3 J1 (fun s2 J2 => (zs_59_15 (d := d) (r0 := r0) (r4 := r4) (x5 := 0)  h0 h4 J2 k )))))))

theorem zs_60 {C : Nat → Prop} {m s : ps_S} {t : Int32} {d : Nat} {r0 : Nat} {r1 : Nat} {x2 : Int32} {r3 : Nat} {r4 : Nat} {x5 : Int32} {f : Int32 → ps_S → Prop} (h0 : zI C r0 3) (h1 : ps_ar r1 1 = true ∧ r1 < 1131) (h3 : ps_is r3 9 = true) (h4 : zI C r4 5) (J : zJ C m t s) (k : ∀ (v : Int32) (s' : ps_S), v &&& 1 = v → zJ C m t s' → f v s') : ps_Cl (d + 38) 60 [.ref r0, .ref r1, .int x2, .ref r3, .ref r4, .int x5] s (ps_rI f) :=
  pg_60_0 (d := d + 37) (ps_nk_i (h0).1 (zs_61 h0 h1 h3 J (fun s1 J1 => (ps_nk_i (h0).1 (zs_69 h0 h4 J1 (fun v2 s2 b2 J2 => (And.intro (fun f1 => (ps_nk_i (h0).1 (ps_nk_i (xk_3_0 (h0).1) (And.intro (fun f2 => (k 1 s2 (by decide) J2)) (fun f2 => (ps_nk_i (h0).1 (zs_62 h0 J2 (fun v3 s3 b3 J3 => (ps_nd_i (decide_eq_true b3) ((k v3 s3 (of_decide_eq_true (decide_eq_true b3)) J3))))))))))) (fun f1 => (k 0 s2 (by decide) J2)))))))))
end
section
set_option maxRecDepth 100000
theorem zw_tape {C : Nat → Prop} {m s : ps_S} {t v : Int32} (h : C 0) (J : zJ C m t s) : zJ C m v (ps_ui s 0 1 v) := ⟨xw_tape J.1, cfr_i J.2 h⟩
theorem zw_r0 {C : Nat → Prop} {m s : ps_S} {t : Int32} {q v : Nat} (h : C 0) (J' : xJ m t (ps_ur s 0 q v)) (J : zJ C m t s) : zJ C m t (ps_ur s 0 q v) := ⟨J', cfr_r J.2 h⟩
theorem zs_81 {C : Nat → Prop} {m s : ps_S} {t : Int32} {d : Nat} {r0 : Nat} {f : ps_S → Prop} (h0 : zI C r0 4) (J : zJ C m t s) (k : ∀ (s' : ps_S), zJ C m t s' → f s') : ps_Cl (d + 1) 81 [.ref r0] s (ps_rV f) :=
  pg_81_0 (d := d) (ps_nk_i (h0).1 (ps_nk_i (xk_4_0 (h0).1) (zs_91 (zo_4_0 h0) J (fun s1 J1 => (k s1 J1)))))

theorem zs_88 {C : Nat → Prop} {m s : ps_S} {t : Int32} {d : Nat} {r0 : Nat} {x1 : Int32} {x2 : Int32} {f : Int32 → ps_S → Prop} (h0 : zI C r0 4) (J : zJ C m t s) (k : ∀ (v : Int32) (s' : ps_S), v &&& 1 = v → zJ C m t s' → f v s') : ps_Cl (d + 2) 88 [.ref r0, .int x1, .int x2] s (ps_rI f) :=
  pg_88_0 (d := d + 1) (ps_nk_i (h0).1 (ps_nk_i (xk_4_2 (h0).1) (xs_104 (xk_4_2 (h0).1) (J).1 (fun v1 => (ps_nk_i (h0).1 (xs_182 (xk_4_4 (h0).1) (J).1 (fun v2 => (And.intro (fun f1 => (ps_nk_i (h0).1 (xs_182 (xk_4_5 (h0).1) (J).1 (fun v3 => (And.intro (fun f2 => (k 0 s (by decide) J)) (fun f2 => (ps_nk_i (h0).1 (ps_nk_i (h0).1 (ps_nk_i (xk_4_0 (h0).1) (xs_99 (xk_4_0 (h0).1) (xk_4_0 (h0).1) (J).1 (fun v4 b4 => (And.intro (fun f3 => (k 0 s (by decide) J)) (fun f3 => (k 1 s (by decide) J)))))))))))))) (fun f1 => (ps_nk_i (h0).1 (zs_183 (za_4_4 h0) J (fun s5 J5 e5 => (ps_nk_i (h0).1 (zs_183 (za_4_5 h0) J5 (fun s6 J6 e6 => (k 1 s6 (by decide) J6))))))))))))))))

theorem zs_87_32 {C : Nat → Prop} {m s : ps_S} {t : Int32} {d : Nat} {r0 : Nat} {r1 : Nat} {x3 : Int32} {x5 : Int32} {x6 : Int32} {Q : Option Value → ps_S → Prop} (h0 : zI C r0 4) (h1 : ps_is r1 5 = true) (J : zJ C m t s) (k : ∀ (v : Int32) (s' : ps_S), v &&& 1 = v → zJ C m t s' → Q (some (.int v)) s') : ps_At (d + 3) 87 32 [(0, .ref r0), (1, .ref r1), (3, .int x3), (5, .int x5), (6, .int x6)] [] s Q :=
  xs_up (P := fun x6 => ∀ (x5 : Int32) (s : ps_S), zI C r0 4 → ps_is r1 5 = true → zJ C m t s → ps_At (d + 3) 87 32 [(0, .ref r0), (1, .ref r1), (3, .int x3), (5, .int x5), (6, .int x6)] [] s Q) (fun x6 ih x5 s h0 h1 J => pg_87_32 (d := d + 2) (And.intro (fun f1 => (k 1 s (by decide) J)) (fun f1 => (ps_nk_i h1 (xs_92 h1 (J).1 (fun v1 => (xs_185  (J).1 (fun v2 b2 => (And.intro (fun f2 => (ps_nk_i (h0).1 (ps_nk_i (xk_4_0 (h0).1) (xs_92 (xk_4_0 (h0).1) (J).1 (fun v3 => (And.intro (fun f3 => (k 0 s (by decide) J)) (fun f3 => (ih ((x6 + 1)) (xs_lt f1) ((x5 + 1)) s h0 h1 J)))))))) (fun f2 => (ps_nk_i (h0).1 (zs_88 h0 J (fun v4 s4 b4 J4 => (And.intro (fun f4 => (ps_nk_i (h0).1 (ps_nk_i (xk_4_2 (h0).1) (xs_104 (xk_4_2 (h0).1) (J4).1 (fun v5 => (ih ((x6 + 1)) (xs_lt f1) (v5) s4 h0 h1 J4)))))) (fun f4 => (k 0 s4 (by decide) J4)))))))))))))))) x6 x5 s h0 h1 J

theorem zs_87_3 {C : Nat → Prop} {m s : ps_S} {t : Int32} {d : Nat} {r0 : Nat} {r1 : Nat} {x2 : Int32} {x3 : Int32} {x4 : Int32} {x5 : Int32} {Q : Option Value → ps_S → Prop} (h0 : zI C r0 4) (h1 : ps_is r1 5 = true) (J : zJ C m t s) (k : ∀ (v : Int32) (s' : ps_S), v &&& 1 = v → zJ C m t s' → Q (some (.int v)) s') : ps_At (d + 3) 87 3 [(0, .ref r0), (1, .ref r1), (2, .int x2), (3, .int x3), (4, .int x4), (5, .int x5)] [] s Q :=
  xs_up (P := fun x5 => ∀ (s : ps_S), zI C r0 4 → ps_is r1 5 = true → zJ C m t s → ps_At (d + 3) 87 3 [(0, .ref r0), (1, .ref r1), (2, .int x2), (3, .int x3), (4, .int x4), (5, .int x5)] [] s Q) (fun x5 ih s h0 h1 J => pg_87_3 (d := d + 2) (And.intro (fun f1 => (zs_87_32 (d := d) (r0 := r0) (r1 := r1) (x3 := x3) (x5 := x4) (x6 := x2)  h0 h1 J k )) (fun f1 => (ps_nk_i (h0).1 (zs_183 (za_4_4 h0) J (fun s1 J1 e1 => (ih ((x5 + 1)) (xs_lt f1) s1 h0 h1 J1))))))) x5 s h0 h1 J

theorem zs_87 {C : Nat → Prop} {m s : ps_S} {t : Int32} {d : Nat} {r0 : Nat} {r1 : Nat} {x2 : Int32} {x3 : Int32} {x4 : Int32} {f : Int32 → ps_S → Prop} (h0 : zI C r0 4) (h1 : ps_is r1 5 = true) (J : zJ C m t s) (k : ∀ (v : Int32) (s' : ps_S), v &&& 1 = v → zJ C m t s' → f v s') : ps_Cl (d + 3) 87 [.ref r0, .ref r1, .int x2, .int x3, .int x4] s (ps_rI f) :=
  pg_87_0 (d := d + 2) (zs_87_3 (d := d) (r0 := r0) (r1 := r1) (x2 := x2) (x3 := x3) (x4 := x4) (x5 := 0)  h0 h1 J k )

theorem zs_89_23 {C : Nat → Prop} {m s : ps_S} {t : Int32} {d : Nat} {r0 : Nat} {r1 : Nat} {x3 : Int32} {x4 : Int32} {Q : Option Value → ps_S → Prop} (h0 : zI C r0 4) (h1 : ps_is r1 5 = true) (J : zJ C m t s) (k : ∀ (s' : ps_S), zJ C m t s' → Q none s') : ps_At (d + 2) 89 23 [(0, .ref r0), (1, .ref r1), (3, .int x3), (4, .int x4)] [] s Q :=
  xs_up (P := fun x4 => ∀ (s : ps_S), zI C r0 4 → ps_is r1 5 = true → zJ C m t s → ps_At (d + 2) 89 23 [(0, .ref r0), (1, .ref r1), (3, .int x3), (4, .int x4)] [] s Q) (fun x4 ih s h0 h1 J => pg_89_23 (d := d + 1) (ps_nk_i h1 (And.intro (fun f1 => (ps_nk_i (h0).1 (ps_nk_i (h0).1 (ps_nk_i (h0).1 (ps_nk_i (xk_4_2 (h0).1) (xs_104 (xk_4_2 (h0).1) (J).1 (fun v1 => (ps_nk_i (h0).1 (ps_nk_i (xk_4_0 (h0).1) (ps_nk_i (xk_4_1 (h0).1) (zs_94 (zo_4_1 h0) (xk_4_0 (h0).1) J (fun s2 J2 => (k s2 J2))))))))))))) (fun f1 => (ps_nk_i h1 (xs_92 h1 (J).1 (fun v3 => (xs_185  (J).1 (fun v4 b4 => (And.intro (fun f2 => (ps_nk_i (h0).1 (ps_nk_i (xk_4_1 (h0).1) (zs_93 (zo_4_1 h0) J (fun s5 J5 => (ih ((x4 + 1)) (xs_lt f1) s5 h0 h1 J5)))))) (fun f2 => (ps_nk_i (h0).1 (ps_nk_i (h0).1 (ps_nk_i (h0).1 (xs_182 (xk_4_4 (h0).1) (J).1 (fun v6 => (ps_nk_i (h0).1 (xs_182 (xk_4_5 (h0).1) (J).1 (fun v7 => (ps_nk_i (xk_4_1 (h0).1) (zs_94 (zo_4_1 h0) (xk_4_0 (h0).1) J (fun s8 J8 => (ih ((x4 + 1)) (xs_lt f1) s8 h0 h1 J8))))))))))))))))))))))) x4 s h0 h1 J

theorem zs_89 {C : Nat → Prop} {m s : ps_S} {t : Int32} {d : Nat} {r0 : Nat} {r1 : Nat} {x2 : Int32} {x3 : Int32} {f : ps_S → Prop} (h0 : zI C r0 4) (h1 : ps_is r1 5 = true) (J : zJ C m t s) (k : ∀ (s' : ps_S), zJ C m t s' → f s') : ps_Cl (d + 2) 89 [.ref r0, .ref r1, .int x2, .int x3] s (ps_rV f) :=
  pg_89_0 (d := d + 1) (ps_nk_i (h0).1 (ps_nk_i (xk_4_1 (h0).1) (zs_91 (zo_4_1 h0) J (fun s1 J1 => (ps_nk_i (h0).1 (ps_nk_i (h0).1 (ps_nk_i (xk_4_1 (h0).1) (zs_94 (zo_4_1 h0) (xk_4_0 (h0).1) J1 (fun s2 J2 => (zs_89_23 (d := d) (r0 := r0) (r1 := r1) (x3 := x3) (x4 := x2)  h0 h1 J2 k ))))))))))

theorem zs_86_15 {C : Nat → Prop} {m s : ps_S} {t : Int32} {d : Nat} {r0 : Nat} {r1 : Nat} {x2 : Int32} {x3 : Int32} {Q : Option Value → ps_S → Prop} (h0 : zI C r0 4) (h1 : ps_is r1 9 = true) (J : zJ C m t s) (k : ∀ (v : Int32) (s' : ps_S), v &&& 1 = v → zJ C m t s' → Q (some (.int v)) s') (K2 : ∀ (s : ps_S), zI C r0 4 → ps_is r1 9 = true → zJ C m t s → ps_At (d + 4) 86 2 [(0, .ref r0), (1, .ref r1), (2, .int (x2 + 1))] [] s Q) : ps_At (d + 4) 86 15 [(0, .ref r0), (1, .ref r1), (2, .int x2), (3, .int x3)] [] s Q :=
  xs_up (P := fun x3 => ∀ (s : ps_S), zI C r0 4 → ps_is r1 9 = true → zJ C m t s → ps_At (d + 4) 86 15 [(0, .ref r0), (1, .ref r1), (2, .int x2), (3, .int x3)] [] s Q) (fun x3 ih s h0 h1 J => pg_86_15 (d := d + 3) (ps_nk_i h1 (And.intro (fun f1 => (K2 s h0 h1 J)) (fun f1 => (ps_nk_i (h0).1 (ps_nk_i (xk_4_0 (h0).1) (xs_92 (xk_4_0 (h0).1) (J).1 (fun v1 => (xs_186  (J).1 (fun v2 b2 => (And.intro (fun f2 => (K2 s h0 h1 J)) (fun f2 => (ps_nk_i (h0).1 (xs_182 (xk_4_7 (h0).1) (J).1 (fun v3 => (And.intro (fun f3 => (ih ((x3 + 1)) (xs_lt f1) s h0 h1 J)) (fun f3 => (ps_nk_i h1 (xs_135 h1 (J).1 (fun v4 g4 => (ps_nk_i (h0).1 (xs_182 (xk_4_6 (h0).1) (J).1 (fun v5 => (ps_nk_i (h0).1 (zs_87 h0 g4 J (fun v6 s6 b6 J6 => (And.intro (fun f4 => (ih ((x3 + 1)) (xs_lt f1) s6 h0 h1 J6)) (fun f4 => (ps_nk_i h1 (xs_135 h1 (J6).1 (fun v7 g7 => (ps_nk_i (h0).1 (zs_89 h0 g7 J6 (fun s8 J8 => (k 1 s8 (by decide) J8))))))))))))))))))))))))))))))))))) x3 s h0 h1 J

theorem zs_86_2 {C : Nat → Prop} {m s : ps_S} {t : Int32} {d : Nat} {r0 : Nat} {r1 : Nat} {x2 : Int32} {Q : Option Value → ps_S → Prop} (h0 : zI C r0 4) (h1 : ps_is r1 9 = true) (J : zJ C m t s) (k : ∀ (v : Int32) (s' : ps_S), v &&& 1 = v → zJ C m t s' → Q (some (.int v)) s') : ps_At (d + 4) 86 2 [(0, .ref r0), (1, .ref r1), (2, .int x2)] [] s Q :=
  xs_up (P := fun x2 => ∀ (s : ps_S), zI C r0 4 → ps_is r1 9 = true → zJ C m t s → ps_At (d + 4) 86 2 [(0, .ref r0), (1, .ref r1), (2, .int x2)] [] s Q) (fun x2 ih s h0 h1 J => pg_86_2 (d := d + 3) (ps_nk_i (h0).1 (ps_nk_i (xk_4_0 (h0).1) (And.intro (fun f1 => (k 0 s (by decide) J)) (fun f1 => (zs_86_15 (d := d) (r0 := r0) (r1 := r1) (x2 := x2) (x3 := 0)  h0 h1 J k (fun s9 h0z h1z J9 => ih (x2 + 1) (xs_lt f1) s9 h0z h1z J9))))))) x2 s h0 h1 J

theorem zs_86 {C : Nat → Prop} {m s : ps_S} {t : Int32} {d : Nat} {r0 : Nat} {r1 : Nat} {f : Int32 → ps_S → Prop} (h0 : zI C r0 4) (h1 : ps_is r1 9 = true) (J : zJ C m t s) (k : ∀ (v : Int32) (s' : ps_S), v &&& 1 = v → zJ C m t s' → f v s') : ps_Cl (d + 4) 86 [.ref r0, .ref r1] s (ps_rI f) :=
  pg_86_0 (d := d + 3) (zs_86_2 (d := d) (r0 := r0) (r1 := r1) (x2 := 0)  h0 h1 J k )

theorem zs_85_87 {C : Nat → Prop} {m s : ps_S} {t : Int32} {d : Nat} {r0 : Nat} {Q : Option Value → ps_S → Prop} (h0 : zI C r0 4) (J : zJ C m t s) (k : ∀ (v : Int32) (s' : ps_S), zJ C m t s' → Q (some (.int v)) s') : ps_At (d + 5) 85 87 [(0, .ref r0)] [] s Q :=
  pg_85_87 (d := d + 4) (ps_nk_i (h0).1 (ps_nk_i (xk_4_0 (h0).1) (zs_91 (zo_4_0 h0) J (fun s1 J1 => (k (-2) s1 J1)))))

theorem zs_85_19 {C : Nat → Prop} {m s : ps_S} {t : Int32} {d : Nat} {r0 : Nat} {r1 : Nat} {x2 : Int32} {Q : Option Value → ps_S → Prop} (h0 : zI C r0 4) (h1 : ps_is r1 9 = true) (J : zJ C m t s) (k : ∀ (v : Int32) (s' : ps_S), zJ C m t s' → Q (some (.int v)) s') : ps_At (d + 5) 85 19 [(0, .ref r0), (1, .ref r1), (2, .int x2)] [] s Q :=
  xs_up (P := fun x2 => ∀ (s : ps_S), zI C r0 4 → ps_is r1 9 = true → zJ C m t s → ps_At (d + 5) 85 19 [(0, .ref r0), (1, .ref r1), (2, .int x2)] [] s Q) (fun x2 ih s h0 h1 J => pg_85_19 (d := d + 4) (And.intro (fun f1 => (zs_85_87 (d := d) (r0 := r0)  h0 J k )) (fun f1 => (ps_nk_i (h0).1 (zs_86 h0 h1 J (fun v1 s1 b1 J1 => (And.intro (fun f2 => (ps_nk_i (h0).1 (ps_nk_i (h0).1 (ps_nk_i (xk_4_0 (h0).1) (zs_95 (zo_4_0 h0) (xk_4_1 (h0).1) J1 (fun s2 J2 => (ps_nk_i (h0).1 (ps_nk_i (h0).1 (ps_nk_i (xk_4_2 (h0).1) (zs_103 (zo_4_2 h0) (xk_4_0 (h0).1) h1 J2 (fun s3 J3 => (ps_nk_i (h0).1 (ps_nk_i (xk_4_1 (h0).1) (And.intro (fun f3 => (zs_85_87 (d := d) (r0 := r0)  h0 J3 k )) (fun f3 => (ps_nk_i (h0).1 (ps_nk_i (xk_4_2 (h0).1) (xs_106 (xk_4_2 (h0).1) (J3).1 (fun v4 b4 => (And.intro (fun f4 => (ih ((x2 + 1)) (xs_le f1 (by decide)) s3 h0 h1 J3)) (fun f4 => (zs_85_87 (d := d) (r0 := r0)  h0 J3 k )))))))))))))))))))))) (fun f2 => (k x2 s1 J1))))))))) x2 s h0 h1 J

theorem zs_85 {C : Nat → Prop} {m s : ps_S} {t : Int32} {d : Nat} {r0 : Nat} {r1 : Nat} {f : Int32 → ps_S → Prop} (h0 : zI C r0 4) (h1 : ps_is r1 9 = true) (J : zJ C m t s) (k : ∀ (v : Int32) (s' : ps_S), zJ C m t s' → f v s') : ps_Cl (d + 5) 85 [.ref r0, .ref r1] s (ps_rI f) :=
  pg_85_0 (d := d + 4) (ps_nk_i (h0).1 (zs_83 h0 h1 J (fun s1 J1 => (ps_nk_i (h0).1 (ps_nk_i (h0).1 (ps_nk_i (xk_4_2 (h0).1) (zs_103 (zo_4_2 h0) (xk_4_0 (h0).1) h1 J1 (fun s2 J2 => (zs_85_19 (d := d) (r0 := r0) (r1 := r1) (x2 := 0)  h0 h1 J2 k )))))))))

theorem zs_112_10 {C : Nat → Prop} {m s : ps_S} {t : Int32} {d : Nat} {r0 : Nat} {r1 : Nat} {x2 : Int32} {Q : Option Value → ps_S → Prop} (h0 : zI C r0 7) (h1 : ps_is r1 7 = true) (J : zJ C m t s) (k : ∀ (s' : ps_S), zJ C m t s' → Q none s') : ps_At (d + 3) 112 10 [(0, .ref r0), (1, .ref r1), (2, .int x2)] [] s Q :=
  xs_up (P := fun x2 => ∀ (s : ps_S), zI C r0 7 → ps_is r1 7 = true → zJ C m t s → ps_At (d + 3) 112 10 [(0, .ref r0), (1, .ref r1), (2, .int x2)] [] s Q) (fun x2 ih s h0 h1 J => pg_112_10 (d := d + 2) (ps_nk_i (h0).1 (And.intro (fun f1 => (k s J)) (fun f1 => (ps_nk_i (h0).1 (zs_110 h0 J (fun v1 g1 => (ps_nk_i h1 (xs_110 h1 (J).1 (fun v2 g2 => (ps_nk_i (g1).1 (zs_95 g1 g2 J (fun s3 J3 => (ps_nk_i (h0).1 (ps_nk_i h1 (xs_182 (xk_7_2 h1) (J3).1 (fun v4 => (zs_183 (za_7_2 h0) J3 (fun s5 J5 e5 => (ps_nk_i (h0).1 (ps_nk_i h1 (xs_182 (xk_7_3 h1) (J5).1 (fun v6 => (zs_183 (za_7_3 h0) J5 (fun s7 J7 e7 => (ps_nk_i (h0).1 (ps_nk_i h1 (xs_182 (xk_7_4 h1) (J7).1 (fun v8 => (zs_183 (za_7_4 h0) J7 (fun s9 J9 e9 => (ih ((x2 + 1)) (xs_lt f1) s9 h0 h1 J9)))))))))))))))))))))))))))))))) x2 s h0 h1 J

theorem zs_112 {C : Nat → Prop} {m s : ps_S} {t : Int32} {d : Nat} {r0 : Nat} {r1 : Nat} {f : ps_S → Prop} (h0 : zI C r0 7) (h1 : ps_is r1 7 = true) (J : zJ C m t s) (k : ∀ (s' : ps_S), zJ C m t s' → f s') : ps_Cl (d + 3) 112 [.ref r0, .ref r1] s (ps_rV f) :=
  pg_112_0 (d := d + 2) (ps_nk_i h1 (ps_nk_i (h0).1 (zs_112_10 (d := d) (r0 := r0) (r1 := r1) (x2 := 0)  h0 h1 (zw_i (c := 7) (by decide) h0 J) k )))

theorem zs_153 {C : Nat → Prop} {m s : ps_S} {t : Int32} {d : Nat} {f : Int32 → ps_S → Prop} (H0 : C 0) (HP : ∀ r, ps_is r 2 = true → zI C r 2) (q902 : zI C 902 3) (J : zJ C m t s) (k : ∀ (v : Int32) (s' : ps_S), zJ C m 0 s' → f v s') : ps_Cl (d + 40) 153 [.ref 0] s (ps_rI f) :=
  pg_153_0 (d := d + 39) (zs_59 q902 (xq_a (r := 1) (t := 1) rfl rfl) (xj_11_2 (J).1 (rfl : ps_is 0 11 = true)) (HP _ (xj_11_5 (J).1 (rfl : ps_is 0 11 = true))) J (fun v1 s1 b1 J1 => (And.intro (fun f1 => (ps_nk_i (xj_11_4 ((zw_r0 H0 (xw_11_5 (rfl : ps_is 0 11 = true) (xj_11_4 ((zw_tape H0 J1)).1 (rfl : ps_is 0 11 = true)) ((zw_r0 H0 (xw_11_4 (rfl : ps_is 0 11 = true) (xj_11_5 ((zw_tape H0 J1)).1 (rfl : ps_is 0 11 = true)) ((zw_tape H0 J1)).1) (zw_tape H0 J1))).1) (zw_r0 H0 (xw_11_4 (rfl : ps_is 0 11 = true) (xj_11_5 ((zw_tape H0 J1)).1 (rfl : ps_is 0 11 = true)) ((zw_tape H0 J1)).1) (zw_tape H0 J1)))).1 (rfl : ps_is 0 11 = true)) (zs_34 (HP _ (xj_11_4 ((zw_r0 H0 (xw_11_5 (rfl : ps_is 0 11 = true) (xj_11_4 ((zw_tape H0 J1)).1 (rfl : ps_is 0 11 = true)) ((zw_r0 H0 (xw_11_4 (rfl : ps_is 0 11 = true) (xj_11_5 ((zw_tape H0 J1)).1 (rfl : ps_is 0 11 = true)) ((zw_tape H0 J1)).1) (zw_tape H0 J1))).1) (zw_r0 H0 (xw_11_4 (rfl : ps_is 0 11 = true) (xj_11_5 ((zw_tape H0 J1)).1 (rfl : ps_is 0 11 = true)) ((zw_tape H0 J1)).1) (zw_tape H0 J1)))).1 (rfl : ps_is 0 11 = true))) (xj_11_2 ((zw_r0 H0 (xw_11_5 (rfl : ps_is 0 11 = true) (xj_11_4 ((zw_tape H0 J1)).1 (rfl : ps_is 0 11 = true)) ((zw_r0 H0 (xw_11_4 (rfl : ps_is 0 11 = true) (xj_11_5 ((zw_tape H0 J1)).1 (rfl : ps_is 0 11 = true)) ((zw_tape H0 J1)).1) (zw_tape H0 J1))).1) (zw_r0 H0 (xw_11_4 (rfl : ps_is 0 11 = true) (xj_11_5 ((zw_tape H0 J1)).1 (rfl : ps_is 0 11 = true)) ((zw_tape H0 J1)).1) (zw_tape H0 J1)))).1 (rfl : ps_is 0 11 = true)) (rfl : ps_is 870 7 = true) (zw_r0 H0 (xw_11_5 (rfl : ps_is 0 11 = true) (xj_11_4 ((zw_tape H0 J1)).1 (rfl : ps_is 0 11 = true)) ((zw_r0 H0 (xw_11_4 (rfl : ps_is 0 11 = true) (xj_11_5 ((zw_tape H0 J1)).1 (rfl : ps_is 0 11 = true)) ((zw_tape H0 J1)).1) (zw_tape H0 J1))).1) (zw_r0 H0 (xw_11_4 (rfl : ps_is 0 11 = true) (xj_11_5 ((zw_tape H0 J1)).1 (rfl : ps_is 0 11 = true)) ((zw_tape H0 J1)).1) (zw_tape H0 J1))) (fun s2 J2 => (ps_nk_i (xj_11_4 (J2).1 (rfl : ps_is 0 11 = true)) (k (ps_i s2 (ps_r s2 0 4) 8) s2 J2)))))) (fun f1 => (k (-1) (ps_ui s1 0 1 0) (zw_tape H0 J1))))))

theorem zs_161 {C : Nat → Prop} {m s : ps_S} {t : Int32} {d : Nat} {f : Int32 → ps_S → Prop} (H0 : C 0) (HP : ∀ r, ps_is r 2 = true → zI C r 2) (q870 : zI C 870 7) (J : zJ C m t s) (k : ∀ (v : Int32) (s' : ps_S), zJ C m t s' → f v s') : ps_Cl (d + 1) 161 [.ref 0] s (ps_rI f) :=
  pg_161_0 (d := d) (And.intro (fun f1 => (ps_nk_i (xj_11_4 ((zw_i (c := 7) (by decide) q870 J)).1 (rfl : ps_is 0 11 = true)) (zs_31 (HP _ (xj_11_4 ((zw_i (c := 7) (by decide) q870 J)).1 (rfl : ps_is 0 11 = true))) (zw_i (c := 7) (by decide) q870 J) (fun s1 J1 => (k (ps_i s1 870 5) s1 J1))))) (fun f1 => (k (-1) s J)))

theorem zs_162 {C : Nat → Prop} {m s : ps_S} {t : Int32} {d : Nat} {f : Int32 → ps_S → Prop} (H0 : C 0) (q902 : zI C 902 3) (q934 : zI C 934 5) (J : zJ C m t s) (k : ∀ (v : Int32) (s' : ps_S), zJ C m 0 s' → f v s') : ps_Cl (d + 39) 162 [.ref 0] s (ps_rI f) :=
  pg_162_0 (d := d + 38) (zs_60 q902 (xq_a (r := 1) (t := 1) rfl rfl) (xj_11_2 (J).1 (rfl : ps_is 0 11 = true)) q934 J (fun v1 s1 b1 J1 => (And.intro (fun f1 => (k (ps_i (ps_ui s1 0 1 0) 934 1) (ps_ui s1 0 1 0) (zw_tape H0 J1))) (fun f1 => (zs_91 q934 (zw_tape H0 J1) (fun s2 J2 => (k (-1) s2 J2)))))))

theorem zs_169 {C : Nat → Prop} {m s : ps_S} {t : Int32} {d : Nat} {f : Int32 → ps_S → Prop} (H0 : C 0) (q902 : zI C 902 3) (q1021 : zI C 1021 4) (J : zJ C m t s) (k : ∀ (v : Int32) (s' : ps_S), zJ C m 0 s' → f v s') : ps_Cl (d + 39) 169 [.ref 0] s (ps_rI f) :=
  pg_169_0 (d := d + 38) (zs_60 q902 (xq_a (r := 1) (t := 1) rfl rfl) (xj_11_2 (J).1 (rfl : ps_is 0 11 = true)) (zo_4_0 q1021) J (fun v1 s1 b1 J1 => (And.intro (fun f1 => (zs_85 q1021 (xj_11_2 ((zw_tape H0 J1)).1 (rfl : ps_is 0 11 = true)) (zw_tape H0 J1) (fun v2 s2 J2 => (k v2 s2 J2)))) (fun f1 => (zs_81 q1021 (zw_tape H0 J1) (fun s3 J3 => (k (-1) s3 J3)))))))

theorem zs_176 {C : Nat → Prop} {m s : ps_S} {t : Int32} {d : Nat} {x1 : Int32} {f : Int32 → ps_S → Prop} (H0 : C 0) (HS : ∀ r, ps_is r 7 = true → zI C r 7) (J : zJ C m t s) (k : ∀ (v : Int32) (s' : ps_S), zJ C m t s' → f v s') : ps_Cl (d + 4) 176 [.ref 0, .int x1] s (ps_rI f) :=
  pg_176_0 (d := d + 3) (And.intro (fun f1 => (k (-1) s J)) (fun f1 => (And.intro (fun f2 => (xs_180  (J).1 (fun v1 g1 => (ps_nk_i g1 (zs_112 (HS _ g1) (rfl : ps_is 870 7 = true) J (fun s2 J2 => (xs_180  (J2).1 (fun v3 g3 => (ps_nk_i g3 (k (ps_i (ps_ui s2 v3 6 1) 870 5) (ps_ui s2 v3 6 1) (zw_i (c := 7) (by decide) (HS _ g3) J2))))))))))) (fun f2 => (k (-1) s J)))))

theorem zs_177 {C : Nat → Prop} {m s : ps_S} {t : Int32} {d : Nat} {x1 : Int32} {f : Int32 → ps_S → Prop} (H0 : C 0) (HP : ∀ r, ps_is r 2 = true → zI C r 2) (q870 : zI C 870 7) (J : zJ C m t s) (k : ∀ (v : Int32) (s' : ps_S), zJ C m t s' → f v s') : ps_Cl (d + 4) 177 [.ref 0, .int x1] s (ps_rI f) :=
  pg_177_0 (d := d + 3) (And.intro (fun f1 => (k (-1) s J)) (fun f1 => (And.intro (fun f2 => (k (-1) s J)) (fun f2 => (xs_180  (J).1 (fun v1 g1 => (ps_nk_i g1 (And.intro (fun f3 => (xs_180  (J).1 (fun v2 g2 => (zs_112 q870 g2 J (fun s3 J3 => (ps_nk_i (xj_11_4 (J3).1 (rfl : ps_is 0 11 = true)) (zs_31 (HP _ (xj_11_4 (J3).1 (rfl : ps_is 0 11 = true))) J3 (fun s4 J4 => (k (ps_i s4 870 5) s4 J4))))))))) (fun f3 => (k (-1) s J))))))))))
end
section
set_option maxRecDepth 100000
theorem mw_240_54 {x : Nat → Nat → Nat} {t : Int32} {d : Nat} {s0 : ps_S} {σ : mSig} {gv : Nat → Int32} {Q : Option Value → ps_S → Prop} (k : ∀ (v : Int32) (s' : ps_S), mJ x t s' → kp [1133, 1134, 1143, 1144, 1145, 1146, 1147, 1148, 1149, 1150, 1151, 1152, 1153, 1154, 1155, 1156, 1157, 1158, 1159, 1160] [3, 4, 5, 6, 7, 8, 9, 10, 11, 22, 23, 29, 30, 31, 32, 34, 42, 47, 48, 49, 50, 51] s0 s' → (MI σ (ps_a s' 1134) (ps_a s' 1135) (ps_a s' 1136) (ps_a s' 1137) (ps_a s' 1138) (ps_a s' 1139) (ps_a s' 1157) (ps_a s' 1176) (ps_i s' 1131 21).toInt (ps_i s' 1131 47).toInt (ps_i s' 1131 54).toInt) → ((ps_i s' 1131 3).toInt = 0) → (∀ k : Nat, (21320 ≤ k ∧ k < 22468) ∨ 25748 ≤ k → ps_a s' 1134 k = gv k) → Q (some (.int v)) s') : ∀ (n : Nat) (s : ps_S), (mJ x t s) → (kp [1133, 1134, 1143, 1144, 1145, 1146, 1147, 1148, 1149, 1150, 1151, 1152, 1153, 1154, 1155, 1156, 1157, 1158, 1159, 1160] [3, 4, 5, 6, 7, 8, 9, 10, 11, 22, 23, 29, 30, 31, 32, 34, 42, 47, 48, 49, 50, 51] s0 s) → (MI σ (ps_a s 1134) (ps_a s 1135) (ps_a s 1136) (ps_a s 1137) (ps_a s 1138) (ps_a s 1139) (ps_a s 1157) (ps_a s 1176) (ps_i s 1131 21).toInt (ps_i s 1131 47).toInt (ps_i s 1131 54).toInt) → (SRs σ (ps_a s 1134) (ps_a s 1152) (ps_a s 1153) (ps_a s 1137 (Int32.toNatClampNeg (ps_i s 1131 21))).toInt (ps_i s 1131 42).toInt) → (0 ≤ (ps_i s 1131 47).toInt) → ((ps_i s 1131 47).toInt ≤ (ps_i s 1131 42).toInt) → ((ps_i s 1131 3).toInt = 0) → (∀ k : Nat, (21320 ≤ k ∧ k < 22468) ∨ 25748 ≤ k → ps_a s 1134 k = gv k) → 2 * (50 - (ps_i s 1131 47).toInt) - (ps_i s 1131 48).toInt ≤ (n : Int) → ps_At (d + 7) 240 54 [(0, .ref 1131)] [] s Q := by
  refine xstr (fun n ih => ?_)
  intro s J K hMI hRD i2 i3 i4 hV hm
  have r1 := mf_47 J
  have r2 := mf_42 J
  have r3 := mf_3 J
  have r4 := mf_48 J
  refine pg_240_54 (d := d + 6) ?_
  refine And.intro (fun h5 => ?_) (fun h5 => ?_)
  · have f6 : (ps_i s 1131 42).toInt ≤ (ps_i s 1131 47).toInt := xle h5
    exact k (ps_i s 1131 47) _ J K hMI (show (ps_i s 1131 3).toInt = 0 from by omega) hV
  · have f7 : (ps_i s 1131 47).toInt < (ps_i s 1131 42).toInt := xlt h5
    refine And.intro (fun h8 => ?_) (fun h8 => ?_)
    · have f9 : (0 : Int) ≤ (ps_i s 1131 48).toInt := xle h8
      exact k (ps_i s 1131 47) _ J K hMI (show (ps_i s 1131 3).toInt = 0 from by omega) hV
    · have f10 : (ps_i s 1131 48).toInt < (0 : Int) := xlt h8
      have b21 := mf_21 J
      have h7 := ma_1137 (i := (ps_i s 1131 21)) J (by omega) (by omega)
      have h54 := mf_54 J
      have hS := MI_S hMI
      have hP := MI_P hMI
      have hB := SR_SB hMI hRD (by omega) (by omega) rfl h7.2 h54.2
      have hM0 : MI σ (ps_a s 1134) (ps_a s 1135) (ps_a s 1136) (ps_a s 1137) (ps_a s 1138) (ps_a s 1139) (ps_a s 1157) (ps_a s 1176) (ps_i s 1131 21).toInt (ps_i s 1131 47).toInt (ps_i s 1131 54).toInt := hMI
      have hR0 : SRs σ (ps_a s 1134) (ps_a s 1152) (ps_a s 1153) (ps_a s 1137 (Int32.toNatClampNeg (ps_i s 1131 21))).toInt (ps_i s 1131 42).toInt := hRD
      have hV0 : ∀ k : Nat, (21320 ≤ k ∧ k < 22468) ∨ 25748 ≤ k → ps_a s 1134 k = gv k := hV
      refine ms_252 J (hS) (hP) (hB) (show 0 ≤ (ps_i s 1131 47).toInt from by omega) (show (ps_i s 1131 47).toInt < 40 from by omega) (fun s11 J11 K11 p11_0 p11_1 p11_2 => ?_)
      have K12 := kpt K K11 rfl rfl
      have KC := K11
      have hM0 : MI σ (ps_a s 1134) (ps_a s11 1135) (ps_a s11 1136) (ps_a s11 1137) (ps_a s11 1138) (ps_a s11 1139) (ps_a s 1157) (ps_a s11 1176) (ps_i s11 1131 21).toInt (ps_i s11 1131 47).toInt (ps_i s11 1131 54).toInt := by rw [show ps_a s11 1135 = ps_a s 1135 from (K11.2 1135 rfl).1, show ps_a s11 1136 = ps_a s 1136 from (K11.2 1136 rfl).1, show ps_a s11 1137 = ps_a s 1137 from (K11.2 1137 rfl).1, show ps_a s11 1138 = ps_a s 1138 from (K11.2 1138 rfl).1, show ps_a s11 1139 = ps_a s 1139 from (K11.2 1139 rfl).1, show ps_a s11 1176 = ps_a s 1176 from (K11.2 1176 rfl).1, show ps_i s11 1131 21 = ps_i s 1131 21 from kp_i K11 21 rfl, show ps_i s11 1131 47 = ps_i s 1131 47 from kp_i K11 47 rfl, show ps_i s11 1131 54 = ps_i s 1131 54 from kp_i K11 54 rfl]; exact hM0
      have hR0 : SRs σ (ps_a s 1134) (ps_a s11 1152) (ps_a s11 1153) (ps_a s11 1137 (Int32.toNatClampNeg (ps_i s11 1131 21))).toInt (ps_i s11 1131 42).toInt := by rw [show ps_a s11 1152 = ps_a s 1152 from (K11.2 1152 rfl).1, show ps_a s11 1153 = ps_a s 1153 from (K11.2 1153 rfl).1, show ps_a s11 1137 = ps_a s 1137 from (K11.2 1137 rfl).1, show ps_i s11 1131 21 = ps_i s 1131 21 from kp_i K11 21 rfl, show ps_i s11 1131 42 = ps_i s 1131 42 from kp_i K11 42 rfl]; exact hR0
      have hP1 : _ := p11_0
      have hP2 : _ := p11_1
      have ho : _ := p11_2
      have r13 := mf_50 J11
      refine And.intro (fun h14 => ?_) (fun h14 => ?_)
      · have f15 : (ps_i s11 1131 50).toInt ≠ (0 : Int) := xne h14
        have r16 := mf_47 J11
        have u17 : (ps_i s11 1131 47).toInt = (ps_i s 1131 47).toInt := xeq (kp_i K11 47 rfl)
        have J18 := mwi_48 (v := (ps_i s11 1131 47)) J11 (show -1 ≤ (ps_i s11 1131 47).toInt from by omega) (show (ps_i s11 1131 47).toInt ≤ 40 from by omega)
        have K19 := kpi K12 (q := 48) (v := (ps_i s11 1131 47)) rfl
        have J20 := mwi_n 49 (v := (ps_i s11 1131 50)) J18 rfl
        have K21 := kpi K19 (q := 49) (v := (ps_i s11 1131 50)) rfl
        have r22 := mf_42 J11
        have u23 : (ps_i s11 1131 42).toInt = (ps_i s 1131 42).toInt := xeq (kp_i K11 42 rfl)
        have r24 := mf_3 J11
        have u25 : (ps_i s11 1131 3).toInt = (ps_i s 1131 3).toInt := xeq (kp_i K11 3 rfl)
        exact ih (n - 1) (show n - 1 < n from by omega)  _ J20 K21 (MI_take hM0 (fun k hk => ho k hk) (PSt_le hP1 (show (ps_i s11 1131 47).toInt ≤ (ps_i s 1131 47).toInt from by omega))) (SRs_ho hR0 (fun k hk => ho k hk)) (show 0 ≤ (ps_i s11 1131 47).toInt from by omega) (show (ps_i s11 1131 47).toInt ≤ (ps_i s11 1131 42).toInt from by omega) (show (ps_i s11 1131 3).toInt = 0 from by omega) (fun k hk => (ho k (by omega)).trans (hV0 k hk)) (show 2 * (50 - (ps_i s11 1131 47).toInt) - (ps_i s11 1131 47).toInt ≤ ((n - 1 : Nat) : Int) from by omega)
      · have f26 : (ps_i s11 1131 50).toInt = (0 : Int) := xeq h14
        have r27 := mf_47 J11
        have u28 : (ps_i s11 1131 47).toInt = (ps_i s 1131 47).toInt := xeq (kp_i K11 47 rfl)
        have a29 : ((ps_i s11 1131 47) + 1).toInt = (ps_i s11 1131 47).toInt + (1 : Int) := xIa (show -2147483648 ≤ (ps_i s11 1131 47).toInt + (1 : Int) from by omega) (show (ps_i s11 1131 47).toInt + (1 : Int) < 2147483648 from by omega)
        have J30 := mwi_47 (v := ((ps_i s11 1131 47) + 1)) J11 (show 0 ≤ ((ps_i s11 1131 47) + 1).toInt from by omega) (show ((ps_i s11 1131 47) + 1).toInt ≤ 40 from by omega)
        have K31 := kpi K12 (q := 47) (v := ((ps_i s11 1131 47) + 1)) rfl
        have r32 := mf_42 J11
        have u33 : (ps_i s11 1131 42).toInt = (ps_i s 1131 42).toInt := xeq (kp_i K11 42 rfl)
        have r34 := mf_3 J11
        have u35 : (ps_i s11 1131 3).toInt = (ps_i s 1131 3).toInt := xeq (kp_i K11 3 rfl)
        have r36 := mf_48 J11
        have u37 : (ps_i s11 1131 48).toInt = (ps_i s 1131 48).toInt := xeq (kp_i K11 48 rfl)
        exact ih (n - 1) (show n - 1 < n from by omega)  _ J30 K31 (MI_take hM0 (fun k hk => ho k hk) (PSt_le (hP2 (by omega)) (show ((ps_i s11 1131 47) + 1).toInt ≤ (ps_i s 1131 47).toInt + 1 from by omega))) (SRs_ho hR0 (fun k hk => ho k hk)) (show 0 ≤ ((ps_i s11 1131 47) + 1).toInt from by omega) (show ((ps_i s11 1131 47) + 1).toInt ≤ (ps_i s11 1131 42).toInt from by omega) (show (ps_i s11 1131 3).toInt = 0 from by omega) (fun k hk => (ho k (by omega)).trans (hV0 k hk)) (show 2 * (50 - ((ps_i s11 1131 47) + 1).toInt) - (ps_i s11 1131 48).toInt ≤ ((n - 1 : Nat) : Int) from by omega)

theorem mw_240_30 {x : Nat → Nat → Nat} {t : Int32} {d : Nat} {s0 : ps_S} {σ : mSig} {gv : Nat → Int32} {Q : Option Value → ps_S → Prop} (k : ∀ (v : Int32) (s' : ps_S), mJ x t s' → kp [1133, 1134, 1143, 1144, 1145, 1146, 1147, 1148, 1149, 1150, 1151, 1152, 1153, 1154, 1155, 1156, 1157, 1158, 1159, 1160] [3, 4, 5, 6, 7, 8, 9, 10, 11, 22, 23, 29, 30, 31, 32, 34, 42, 47, 48, 49, 50, 51] s0 s' → (MI σ (ps_a s' 1134) (ps_a s' 1135) (ps_a s' 1136) (ps_a s' 1137) (ps_a s' 1138) (ps_a s' 1139) (ps_a s' 1157) (ps_a s' 1176) (ps_i s' 1131 21).toInt (ps_i s' 1131 47).toInt (ps_i s' 1131 54).toInt) → ((ps_i s' 1131 3).toInt = 0) → (∀ k : Nat, (21320 ≤ k ∧ k < 22468) ∨ 25748 ≤ k → ps_a s' 1134 k = gv k) → Q (some (.int v)) s') (s : ps_S) (J : mJ x t s) (K : kp [1133, 1134, 1143, 1144, 1145, 1146, 1147, 1148, 1149, 1150, 1151, 1152, 1153, 1154, 1155, 1156, 1157, 1158, 1159, 1160] [3, 4, 5, 6, 7, 8, 9, 10, 11, 22, 23, 29, 30, 31, 32, 34, 42, 47, 48, 49, 50, 51] s0 s) (hMI : MI σ (ps_a s 1134) (ps_a s 1135) (ps_a s 1136) (ps_a s 1137) (ps_a s 1138) (ps_a s 1139) (ps_a s 1157) (ps_a s 1176) (ps_i s 1131 21).toInt (ps_i s 1131 47).toInt (ps_i s 1131 54).toInt) (i1 : 1 ≤ (ps_i s 1131 5).toInt ∨ SRs σ (ps_a s 1134) (ps_a s 1152) (ps_a s 1153) (ps_a s 1137 (Int32.toNatClampNeg (ps_i s 1131 21))).toInt (ps_i s 1131 42).toInt) (i2 : (ps_i s 1131 3).toInt = 0) (hV : ∀ k : Nat, (21320 ≤ k ∧ k < 22468) ∨ 25748 ≤ k → ps_a s 1134 k = gv k) : ps_At (d + 7) 240 30 [(0, .ref 1131)] [] s Q := by
  have r1 := mf_3 J
  refine pg_240_30 (d := d + 6) ?_
  refine ms_192 J  (fun v2 p2_0 b2 => ?_)
  have p2_0' : (v2.toInt = 0 ∧ 1 ≤ (ps_i s 1131 5).toInt) ∨ (v2.toInt = 1 ∧ (ps_i s 1131 5).toInt = 0) := p2_0
  have r3 := mf_5 J
  refine And.intro (fun h4 => ?_) (fun h4 => ?_)
  · have f5 : v2.toInt ≠ (0 : Int) := xne h4
    have hRD := i1.resolve_left (by omega)
    have J6 := mwi_47 (v := (0 : Int32)) J (show 0 ≤ (0 : Int) from by omega) (show (0 : Int) ≤ 40 from by omega)
    have K7 := kpi K (q := 47) (v := (0 : Int32)) rfl
    have hMI : MI σ (ps_a (ps_ui s 1131 47 0) 1134) (ps_a (ps_ui s 1131 47 0) 1135) (ps_a (ps_ui s 1131 47 0) 1136) (ps_a (ps_ui s 1131 47 0) 1137) (ps_a (ps_ui s 1131 47 0) 1138) (ps_a (ps_ui s 1131 47 0) 1139) (ps_a (ps_ui s 1131 47 0) 1157) (ps_a (ps_ui s 1131 47 0) 1176) (ps_i (ps_ui s 1131 47 0) 1131 21).toInt (ps_i (ps_ui s 1131 47 0) 1131 47).toInt (ps_i (ps_ui s 1131 47 0) 1131 54).toInt := MI_st hMI (mf_47 J).1 (Int.le_refl _)
    have J8 := mwi_48 (v := (-1 : Int32)) J6 (show -1 ≤ (-1 : Int) from by omega) (show (-1 : Int) ≤ 40 from by omega)
    have K9 := kpi K7 (q := 48) (v := (-1 : Int32)) rfl
    have J10 := mwi_n 49 (v := (-1 : Int32)) J8 rfl
    have K11 := kpi K9 (q := 49) (v := (-1 : Int32)) rfl
    have r12 := mf_42 J
    exact mw_240_54 (σ := σ) (gv := gv) k  (2 * (50 - (0 : Int)) - (-1 : Int)).toNat  _ J10 K11 hMI hRD (show 0 ≤ (0 : Int) from by omega) (show (0 : Int) ≤ (ps_i s 1131 42).toInt from by omega) (show (ps_i s 1131 3).toInt = 0 from by omega) hV (show 2 * (50 - (0 : Int)) - (-1 : Int) ≤ (((2 * (50 - (0 : Int)) - (-1 : Int)).toNat : Nat) : Int) from by omega)
  · have f13 : v2.toInt = (0 : Int) := xeq h4
    exact k (-1 : Int32) _ J K hMI (show (ps_i s 1131 3).toInt = 0 from by omega) hV

theorem mw_240_9 {x : Nat → Nat → Nat} {t : Int32} {d : Nat} {s0 : ps_S} {σ : mSig} {gv : Nat → Int32} {Q : Option Value → ps_S → Prop} (k : ∀ (v : Int32) (s' : ps_S), mJ x t s' → kp [1133, 1134, 1143, 1144, 1145, 1146, 1147, 1148, 1149, 1150, 1151, 1152, 1153, 1154, 1155, 1156, 1157, 1158, 1159, 1160] [3, 4, 5, 6, 7, 8, 9, 10, 11, 22, 23, 29, 30, 31, 32, 34, 42, 47, 48, 49, 50, 51] s0 s' → (MI σ (ps_a s' 1134) (ps_a s' 1135) (ps_a s' 1136) (ps_a s' 1137) (ps_a s' 1138) (ps_a s' 1139) (ps_a s' 1157) (ps_a s' 1176) (ps_i s' 1131 21).toInt (ps_i s' 1131 47).toInt (ps_i s' 1131 54).toInt) → ((ps_i s' 1131 3).toInt = 0) → (∀ k : Nat, (21320 ≤ k ∧ k < 22468) ∨ 25748 ≤ k → ps_a s' 1134 k = gv k) → Q (some (.int v)) s') : ∀ (n : Nat) (s : ps_S), (mJ x t s) → (kp [1133, 1134, 1143, 1144, 1145, 1146, 1147, 1148, 1149, 1150, 1151, 1152, 1153, 1154, 1155, 1156, 1157, 1158, 1159, 1160] [3, 4, 5, 6, 7, 8, 9, 10, 11, 22, 23, 29, 30, 31, 32, 34, 42, 47, 48, 49, 50, 51] s0 s) → (MI σ (ps_a s 1134) (ps_a s 1135) (ps_a s 1136) (ps_a s 1137) (ps_a s 1138) (ps_a s 1139) (ps_a s 1157) (ps_a s 1176) (ps_i s 1131 21).toInt (ps_i s 1131 47).toInt (ps_i s 1131 54).toInt) → ((ps_i s 1131 8).toInt ≤ (ps_i s 1131 4).toInt) → ((ps_i s 1131 22).toInt = (ps_i s 1131 21).toInt) → (1 ≤ (ps_i s 1131 5).toInt ∨ SRs σ (ps_a s 1134) (ps_a s 1152) (ps_a s 1153) (ps_a s 1137 (Int32.toNatClampNeg (ps_i s 1131 21))).toInt (ps_i s 1131 42).toInt) → ((ps_i s 1131 47).toInt ≤ 40) → ((ps_i s 1131 3).toInt = 0) → (∀ k : Nat, (21320 ≤ k ∧ k < 22468) ∨ 25748 ≤ k → ps_a s 1134 k = gv k) → 2 * (41 - (ps_i s 1131 42).toInt) - (ps_i s 1131 5).toInt ≤ (n : Int) → ps_At (d + 7) 240 9 [(0, .ref 1131)] [] s Q := by
  refine xstr (fun n ih => ?_)
  intro s J K hMI i1 i2 i3 i4 i5 hV hm
  have r1 := mf_8 J
  have r2 := mf_4 J
  have r3 := mf_22 J
  have r4 := mf_21 J
  have r5 := mf_47 J
  have r6 := mf_3 J
  have r7 := mf_42 J
  have r8 := mf_5 J
  refine pg_240_9 (d := d + 6) ?_
  refine ms_192 J  (fun v9 p9_0 b9 => ?_)
  have p9_0' : (v9.toInt = 0 ∧ 1 ≤ (ps_i s 1131 5).toInt) ∨ (v9.toInt = 1 ∧ (ps_i s 1131 5).toInt = 0) := p9_0
  refine And.intro (fun h10 => ?_) (fun h10 => ?_)
  · have f11 : v9.toInt = (0 : Int) := xeq h10
    exact mw_240_30 (σ := σ) (gv := gv) k   _ J K hMI (by assumption) (show (ps_i s 1131 3).toInt = 0 from by omega) hV
  · have f12 : v9.toInt ≠ (0 : Int) := xne h10
    have r13 := mf_9 J
    refine And.intro (fun h14 => ?_) (fun h14 => ?_)
    · have f15 : (ps_i s 1131 9).toInt = (0 : Int) := xeq h14
      exact mw_240_30 (σ := σ) (gv := gv) k   _ J K hMI (by assumption) (show (ps_i s 1131 3).toInt = 0 from by omega) hV
    · have f16 : (ps_i s 1131 9).toInt ≠ (0 : Int) := xne h14
      have e21 : Int32.toNatClampNeg (ps_i s 1131 22) = Int32.toNatClampNeg (ps_i s 1131 21) := by show (ps_i s 1131 22).toInt.toNat = (ps_i s 1131 21).toInt.toNat; rw [i2]
      have hS2 : Sg (ps_a s 1135) (ps_a s 1136) (ps_a s 1138) (ps_a s 1139) (ps_i s 1131 22).toInt σ := by rw [i2]; exact hMI.1
      have hRs := i3.resolve_left (by omega)
      have hM0 : MI σ (ps_a s 1134) (ps_a s 1135) (ps_a s 1136) (ps_a s 1137) (ps_a s 1138) (ps_a s 1139) (ps_a s 1157) (ps_a s 1176) (ps_i s 1131 21).toInt (ps_i s 1131 47).toInt (ps_i s 1131 54).toInt := hMI
      have hV0 : ∀ k : Nat, (21320 ≤ k ∧ k < 22468) ∨ 25748 ≤ k → ps_a s 1134 k = gv k := hV
      refine ms_238 J hS2 (hRs) ((by rw [e21])) (show (ps_i s 1131 8).toInt ≤ (ps_i s 1131 4).toInt from by omega) (show (ps_i s 1131 5).toInt = 0 from by omega) (rfl) (fun s17 J17 K17 p17_0 p17_1 p17_2 p17_3 p17_4 => ?_)
      have K18 := kpt K K17 rfl rfl
      have KC := K17
      have hS2 : Sg (ps_a s17 1135) (ps_a s17 1136) (ps_a s17 1138) (ps_a s17 1139) (ps_i s17 1131 22).toInt σ := by rw [show ps_a s17 1135 = ps_a s 1135 from (K17.2 1135 rfl).1, show ps_a s17 1136 = ps_a s 1136 from (K17.2 1136 rfl).1, show ps_a s17 1138 = ps_a s 1138 from (K17.2 1138 rfl).1, show ps_a s17 1139 = ps_a s 1139 from (K17.2 1139 rfl).1, show ps_i s17 1131 22 = ps_i s 1131 22 from kp_i K17 22 rfl]; exact hS2
      have hM0 : MI σ (ps_a s 1134) (ps_a s17 1135) (ps_a s17 1136) (ps_a s17 1137) (ps_a s17 1138) (ps_a s17 1139) (ps_a s17 1157) (ps_a s17 1176) (ps_i s17 1131 21).toInt (ps_i s17 1131 47).toInt (ps_i s17 1131 54).toInt := by rw [show ps_a s17 1135 = ps_a s 1135 from (K17.2 1135 rfl).1, show ps_a s17 1136 = ps_a s 1136 from (K17.2 1136 rfl).1, show ps_a s17 1137 = ps_a s 1137 from (K17.2 1137 rfl).1, show ps_a s17 1138 = ps_a s 1138 from (K17.2 1138 rfl).1, show ps_a s17 1139 = ps_a s 1139 from (K17.2 1139 rfl).1, show ps_a s17 1157 = ps_a s 1157 from (K17.2 1157 rfl).1, show ps_a s17 1176 = ps_a s 1176 from (K17.2 1176 rfl).1, show ps_i s17 1131 21 = ps_i s 1131 21 from kp_i K17 21 rfl, show ps_i s17 1131 47 = ps_i s 1131 47 from kp_i K17 47 rfl, show ps_i s17 1131 54 = ps_i s 1131 54 from kp_i K17 54 rfl]; exact hM0
      have p17_0' : (ps_i s17 1131 8).toInt ≤ (ps_i s17 1131 4).toInt := p17_0
      have r19 := mf_8 J17
      have r20 := mf_4 J17
      have u21 : (ps_i s17 1131 4).toInt = (ps_i s 1131 4).toInt := xeq (kp_i K17 4 rfl)
      have p17_3' : 1 ≤ (ps_i s17 1131 5).toInt ∨ (ps_i s17 1131 42).toInt = (ps_i s 1131 42).toInt + 1 := p17_3
      have r22 := mf_5 J17
      have r23 := mf_42 J17
      have p17_4' : (ps_i s 1131 42).toInt ≤ (ps_i s17 1131 42).toInt := p17_4
      have hR1 : _ := p17_1
      have ho : _ := p17_2
      have r24 := mf_22 J17
      have u25 : (ps_i s17 1131 22).toInt = (ps_i s 1131 22).toInt := xeq (kp_i K17 22 rfl)
      have r26 := mf_21 J17
      have u27 : (ps_i s17 1131 21).toInt = (ps_i s 1131 21).toInt := xeq (kp_i K17 21 rfl)
      have r28 := mf_47 J17
      have u29 : (ps_i s17 1131 47).toInt = (ps_i s 1131 47).toInt := xeq (kp_i K17 47 rfl)
      have r30 := mf_3 J17
      have u31 : (ps_i s17 1131 3).toInt = (ps_i s 1131 3).toInt := xeq (kp_i K17 3 rfl)
      exact ih (n - 1) (show n - 1 < n from by omega)  _ J17 K18 (MI_pool hM0 (show (ps_i s17 1131 47).toInt ≤ 40 from by omega) ho) (show (ps_i s17 1131 8).toInt ≤ (ps_i s17 1131 4).toInt from by omega) (show (ps_i s17 1131 22).toInt = (ps_i s17 1131 21).toInt from by omega) (hR1.imp id (fun z => SRs_n z rfl (by rw [show ps_a s17 1137 = ps_a s 1137 from (KC.2 1137 rfl).1, show ps_i s17 1131 21 = ps_i s 1131 21 from kp_i KC 21 rfl]))) (show (ps_i s17 1131 47).toInt ≤ 40 from by omega) (show (ps_i s17 1131 3).toInt = 0 from by omega) (fun k hk => (ho k (by omega)).trans (hV0 k hk)) (show 2 * (41 - (ps_i s17 1131 42).toInt) - (ps_i s17 1131 5).toInt ≤ ((n - 1 : Nat) : Int) from by omega)

theorem mw_240 {x : Nat → Nat → Nat} {t : Int32} {s : ps_S} {d : Nat} {f : Int32 → ps_S → Prop} (J : mJ x t s) {σ : mSig} {gv : Nat → Int32} (hMI : MI σ (ps_a s 1134) (ps_a s 1135) (ps_a s 1136) (ps_a s 1137) (ps_a s 1138) (ps_a s 1139) (ps_a s 1157) (ps_a s 1176) (ps_i s 1131 21).toInt (ps_i s 1131 47).toInt (ps_i s 1131 54).toInt) (hV : ∀ k : Nat, (21320 ≤ k ∧ k < 22468) ∨ 25748 ≤ k → ps_a s 1134 k = gv k) (k : ∀ (v : Int32) (s' : ps_S), mJ x t s' → kp [1133, 1134, 1143, 1144, 1145, 1146, 1147, 1148, 1149, 1150, 1151, 1152, 1153, 1154, 1155, 1156, 1157, 1158, 1159, 1160] [3, 4, 5, 6, 7, 8, 9, 10, 11, 22, 23, 29, 30, 31, 32, 34, 42, 47, 48, 49, 50, 51] s s' → (MI σ (ps_a s' 1134) (ps_a s' 1135) (ps_a s' 1136) (ps_a s' 1137) (ps_a s' 1138) (ps_a s' 1139) (ps_a s' 1157) (ps_a s' 1176) (ps_i s' 1131 21).toInt (ps_i s' 1131 47).toInt (ps_i s' 1131 54).toInt) → ((ps_i s' 1131 3).toInt = 0) → (∀ k : Nat, (21320 ≤ k ∧ k < 22468) ∨ 25748 ≤ k → ps_a s' 1134 k = gv k) → f v s') : ps_Cl (d + 7) 240 [.ref 1131] s (ps_rI f) := by
  have K : kp [1133, 1134, 1143, 1144, 1145, 1146, 1147, 1148, 1149, 1150, 1151, 1152, 1153, 1154, 1155, 1156, 1157, 1158, 1159, 1160] [3, 4, 5, 6, 7, 8, 9, 10, 11, 22, 23, 29, 30, 31, 32, 34, 42, 47, 48, 49, 50, 51] s s := kp_refl
  refine pg_240_0 (d := d + 6) ?_
  refine ms_198 J  (fun s1 J1 K1 p1_0 p1_1 p1_2 p1_3 p1_4 => ?_)
  have K2 := kpt K K1 rfl rfl
  have KC := K1
  have hMI : MI σ (ps_a s1 1134) (ps_a s1 1135) (ps_a s1 1136) (ps_a s1 1137) (ps_a s1 1138) (ps_a s1 1139) (ps_a s1 1157) (ps_a s1 1176) (ps_i s1 1131 21).toInt (ps_i s1 1131 47).toInt (ps_i s1 1131 54).toInt := by rw [show ps_a s1 1134 = ps_a s 1134 from (K1.2 1134 rfl).1, show ps_a s1 1135 = ps_a s 1135 from (K1.2 1135 rfl).1, show ps_a s1 1136 = ps_a s 1136 from (K1.2 1136 rfl).1, show ps_a s1 1137 = ps_a s 1137 from (K1.2 1137 rfl).1, show ps_a s1 1138 = ps_a s 1138 from (K1.2 1138 rfl).1, show ps_a s1 1139 = ps_a s 1139 from (K1.2 1139 rfl).1, show ps_a s1 1157 = ps_a s 1157 from (K1.2 1157 rfl).1, show ps_a s1 1176 = ps_a s 1176 from (K1.2 1176 rfl).1, show ps_i s1 1131 21 = ps_i s 1131 21 from kp_i K1 21 rfl, show ps_i s1 1131 47 = ps_i s 1131 47 from kp_i K1 47 rfl, show ps_i s1 1131 54 = ps_i s 1131 54 from kp_i K1 54 rfl]; exact hMI
  have hV : ∀ k : Nat, (21320 ≤ k ∧ k < 22468) ∨ 25748 ≤ k → ps_a s1 1134 k = gv k := by rw [show ps_a s1 1134 = ps_a s 1134 from (K1.2 1134 rfl).1]; exact hV
  have p1_0' : (ps_i s1 1131 8).toInt ≤ (ps_i s1 1131 4).toInt := p1_0
  have r3 := mf_8 J1
  have r4 := mf_4 J1
  have p1_1' : (ps_i s1 1131 5).toInt = 0 := p1_1
  have r5 := mf_5 J1
  have p1_2' : (ps_i s1 1131 3).toInt = 0 := p1_2
  have r6 := mf_3 J1
  have p1_3' : (ps_i s1 1131 23).toInt = 0 := p1_3
  have r7 := mf_23 J1
  have p1_4' : (ps_i s1 1131 22).toInt = (ps_i s1 1131 21).toInt := p1_4
  have r8 := mf_22 J1
  have r9 := mf_21 J1
  have u10 : (ps_i s1 1131 21).toInt = (ps_i s 1131 21).toInt := xeq (kp_i K1 21 rfl)
  have r11 := mf_21 J
  have J12 := mwi_42 (v := (0 : Int32)) J1 (show 0 ≤ (0 : Int) from by omega) (show (0 : Int) ≤ 40 from by omega)
  have K13 := kpi K2 (q := 42) (v := (0 : Int32)) rfl
  have r14 := mf_47 J1
  have u15 : (ps_i s1 1131 47).toInt = (ps_i s 1131 47).toInt := xeq (kp_i K1 47 rfl)
  have r16 := mf_47 J
  exact mw_240_9 (σ := σ) (gv := gv) k  (2 * (41 - (0 : Int)) - (ps_i s1 1131 5).toInt).toNat  _ J12 K13 hMI (show (ps_i s1 1131 8).toInt ≤ (ps_i s1 1131 4).toInt from by omega) (show (ps_i s1 1131 22).toInt = (ps_i s1 1131 21).toInt from by omega) (Or.inr (SRs_0 rfl)) (show (ps_i s1 1131 47).toInt ≤ 40 from by omega) (show (ps_i s1 1131 3).toInt = 0 from by omega) hV (show 2 * (41 - (0 : Int)) - (ps_i s1 1131 5).toInt ≤ (((2 * (41 - (0 : Int)) - (ps_i s1 1131 5).toInt).toNat : Nat) : Int) from by omega)

theorem mw_268_51 {x : Nat → Nat → Nat} {t : Int32} {d : Nat} {s0 : ps_S} {σ : mSig} {gv : Nat → Int32} {Q : Option Value → ps_S → Prop} (k : ∀ (v : Int32) (s' : ps_S), mJ x t s' → kp [1134, 1161, 1162] [54] s0 s' → (MI σ (ps_a s' 1134) (ps_a s' 1135) (ps_a s' 1136) (ps_a s' 1137) (ps_a s' 1138) (ps_a s' 1139) (ps_a s' 1157) (ps_a s' 1176) (ps_i s' 1131 21).toInt (ps_i s' 1131 47).toInt (ps_i s' 1131 54).toInt) → (∀ k : Nat, k < 21320 ∨ 21812 ≤ k → ps_a s' 1134 k = gv k) → Q (some (.int v)) s') : ∀ (n : Nat) (x1 : Int32) (x2 : Int32) (s : ps_S), (mJ x t s) → (kp [1134, 1161, 1162] [54] s0 s) → (MI σ (ps_a s 1134) (ps_a s 1135) (ps_a s 1136) (ps_a s 1137) (ps_a s 1138) (ps_a s 1139) (ps_a s 1157) (ps_a s 1176) (ps_i s 1131 21).toInt (ps_i s 1131 47).toInt (ps_i s 1131 54).toInt) → (0 < (ps_i s 1131 47).toInt) → (x1.toInt = 41 * ((ps_i s 1131 47).toInt - 1)) → (0 ≤ x2.toInt) → (x2.toInt ≤ 40) → ((ps_i s 1131 54).toInt < 12) → (∀ k : Nat, k < 21320 ∨ 21812 ≤ k → ps_a s 1134 k = gv k) → 50 - x2.toInt ≤ (n : Int) → ps_At (d + 1) 268 51 [(0, .ref 1131), (1, .int x1), (2, .int x2)] [] s Q := by
  refine xstr (fun n ih => ?_)
  intro x1 x2 s J K hMI i1 i2 i3 i4 i5 hV hm
  have r1 := mf_47 J
  have r2 := mf_54 J
  refine pg_268_51 (d := d) ?_
  refine pg_219_0 ?_
  refine ps_nd_i (show pm_in x1 27400 = true from xgi (show 0 ≤ x1.toInt from by omega) (show x1.toInt < 27400 from by omega)) ?_
  have r3 : x1.toInt % 41 = 0 → x1.toInt < 27306 → 0 ≤ (ps_a s 1134 (Int32.toNatClampNeg x1)).toInt ∧ (ps_a s 1134 (Int32.toNatClampNeg x1)).toInt ≤ 40 := fun z1 z2 => mp_row (i := x1) J z1 (show 0 ≤ x1.toInt from by omega) z2
  refine And.intro (fun h4 => ?_) (fun h4 => ?_)
  · have f5 : (ps_a s 1134 (Int32.toNatClampNeg x1)).toInt ≤ x2.toInt := xle h4
    have a6 : ((41 : Int32) * (ps_i s 1131 54)).toInt = (41 : Int) * (ps_i s 1131 54).toInt := xIm (show -2147483648 ≤ (41 : Int) * (ps_i s 1131 54).toInt from by omega) (show (41 : Int) * (ps_i s 1131 54).toInt < 2147483648 from by omega)
    have a7 : ((21320 : Int32) + ((41 : Int32) * (ps_i s 1131 54))).toInt = (21320 : Int) + ((41 : Int32) * (ps_i s 1131 54)).toInt := xIa (show -2147483648 ≤ (21320 : Int) + ((41 : Int32) * (ps_i s 1131 54)).toInt from by omega) (show (21320 : Int) + ((41 : Int32) * (ps_i s 1131 54)).toInt < 2147483648 from by omega)
    obtain ⟨l, hl1, hl2⟩ := MI_step (i := (ps_i s 1131 47).toInt - 1) (a := x1.toInt) hMI (by omega) (by omega) (by omega)
    obtain ⟨g0, hg0⟩ : ∃ g0 : Nat → Int32, g0 = ps_a s 1134 := ⟨_, rfl⟩
    have hM0 : MI σ g0 (ps_a s 1135) (ps_a s 1136) (ps_a s 1137) (ps_a s 1138) (ps_a s 1139) (ps_a s 1157) (ps_a s 1176) (ps_i s 1131 21).toInt (ps_i s 1131 47).toInt (ps_i s 1131 54).toInt := by rw [hg0]; exact hMI
    have hV0 : ∀ k : Nat, k < 21320 ∨ 21812 ≤ k → g0 k = gv k := by rw [hg0]; exact hV
    refine ms_224 J (hl1) (show ((21320 : Int32) + ((41 : Int32) * (ps_i s 1131 54))).toInt % 41 = 0 from by omega) (show 0 ≤ ((21320 : Int32) + ((41 : Int32) * (ps_i s 1131 54))).toInt from by omega) (show ((21320 : Int32) + ((41 : Int32) * (ps_i s 1131 54))).toInt < 27306 from by omega) (show x1.toInt ≠ ((21320 : Int32) + ((41 : Int32) * (ps_i s 1131 54))).toInt from by omega) (fun s8 J8 K8 p8_0 p8_1 => ?_)
    have K9 := kpt K K8 rfl rfl
    have hM0 : MI σ g0 (ps_a s8 1135) (ps_a s8 1136) (ps_a s8 1137) (ps_a s8 1138) (ps_a s8 1139) (ps_a s8 1157) (ps_a s8 1176) (ps_i s8 1131 21).toInt (ps_i s8 1131 47).toInt (ps_i s8 1131 54).toInt := by rw [show ps_a s8 1135 = ps_a s 1135 from (K8.2 1135 rfl).1, show ps_a s8 1136 = ps_a s 1136 from (K8.2 1136 rfl).1, show ps_a s8 1137 = ps_a s 1137 from (K8.2 1137 rfl).1, show ps_a s8 1138 = ps_a s 1138 from (K8.2 1138 rfl).1, show ps_a s8 1139 = ps_a s 1139 from (K8.2 1139 rfl).1, show ps_a s8 1157 = ps_a s 1157 from (K8.2 1157 rfl).1, show ps_a s8 1176 = ps_a s 1176 from (K8.2 1176 rfl).1, show ps_i s8 1131 21 = ps_i s 1131 21 from kp_i K8 21 rfl, show ps_i s8 1131 47 = ps_i s 1131 47 from kp_i K8 47 rfl, show ps_i s8 1131 54 = ps_i s 1131 54 from kp_i K8 54 rfl]; exact hM0
    have hc : _ := p8_0
    have ho : _ := p8_1
    have r10 := mf_54 J8
    have u11 : (ps_i s8 1131 54).toInt = (ps_i s 1131 54).toInt := xeq (kp_i K8 54 rfl)
    have r12 := mf_47 J8
    have u13 : (ps_i s8 1131 47).toInt = (ps_i s 1131 47).toInt := xeq (kp_i K8 47 rfl)
    have a14 : ((ps_i s8 1131 47) - 1).toInt = (ps_i s8 1131 47).toInt - (1 : Int) := xIs (show -2147483648 ≤ (ps_i s8 1131 47).toInt - (1 : Int) from by omega) (show (ps_i s8 1131 47).toInt - (1 : Int) < 2147483648 from by omega)
    refine ps_nd_i (show pm_in ((ps_i s8 1131 47) - 1) 40 = true from xgi (show 0 ≤ ((ps_i s8 1131 47) - 1).toInt from by omega) (show ((ps_i s8 1131 47) - 1).toInt < 40 from by omega)) ?_
    have u15 : (ps_a s8 1158 (Int32.toNatClampNeg ((ps_i s8 1131 47) - 1))).toInt = (ps_a s 1158 (Int32.toNatClampNeg ((ps_i s8 1131 47) - 1))).toInt := xeq (kp_a K8 1158 rfl _)
    refine ps_nd_i (show pm_in (ps_i s8 1131 54) 12 = true from xgi (show 0 ≤ (ps_i s8 1131 54).toInt from by omega) (show (ps_i s8 1131 54).toInt < 12 from by omega)) ?_
    have J16 := mwa_n 1161 (i := (Int32.toNatClampNeg (ps_i s8 1131 54))) (v := (ps_a s8 1158 (Int32.toNatClampNeg ((ps_i s8 1131 47) - 1)))) J8 rfl (by decide)
    have K17 := kpa' K9 (r := 1161) (i := (Int32.toNatClampNeg (ps_i s8 1131 54))) (v := (ps_a s8 1158 (Int32.toNatClampNeg ((ps_i s8 1131 47) - 1)))) rfl
    refine ps_nd_i (show pm_in ((ps_i s8 1131 47) - 1) 40 = true from xgi (show 0 ≤ ((ps_i s8 1131 47) - 1).toInt from by omega) (show ((ps_i s8 1131 47) - 1).toInt < 40 from by omega)) ?_
    have u18 : (ps_a s8 1159 (Int32.toNatClampNeg ((ps_i s8 1131 47) - 1))).toInt = (ps_a s 1159 (Int32.toNatClampNeg ((ps_i s8 1131 47) - 1))).toInt := xeq (kp_a K8 1159 rfl _)
    refine ps_nd_i (show pm_in (ps_i s8 1131 54) 12 = true from xgi (show 0 ≤ (ps_i s8 1131 54).toInt from by omega) (show (ps_i s8 1131 54).toInt < 12 from by omega)) ?_
    have J19 := mwa_n 1162 (i := (Int32.toNatClampNeg (ps_i s8 1131 54))) (v := (ps_a s8 1159 (Int32.toNatClampNeg ((ps_i s8 1131 47) - 1)))) J16 rfl (by decide)
    have K20 := kpa' K17 (r := 1162) (i := (Int32.toNatClampNeg (ps_i s8 1131 54))) (v := (ps_a s8 1159 (Int32.toNatClampNeg ((ps_i s8 1131 47) - 1)))) rfl
    have a21 : ((ps_i s8 1131 54) + 1).toInt = (ps_i s8 1131 54).toInt + (1 : Int) := xIa (show -2147483648 ≤ (ps_i s8 1131 54).toInt + (1 : Int) from by omega) (show (ps_i s8 1131 54).toInt + (1 : Int) < 2147483648 from by omega)
    have J22 := mwi_54 (v := ((ps_i s8 1131 54) + 1)) J19 (show 0 ≤ ((ps_i s8 1131 54) + 1).toInt from by omega) (show ((ps_i s8 1131 54) + 1).toInt ≤ 12 from by omega)
    have K23 := kpi K20 (q := 54) (v := ((ps_i s8 1131 54) + 1)) rfl
    have a24 : (((ps_i s8 1131 54) + 1) - 1).toInt = ((ps_i s8 1131 54) + 1).toInt - (1 : Int) := xIs (show -2147483648 ≤ ((ps_i s8 1131 54) + 1).toInt - (1 : Int) from by omega) (show ((ps_i s8 1131 54) + 1).toInt - (1 : Int) < 2147483648 from by omega)
    exact k (((ps_i s8 1131 54) + 1) - 1) _ J22 K23 (MI_keep1 (a := ((21320 : Int32) + ((41 : Int32) * (ps_i s 1131 54))).toInt) hM0 (show (ps_i s8 1131 47).toInt ≤ 40 from by omega) (show 0 ≤ (ps_i s8 1131 54).toInt from by omega) (show (ps_i s8 1131 54).toInt < 12 from by omega) (show ((21320 : Int32) + ((41 : Int32) * (ps_i s 1131 54))).toInt = 21320 + 41 * (ps_i s8 1131 54).toInt from by omega) (show ((ps_i s8 1131 54) + 1).toInt = (ps_i s8 1131 54).toInt + 1 from by omega) (fun k hk => (ho k hk).trans (congrFun hg0 k).symm) ⟨l, hc, hl2⟩) (fun k hk => (ho k (by omega)).trans ((congrFun hg0 k).symm.trans (hV0 k hk)))
  · have f25 : x2.toInt < (ps_a s 1134 (Int32.toNatClampNeg x1)).toInt := xlt h4
    refine pg_220_0 ?_
    have a26 : (x1 + 1).toInt = x1.toInt + (1 : Int) := xIa (show -2147483648 ≤ x1.toInt + (1 : Int) from by omega) (show x1.toInt + (1 : Int) < 2147483648 from by omega)
    have a27 : ((x1 + 1) + x2).toInt = (x1 + 1).toInt + x2.toInt := xIa (show -2147483648 ≤ (x1 + 1).toInt + x2.toInt from by omega) (show (x1 + 1).toInt + x2.toInt < 2147483648 from by omega)
    refine ps_nd_i (show pm_in ((x1 + 1) + x2) 27400 = true from xgi (show 0 ≤ ((x1 + 1) + x2).toInt from by omega) (show ((x1 + 1) + x2).toInt < 27400 from by omega)) ?_
    have r28 : ((x1 + 1) + x2).toInt % 41 = 0 → ((x1 + 1) + x2).toInt < 27306 → 0 ≤ (ps_a s 1134 (Int32.toNatClampNeg ((x1 + 1) + x2))).toInt ∧ (ps_a s 1134 (Int32.toNatClampNeg ((x1 + 1) + x2))).toInt ≤ 40 := fun z1 z2 => mp_row (i := ((x1 + 1) + x2)) J z1 (show 0 ≤ ((x1 + 1) + x2).toInt from by omega) z2
    refine And.intro (fun h29 => ?_) (fun h29 => ?_)
    · have f30 : (ps_a s 1134 (Int32.toNatClampNeg ((x1 + 1) + x2))).toInt < (60 : Int) := xlt h29
      have a31 : (x2 + 1).toInt = x2.toInt + (1 : Int) := xIa (show -2147483648 ≤ x2.toInt + (1 : Int) from by omega) (show x2.toInt + (1 : Int) < 2147483648 from by omega)
      exact ih (n - 1) (show n - 1 < n from by omega) x1 (x2 + 1) _ J K hMI (show 0 < (ps_i s 1131 47).toInt from by omega) (show x1.toInt = 41 * ((ps_i s 1131 47).toInt - 1) from by omega) (show 0 ≤ (x2 + 1).toInt from by omega) (show (x2 + 1).toInt ≤ 40 from by omega) (show (ps_i s 1131 54).toInt < 12 from by omega) hV (show 50 - (x2 + 1).toInt ≤ ((n - 1 : Nat) : Int) from by omega)
    · have f32 : (60 : Int) ≤ (ps_a s 1134 (Int32.toNatClampNeg ((x1 + 1) + x2))).toInt := xle h29
      exact k (-1 : Int32) _ J K hMI hV

theorem mw_268 {x : Nat → Nat → Nat} {t : Int32} {s : ps_S} {d : Nat} {f : Int32 → ps_S → Prop} (J : mJ x t s) {σ : mSig} {gv : Nat → Int32} (hMI : MI σ (ps_a s 1134) (ps_a s 1135) (ps_a s 1136) (ps_a s 1137) (ps_a s 1138) (ps_a s 1139) (ps_a s 1157) (ps_a s 1176) (ps_i s 1131 21).toInt (ps_i s 1131 47).toInt (ps_i s 1131 54).toInt) (hV : ∀ k : Nat, k < 21320 ∨ 21812 ≤ k → ps_a s 1134 k = gv k) (k : ∀ (v : Int32) (s' : ps_S), mJ x t s' → kp [1134, 1161, 1162] [54] s s' → (MI σ (ps_a s' 1134) (ps_a s' 1135) (ps_a s' 1136) (ps_a s' 1137) (ps_a s' 1138) (ps_a s' 1139) (ps_a s' 1157) (ps_a s' 1176) (ps_i s' 1131 21).toInt (ps_i s' 1131 47).toInt (ps_i s' 1131 54).toInt) → (∀ k : Nat, k < 21320 ∨ 21812 ≤ k → ps_a s' 1134 k = gv k) → f v s') : ps_Cl (d + 1) 268 [.ref 1131] s (ps_rI f) := by
  have K : kp [1134, 1161, 1162] [54] s s := kp_refl
  refine pg_268_0 (d := d) ?_
  have r1 := mf_48 J
  refine And.intro (fun h2 => ?_) (fun h2 => ?_)
  · have f3 : (0 : Int) ≤ (ps_i s 1131 48).toInt := xle h2
    exact k (-1 : Int32) _ J K hMI hV
  · have f4 : (ps_i s 1131 48).toInt < (0 : Int) := xlt h2
    have r5 := mf_47 J
    refine And.intro (fun h6 => ?_) (fun h6 => ?_)
    · have f7 : (ps_i s 1131 47).toInt = (0 : Int) := xeq h6
      exact k (-1 : Int32) _ J K hMI hV
    · have f8 : (ps_i s 1131 47).toInt ≠ (0 : Int) := xne h6
      have a9 : ((ps_i s 1131 47) - 1).toInt = (ps_i s 1131 47).toInt - (1 : Int) := xIs (show -2147483648 ≤ (ps_i s 1131 47).toInt - (1 : Int) from by omega) (show (ps_i s 1131 47).toInt - (1 : Int) < 2147483648 from by omega)
      refine ps_nd_i (show pm_in ((ps_i s 1131 47) - 1) 41 = true from xgi (show 0 ≤ ((ps_i s 1131 47) - 1).toInt from by omega) (show ((ps_i s 1131 47) - 1).toInt < 41 from by omega)) ?_
      have r10 : 0 ≤ (ps_a s 1157 (Int32.toNatClampNeg ((ps_i s 1131 47) - 1))).toInt ∧ (ps_a s 1157 (Int32.toNatClampNeg ((ps_i s 1131 47) - 1))).toInt ≤ 12 := ma_1157 (i := ((ps_i s 1131 47) - 1)) J (show 0 ≤ ((ps_i s 1131 47) - 1).toInt from by omega) (show ((ps_i s 1131 47) - 1).toInt < 41 from by omega)
      refine And.intro (fun h11 => ?_) (fun h11 => ?_)
      · have f12 : (0 : Int) < (ps_a s 1157 (Int32.toNatClampNeg ((ps_i s 1131 47) - 1))).toInt := xlt h11
        exact k (-1 : Int32) _ J K hMI hV
      · have f13 : (ps_a s 1157 (Int32.toNatClampNeg ((ps_i s 1131 47) - 1))).toInt ≤ (0 : Int) := xle h11
        have r14 := mf_54 J
        refine And.intro (fun h15 => ?_) (fun h15 => ?_)
        · have f16 : (ps_i s 1131 54).toInt ≠ (12 : Int) := xne h15
          refine pg_242_0 ?_
          have a17 : ((41 : Int32) * ((ps_i s 1131 47) - 1)).toInt = (41 : Int) * ((ps_i s 1131 47) - 1).toInt := xIm (show -2147483648 ≤ (41 : Int) * ((ps_i s 1131 47) - 1).toInt from by omega) (show (41 : Int) * ((ps_i s 1131 47) - 1).toInt < 2147483648 from by omega)
          have a18 : ((0 : Int32) + ((41 : Int32) * ((ps_i s 1131 47) - 1))).toInt = (0 : Int) + ((41 : Int32) * ((ps_i s 1131 47) - 1)).toInt := xIa (show -2147483648 ≤ (0 : Int) + ((41 : Int32) * ((ps_i s 1131 47) - 1)).toInt from by omega) (show (0 : Int) + ((41 : Int32) * ((ps_i s 1131 47) - 1)).toInt < 2147483648 from by omega)
          exact mw_268_51 (σ := σ) (gv := gv) k  (50 - (0 : Int)).toNat ((0 : Int32) + ((41 : Int32) * ((ps_i s 1131 47) - 1))) (0) _ J K hMI (show 0 < (ps_i s 1131 47).toInt from by omega) (show ((0 : Int32) + ((41 : Int32) * ((ps_i s 1131 47) - 1))).toInt = 41 * ((ps_i s 1131 47).toInt - 1) from by omega) (show 0 ≤ (0 : Int) from by omega) (show (0 : Int) ≤ 40 from by omega) (show (ps_i s 1131 54).toInt < 12 from by omega) hV (show 50 - (0 : Int) ≤ (((50 - (0 : Int)).toNat : Nat) : Int) from by omega)
        · have f19 : (ps_i s 1131 54).toInt = (12 : Int) := xeq h15
          exact k (-1 : Int32) _ J K hMI hV

theorem mw_305_23 {x : Nat → Nat → Nat} {t : Int32} {d : Nat} {s0 : ps_S} {σ : mSig} {gv : Nat → Int32} {x1 : Int32} {Q : Option Value → ps_S → Prop} (k : ∀ (v : Int32) (s' : ps_S), mJ x t s' → kp [1134, 1176, 1177, 1178] [] s0 s' → (MI σ (ps_a s' 1134) (ps_a s' 1135) (ps_a s' 1136) (ps_a s' 1137) (ps_a s' 1138) (ps_a s' 1139) (ps_a s' 1157) (ps_a s' 1176) (ps_i s' 1131 21).toInt (ps_i s' 1131 47).toInt (ps_i s' 1131 54).toInt) → (∀ k : Nat, k < 25830 → ps_a s' 1134 k = gv k) → Q (some (.int v)) s') : ∀ (n : Nat) (x2 : Int32) (g0 : Nat → Int32) (gx : Nat → Int32) (s : ps_S), (mJ x t s) → (kp [1134, 1176, 1177, 1178] [] s0 s) → (MI σ g0 (ps_a s 1135) (ps_a s 1136) (ps_a s 1137) (ps_a s 1138) (ps_a s 1139) (ps_a s 1157) gx (ps_i s 1131 21).toInt (ps_i s 1131 47).toInt (ps_i s 1131 54).toInt) → (∀ k : Nat, (k : Int) < 25830 + 492 * x1.toInt ∨ 25830 + 492 * x1.toInt + 492 ≤ (k : Int) → ps_a s 1134 k = g0 k) → (∀ j : Nat, (j : Int) ≠ x1.toInt → ps_a s 1176 j = gx j) → ((ps_a s 1176 x1.toInt.toNat).toInt = (ps_i s 1131 54).toInt) → (∀ k : Nat, (k : Int) < x2.toInt → k < 12 → Fm σ (ps_a s 1134) (25830 + 41 * (12 * x1.toInt + k))) → (0 ≤ x1.toInt) → (x1.toInt ≤ 2) → (0 ≤ x2.toInt) → (x2.toInt ≤ (ps_i s 1131 54).toInt) → ((ps_i s 1131 47).toInt ≤ 40) → (∀ k : Nat, k < 25830 → ps_a s 1134 k = gv k) → 20 - x2.toInt ≤ (n : Int) → ps_At (d + 1) 305 23 [(0, .ref 1131), (1, .int x1), (2, .int x2)] [] s Q := by
  refine xstr (fun n ih => ?_)
  intro x2 g0 gx s J K hM0 hof hgx hgb i4 i5 i6 i7 i8 i9 hV hm
  have r1 := mf_54 J
  have r2 := mf_47 J
  refine pg_305_23 (d := d) ?_
  refine And.intro (fun h3 => ?_) (fun h3 => ?_)
  · have f4 : (ps_i s 1131 54).toInt ≤ x2.toInt := xle h3
    exact k (ps_i s 1131 54) _ J K (MI_box hM0 (show (ps_i s 1131 47).toInt ≤ 40 from by omega) (show 0 ≤ x1.toInt from by omega) hof hgx hgb (fun k hk q => i4 k (by omega) q)) hV
  · have f5 : x2.toInt < (ps_i s 1131 54).toInt := xlt h3
    have a6 : ((41 : Int32) * x2).toInt = (41 : Int) * x2.toInt := xIm (show -2147483648 ≤ (41 : Int) * x2.toInt from by omega) (show (41 : Int) * x2.toInt < 2147483648 from by omega)
    have a7 : ((21320 : Int32) + ((41 : Int32) * x2)).toInt = (21320 : Int) + ((41 : Int32) * x2).toInt := xIa (show -2147483648 ≤ (21320 : Int) + ((41 : Int32) * x2).toInt from by omega) (show (21320 : Int) + ((41 : Int32) * x2).toInt < 2147483648 from by omega)
    have a8 : ((12 : Int32) * x1).toInt = (12 : Int) * x1.toInt := xIm (show -2147483648 ≤ (12 : Int) * x1.toInt from by omega) (show (12 : Int) * x1.toInt < 2147483648 from by omega)
    have a9 : (((12 : Int32) * x1) + x2).toInt = ((12 : Int32) * x1).toInt + x2.toInt := xIa (show -2147483648 ≤ ((12 : Int32) * x1).toInt + x2.toInt from by omega) (show ((12 : Int32) * x1).toInt + x2.toInt < 2147483648 from by omega)
    have a10 : ((41 : Int32) * (((12 : Int32) * x1) + x2)).toInt = (41 : Int) * (((12 : Int32) * x1) + x2).toInt := xIm (show -2147483648 ≤ (41 : Int) * (((12 : Int32) * x1) + x2).toInt from by omega) (show (41 : Int) * (((12 : Int32) * x1) + x2).toInt < 2147483648 from by omega)
    have a11 : ((25830 : Int32) + ((41 : Int32) * (((12 : Int32) * x1) + x2))).toInt = (25830 : Int) + ((41 : Int32) * (((12 : Int32) * x1) + x2)).toInt := xIa (show -2147483648 ≤ (25830 : Int) + ((41 : Int32) * (((12 : Int32) * x1) + x2)).toInt from by omega) (show (25830 : Int) + ((41 : Int32) * (((12 : Int32) * x1) + x2)).toInt < 2147483648 from by omega)
    obtain ⟨l, hl1, hl2⟩ : Fm σ (ps_a s 1134) ((21320 : Int32) + ((41 : Int32) * x2)).toInt := Fm_keep (MI_th (k := x2) hM0 (by omega) (by omega) (by omega) (by omega)) (fun j h1 h2 => hof j (by omega))
    refine ms_224 J (hl1) (show ((25830 : Int32) + ((41 : Int32) * (((12 : Int32) * x1) + x2))).toInt % 41 = 0 from by omega) (show 0 ≤ ((25830 : Int32) + ((41 : Int32) * (((12 : Int32) * x1) + x2))).toInt from by omega) (show ((25830 : Int32) + ((41 : Int32) * (((12 : Int32) * x1) + x2))).toInt < 27306 from by omega) (show ((21320 : Int32) + ((41 : Int32) * x2)).toInt ≠ ((25830 : Int32) + ((41 : Int32) * (((12 : Int32) * x1) + x2))).toInt from by omega) (fun s12 J12 K12 p12_0 p12_1 => ?_)
    have K13 := kpt K K12 rfl rfl
    have hM0 : MI σ g0 (ps_a s12 1135) (ps_a s12 1136) (ps_a s12 1137) (ps_a s12 1138) (ps_a s12 1139) (ps_a s12 1157) gx (ps_i s12 1131 21).toInt (ps_i s12 1131 47).toInt (ps_i s12 1131 54).toInt := by rw [show ps_a s12 1135 = ps_a s 1135 from (K12.2 1135 rfl).1, show ps_a s12 1136 = ps_a s 1136 from (K12.2 1136 rfl).1, show ps_a s12 1137 = ps_a s 1137 from (K12.2 1137 rfl).1, show ps_a s12 1138 = ps_a s 1138 from (K12.2 1138 rfl).1, show ps_a s12 1139 = ps_a s 1139 from (K12.2 1139 rfl).1, show ps_a s12 1157 = ps_a s 1157 from (K12.2 1157 rfl).1, show ps_i s12 1131 21 = ps_i s 1131 21 from kp_i K12 21 rfl, show ps_i s12 1131 47 = ps_i s 1131 47 from kp_i K12 47 rfl, show ps_i s12 1131 54 = ps_i s 1131 54 from kp_i K12 54 rfl]; exact hM0
    have hgx : ∀ j : Nat, (j : Int) ≠ x1.toInt → ps_a s12 1176 j = gx j := by rw [show ps_a s12 1176 = ps_a s 1176 from (K12.2 1176 rfl).1]; exact hgx
    have hgb : (ps_a s12 1176 x1.toInt.toNat).toInt = (ps_i s12 1131 54).toInt := by rw [show ps_a s12 1176 = ps_a s 1176 from (K12.2 1176 rfl).1, show ps_i s12 1131 54 = ps_i s 1131 54 from kp_i K12 54 rfl]; exact hgb
    have hc : _ := p12_0
    have ho : _ := p12_1
    refine ps_nd_i (show pm_in x2 12 = true from xgi (show 0 ≤ x2.toInt from by omega) (show x2.toInt < 12 from by omega)) ?_
    have u14 : (ps_a s12 1161 (Int32.toNatClampNeg x2)).toInt = (ps_a s 1161 (Int32.toNatClampNeg x2)).toInt := xeq (kp_a K12 1161 rfl _)
    refine ps_nd_i (show pm_in (((12 : Int32) * x1) + x2) 36 = true from xgi (show 0 ≤ (((12 : Int32) * x1) + x2).toInt from by omega) (show (((12 : Int32) * x1) + x2).toInt < 36 from by omega)) ?_
    have J15 := mwa_n 1177 (i := (Int32.toNatClampNeg (((12 : Int32) * x1) + x2))) (v := (ps_a s12 1161 (Int32.toNatClampNeg x2))) J12 rfl (by decide)
    have K16 := kpa' K13 (r := 1177) (i := (Int32.toNatClampNeg (((12 : Int32) * x1) + x2))) (v := (ps_a s12 1161 (Int32.toNatClampNeg x2))) rfl
    refine ps_nd_i (show pm_in x2 12 = true from xgi (show 0 ≤ x2.toInt from by omega) (show x2.toInt < 12 from by omega)) ?_
    have u17 : (ps_a s12 1162 (Int32.toNatClampNeg x2)).toInt = (ps_a s 1162 (Int32.toNatClampNeg x2)).toInt := xeq (kp_a K12 1162 rfl _)
    refine ps_nd_i (show pm_in (((12 : Int32) * x1) + x2) 36 = true from xgi (show 0 ≤ (((12 : Int32) * x1) + x2).toInt from by omega) (show (((12 : Int32) * x1) + x2).toInt < 36 from by omega)) ?_
    have J18 := mwa_n 1178 (i := (Int32.toNatClampNeg (((12 : Int32) * x1) + x2))) (v := (ps_a s12 1162 (Int32.toNatClampNeg x2))) J15 rfl (by decide)
    have K19 := kpa' K16 (r := 1178) (i := (Int32.toNatClampNeg (((12 : Int32) * x1) + x2))) (v := (ps_a s12 1162 (Int32.toNatClampNeg x2))) rfl
    have a20 : (x2 + 1).toInt = x2.toInt + (1 : Int) := xIa (show -2147483648 ≤ x2.toInt + (1 : Int) from by omega) (show x2.toInt + (1 : Int) < 2147483648 from by omega)
    have r21 := mf_54 J12
    have u22 : (ps_i s12 1131 54).toInt = (ps_i s 1131 54).toInt := xeq (kp_i K12 54 rfl)
    have r23 := mf_47 J12
    have u24 : (ps_i s12 1131 47).toInt = (ps_i s 1131 47).toInt := xeq (kp_i K12 47 rfl)
    exact ih (n - 1) (show n - 1 < n from by omega) (x2 + 1) g0 gx _ J18 K19 hM0 (fun k hk => (ho k (by omega)).trans (hof k hk)) hgx hgb ((by rw [show ((x2 + 1)).toInt = x2.toInt + 1 from by omega]; exact Fm_put (f := fun k => 25830 + 41 * (12 * x1.toInt + (k : Int))) i4 (by omega) (show Fm σ (ps_a s12 1134) (25830 + 41 * (12 * x1.toInt + ((x2.toInt.toNat : Nat) : Int))) from (by rw [show 25830 + 41 * (12 * x1.toInt + ((x2.toInt.toNat : Nat) : Int)) = ((25830 : Int32) + ((41 : Int32) * (((12 : Int32) * x1) + x2))).toInt from by omega]; exact ⟨l, hc, hl2⟩)) (fun k h1 h2 j h3 h4 => ho j (by have h3 : 25830 + 41 * (12 * x1.toInt + (k : Int)) ≤ (j : Int) := h3; have h4 : (j : Int) < 25830 + 41 * (12 * x1.toInt + (k : Int)) + 41 := h4; omega)))) (show 0 ≤ x1.toInt from by omega) (show x1.toInt ≤ 2 from by omega) (show 0 ≤ (x2 + 1).toInt from by omega) (show (x2 + 1).toInt ≤ (ps_i s12 1131 54).toInt from by omega) (show (ps_i s12 1131 47).toInt ≤ 40 from by omega) (fun k hk => (ho k (by omega)).trans (hV k hk)) (show 20 - (x2 + 1).toInt ≤ ((n - 1 : Nat) : Int) from by omega)

theorem mw_305 {x : Nat → Nat → Nat} {t : Int32} {s : ps_S} {d : Nat} {x1 : Int32} {f : Int32 → ps_S → Prop} (J : mJ x t s) {σ : mSig} {gv : Nat → Int32} (hMI : MI σ (ps_a s 1134) (ps_a s 1135) (ps_a s 1136) (ps_a s 1137) (ps_a s 1138) (ps_a s 1139) (ps_a s 1157) (ps_a s 1176) (ps_i s 1131 21).toInt (ps_i s 1131 47).toInt (ps_i s 1131 54).toInt) (hV : ∀ k : Nat, k < 25830 → ps_a s 1134 k = gv k) (k : ∀ (v : Int32) (s' : ps_S), mJ x t s' → kp [1134, 1176, 1177, 1178] [] s s' → (MI σ (ps_a s' 1134) (ps_a s' 1135) (ps_a s' 1136) (ps_a s' 1137) (ps_a s' 1138) (ps_a s' 1139) (ps_a s' 1157) (ps_a s' 1176) (ps_i s' 1131 21).toInt (ps_i s' 1131 47).toInt (ps_i s' 1131 54).toInt) → (∀ k : Nat, k < 25830 → ps_a s' 1134 k = gv k) → f v s') : ps_Cl (d + 1) 305 [.ref 1131, .int x1] s (ps_rI f) := by
  have K : kp [1134, 1176, 1177, 1178] [] s s := kp_refl
  refine pg_305_0 (d := d) ?_
  refine ms_200 J  (fun v1 p1_0 b1 => ?_)
  have p1_0' : v1.toInt = 0 ∨ ((0 : Int) ≤ x1.toInt ∧ x1.toInt ≤ (2 : Int)) := p1_0
  refine And.intro (fun h2 => ?_) (fun h2 => ?_)
  · have f3 : v1.toInt ≠ (0 : Int) := xne h2
    have r4 := mf_54 J
    obtain ⟨g0, hg0⟩ : ∃ g0 : Nat → Int32, g0 = ps_a s 1134 := ⟨_, rfl⟩
    obtain ⟨gx, hgx0⟩ : ∃ gx : Nat → Int32, gx = ps_a s 1176 := ⟨_, rfl⟩
    have hM0 : MI σ g0 (ps_a s 1135) (ps_a s 1136) (ps_a s 1137) (ps_a s 1138) (ps_a s 1139) (ps_a s 1157) gx (ps_i s 1131 21).toInt (ps_i s 1131 47).toInt (ps_i s 1131 54).toInt := by rw [hg0, hgx0]; exact hMI
    have hV0 : ∀ k : Nat, k < 25830 → g0 k = gv k := by rw [hg0]; exact hV
    refine ps_nd_i (show pm_in x1 3 = true from xgi (show 0 ≤ x1.toInt from by omega) (show x1.toInt < 3 from by omega)) ?_
    have J5 := mwa_1176 (i := (Int32.toNatClampNeg x1)) (v := (ps_i s 1131 54)) J (show -1 ≤ (ps_i s 1131 54).toInt from by omega) (show (ps_i s 1131 54).toInt ≤ 12 from by omega)
    have K6 := kpa' K (r := 1176) (i := (Int32.toNatClampNeg x1)) (v := (ps_i s 1131 54)) rfl
    have ex : Int32.toNatClampNeg x1 = x1.toInt.toNat := rfl
    have hof : ∀ k : Nat, (k : Int) < 25830 + 492 * x1.toInt ∨ 25830 + 492 * x1.toInt + 492 ≤ (k : Int) → ps_a (ps_ua s 1176 (Int32.toNatClampNeg x1) (ps_i s 1131 54)) 1134 k = g0 k := fun k _ => (congrFun hg0 k).symm
    have hgx : ∀ j : Nat, (j : Int) ≠ x1.toInt → ps_a (ps_ua s 1176 (Int32.toNatClampNeg x1) (ps_i s 1131 54)) 1176 j = gx j := fun j hj => (ua_ne (by omega)).trans (congrFun hgx0 j).symm
    have hgb : (ps_a (ps_ua s 1176 (Int32.toNatClampNeg x1) (ps_i s 1131 54)) 1176 x1.toInt.toNat).toInt = (ps_i (ps_ua s 1176 (Int32.toNatClampNeg x1) (ps_i s 1131 54)) 1131 54).toInt := congrArg Int32.toInt ua_eq
    have r7 := mf_47 J
    exact mw_305_23 (x1 := x1) (σ := σ) (gv := gv) k  (20 - (0 : Int)).toNat (0) g0 gx _ J5 K6 hM0 hof hgx hgb (fun k hk => absurd hk (by rw [Int32.toInt_zero]; omega)) (show 0 ≤ x1.toInt from by omega) (show x1.toInt ≤ 2 from by omega) (show 0 ≤ (0 : Int) from by omega) (show (0 : Int) ≤ (ps_i s 1131 54).toInt from by omega) (show (ps_i s 1131 47).toInt ≤ 40 from by omega) hV (show 20 - (0 : Int) ≤ (((20 - (0 : Int)).toNat : Nat) : Int) from by omega)
  · have f8 : v1.toInt = (0 : Int) := xeq h2
    exact k (-1 : Int32) _ J K (hMI) hV

theorem mw_306_32 {x : Nat → Nat → Nat} {t : Int32} {d : Nat} {s0 : ps_S} {σ : mSig} {gv : Nat → Int32} {x1 : Int32} {Q : Option Value → ps_S → Prop} (k : ∀ (v : Int32) (s' : ps_S), mJ x t s' → kp [1134, 1161, 1162] [47, 48, 49, 54] s0 s' → (MI σ (ps_a s' 1134) (ps_a s' 1135) (ps_a s' 1136) (ps_a s' 1137) (ps_a s' 1138) (ps_a s' 1139) (ps_a s' 1157) (ps_a s' 1176) (ps_i s' 1131 21).toInt (ps_i s' 1131 47).toInt (ps_i s' 1131 54).toInt) → (∀ k : Nat, k < 21320 ∨ 21812 ≤ k → ps_a s' 1134 k = gv k) → Q (some (.int v)) s') : ∀ (n : Nat) (x2 : Int32) (g0 : Nat → Int32) (th0 : Int) (s : ps_S), (mJ x t s) → (kp [1134, 1161, 1162] [47, 48, 49, 54] s0 s) → (MI σ g0 (ps_a s 1135) (ps_a s 1136) (ps_a s 1137) (ps_a s 1138) (ps_a s 1139) (ps_a s 1157) (ps_a s 1176) (ps_i s 1131 21).toInt (ps_i s 1131 47).toInt th0) → (∀ k : Nat, (k : Int) < 21320 ∨ 21812 ≤ (k : Int) → ps_a s 1134 k = g0 k) → ((ps_a s 1176 x1.toInt.toNat).toInt = (ps_i s 1131 54).toInt) → (∀ k : Nat, (k : Int) < x2.toInt → k < 12 → Fm σ (ps_a s 1134) (21320 + 41 * k)) → (0 ≤ x1.toInt) → (x1.toInt ≤ 2) → (0 ≤ x2.toInt) → (x2.toInt ≤ (ps_i s 1131 54).toInt) → (∀ k : Nat, k < 21320 ∨ 21812 ≤ k → ps_a s 1134 k = gv k) → 20 - x2.toInt ≤ (n : Int) → ps_At (d + 1) 306 32 [(0, .ref 1131), (1, .int x1), (2, .int x2)] [] s Q := by
  refine xstr (fun n ih => ?_)
  intro x2 g0 th0 s J K hM0 hof hgb i3 i4 i5 i6 i7 hV hm
  have r1 := mf_54 J
  refine pg_306_32 (d := d) ?_
  refine And.intro (fun h2 => ?_) (fun h2 => ?_)
  · have f3 : (ps_i s 1131 54).toInt ≤ x2.toInt := xle h2
    refine pg_272_0 ?_
    have J4 := mwi_47 (v := (0 : Int32)) J (show 0 ≤ (0 : Int) from by omega) (show (0 : Int) ≤ 40 from by omega)
    have K5 := kpi K (q := 47) (v := (0 : Int32)) rfl
    have J6 := mwi_48 (v := (-1 : Int32)) J4 (show -1 ≤ (-1 : Int) from by omega) (show (-1 : Int) ≤ 40 from by omega)
    have K7 := kpi K5 (q := 48) (v := (-1 : Int32)) rfl
    have J8 := mwi_n 49 (v := (-1 : Int32)) J6 rfl
    have K9 := kpi K7 (q := 49) (v := (-1 : Int32)) rfl
    exact k (ps_i s 1131 54) _ J8 K9 (MI_back hM0 (mf_47 J).1 hof (show (0 : Int) ≤ 40 from by decide) (fun k hk q => i3 k (by have hk : (k : Int) < (ps_i s 1131 54).toInt := hk; omega) q)) hV
  · have f10 : x2.toInt < (ps_i s 1131 54).toInt := xlt h2
    have a11 : ((12 : Int32) * x1).toInt = (12 : Int) * x1.toInt := xIm (show -2147483648 ≤ (12 : Int) * x1.toInt from by omega) (show (12 : Int) * x1.toInt < 2147483648 from by omega)
    have a12 : (((12 : Int32) * x1) + x2).toInt = ((12 : Int32) * x1).toInt + x2.toInt := xIa (show -2147483648 ≤ ((12 : Int32) * x1).toInt + x2.toInt from by omega) (show ((12 : Int32) * x1).toInt + x2.toInt < 2147483648 from by omega)
    have a13 : ((41 : Int32) * (((12 : Int32) * x1) + x2)).toInt = (41 : Int) * (((12 : Int32) * x1) + x2).toInt := xIm (show -2147483648 ≤ (41 : Int) * (((12 : Int32) * x1) + x2).toInt from by omega) (show (41 : Int) * (((12 : Int32) * x1) + x2).toInt < 2147483648 from by omega)
    have a14 : ((25830 : Int32) + ((41 : Int32) * (((12 : Int32) * x1) + x2))).toInt = (25830 : Int) + ((41 : Int32) * (((12 : Int32) * x1) + x2)).toInt := xIa (show -2147483648 ≤ (25830 : Int) + ((41 : Int32) * (((12 : Int32) * x1) + x2)).toInt from by omega) (show (25830 : Int) + ((41 : Int32) * (((12 : Int32) * x1) + x2)).toInt < 2147483648 from by omega)
    have a15 : ((41 : Int32) * x2).toInt = (41 : Int) * x2.toInt := xIm (show -2147483648 ≤ (41 : Int) * x2.toInt from by omega) (show (41 : Int) * x2.toInt < 2147483648 from by omega)
    have a16 : ((21320 : Int32) + ((41 : Int32) * x2)).toInt = (21320 : Int) + ((41 : Int32) * x2).toInt := xIa (show -2147483648 ≤ (21320 : Int) + ((41 : Int32) * x2).toInt from by omega) (show (21320 : Int) + ((41 : Int32) * x2).toInt < 2147483648 from by omega)
    have hgb2 : (ps_a s 1176 x1.toInt.toNat).toInt = (ps_i s 1131 54).toInt := hgb
    obtain ⟨l, hl1, hl2⟩ : Fm σ (ps_a s 1134) ((25830 : Int32) + ((41 : Int32) * (((12 : Int32) * x1) + x2))).toInt := Fm_keep (MI_bx (i := x1) (k := x2) hM0 (by omega) (by omega) (by omega) (by omega) (by omega) (by omega)) (fun j h1 h2 => hof j (by omega))
    refine ms_224 J (hl1) (show ((21320 : Int32) + ((41 : Int32) * x2)).toInt % 41 = 0 from by omega) (show 0 ≤ ((21320 : Int32) + ((41 : Int32) * x2)).toInt from by omega) (show ((21320 : Int32) + ((41 : Int32) * x2)).toInt < 27306 from by omega) (show ((25830 : Int32) + ((41 : Int32) * (((12 : Int32) * x1) + x2))).toInt ≠ ((21320 : Int32) + ((41 : Int32) * x2)).toInt from by omega) (fun s17 J17 K17 p17_0 p17_1 => ?_)
    have K18 := kpt K K17 rfl rfl
    have hM0 : MI σ g0 (ps_a s17 1135) (ps_a s17 1136) (ps_a s17 1137) (ps_a s17 1138) (ps_a s17 1139) (ps_a s17 1157) (ps_a s17 1176) (ps_i s17 1131 21).toInt (ps_i s17 1131 47).toInt th0 := by rw [show ps_a s17 1135 = ps_a s 1135 from (K17.2 1135 rfl).1, show ps_a s17 1136 = ps_a s 1136 from (K17.2 1136 rfl).1, show ps_a s17 1137 = ps_a s 1137 from (K17.2 1137 rfl).1, show ps_a s17 1138 = ps_a s 1138 from (K17.2 1138 rfl).1, show ps_a s17 1139 = ps_a s 1139 from (K17.2 1139 rfl).1, show ps_a s17 1157 = ps_a s 1157 from (K17.2 1157 rfl).1, show ps_a s17 1176 = ps_a s 1176 from (K17.2 1176 rfl).1, show ps_i s17 1131 21 = ps_i s 1131 21 from kp_i K17 21 rfl, show ps_i s17 1131 47 = ps_i s 1131 47 from kp_i K17 47 rfl]; exact hM0
    have hgb : (ps_a s17 1176 x1.toInt.toNat).toInt = (ps_i s17 1131 54).toInt := by rw [show ps_a s17 1176 = ps_a s 1176 from (K17.2 1176 rfl).1, show ps_i s17 1131 54 = ps_i s 1131 54 from kp_i K17 54 rfl]; exact hgb
    have hc : _ := p17_0
    have ho : _ := p17_1
    refine ps_nd_i (show pm_in (((12 : Int32) * x1) + x2) 36 = true from xgi (show 0 ≤ (((12 : Int32) * x1) + x2).toInt from by omega) (show (((12 : Int32) * x1) + x2).toInt < 36 from by omega)) ?_
    have u19 : (ps_a s17 1177 (Int32.toNatClampNeg (((12 : Int32) * x1) + x2))).toInt = (ps_a s 1177 (Int32.toNatClampNeg (((12 : Int32) * x1) + x2))).toInt := xeq (kp_a K17 1177 rfl _)
    refine ps_nd_i (show pm_in x2 12 = true from xgi (show 0 ≤ x2.toInt from by omega) (show x2.toInt < 12 from by omega)) ?_
    have J20 := mwa_n 1161 (i := (Int32.toNatClampNeg x2)) (v := (ps_a s17 1177 (Int32.toNatClampNeg (((12 : Int32) * x1) + x2)))) J17 rfl (by decide)
    have K21 := kpa' K18 (r := 1161) (i := (Int32.toNatClampNeg x2)) (v := (ps_a s17 1177 (Int32.toNatClampNeg (((12 : Int32) * x1) + x2)))) rfl
    refine ps_nd_i (show pm_in (((12 : Int32) * x1) + x2) 36 = true from xgi (show 0 ≤ (((12 : Int32) * x1) + x2).toInt from by omega) (show (((12 : Int32) * x1) + x2).toInt < 36 from by omega)) ?_
    have u22 : (ps_a s17 1178 (Int32.toNatClampNeg (((12 : Int32) * x1) + x2))).toInt = (ps_a s 1178 (Int32.toNatClampNeg (((12 : Int32) * x1) + x2))).toInt := xeq (kp_a K17 1178 rfl _)
    refine ps_nd_i (show pm_in x2 12 = true from xgi (show 0 ≤ x2.toInt from by omega) (show x2.toInt < 12 from by omega)) ?_
    have J23 := mwa_n 1162 (i := (Int32.toNatClampNeg x2)) (v := (ps_a s17 1178 (Int32.toNatClampNeg (((12 : Int32) * x1) + x2)))) J20 rfl (by decide)
    have K24 := kpa' K21 (r := 1162) (i := (Int32.toNatClampNeg x2)) (v := (ps_a s17 1178 (Int32.toNatClampNeg (((12 : Int32) * x1) + x2)))) rfl
    have a25 : (x2 + 1).toInt = x2.toInt + (1 : Int) := xIa (show -2147483648 ≤ x2.toInt + (1 : Int) from by omega) (show x2.toInt + (1 : Int) < 2147483648 from by omega)
    have r26 := mf_54 J17
    have u27 : (ps_i s17 1131 54).toInt = (ps_i s 1131 54).toInt := xeq (kp_i K17 54 rfl)
    exact ih (n - 1) (show n - 1 < n from by omega) (x2 + 1) g0 th0 _ J23 K24 hM0 (fun k hk => (ho k (by omega)).trans (hof k hk)) hgb ((by rw [show ((x2 + 1)).toInt = x2.toInt + 1 from by omega]; exact Fm_put (f := fun k => 21320 + 41 * (k : Int)) i3 (by omega) (show Fm σ (ps_a s17 1134) (21320 + 41 * ((x2.toInt.toNat : Nat) : Int)) from (by rw [show 21320 + 41 * ((x2.toInt.toNat : Nat) : Int) = ((21320 : Int32) + ((41 : Int32) * x2)).toInt from by omega]; exact ⟨l, hc, hl2⟩)) (fun k h1 h2 j h3 h4 => ho j (by have h3 : 21320 + 41 * (k : Int) ≤ (j : Int) := h3; have h4 : (j : Int) < 21320 + 41 * (k : Int) + 41 := h4; omega)))) (show 0 ≤ x1.toInt from by omega) (show x1.toInt ≤ 2 from by omega) (show 0 ≤ (x2 + 1).toInt from by omega) (show (x2 + 1).toInt ≤ (ps_i s17 1131 54).toInt from by omega) (fun k hk => (ho k (by omega)).trans (hV k hk)) (show 20 - (x2 + 1).toInt ≤ ((n - 1 : Nat) : Int) from by omega)

theorem mw_306 {x : Nat → Nat → Nat} {t : Int32} {s : ps_S} {d : Nat} {x1 : Int32} {f : Int32 → ps_S → Prop} (J : mJ x t s) {σ : mSig} {gv : Nat → Int32} (hMI : MI σ (ps_a s 1134) (ps_a s 1135) (ps_a s 1136) (ps_a s 1137) (ps_a s 1138) (ps_a s 1139) (ps_a s 1157) (ps_a s 1176) (ps_i s 1131 21).toInt (ps_i s 1131 47).toInt (ps_i s 1131 54).toInt) (hV : ∀ k : Nat, k < 21320 ∨ 21812 ≤ k → ps_a s 1134 k = gv k) (k : ∀ (v : Int32) (s' : ps_S), mJ x t s' → kp [1134, 1161, 1162] [47, 48, 49, 54] s s' → (MI σ (ps_a s' 1134) (ps_a s' 1135) (ps_a s' 1136) (ps_a s' 1137) (ps_a s' 1138) (ps_a s' 1139) (ps_a s' 1157) (ps_a s' 1176) (ps_i s' 1131 21).toInt (ps_i s' 1131 47).toInt (ps_i s' 1131 54).toInt) → (∀ k : Nat, k < 21320 ∨ 21812 ≤ k → ps_a s' 1134 k = gv k) → f v s') : ps_Cl (d + 1) 306 [.ref 1131, .int x1] s (ps_rI f) := by
  have K : kp [1134, 1161, 1162] [47, 48, 49, 54] s s := kp_refl
  refine pg_306_0 (d := d) ?_
  refine ms_200 J  (fun v1 p1_0 b1 => ?_)
  have p1_0' : v1.toInt = 0 ∨ ((0 : Int) ≤ x1.toInt ∧ x1.toInt ≤ (2 : Int)) := p1_0
  refine And.intro (fun h2 => ?_) (fun h2 => ?_)
  · have f3 : v1.toInt = (0 : Int) := xeq h2
    exact k (-1 : Int32) _ J K (hMI) hV
  · have f4 : v1.toInt ≠ (0 : Int) := xne h2
    refine ps_nd_i (show pm_in x1 3 = true from xgi (show 0 ≤ x1.toInt from by omega) (show x1.toInt < 3 from by omega)) ?_
    have r5 : -1 ≤ (ps_a s 1176 (Int32.toNatClampNeg x1)).toInt ∧ (ps_a s 1176 (Int32.toNatClampNeg x1)).toInt ≤ 12 := ma_1176 (i := x1) J (show 0 ≤ x1.toInt from by omega) (show x1.toInt < 3 from by omega)
    refine And.intro (fun h6 => ?_) (fun h6 => ?_)
    · have f7 : (0 : Int) ≤ (ps_a s 1176 (Int32.toNatClampNeg x1)).toInt := xle h6
      refine ps_nd_i (show pm_in x1 3 = true from xgi (show 0 ≤ x1.toInt from by omega) (show x1.toInt < 3 from by omega)) ?_
      obtain ⟨g0, hg0⟩ : ∃ g0 : Nat → Int32, g0 = ps_a s 1134 := ⟨_, rfl⟩
      obtain ⟨th0, hth0⟩ : ∃ th0 : Int, th0 = (ps_i s 1131 54).toInt := ⟨_, rfl⟩
      have hM0 : MI σ g0 (ps_a s 1135) (ps_a s 1136) (ps_a s 1137) (ps_a s 1138) (ps_a s 1139) (ps_a s 1157) (ps_a s 1176) (ps_i s 1131 21).toInt (ps_i s 1131 47).toInt th0 := by rw [hg0, hth0]; exact hMI
      have hof : ∀ k : Nat, (k : Int) < 21320 ∨ 21812 ≤ (k : Int) → ps_a s 1134 k = g0 k := fun k _ => (congrFun hg0 k).symm
      have J8 := mwi_54 (v := (ps_a s 1176 (Int32.toNatClampNeg x1))) J (show 0 ≤ (ps_a s 1176 (Int32.toNatClampNeg x1)).toInt from by omega) (show (ps_a s 1176 (Int32.toNatClampNeg x1)).toInt ≤ 12 from by omega)
      have K9 := kpi K (q := 54) (v := (ps_a s 1176 (Int32.toNatClampNeg x1))) rfl
      have hgb : (ps_a (ps_ui s 1131 54 (ps_a s 1176 (Int32.toNatClampNeg x1))) 1176 x1.toInt.toNat).toInt = (ps_i (ps_ui s 1131 54 (ps_a s 1176 (Int32.toNatClampNeg x1))) 1131 54).toInt := rfl
      exact mw_306_32 (x1 := x1) (σ := σ) (gv := gv) k  (20 - (0 : Int)).toNat (0) g0 th0 _ J8 K9 hM0 hof hgb (fun k hk => absurd hk (by rw [Int32.toInt_zero]; omega)) (show 0 ≤ x1.toInt from by omega) (show x1.toInt ≤ 2 from by omega) (show 0 ≤ (0 : Int) from by omega) (show (0 : Int) ≤ (ps_a s 1176 (Int32.toNatClampNeg x1)).toInt from by omega) hV (show 20 - (0 : Int) ≤ (((20 - (0 : Int)).toNat : Nat) : Int) from by omega)
    · have f10 : (ps_a s 1176 (Int32.toNatClampNeg x1)).toInt < (0 : Int) := xlt h6
      exact k (-1 : Int32) _ J K (hMI) hV
end
section
set_option maxRecDepth 100000
theorem mw_288_51 {x : Nat → Nat → Nat} {t : Int32} {d : Nat} {s0 : ps_S} {σ : mSig} {gv : Nat → Int32} {Q : Option Value → ps_S → Prop} (k : ∀ (v : Int32) (s' : ps_S), mJ x t s' → kp [1133, 1134, 1143, 1144, 1145, 1146, 1147, 1148, 1149, 1150, 1151, 1167, 1168] [3, 4, 5, 6, 7, 8, 9, 10, 11, 22, 23, 29, 30, 31, 32, 34, 63, 64, 65] s0 s' → (MI σ (ps_a s' 1134) (ps_a s' 1135) (ps_a s' 1136) (ps_a s' 1137) (ps_a s' 1138) (ps_a s' 1139) (ps_a s' 1157) (ps_a s' 1176) (ps_i s' 1131 21).toInt (ps_i s' 1131 47).toInt (ps_i s' 1131 54).toInt) → ((ps_i s' 1131 3).toInt = 0) → (∀ k : Nat, k < 25789 ∨ 25830 ≤ k → ps_a s' 1134 k = gv k) → Q (some (.int v)) s') : ∀ (n : Nat) (x1 : Int32) (s : ps_S), (mJ x t s) → (kp [1133, 1134, 1143, 1144, 1145, 1146, 1147, 1148, 1149, 1150, 1151, 1167, 1168] [3, 4, 5, 6, 7, 8, 9, 10, 11, 22, 23, 29, 30, 31, 32, 34, 63, 64, 65] s0 s) → (MI σ (ps_a s 1134) (ps_a s 1135) (ps_a s 1136) (ps_a s 1137) (ps_a s 1138) (ps_a s 1139) (ps_a s 1157) (ps_a s 1176) (ps_i s 1131 21).toInt (ps_i s 1131 47).toInt (ps_i s 1131 54).toInt) → (∃ nl, Rw (ps_a s 1134) (25789 : Int32).toInt nl ∧ ws σ nl [false]) → (0 ≤ x1.toInt) → (x1.toInt ≤ 60) → ((ps_i s 1131 47).toInt ≤ 40) → ((ps_i s 1131 3).toInt = 0) → (∀ k : Nat, k < 25789 ∨ 25830 ≤ k → ps_a s 1134 k = gv k) → 70 - x1.toInt ≤ (n : Int) → ps_At (d + 6) 288 51 [(0, .ref 1131), (1, .int x1)] [] s Q := by
  refine xstr (fun n ih => ?_)
  intro x1 s J K hMI hNl i2 i3 i4 i5 hV hm
  have r1 := mf_47 J
  have r2 := mf_3 J
  refine pg_288_51 (d := d + 5) ?_
  obtain ⟨nl, hN, hNw⟩ := id hNl
  have h47 : (ps_i s 1131 47).toInt ≤ 40 := (mf_47 J).2
  refine ms_287 J hMI hN (hNw) (fun v3 s3 J3 K3 p3_0 b3 => ?_)
  have K4 := kpt K K3 rfl rfl
  have hMI : MI σ (ps_a s3 1134) (ps_a s3 1135) (ps_a s3 1136) (ps_a s3 1137) (ps_a s3 1138) (ps_a s3 1139) (ps_a s3 1157) (ps_a s3 1176) (ps_i s3 1131 21).toInt (ps_i s3 1131 47).toInt (ps_i s3 1131 54).toInt := by rw [show ps_a s3 1134 = ps_a s 1134 from (K3.2 1134 rfl).1, show ps_a s3 1135 = ps_a s 1135 from (K3.2 1135 rfl).1, show ps_a s3 1136 = ps_a s 1136 from (K3.2 1136 rfl).1, show ps_a s3 1137 = ps_a s 1137 from (K3.2 1137 rfl).1, show ps_a s3 1138 = ps_a s 1138 from (K3.2 1138 rfl).1, show ps_a s3 1139 = ps_a s 1139 from (K3.2 1139 rfl).1, show ps_a s3 1157 = ps_a s 1157 from (K3.2 1157 rfl).1, show ps_a s3 1176 = ps_a s 1176 from (K3.2 1176 rfl).1, show ps_i s3 1131 21 = ps_i s 1131 21 from kp_i K3 21 rfl, show ps_i s3 1131 47 = ps_i s 1131 47 from kp_i K3 47 rfl, show ps_i s3 1131 54 = ps_i s 1131 54 from kp_i K3 54 rfl]; exact hMI
  have hNl : ∃ nl, Rw (ps_a s3 1134) (25789 : Int32).toInt nl ∧ ws σ nl [false] := by rw [show ps_a s3 1134 = ps_a s 1134 from (K3.2 1134 rfl).1]; exact hNl
  have hV : ∀ k : Nat, k < 25789 ∨ 25830 ≤ k → ps_a s3 1134 k = gv k := by rw [show ps_a s3 1134 = ps_a s 1134 from (K3.2 1134 rfl).1]; exact hV
  have hN : Rw (ps_a s3 1134) (25789 : Int32).toInt nl := by rw [show ps_a s3 1134 = ps_a s 1134 from (K3.2 1134 rfl).1]; exact hN
  have h47 : (ps_i s3 1131 47).toInt ≤ 40 := by rw [show ps_i s3 1131 47 = ps_i s 1131 47 from kp_i K3 47 rfl]; exact h47
  have hrw : _ := p3_0
  refine And.intro (fun h5 => ?_) (fun h5 => ?_)
  · have f6 : v3.toInt = (0 : Int) := xeq h5
    have r7 := mf_3 J3
    have u8 : (ps_i s3 1131 3).toInt = (ps_i s 1131 3).toInt := xeq (kp_i K3 3 rfl)
    exact k x1 _ J3 K4 hMI (show (ps_i s3 1131 3).toInt = 0 from by omega) hV
  · have f9 : v3.toInt ≠ (0 : Int) := xne h5
    refine And.intro (fun h10 => ?_) (fun h10 => ?_)
    · have f11 : x1.toInt = (60 : Int) := xeq h10
      refine ps_nd_i (show pm_in (25789 : Int32) 27400 = true from xgi (show 0 ≤ (25789 : Int) from by omega) (show (25789 : Int) < 27400 from by omega)) ?_
      have J12 := mw_p (i := (25789 : Int32)) (v := (0 : Int32)) J3 (show (25789 : Int) % 41 = 0 → 0 ≤ (0 : Int) ∧ (0 : Int) ≤ 40 from by omega) (show 0 ≤ (25789 : Int) from by omega)
      have K13 := kpa' K4 (r := 1134) (i := (Int32.toNatClampNeg (25789 : Int32))) (v := (0 : Int32)) rfl
      have r14 := mf_3 J3
      have u15 : (ps_i s3 1131 3).toInt = (ps_i s 1131 3).toInt := xeq (kp_i K3 3 rfl)
      exact k (-2 : Int32) _ J12 K13 (MI_norm hMI h47 (fun k hk => ua_ne (show k ≠ 25789 from by omega))) (show (ps_i s3 1131 3).toInt = 0 from by omega) (fun k hk => (ua_ne (show k ≠ 25789 from by omega)).trans (hV k hk))
    · have f16 : x1.toInt ≠ (60 : Int) := xne h10
      obtain ⟨ml, hm1, hm2, hm3⟩ := hrw (by omega)
      have hS := MI_S hMI
      have hMl : Md (ps_a s3 1149) (ps_i s3 1131 34).toInt (ml) := hm1
      refine ms_228 J3 (hS) (hm1) (hm3) (fun v17 s17 J17 K17 p17_0 b17 => ?_)
      have K18 := kpt K4 K17 rfl rfl
      have hMI : MI σ (ps_a s17 1134) (ps_a s17 1135) (ps_a s17 1136) (ps_a s17 1137) (ps_a s17 1138) (ps_a s17 1139) (ps_a s17 1157) (ps_a s17 1176) (ps_i s17 1131 21).toInt (ps_i s17 1131 47).toInt (ps_i s17 1131 54).toInt := by rw [show ps_a s17 1134 = ps_a s3 1134 from (K17.2 1134 rfl).1, show ps_a s17 1135 = ps_a s3 1135 from (K17.2 1135 rfl).1, show ps_a s17 1136 = ps_a s3 1136 from (K17.2 1136 rfl).1, show ps_a s17 1137 = ps_a s3 1137 from (K17.2 1137 rfl).1, show ps_a s17 1138 = ps_a s3 1138 from (K17.2 1138 rfl).1, show ps_a s17 1139 = ps_a s3 1139 from (K17.2 1139 rfl).1, show ps_a s17 1157 = ps_a s3 1157 from (K17.2 1157 rfl).1, show ps_a s17 1176 = ps_a s3 1176 from (K17.2 1176 rfl).1, show ps_i s17 1131 21 = ps_i s3 1131 21 from kp_i K17 21 rfl, show ps_i s17 1131 47 = ps_i s3 1131 47 from kp_i K17 47 rfl, show ps_i s17 1131 54 = ps_i s3 1131 54 from kp_i K17 54 rfl]; exact hMI
      have hNl : ∃ nl, Rw (ps_a s17 1134) (25789 : Int32).toInt nl ∧ ws σ nl [false] := by rw [show ps_a s17 1134 = ps_a s3 1134 from (K17.2 1134 rfl).1]; exact hNl
      have hV : ∀ k : Nat, k < 25789 ∨ 25830 ≤ k → ps_a s17 1134 k = gv k := by rw [show ps_a s17 1134 = ps_a s3 1134 from (K17.2 1134 rfl).1]; exact hV
      have hN : Rw (ps_a s17 1134) (25789 : Int32).toInt nl := by rw [show ps_a s17 1134 = ps_a s3 1134 from (K17.2 1134 rfl).1]; exact hN
      have h47 : (ps_i s17 1131 47).toInt ≤ 40 := by rw [show ps_i s17 1131 47 = ps_i s3 1131 47 from kp_i K17 47 rfl]; exact h47
      have hMl : Md (ps_a s17 1149) (ps_i s17 1131 34).toInt (ml) := by rw [show ps_a s17 1149 = ps_a s3 1149 from (K17.2 1149 rfl).1, show ps_i s17 1131 34 = ps_i s3 1131 34 from kp_i K17 34 rfl]; exact hMl
      have hv : _ := p17_0
      refine And.intro (fun h19 => ?_) (fun h19 => ?_)
      · have f20 : v17.toInt ≠ (0 : Int) := xne h19
        obtain ⟨g0, hg0⟩ : ∃ g0 : Nat → Int32, g0 = ps_a s17 1134 := ⟨_, rfl⟩
        have hM0 : MI σ g0 (ps_a s17 1135) (ps_a s17 1136) (ps_a s17 1137) (ps_a s17 1138) (ps_a s17 1139) (ps_a s17 1157) (ps_a s17 1176) (ps_i s17 1131 21).toInt (ps_i s17 1131 47).toInt (ps_i s17 1131 54).toInt := by rw [hg0]; exact hMI
        have e48 : (25789 : Int32).toInt = 25789 := by decide
        have hV0 : ∀ k : Nat, k < 25789 ∨ 25830 ≤ k → g0 k = gv k := by rw [hg0]; exact hV
        refine ms_229 J17 (hMl) (show (25789 : Int) % 41 = 0 from by omega) (show 0 ≤ (25789 : Int) from by omega) (show (25789 : Int) < 27306 from by omega) ((by rcases hv with z | z; omega; exact z.1)) (fun s21 J21 K21 p21_0 p21_1 => ?_)
        have K22 := kpt K18 K21 rfl rfl
        have h47 : (ps_i s21 1131 47).toInt ≤ 40 := by rw [show ps_i s21 1131 47 = ps_i s17 1131 47 from kp_i K21 47 rfl]; exact h47
        have hMl : Md (ps_a s21 1149) (ps_i s21 1131 34).toInt (ml) := by rw [show ps_a s21 1149 = ps_a s17 1149 from (K21.2 1149 rfl).1, show ps_i s21 1131 34 = ps_i s17 1131 34 from kp_i K21 34 rfl]; exact hMl
        have hM0 : MI σ g0 (ps_a s21 1135) (ps_a s21 1136) (ps_a s21 1137) (ps_a s21 1138) (ps_a s21 1139) (ps_a s21 1157) (ps_a s21 1176) (ps_i s21 1131 21).toInt (ps_i s21 1131 47).toInt (ps_i s21 1131 54).toInt := by rw [show ps_a s21 1135 = ps_a s17 1135 from (K21.2 1135 rfl).1, show ps_a s21 1136 = ps_a s17 1136 from (K21.2 1136 rfl).1, show ps_a s21 1137 = ps_a s17 1137 from (K21.2 1137 rfl).1, show ps_a s21 1138 = ps_a s17 1138 from (K21.2 1138 rfl).1, show ps_a s21 1139 = ps_a s17 1139 from (K21.2 1139 rfl).1, show ps_a s21 1157 = ps_a s17 1157 from (K21.2 1157 rfl).1, show ps_a s21 1176 = ps_a s17 1176 from (K21.2 1176 rfl).1, show ps_i s21 1131 21 = ps_i s17 1131 21 from kp_i K21 21 rfl, show ps_i s21 1131 47 = ps_i s17 1131 47 from kp_i K21 47 rfl, show ps_i s21 1131 54 = ps_i s17 1131 54 from kp_i K21 54 rfl]; exact hM0
        have hk1 : _ := p21_0
        have ho : _ := p21_1
        have a23 : (x1 + 1).toInt = x1.toInt + (1 : Int) := xIa (show -2147483648 ≤ x1.toInt + (1 : Int) from by omega) (show x1.toInt + (1 : Int) < 2147483648 from by omega)
        have r24 := mf_47 J21
        have u25 : (ps_i s21 1131 47).toInt = (ps_i s17 1131 47).toInt := xeq (kp_i K21 47 rfl)
        have r26 := mf_47 J17
        have u27 : (ps_i s17 1131 47).toInt = (ps_i s3 1131 47).toInt := xeq (kp_i K17 47 rfl)
        have r28 := mf_47 J3
        have u29 : (ps_i s3 1131 47).toInt = (ps_i s 1131 47).toInt := xeq (kp_i K3 47 rfl)
        have r30 := mf_3 J21
        have u31 : (ps_i s21 1131 3).toInt = (ps_i s17 1131 3).toInt := xeq (kp_i K21 3 rfl)
        have r32 := mf_3 J17
        have u33 : (ps_i s17 1131 3).toInt = (ps_i s3 1131 3).toInt := xeq (kp_i K17 3 rfl)
        have r34 := mf_3 J3
        have u35 : (ps_i s3 1131 3).toInt = (ps_i s 1131 3).toInt := xeq (kp_i K3 3 rfl)
        exact ih (n - 1) (show n - 1 < n from by omega) (x1 + 1) _ J21 K22 (MI_norm hM0 h47 (fun k hk => (ho k (by omega)).trans (congrFun hg0 k).symm)) (⟨ml, hk1, hm3⟩) (show 0 ≤ (x1 + 1).toInt from by omega) (show (x1 + 1).toInt ≤ 60 from by omega) (show (ps_i s21 1131 47).toInt ≤ 40 from by omega) (show (ps_i s21 1131 3).toInt = 0 from by omega) (fun k hk => (ho k (by omega)).trans ((congrFun hg0 k).symm.trans (hV0 k hk))) (show 70 - (x1 + 1).toInt ≤ ((n - 1 : Nat) : Int) from by omega)
      · have f36 : v17.toInt = (0 : Int) := xeq h19
        refine ps_nd_i (show pm_in (25789 : Int32) 27400 = true from xgi (show 0 ≤ (25789 : Int) from by omega) (show (25789 : Int) < 27400 from by omega)) ?_
        have J37 := mw_p (i := (25789 : Int32)) (v := (0 : Int32)) J17 (show (25789 : Int) % 41 = 0 → 0 ≤ (0 : Int) ∧ (0 : Int) ≤ 40 from by omega) (show 0 ≤ (25789 : Int) from by omega)
        have K38 := kpa' K18 (r := 1134) (i := (Int32.toNatClampNeg (25789 : Int32))) (v := (0 : Int32)) rfl
        have r39 := mf_3 J17
        have u40 : (ps_i s17 1131 3).toInt = (ps_i s3 1131 3).toInt := xeq (kp_i K17 3 rfl)
        have r41 := mf_3 J3
        have u42 : (ps_i s3 1131 3).toInt = (ps_i s 1131 3).toInt := xeq (kp_i K3 3 rfl)
        exact k (-2 : Int32) _ J37 K38 (MI_norm hMI h47 (fun k hk => ua_ne (show k ≠ 25789 from by omega))) (show (ps_i s17 1131 3).toInt = 0 from by omega) (fun k hk => (ua_ne (show k ≠ 25789 from by omega)).trans (hV k hk))

theorem mw_288_31 {x : Nat → Nat → Nat} {t : Int32} {d : Nat} {s0 : ps_S} {σ : mSig} {gv : Nat → Int32} {Q : Option Value → ps_S → Prop} (k : ∀ (v : Int32) (s' : ps_S), mJ x t s' → kp [1133, 1134, 1143, 1144, 1145, 1146, 1147, 1148, 1149, 1150, 1151, 1167, 1168] [3, 4, 5, 6, 7, 8, 9, 10, 11, 22, 23, 29, 30, 31, 32, 34, 63, 64, 65] s0 s' → (MI σ (ps_a s' 1134) (ps_a s' 1135) (ps_a s' 1136) (ps_a s' 1137) (ps_a s' 1138) (ps_a s' 1139) (ps_a s' 1157) (ps_a s' 1176) (ps_i s' 1131 21).toInt (ps_i s' 1131 47).toInt (ps_i s' 1131 54).toInt) → ((ps_i s' 1131 3).toInt = 0) → (∀ k : Nat, k < 25789 ∨ 25830 ≤ k → ps_a s' 1134 k = gv k) → Q (some (.int v)) s') (g0 : Nat → Int32) (s : ps_S) (J : mJ x t s) (K : kp [1133, 1134, 1143, 1144, 1145, 1146, 1147, 1148, 1149, 1150, 1151, 1167, 1168] [3, 4, 5, 6, 7, 8, 9, 10, 11, 22, 23, 29, 30, 31, 32, 34, 63, 64, 65] s0 s) (hM0 : MI σ g0 (ps_a s 1135) (ps_a s 1136) (ps_a s 1137) (ps_a s 1138) (ps_a s 1139) (ps_a s 1157) (ps_a s 1176) (ps_i s 1131 21).toInt (ps_i s 1131 47).toInt (ps_i s 1131 54).toInt) (hof : ∀ k : Nat, (k : Int) < 25789 ∨ 25830 ≤ (k : Int) → ps_a s 1134 k = g0 k) (i2 : 1 ≤ (ps_i s 1131 5).toInt ∨ ∃ nl, Rw (ps_a s 1134) (25789 : Int32).toInt nl ∧ ws σ nl [false]) (i3 : (ps_i s 1131 47).toInt ≤ 40) (i4 : (ps_i s 1131 3).toInt = 0) (hV : ∀ k : Nat, k < 25789 ∨ 25830 ≤ k → ps_a s 1134 k = gv k) : ps_At (d + 6) 288 31 [(0, .ref 1131)] [] s Q := by
  have r1 := mf_47 J
  have r2 := mf_3 J
  refine pg_288_31 (d := d + 5) ?_
  refine ms_192 J  (fun v3 p3_0 b3 => ?_)
  have p3_0' : (v3.toInt = 0 ∧ 1 ≤ (ps_i s 1131 5).toInt) ∨ (v3.toInt = 1 ∧ (ps_i s 1131 5).toInt = 0) := p3_0
  have r4 := mf_5 J
  refine And.intro (fun h5 => ?_) (fun h5 => ?_)
  · have f6 : v3.toInt ≠ (0 : Int) := xne h5
    exact mw_288_51 (σ := σ) (gv := gv) k  (70 - (0 : Int)).toNat (0) _ J K (MI_norm hM0 (show (ps_i s 1131 47).toInt ≤ 40 from by omega) hof) (i2.resolve_left (by omega)) (show 0 ≤ (0 : Int) from by omega) (show (0 : Int) ≤ 60 from by omega) (show (ps_i s 1131 47).toInt ≤ 40 from by omega) (show (ps_i s 1131 3).toInt = 0 from by omega) hV (show 70 - (0 : Int) ≤ (((70 - (0 : Int)).toNat : Nat) : Int) from by omega)
  · have f7 : v3.toInt = (0 : Int) := xeq h5
    refine ps_nd_i (show pm_in (25789 : Int32) 27400 = true from xgi (show 0 ≤ (25789 : Int) from by omega) (show (25789 : Int) < 27400 from by omega)) ?_
    have J8 := mw_p (i := (25789 : Int32)) (v := (0 : Int32)) J (show (25789 : Int) % 41 = 0 → 0 ≤ (0 : Int) ∧ (0 : Int) ≤ 40 from by omega) (show 0 ≤ (25789 : Int) from by omega)
    have K9 := kpa' K (r := 1134) (i := (Int32.toNatClampNeg (25789 : Int32))) (v := (0 : Int32)) rfl
    exact k (-1 : Int32) _ J8 K9 (MI_norm hM0 (show (ps_i s 1131 47).toInt ≤ 40 from by omega) (fun k hk => (ua_ne (show k ≠ 25789 from by omega)).trans (hof k hk))) (show (ps_i s 1131 3).toInt = 0 from by omega) (fun k hk => (ua_ne (show k ≠ 25789 from by omega)).trans (hV k hk))

theorem mw_288 {x : Nat → Nat → Nat} {t : Int32} {s : ps_S} {d : Nat} {f : Int32 → ps_S → Prop} (J : mJ x t s) {σ : mSig} {gv : Nat → Int32} (hMI : MI σ (ps_a s 1134) (ps_a s 1135) (ps_a s 1136) (ps_a s 1137) (ps_a s 1138) (ps_a s 1139) (ps_a s 1157) (ps_a s 1176) (ps_i s 1131 21).toInt (ps_i s 1131 47).toInt (ps_i s 1131 54).toInt) (hV : ∀ k : Nat, k < 25789 ∨ 25830 ≤ k → ps_a s 1134 k = gv k) (k : ∀ (v : Int32) (s' : ps_S), mJ x t s' → kp [1133, 1134, 1143, 1144, 1145, 1146, 1147, 1148, 1149, 1150, 1151, 1167, 1168] [3, 4, 5, 6, 7, 8, 9, 10, 11, 22, 23, 29, 30, 31, 32, 34, 63, 64, 65] s s' → (MI σ (ps_a s' 1134) (ps_a s' 1135) (ps_a s' 1136) (ps_a s' 1137) (ps_a s' 1138) (ps_a s' 1139) (ps_a s' 1157) (ps_a s' 1176) (ps_i s' 1131 21).toInt (ps_i s' 1131 47).toInt (ps_i s' 1131 54).toInt) → ((ps_i s' 1131 3).toInt = 0) → (∀ k : Nat, k < 25789 ∨ 25830 ≤ k → ps_a s' 1134 k = gv k) → f v s') : ps_Cl (d + 6) 288 [.ref 1131] s (ps_rI f) := by
  have K : kp [1133, 1134, 1143, 1144, 1145, 1146, 1147, 1148, 1149, 1150, 1151, 1167, 1168] [3, 4, 5, 6, 7, 8, 9, 10, 11, 22, 23, 29, 30, 31, 32, 34, 63, 64, 65] s s := kp_refl
  refine pg_288_0 (d := d + 5) ?_
  refine ms_198 J  (fun s1 J1 K1 p1_0 p1_1 p1_2 p1_3 p1_4 => ?_)
  have K2 := kpt K K1 rfl rfl
  have hMI : MI σ (ps_a s1 1134) (ps_a s1 1135) (ps_a s1 1136) (ps_a s1 1137) (ps_a s1 1138) (ps_a s1 1139) (ps_a s1 1157) (ps_a s1 1176) (ps_i s1 1131 21).toInt (ps_i s1 1131 47).toInt (ps_i s1 1131 54).toInt := by rw [show ps_a s1 1134 = ps_a s 1134 from (K1.2 1134 rfl).1, show ps_a s1 1135 = ps_a s 1135 from (K1.2 1135 rfl).1, show ps_a s1 1136 = ps_a s 1136 from (K1.2 1136 rfl).1, show ps_a s1 1137 = ps_a s 1137 from (K1.2 1137 rfl).1, show ps_a s1 1138 = ps_a s 1138 from (K1.2 1138 rfl).1, show ps_a s1 1139 = ps_a s 1139 from (K1.2 1139 rfl).1, show ps_a s1 1157 = ps_a s 1157 from (K1.2 1157 rfl).1, show ps_a s1 1176 = ps_a s 1176 from (K1.2 1176 rfl).1, show ps_i s1 1131 21 = ps_i s 1131 21 from kp_i K1 21 rfl, show ps_i s1 1131 47 = ps_i s 1131 47 from kp_i K1 47 rfl, show ps_i s1 1131 54 = ps_i s 1131 54 from kp_i K1 54 rfl]; exact hMI
  have hV : ∀ k : Nat, k < 25789 ∨ 25830 ≤ k → ps_a s1 1134 k = gv k := by rw [show ps_a s1 1134 = ps_a s 1134 from (K1.2 1134 rfl).1]; exact hV
  have p1_0' : (ps_i s1 1131 8).toInt ≤ (ps_i s1 1131 4).toInt := p1_0
  have r3 := mf_8 J1
  have r4 := mf_4 J1
  have p1_1' : (ps_i s1 1131 5).toInt = 0 := p1_1
  have r5 := mf_5 J1
  have p1_2' : (ps_i s1 1131 3).toInt = 0 := p1_2
  have r6 := mf_3 J1
  have p1_3' : (ps_i s1 1131 23).toInt = 0 := p1_3
  have r7 := mf_23 J1
  have p1_4' : (ps_i s1 1131 22).toInt = (ps_i s1 1131 21).toInt := p1_4
  have r8 := mf_22 J1
  have r9 := mf_21 J1
  have u10 : (ps_i s1 1131 21).toInt = (ps_i s 1131 21).toInt := xeq (kp_i K1 21 rfl)
  have r11 := mf_21 J
  have hS2 : Sg (ps_a s1 1135) (ps_a s1 1136) (ps_a s1 1138) (ps_a s1 1139) (ps_i s1 1131 22).toInt σ := by rw [show (ps_i s1 1131 22).toInt = (ps_i s1 1131 21).toInt from by omega]; exact hMI.1
  obtain ⟨g0, hg0⟩ : ∃ g0 : Nat → Int32, g0 = ps_a s1 1134 := ⟨_, rfl⟩
  have hM0 : MI σ g0 (ps_a s1 1135) (ps_a s1 1136) (ps_a s1 1137) (ps_a s1 1138) (ps_a s1 1139) (ps_a s1 1157) (ps_a s1 1176) (ps_i s1 1131 21).toInt (ps_i s1 1131 47).toInt (ps_i s1 1131 54).toInt := by rw [hg0]; exact hMI
  have e48 : (25789 : Int32).toInt = 25789 := by decide
  have hV0 : ∀ k : Nat, k < 25789 ∨ 25830 ≤ k → g0 k = gv k := by rw [hg0]; exact hV
  refine ms_209 (b := false) J1 hS2 (show (25789 : Int) % 41 = 0 from by omega) (show 0 ≤ (25789 : Int) from by omega) (show (25789 : Int) < 27306 from by omega) (show (ps_i s1 1131 8).toInt ≤ (ps_i s1 1131 4).toInt from by omega) ((Or.inr ⟨by decide, rfl⟩)) ((by decide)) (fun s12 J12 K12 p12_0 p12_1 p12_2 p12_3 => ?_)
  have K13 := kpt K2 K12 rfl rfl
  have hS2 : Sg (ps_a s12 1135) (ps_a s12 1136) (ps_a s12 1138) (ps_a s12 1139) (ps_i s12 1131 22).toInt σ := by rw [show ps_a s12 1135 = ps_a s1 1135 from (K12.2 1135 rfl).1, show ps_a s12 1136 = ps_a s1 1136 from (K12.2 1136 rfl).1, show ps_a s12 1138 = ps_a s1 1138 from (K12.2 1138 rfl).1, show ps_a s12 1139 = ps_a s1 1139 from (K12.2 1139 rfl).1, show ps_i s12 1131 22 = ps_i s1 1131 22 from kp_i K12 22 rfl]; exact hS2
  have hM0 : MI σ g0 (ps_a s12 1135) (ps_a s12 1136) (ps_a s12 1137) (ps_a s12 1138) (ps_a s12 1139) (ps_a s12 1157) (ps_a s12 1176) (ps_i s12 1131 21).toInt (ps_i s12 1131 47).toInt (ps_i s12 1131 54).toInt := by rw [show ps_a s12 1135 = ps_a s1 1135 from (K12.2 1135 rfl).1, show ps_a s12 1136 = ps_a s1 1136 from (K12.2 1136 rfl).1, show ps_a s12 1137 = ps_a s1 1137 from (K12.2 1137 rfl).1, show ps_a s12 1138 = ps_a s1 1138 from (K12.2 1138 rfl).1, show ps_a s12 1139 = ps_a s1 1139 from (K12.2 1139 rfl).1, show ps_a s12 1157 = ps_a s1 1157 from (K12.2 1157 rfl).1, show ps_a s12 1176 = ps_a s1 1176 from (K12.2 1176 rfl).1, show ps_i s12 1131 21 = ps_i s1 1131 21 from kp_i K12 21 rfl, show ps_i s12 1131 47 = ps_i s1 1131 47 from kp_i K12 47 rfl, show ps_i s12 1131 54 = ps_i s1 1131 54 from kp_i K12 54 rfl]; exact hM0
  have p12_0' : (ps_i s12 1131 8).toInt ≤ (ps_i s12 1131 4).toInt := p12_0
  have r14 := mf_8 J12
  have r15 := mf_4 J12
  have u16 : (ps_i s12 1131 4).toInt = (ps_i s1 1131 4).toInt := xeq (kp_i K12 4 rfl)
  have p12_1' : 1 ≤ (ps_i s1 1131 5).toInt → 1 ≤ (ps_i s12 1131 5).toInt := p12_1
  have r17 := mf_5 J12
  have ho : _ := p12_2
  have hrow : _ := p12_3
  have hof : ∀ k : Nat, (k : Int) < 25789 ∨ 25830 ≤ (k : Int) → ps_a s12 1134 k = g0 k := fun k hk => (ho k (by omega)).trans (congrFun hg0 k).symm
  have hF : 1 ≤ (ps_i s12 1131 5).toInt ∨ ∃ nl, Rw (ps_a s12 1134) (25789 : Int32).toInt nl ∧ ws σ nl [false] := hrow.imp id (fun z => (by obtain ⟨l2, g1, g2, g3⟩ := z; exact ⟨l2, g1, wf_ws g2⟩))
  refine ms_192 J12  (fun v18 p18_0 b18 => ?_)
  have p18_0' : (v18.toInt = 0 ∧ 1 ≤ (ps_i s12 1131 5).toInt) ∨ (v18.toInt = 1 ∧ (ps_i s12 1131 5).toInt = 0) := p18_0
  refine And.intro (fun h19 => ?_) (fun h19 => ?_)
  · have f20 : v18.toInt = (0 : Int) := xeq h19
    have r21 := mf_47 J12
    have u22 : (ps_i s12 1131 47).toInt = (ps_i s1 1131 47).toInt := xeq (kp_i K12 47 rfl)
    have r23 := mf_47 J1
    have u24 : (ps_i s1 1131 47).toInt = (ps_i s 1131 47).toInt := xeq (kp_i K1 47 rfl)
    have r25 := mf_47 J
    have r26 := mf_3 J12
    have u27 : (ps_i s12 1131 3).toInt = (ps_i s1 1131 3).toInt := xeq (kp_i K12 3 rfl)
    exact mw_288_31 (σ := σ) (gv := gv) k  g0 _ J12 K13 hM0 hof (by assumption) (show (ps_i s12 1131 47).toInt ≤ 40 from by omega) (show (ps_i s12 1131 3).toInt = 0 from by omega) (fun k hk => (hof k (by omega)).trans (hV0 k hk))
  · have f28 : v18.toInt ≠ (0 : Int) := xne h19
    have r29 := mf_9 J12
    refine And.intro (fun h30 => ?_) (fun h30 => ?_)
    · have f31 : (ps_i s12 1131 9).toInt = (0 : Int) := xeq h30
      have r32 := mf_47 J12
      have u33 : (ps_i s12 1131 47).toInt = (ps_i s1 1131 47).toInt := xeq (kp_i K12 47 rfl)
      have r34 := mf_47 J1
      have u35 : (ps_i s1 1131 47).toInt = (ps_i s 1131 47).toInt := xeq (kp_i K1 47 rfl)
      have r36 := mf_47 J
      have r37 := mf_3 J12
      have u38 : (ps_i s12 1131 3).toInt = (ps_i s1 1131 3).toInt := xeq (kp_i K12 3 rfl)
      exact mw_288_31 (σ := σ) (gv := gv) k  g0 _ J12 K13 hM0 hof (by assumption) (show (ps_i s12 1131 47).toInt ≤ 40 from by omega) (show (ps_i s12 1131 3).toInt = 0 from by omega) (fun k hk => (hof k (by omega)).trans (hV0 k hk))
    · have f39 : (ps_i s12 1131 9).toInt ≠ (0 : Int) := xne h30
      refine ms_196 J12  (fun s40 J40 K40 p40_0 => ?_)
      have K41 := kpt K13 K40 rfl rfl
      have hS2 : Sg (ps_a s40 1135) (ps_a s40 1136) (ps_a s40 1138) (ps_a s40 1139) (ps_i s40 1131 22).toInt σ := by rw [show ps_a s40 1135 = ps_a s12 1135 from (K40.2 1135 rfl).1, show ps_a s40 1136 = ps_a s12 1136 from (K40.2 1136 rfl).1, show ps_a s40 1138 = ps_a s12 1138 from (K40.2 1138 rfl).1, show ps_a s40 1139 = ps_a s12 1139 from (K40.2 1139 rfl).1, show ps_i s40 1131 22 = ps_i s12 1131 22 from kp_i K40 22 rfl]; exact hS2
      have hM0 : MI σ g0 (ps_a s40 1135) (ps_a s40 1136) (ps_a s40 1137) (ps_a s40 1138) (ps_a s40 1139) (ps_a s40 1157) (ps_a s40 1176) (ps_i s40 1131 21).toInt (ps_i s40 1131 47).toInt (ps_i s40 1131 54).toInt := by rw [show ps_a s40 1135 = ps_a s12 1135 from (K40.2 1135 rfl).1, show ps_a s40 1136 = ps_a s12 1136 from (K40.2 1136 rfl).1, show ps_a s40 1137 = ps_a s12 1137 from (K40.2 1137 rfl).1, show ps_a s40 1138 = ps_a s12 1138 from (K40.2 1138 rfl).1, show ps_a s40 1139 = ps_a s12 1139 from (K40.2 1139 rfl).1, show ps_a s40 1157 = ps_a s12 1157 from (K40.2 1157 rfl).1, show ps_a s40 1176 = ps_a s12 1176 from (K40.2 1176 rfl).1, show ps_i s40 1131 21 = ps_i s12 1131 21 from kp_i K40 21 rfl, show ps_i s40 1131 47 = ps_i s12 1131 47 from kp_i K40 47 rfl, show ps_i s40 1131 54 = ps_i s12 1131 54 from kp_i K40 54 rfl]; exact hM0
      have hof : ∀ k : Nat, (k : Int) < 25789 ∨ 25830 ≤ (k : Int) → ps_a s40 1134 k = g0 k := by rw [show ps_a s40 1134 = ps_a s12 1134 from (K40.2 1134 rfl).1]; exact hof
      have p40_0' : 1 ≤ (ps_i s40 1131 5).toInt := p40_0
      have r42 := mf_5 J40
      have r43 := mf_47 J40
      have u44 : (ps_i s40 1131 47).toInt = (ps_i s12 1131 47).toInt := xeq (kp_i K40 47 rfl)
      have r45 := mf_47 J12
      have u46 : (ps_i s12 1131 47).toInt = (ps_i s1 1131 47).toInt := xeq (kp_i K12 47 rfl)
      have r47 := mf_47 J1
      have u48 : (ps_i s1 1131 47).toInt = (ps_i s 1131 47).toInt := xeq (kp_i K1 47 rfl)
      have r49 := mf_47 J
      have r50 := mf_3 J40
      have u51 : (ps_i s40 1131 3).toInt = (ps_i s12 1131 3).toInt := xeq (kp_i K40 3 rfl)
      have r52 := mf_3 J12
      have u53 : (ps_i s12 1131 3).toInt = (ps_i s1 1131 3).toInt := xeq (kp_i K12 3 rfl)
      exact mw_288_31 (σ := σ) (gv := gv) k  g0 _ J40 K41 hM0 hof (Or.inl (show 1 ≤ (ps_i s40 1131 5).toInt from by omega)) (show (ps_i s40 1131 47).toInt ≤ 40 from by omega) (show (ps_i s40 1131 3).toInt = 0 from by omega) (fun k hk => (hof k (by omega)).trans (hV0 k hk))
end
section
set_option maxRecDepth 100000
/-! the class's theory(), whole -/
def kk2 (q : Nat) : Prop := 50 ≤ q ∧ q < 870
def kk7 (q : Nat) : Prop := (870 ≤ q ∧ q < 902) ∨ (1038 ≤ q ∧ q < 1131)
/-- what is cleared behind a theory taken -/
def kkC (q : Nat) : Prop := kk2 q ∨ kk7 q ∨ q = 934 ∨ (1021 ≤ q ∧ q < 1038) ∨ (944 ≤ q ∧ q < 1021)
def kkt (a : Nat) : Nat → Bool
  | 0 => true
  | n + 1 => (!ps_is (a + n) 2 || (Nat.ble 50 (a + n) && Nat.blt (a + n) 870)) && (!ps_is (a + n) 7 || (Nat.ble 870 (a + n) && (Nat.blt (a + n) 902 || Nat.ble 1038 (a + n)))) && kkt a n
theorem kkt_ok {a : Nat} : ∀ {n : Nat}, kkt a n = true → ∀ r, a ≤ r → r < a + n → (ps_is r 2 = true → 50 ≤ r ∧ r < 870) ∧ (ps_is r 7 = true → (870 ≤ r ∧ r < 902) ∨ 1038 ≤ r)
  | 0, _, r, h1, h2 => by omega
  | n + 1, h, r, h1, h2 => by
    unfold kkt at h
    rw [Bool.and_eq_true, Bool.and_eq_true] at h
    by_cases e : r = a + n
    · obtain ⟨⟨g1, g2⟩, -⟩ := h
      rw [← e] at g1 g2
      refine ⟨fun z => ?_, fun z => ?_⟩
      · rw [z, Bool.or_eq_true, Bool.and_eq_true] at g1
        rcases g1 with g1 | g1
        · cases g1
        · exact ⟨Nat.le_of_ble_eq_true g1.1, Nat.le_of_ble_eq_true g1.2⟩
      · rw [z, Bool.or_eq_true, Bool.and_eq_true, Bool.or_eq_true] at g2
        rcases g2 with g2 | ⟨g2, g3 | g3⟩
        · cases g2
        · exact Or.inl ⟨Nat.le_of_ble_eq_true g2, Nat.le_of_ble_eq_true g3⟩
        · exact Or.inr (Nat.le_of_ble_eq_true g3)
    · exact kkt_ok h.2 r h1 (by omega)
set_option maxRecDepth 1000000
theorem kkt_0 : kkt 0 150 = true := by decide +kernel
theorem kkt_150 : kkt 150 150 = true := by decide +kernel
theorem kkt_300 : kkt 300 150 = true := by decide +kernel
theorem kkt_450 : kkt 450 150 = true := by decide +kernel
theorem kkt_600 : kkt 600 150 = true := by decide +kernel
theorem kkt_750 : kkt 750 150 = true := by decide +kernel
theorem kkt_900 : kkt 900 150 = true := by decide +kernel
theorem kkt_1050 : kkt 1050 81 = true := by decide +kernel
set_option maxRecDepth 100000
theorem kkt_is {r : Nat} (hr : r < 1131) : (ps_is r 2 = true → 50 ≤ r ∧ r < 870) ∧ (ps_is r 7 = true → (870 ≤ r ∧ r < 902) ∨ 1038 ≤ r) := by
  by_cases h150 : r < 150
  · exact kkt_ok kkt_0 r (by omega) (by omega)
  by_cases h300 : r < 300
  · exact kkt_ok kkt_150 r (by omega) (by omega)
  by_cases h450 : r < 450
  · exact kkt_ok kkt_300 r (by omega) (by omega)
  by_cases h600 : r < 600
  · exact kkt_ok kkt_450 r (by omega) (by omega)
  by_cases h750 : r < 750
  · exact kkt_ok kkt_600 r (by omega) (by omega)
  by_cases h900 : r < 900
  · exact kkt_ok kkt_750 r (by omega) (by omega)
  by_cases h1050 : r < 1050
  · exact kkt_ok kkt_900 r (by omega) (by omega)
  exact kkt_ok kkt_1050 r (by omega) (by omega)
theorem fs_31d {n r : Nat} {s : ps_S} {R : ps_S → Prop} (k : ∀ s', cfr kkC s s' → R s') : pl_Cl n 31 [.ref r] s (ps_rV R) := by
  cases n with
  | zero => exact pl_At_0
  | succ n =>
  show pl_At (n + 1) 31 0 [(0, .ref r)] [] s (ps_rV R)
  refine pl_31_0 ?_
  refine pl_nk_i (fun nk2 => ?_)
  refine pl_nk_i (fun nk7 => ?_)
  refine pl_nk_i (fun nk12 => ?_)
  have hr : kkC r := Or.inl ((kkt_is (xis_lt (by decide) nk2)).1 nk2)
  exact k _ (cfr_i (cfr_i (cfr_i cfr_refl hr) hr) hr)
theorem fs_108d {n r : Nat} {s : ps_S} {R : ps_S → Prop} (k : ∀ s', cfr kkC s s' → R s') : pl_Cl n 108 [.ref r] s (ps_rV R) := by
  cases n with
  | zero => exact pl_At_0
  | succ n =>
  show pl_At (n + 1) 108 0 [(0, .ref r)] [] s (ps_rV R)
  refine pl_108_0 ?_
  refine pl_nk_i (fun nk2 => ?_)
  refine pl_nk_i (fun nk7 => ?_)
  have hl := xis_lt (by decide) nk2
  have h7 := (kkt_is hl).2 nk2
  have hr : kkC r := Or.inr (Or.inl (by unfold kk7; omega))
  exact k _ (cfr_i (cfr_i cfr_refl hr) hr)
theorem fs_81d {n : Nat} {s : ps_S} {R : ps_S → Prop} (k : ∀ s', cfr (fun q => 1021 ≤ q ∧ q < 1038) s s' → R s') : pl_Cl n 81 [.ref 1021] s (ps_rV R) := by
  cases n with
  | zero => exact pl_At_0
  | succ n =>
  show pl_At (n + 1) 81 0 [(0, .ref 1021)] [] s (ps_rV R)
  refine pl_81_0 ?_
  refine fs_91 ?_
  exact k _ (cfr_i (cfr_i cfr_refl ⟨by decide, by decide⟩) ⟨by decide, by decide⟩)
theorem fs_1d_2 {s0 : ps_S} {R : ps_S → Prop} (k : ∀ s', cfr (fun q => q = 957) s0 s' → R s') : ∀ (n : Nat) {s : ps_S} {x1 : Int32}, cfr (fun q => q = 957) s0 s → pl_At n 1 2 [(0, .ref 944), (1, .int x1)] [] s (ps_rV R)
  | 0, _, _, _ => pl_At_0
  | n + 1, s, x1, K => by
    refine pl_1_2 ?_
    refine ⟨fun h8 => ?_, fun h8 => ?_⟩
    · have h8 : (192 : Int) ≤ x1.toInt := xle h8
      exact k _ K
    · have h8 : x1.toInt < (192 : Int) := xlt h8
      intro b17
      obtain ⟨b17, c17⟩ := pl_in b17
      exact fs_1d_2 k n (cfr_b K rfl)
theorem fs_1d {n : Nat} {s : ps_S} {R : ps_S → Prop} (k : ∀ s', cfr (fun q => q = 957) s s' → R s') : pl_Cl n 1 [.ref 944] s (ps_rV R) := by
  cases n with
  | zero => exact pl_At_0
  | succ n =>
  show pl_At (n + 1) 1 0 [(0, .ref 944)] [] s (ps_rV R)
  refine pl_1_0 ?_
  exact fs_1d_2 k n cfr_refl
theorem kkC_n {q : Nat} (h : q < 50 ∨ q = 902) : ¬ kkC q := by
  unfold kkC kk2 kk7
  omega
theorem fs_151d_65 {s0 : ps_S} {R : Int32 → ps_S → Prop} (k : ∀ s', cfr kkC s0 s' → cv_W s' 934 [] → R (ps_i s0 (ps_r s0 0 2) 8) s') (h9 : ps_r s0 0 2 < 50) : ∀ (n : Nat) {s : ps_S} {x3 : Int32}, cfr kkC s0 s → pl_At n 151 65 [(0, .ref 0), (3, .int x3)] [] s (ps_rI R)
  | 0, _, _, _ => pl_At_0
  | n + 1, s, x3, K => by
    refine pl_151_65 ?_
    refine ⟨fun h71 => ?_, fun h71 => ?_⟩
    · have h71 : (3 : Int) ≤ x3.toInt := xle h71
      refine fs_91 ?_
      refine fs_81d (fun s99 q99 => ?_)
      refine fs_1d (fun s106 q106 => ?_)
      refine pl_nk_i (fun nk113 => ?_)
      have K2 : cfr kkC s0 s106 := cfr_tr (cfr_i (cfr_i K (Or.inr (Or.inr (Or.inl rfl)))) (Or.inr (Or.inr (Or.inl rfl)))) (cfr_tr (cfr_mono q99 (fun q z => Or.inr (Or.inr (Or.inr (Or.inl z))))) (cfr_mono q106 (fun q z => Or.inr (Or.inr (Or.inr (Or.inr (by omega)))))))
      have e2 : ps_r s106 0 2 = ps_r s0 0 2 := (K2 0 (kkC_n (Or.inl (by decide)))).2.2.1 2
      rw [e2, (K2 _ (kkC_n (Or.inl h9))).1 8]
      have W : cv_W (ps_ui (ps_ui s 934 1 0) 934 2 0) 934 [] := ⟨rfl, rfl, Nat.zero_le _, fun k c z => by cases z⟩
      exact k _ K2 (cv_W_cfr (cv_W_cfr W q99 (by omega) (by omega)) q106 (by omega) (by omega))
    · have h71 : x3.toInt < (3 : Int) := xlt h71
      refine fs_180 (fun v76 => ?_)
      refine fs_108d (fun s79 q79 => ?_)
      exact fs_151d_65 k h9 n (cfr_tr K q79)
/-- theory(), of the class: th is the one that is read into, th2 the other -/
theorem fs_151s {n th th2 : Nat} {s : ps_S} {T : Nat → Nat} {N : Nat} {R : Int32 → ps_S → Prop} (hth : th = 2 ∨ th = 26) (h3 : ps_r s 0 3 = th) (h2 : ps_r s 0 2 = th2) (hb : cv_base s th) (hx : (ps_i s 0 1).toInt = N) (hN : N ≤ 1600) (hT : ∀ k, k < N → (ps_a s 1 k &&& 255).toInt = T k) (hkw : ∀ (k : Nat) (w : List Nat), tx_keys[k]? = some w → ps_b s 904 k = tx_x w) (k1 : ∀ (v : Int32) (s' : ps_S) (h : tx_H) (p : Nat), gt_go (tx_ln T N) (0, (([], []), []), 0, 0) (3, h, p, 0) → v.toInt = h.2.length → cv_H s' th h → ps_r s' 0 2 = th ∧ ps_r s' 0 3 = th2 → cv_W s' 934 [] → (ps_i s' 902 9).toInt = 0 ∧ (ps_i s' 902 10).toInt = -1 → R v s') (k0 : ∀ (s' : ps_S) (h : tx_H) (pl k : Nat), gt_go (tx_ln T N) (0, (([], []), []), 0, 0) (4, h, pl, k) → (ps_i s' 902 9).toInt = k → (ps_i s' 902 10).toInt = pl → cfr (fun q => q = 0 ∨ cv_HC th q) s s' → ps_r s' 0 2 = th2 ∧ ps_r s' 0 3 = th → R (-1) s') : pl_Cl n 151 [.ref 0] s (ps_rI R) := by
  cases n with
  | zero => exact pl_At_0
  | succ n =>
  show pl_At (n + 1) 151 0 [(0, .ref 0)] [] s (ps_rI R)
  refine pl_151_0 ?_
  rw [h3]
  refine fs_58 hth hb hx hN hT hkw (fun s16 q16 => ?_) (fun s16 q16 => ?_)
  · refine ⟨fun h26 => ?_, fun h26 => ?_⟩
    · refine fs_31d (fun s53 q53 => ?_)
      refine fs_108d (fun s60 q60 => ?_)
      obtain ⟨h, p, g, L, F⟩ := q16
      have n0 : ¬ cv_HC th 0 := fun z => by unfold cv_HC at z; omega
      have h30 : ps_r s16 0 3 = th := ((F 0 n0).2.2.1 3).trans h3
      have h20 : ps_r s16 0 2 = th2 := ((F 0 n0).2.2.1 2).trans h2
      have K := cfr_tr q53 q60
      have r2 : ps_r s60 0 2 = th := ((K 0 (kkC_n (Or.inl (by decide)))).2.2.1 2).trans h30
      have r3 : ps_r s60 0 3 = th2 := ((K 0 (kkC_n (Or.inl (by decide)))).2.2.1 3).trans h20
      have hn : ∀ q, th ≤ q → q < th + 8 + 2 * h.2.length → ¬ kkC q := fun q a b => kkC_n (Or.inl (by have := L.2.2.2.1.2.2.1; omega))
      have H1 : cv_H (ps_ur (ps_ur (ps_ui s16 0 1 0) 0 2 (ps_r (ps_ui s16 0 1 0) 0 3)) 0 3 (ps_r (ps_ui s16 0 1 0) 0 2)) th h := cv_H_cfr L.2.2.2.1 (cfr_r (cfr_r (cfr_i cfr_refl rfl) rfl) rfl : cfr (fun q => q = 0) s16 _) (fun q a b z => by omega)
      have H2 := cv_H_cfr H1 K hn
      refine fs_151d_65 (fun s' K3 W => ?_) (by omega) n cfr_refl
      rw [r2]
      have K4 := cfr_tr K K3
      exact k1 _ s' h p g H2.2.1 (cv_H_cfr H2 K3 hn) ⟨((K3 0 (kkC_n (Or.inl (by decide)))).2.2.1 2).trans r2, ((K3 0 (kkC_n (Or.inl (by decide)))).2.2.1 3).trans r3⟩ W (by rw [(K4 902 (kkC_n (Or.inr rfl))).1 9, (K4 902 (kkC_n (Or.inr rfl))).1 10]; exact L.2.2.2.2.2.2.2.2)
    · exact absurd h26 (by decide)
  · refine ⟨fun h26 => ?_, fun h26 => ?_⟩
    · exact absurd h26 (by decide)
    · obtain ⟨h, pl, k, g, e1, e2, F⟩ := q16
      have n0 : ¬ cv_HC th 0 := fun z => by unfold cv_HC at z; omega
      exact k0 _ h pl k g e1 e2 (cfr_i (cfr_mono F (fun q z => Or.inr z)) (Or.inl rfl)) ⟨((F 0 n0).2.2.1 2).trans h2, ((F 0 n0).2.2.1 3).trans h3⟩
end
section
set_option maxRecDepth 100000
/-! every call but theory() leaves the two theories' references as they are -/
def uJ (m : ps_S) (t : Int32) (s : ps_S) : Prop := xJ m t s ∧ ps_r s 0 2 = ps_r m 0 2 ∧ ps_r s 0 3 = ps_r m 0 3
theorem uw_i {m s : ps_S} {t : Int32} {r c q : Nat} {v : Int32} (hc : c < 11) (h : ps_is r c = true) (J : uJ m t s) : uJ m t (ps_ui s r q v) := ⟨xw_i hc h J.1, J.2⟩
theorem uw_j {m s : ps_S} {t : Int32} {r c q : Nat} {v : Int64} (hc : c < 11) (h : ps_is r c = true) (J : uJ m t s) : uJ m t (ps_uj s r q v) := ⟨xw_j hc h J.1, J.2⟩
theorem uw_a {m s : ps_S} {t : Int32} {r q : Nat} {v : Int32} (hr : r < 1131) (J : uJ m t s) : uJ m t (ps_ua s r q v) := ⟨xw_a hr J.1, J.2⟩
theorem uw_b {m s : ps_S} {t : Int32} {r q : Nat} {v : Int64} (hr : r < 1131) (J : uJ m t s) : uJ m t (ps_ub s r q v) := ⟨xw_b hr J.1, J.2⟩
theorem uw_tape {m s : ps_S} {t v : Int32} (J : uJ m t s) : uJ m v (ps_ui s 0 1 v) := ⟨xw_tape J.1, J.2⟩
theorem uw_rc {m s : ps_S} {t : Int32} {r q v c : Nat} (hc : c ≠ 11) (p : ps_is r c = true) (J' : xJ m t (ps_ur s r q v)) (J : uJ m t s) : uJ m t (ps_ur s r q v) := by
  have hr : r ≠ 0 := fun z => by
    subst z
    exact hc (xis_c p (show ps_is 0 11 = true from rfl))
  refine ⟨J', ?_, ?_⟩
  · rw [ps_r_ur, if_neg (fun z => hr z.1.symm)]; exact J.2.1
  · rw [ps_r_ur, if_neg (fun z => hr z.1.symm)]; exact J.2.2
theorem uw_rq {m s : ps_S} {t : Int32} {r q v : Nat} (hq : q ≠ 2 ∧ q ≠ 3) (J' : xJ m t (ps_ur s r q v)) (J : uJ m t s) : uJ m t (ps_ur s r q v) := by
  refine ⟨J', ?_, ?_⟩
  · rw [ps_r_ur, if_neg (fun z => hq.1 z.2.symm)]; exact J.2.1
  · rw [ps_r_ur, if_neg (fun z => hq.2 z.2.symm)]; exact J.2.2
def usF (d : Nat) (x : Int32) : Prop := ∀ (m s : ps_S) (t : Int32) (r0 : Nat) (f : Int32 → ps_S → Prop), ps_is r0 3 = true → uJ m t s → (∀ (v : Int32) (s' : ps_S), v &&& 1 = v → uJ m t s' → f v s') → ps_Cl (d + 8) 70 [.ref r0, .int x] s (ps_rI f)
def usT (d : Nat) (x : Int32) : Prop := ∀ (m s : ps_S) (t : Int32) (r0 : Nat) (f : Int32 → ps_S → Prop), ps_is r0 3 = true → uJ m t s → (∀ (v : Int32) (s' : ps_S), v &&& 1 = v → uJ m t s' → f v s') → ps_Cl (d + 8) 76 [.ref r0, .int x] s (ps_rI f)
def usS (d : Nat) (x : Int32) : Prop := ∀ (m s : ps_S) (t : Int32) (r0 : Nat) (x1 x2 : Int32) (f : Int32 → ps_S → Prop), ps_is r0 0 = true → uJ m t s → (∀ (v : Int32) (s' : ps_S), v &&& 1 = v → uJ m t s' → f v s') → ps_Cl (d + 8) 15 [.ref r0, .int x1, .int x2, .int x] s (ps_rI f)
def usG (d : Nat) (x : Int32) : Prop := ∀ (m s : ps_S) (t : Int32) (r0 : Nat) (x1 x2 : Int32) (f : Int32 → ps_S → Prop), ps_is r0 0 = true → uJ m t s → (∀ (v : Int32), f v s) → ps_Cl (d + 8) 18 [.ref r0, .int x1, .int x2, .int x] s (ps_rI f)
theorem us_183 {m s : ps_S} {t : Int32} {d : Nat} {r0 : Nat} {x1 : Int32} {x2 : Int32} {f : ps_S → Prop} (h0 : ps_ar r0 0 = true ∧ r0 < 1131) (J : uJ m t s) (k : ∀ (s' : ps_S), uJ m t s' → ps_i s' = ps_i s → f s') : ps_Cl d 183 [.ref r0, .int x1, .int x2] s (ps_rV f) :=
  pg_183_0 (And.intro (fun f1 => (k s J rfl)) (fun f1 => (ps_nk_i (xn_l (h0).1) (And.intro (fun f2 => (k s J rfl)) (fun f2 => (ps_nk_i (xn_0 (h0).1) (ps_nd_i (xg_in f1 f2) (k (ps_ua s r0 (Int32.toNatClampNeg x1) x2) (uw_a (h0).2 J) rfl))))))))

theorem us_7_33 {m s : ps_S} {t : Int32} {d : Nat} {r0 : Nat} {x1 : Int32} {x3 : Int32} {x4 : Int32} {Q : Option Value → ps_S → Prop} (h0 : ps_is r0 0 = true) (J : uJ m t s) (k : ∀ (s' : ps_S), uJ m t s' → Q none s') : ps_At (d + 1) 7 33 [(0, .ref r0), (1, .int x1), (3, .int x3), (4, .int x4)] [] s Q :=
  xs_up (P := fun x4 => ∀ (s : ps_S), ps_is r0 0 = true → uJ m t s → ps_At (d + 1) 7 33 [(0, .ref r0), (1, .int x1), (3, .int x3), (4, .int x4)] [] s Q) (fun x4 ih s h0 J => pg_7_33 (d := d) (And.intro (fun f1 => (k s J)) (fun f1 => (ps_nk_i h0 (ps_nk_i h0 (us_183 (xk_0_0 h0) J (fun s1 J1 e1 => (ps_nk_i h0 (ps_nk_i h0 (ih ((x4 + 1)) (xs_lt f1) (ps_ui s1 r0 2 ((ps_i s1 r0 2) + 1)) h0 (uw_i (c := 0) (by decide) h0 J1))))))))))) x4 s h0 J

theorem us_7 {m s : ps_S} {t : Int32} {d : Nat} {r0 : Nat} {x1 : Int32} {x2 : Int32} {f : ps_S → Prop} (h0 : ps_is r0 0 = true) (J : uJ m t s) (k : ∀ (s' : ps_S), uJ m t s' → f s') : ps_Cl (d + 1) 7 [.ref r0, .int x1, .int x2] s (ps_rV f) :=
  pg_7_0 (d := d) (And.intro (fun f1 => (And.intro (fun f2 => (ps_nk_i h0 (ps_nk_i h0 (us_7_33 (d := d) (r0 := r0) (x1 := x1) (x3 := ((ps_i s r0 11) * (ps_i s r0 11))) (x4 := 0)  h0 J k )))) (fun f2 => (ps_nk_i h0 (us_7_33 (d := d) (r0 := r0) (x1 := x1) (x3 := (ps_i s r0 11)) (x4 := 0)  h0 J k ))))) (fun f1 => (us_7_33 (d := d) (r0 := r0) (x1 := x1) (x3 := 1) (x4 := 0)  h0 J k )))

theorem us_6_114 {m s : ps_S} {t : Int32} {d : Nat} {r0 : Nat} {l3 : Int64} {x5 : Int32} {Q : Option Value → ps_S → Prop} (h0 : ps_is r0 0 = true) (J : uJ m t s) (k : ∀ (v : Int64) (s' : ps_S), uJ m t s' → Q (some (.long v)) s') : ps_At (d + 2) 6 114 [(0, .ref r0), (3, .long l3), (5, .int x5)] [] s Q :=
  xs_up (P := fun x5 => ∀ (l3 : Int64) (s : ps_S), ps_is r0 0 = true → uJ m t s → ps_At (d + 2) 6 114 [(0, .ref r0), (3, .long l3), (5, .int x5)] [] s Q) (fun x5 ih l3 s h0 J => pg_6_114 (d := d + 1) (ps_nk_i h0 (And.intro (fun f1 => (k l3 s J)) (fun f1 => (ps_nk_i h0 (xs_182 (xk_0_0 h0) (J).1 (fun v1 => (ih ((x5 + 1)) (xs_lt f1) ((if (1099511627776 : Int64) < (l3 * (Int32.toInt64 v1)) then (1099511627776 : Int64) else (l3 * (Int32.toInt64 v1)))) s h0 J)))))))) x5 l3 s h0 J

theorem us_6_64 {m s : ps_S} {t : Int32} {d : Nat} {r0 : Nat} {x2 : Int32} {x3 : Int32} {Q : Option Value → ps_S → Prop} (h0 : ps_is r0 0 = true) (J : uJ m t s) (k : ∀ (v : Int64) (s' : ps_S), uJ m t s' → Q (some (.long v)) s') : ps_At (d + 2) 6 64 [(0, .ref r0), (2, .int x2), (3, .int x3)] [] s Q :=
  xs_up (P := fun x3 => ∀ (s : ps_S), ps_is r0 0 = true → uJ m t s → ps_At (d + 2) 6 64 [(0, .ref r0), (2, .int x2), (3, .int x3)] [] s Q) (fun x3 ih s h0 J => pg_6_64 (d := d + 1) (ps_nk_i h0 (ps_nk_i (xj_0_16 (J).1 h0) (And.intro (fun f1 => (us_6_114 (d := d) (r0 := r0) (l3 := 1) (x5 := 0)  h0 J k )) (fun f1 => (ps_nk_i h0 (ps_nk_i h0 (us_183 (xk_0_4 h0) J (fun s1 J1 e1 => (ps_nk_i h0 (ps_nk_i (xj_0_16 (J1).1 h0) (xs_136 (xj_0_16 (J1).1 h0) (J1).1 (fun v2 => (ps_nk_i h0 (us_7 h0 J1 (fun s3 J3 => (ih ((x3 + 1)) (xs_lt f1) s3 h0 J3))))))))))))))))) x3 s h0 J

theorem us_6_17 {m s : ps_S} {t : Int32} {d : Nat} {r0 : Nat} {x2 : Int32} {x3 : Int32} {Q : Option Value → ps_S → Prop} (h0 : ps_is r0 0 = true) (J : uJ m t s) (k : ∀ (v : Int64) (s' : ps_S), uJ m t s' → Q (some (.long v)) s') : ps_At (d + 2) 6 17 [(0, .ref r0), (2, .int x2), (3, .int x3)] [] s Q :=
  xs_up (P := fun x3 => ∀ (s : ps_S), ps_is r0 0 = true → uJ m t s → ps_At (d + 2) 6 17 [(0, .ref r0), (2, .int x2), (3, .int x3)] [] s Q) (fun x3 ih s h0 J => pg_6_17 (d := d + 1) (ps_nk_i h0 (ps_nk_i (xj_0_16 (J).1 h0) (And.intro (fun f1 => (us_6_64 (d := d) (r0 := r0) (x2 := x2) (x3 := 0)  h0 J k )) (fun f1 => (ps_nk_i h0 (ps_nk_i h0 (us_183 (xk_0_3 h0) J (fun s1 J1 e1 => (ps_nk_i h0 (ps_nk_i (xj_0_16 (J1).1 h0) (xs_136 (xj_0_16 (J1).1 h0) (J1).1 (fun v2 => (ps_nk_i h0 (us_7 h0 J1 (fun s3 J3 => (ih ((x3 + 1)) (xs_lt f1) s3 h0 J3))))))))))))))))) x3 s h0 J

theorem us_6 {m s : ps_S} {t : Int32} {d : Nat} {r0 : Nat} {r1 : Nat} {x2 : Int32} {f : Int64 → ps_S → Prop} (h0 : ps_is r0 0 = true) (h1 : ps_is r1 9 = true) (J : uJ m t s) (k : ∀ (v : Int64) (s' : ps_S), uJ m t s' → f v s') : ps_Cl (d + 2) 6 [.ref r0, .ref r1, .int x2] s (ps_rJ f) :=
  pg_6_0 (d := d + 1) (ps_nk_i h0 (ps_nk_i h0 (ps_nk_i h0 (us_6_17 (d := d) (r0 := r0) (x2 := x2) (x3 := 0)  h0 (uw_i (c := 0) (by decide) h0 (uw_i (c := 0) (by decide) h0 (uw_rc (c := 0) (by decide) h0 (xw_0_16 h0 h1 (J).1) J))) k ))))

theorem us_2 {m s : ps_S} {t : Int32} {d : Nat} {r0 : Nat} {r1 : Nat} {x2 : Int32} {f : Int32 → ps_S → Prop} (h0 : ps_is r0 0 = true) (h1 : ps_is r1 9 = true) (J : uJ m t s) (k : ∀ (v : Int32) (s' : ps_S), uJ m t s' → f v s') : ps_Cl (d + 3) 2 [.ref r0, .ref r1, .int x2] s (ps_rI f) :=
  pg_2_0 (d := d + 2) (ps_nk_i h0 (us_6 h0 h1 J (fun v1 s1 J1 => (And.intro (fun f1 => (k (Int64.toInt32 v1) s1 J1)) (fun f1 => (k (-2) s1 J1))))))

theorem us_103_55 {m s : ps_S} {t : Int32} {d : Nat} {r0 : Nat} {r1 : Nat} {r2 : Nat} {x3 : Int32} {x4 : Int32} {x5 : Int32} {Q : Option Value → ps_S → Prop} (h0 : ps_is r0 6 = true) (h1 : ps_is r1 5 = true) (h2 : ps_is r2 9 = true) (J : uJ m t s) (k : ∀ (s' : ps_S), uJ m t s' → Q none s') (K35 : ∀ (s : ps_S), ps_is r0 6 = true → ps_is r1 5 = true → ps_is r2 9 = true → uJ m t s → ps_At (d + 1) 103 35 [(0, .ref r0), (1, .ref r1), (2, .ref r2), (3, .int (x3 + (-1)))] [] s Q) : ps_At (d + 1) 103 55 [(0, .ref r0), (1, .ref r1), (2, .ref r2), (3, .int x3), (4, .int x4), (5, .int x5)] [] s Q :=
  xs_dn (P := fun x5 => ∀ (x4 : Int32) (s : ps_S), ps_is r0 6 = true → ps_is r1 5 = true → ps_is r2 9 = true → uJ m t s → ps_At (d + 1) 103 55 [(0, .ref r0), (1, .ref r1), (2, .ref r2), (3, .int x3), (4, .int x4), (5, .int x5)] [] s Q) (fun x5 ih x4 s h0 h1 h2 J => pg_103_55 (d := d) (And.intro (fun f1 => (ps_nk_i h0 (us_183 (xk_6_0 h0) J (fun s1 J1 e1 => (K35 s1 h0 h1 h2 J1))))) (fun f1 => (ps_nk_i h0 (xs_104 h0 (J).1 (fun v2 => (ih ((x5 + (-1))) (xs_gt f1) (v2) s h0 h1 h2 J))))))) x5 x4 s h0 h1 h2 J

theorem us_103_176 {m s : ps_S} {t : Int32} {d : Nat} {r0 : Nat} {r1 : Nat} {r2 : Nat} {x3 : Int32} {x4 : Int32} {x5 : Int32} {x6 : Int32} {x7 : Int32} {Q : Option Value → ps_S → Prop} (h0 : ps_is r0 6 = true) (h1 : ps_is r1 5 = true) (h2 : ps_is r2 9 = true) (J : uJ m t s) (k : ∀ (s' : ps_S), uJ m t s' → Q none s') (K92 : ∀ (s : ps_S), ps_is r0 6 = true → ps_is r1 5 = true → ps_is r2 9 = true → uJ m t s → ps_At (d + 1) 103 92 [(0, .ref r0), (1, .ref r1), (2, .ref r2), (3, .int (x3 + 1))] [] s Q) : ps_At (d + 1) 103 176 [(0, .ref r0), (1, .ref r1), (2, .ref r2), (3, .int x3), (4, .int x4), (5, .int x5), (6, .int x6), (7, .int x7)] [] s Q :=
  xs_dn (P := fun x7 => ∀ (x6 : Int32) (s : ps_S), ps_is r0 6 = true → ps_is r1 5 = true → ps_is r2 9 = true → uJ m t s → ps_At (d + 1) 103 176 [(0, .ref r0), (1, .ref r1), (2, .ref r2), (3, .int x3), (4, .int x4), (5, .int x5), (6, .int x6), (7, .int x7)] [] s Q) (fun x7 ih x6 s h0 h1 h2 J => pg_103_176 (d := d) (And.intro (fun f1 => (K92 s h0 h1 h2 J)) (fun f1 => (ps_nk_i h0 (us_183 (xk_6_1 h0) J (fun s1 J1 e1 => (ps_nk_i h0 (us_183 (xk_6_2 h0) J1 (fun s2 J2 e2 => (ps_nk_i h0 (xs_104 h0 (J2).1 (fun v3 => (ih ((x7 + (-1))) (xs_gt f1) (v3) s2 h0 h1 h2 J2))))))))))))) x7 x6 s h0 h1 h2 J

theorem us_103_92 {m s : ps_S} {t : Int32} {d : Nat} {r0 : Nat} {r1 : Nat} {r2 : Nat} {x3 : Int32} {Q : Option Value → ps_S → Prop} (h0 : ps_is r0 6 = true) (h1 : ps_is r1 5 = true) (h2 : ps_is r2 9 = true) (J : uJ m t s) (k : ∀ (s' : ps_S), uJ m t s' → Q none s') : ps_At (d + 1) 103 92 [(0, .ref r0), (1, .ref r1), (2, .ref r2), (3, .int x3)] [] s Q :=
  xs_up (P := fun x3 => ∀ (s : ps_S), ps_is r0 6 = true → ps_is r1 5 = true → ps_is r2 9 = true → uJ m t s → ps_At (d + 1) 103 92 [(0, .ref r0), (1, .ref r1), (2, .ref r2), (3, .int x3)] [] s Q) (fun x3 ih s h0 h1 h2 J => pg_103_92 (d := d) (ps_nk_i h1 (And.intro (fun f1 => (k s J)) (fun f1 => (ps_nk_i h0 (xs_182 (xk_6_1 h0) (J).1 (fun v1 => (ps_nk_i h0 (xs_105 h0 (J).1 (fun v2 => (ps_nk_i h1 (xs_92 h1 (J).1 (fun v3 => (xs_184  (J).1 (fun v4 b4 => (And.intro (fun f2 => (ps_nk_i h0 (ps_nk_i h0 (ps_nk_i h0 (ps_nk_i h0 (ps_nk_i h1 (xs_92 h1 ((uw_i (c := 6) (by decide) h0 (uw_i (c := 6) (by decide) h0 J))).1 (fun v5 => (ps_nk_i h2 (xs_136 h2 ((uw_i (c := 6) (by decide) h0 (uw_i (c := 6) (by decide) h0 J))).1 (fun v6 => (us_103_176 (d := d) (r0 := r0) (r1 := r1) (r2 := r2) (x3 := x3) (x4 := v1) (x5 := (v2 + 0)) (x6 := (x3 + 1)) (x7 := v6)  h0 h1 h2 (uw_i (c := 6) (by decide) h0 (uw_i (c := 6) (by decide) h0 J)) k (fun s9 h0z h1z h2z J9 => ih (x3 + 1) (xs_lt f1) s9 h0z h1z h2z J9))))))))))))) (fun f2 => (ps_nk_i h0 (ps_nk_i h0 (ps_nk_i h0 (ps_nk_i h0 (ps_nk_i h1 (xs_92 h1 ((uw_i (c := 6) (by decide) h0 (uw_i (c := 6) (by decide) h0 J))).1 (fun v7 => (ps_nk_i h2 (xs_136 h2 ((uw_i (c := 6) (by decide) h0 (uw_i (c := 6) (by decide) h0 J))).1 (fun v8 => (us_103_176 (d := d) (r0 := r0) (r1 := r1) (r2 := r2) (x3 := x3) (x4 := v1) (x5 := (v2 + 1)) (x6 := (x3 + 1)) (x7 := v8)  h0 h1 h2 (uw_i (c := 6) (by decide) h0 (uw_i (c := 6) (by decide) h0 J)) k (fun s9 h0z h1z h2z J9 => ih (x3 + 1) (xs_lt f1) s9 h0z h1z h2z J9))))))))))))))))))))))))))))) x3 s h0 h1 h2 J

theorem us_103_35 {m s : ps_S} {t : Int32} {d : Nat} {r0 : Nat} {r1 : Nat} {r2 : Nat} {x3 : Int32} {Q : Option Value → ps_S → Prop} (h0 : ps_is r0 6 = true) (h1 : ps_is r1 5 = true) (h2 : ps_is r2 9 = true) (J : uJ m t s) (k : ∀ (s' : ps_S), uJ m t s' → Q none s') : ps_At (d + 1) 103 35 [(0, .ref r0), (1, .ref r1), (2, .ref r2), (3, .int x3)] [] s Q :=
  xs_dn (P := fun x3 => ∀ (s : ps_S), ps_is r0 6 = true → ps_is r1 5 = true → ps_is r2 9 = true → uJ m t s → ps_At (d + 1) 103 35 [(0, .ref r0), (1, .ref r1), (2, .ref r2), (3, .int x3)] [] s Q) (fun x3 ih s h0 h1 h2 J => pg_103_35 (d := d) (And.intro (fun f1 => (us_103_92 (d := d) (r0 := r0) (r1 := r1) (r2 := r2) (x3 := 0)  h0 h1 h2 J k )) (fun f1 => (ps_nk_i h1 (xs_92 h1 (J).1 (fun v1 => (ps_nk_i h2 (xs_136 h2 (J).1 (fun v2 => (us_103_55 (d := d) (r0 := r0) (r1 := r1) (r2 := r2) (x3 := x3) (x4 := (x3 + 1)) (x5 := v2)  h0 h1 h2 J k (fun s9 h0z h1z h2z J9 => ih (x3 + (-1)) (xs_ge f1) s9 h0z h1z h2z J9))))))))))) x3 s h0 h1 h2 J

theorem us_103 {m s : ps_S} {t : Int32} {d : Nat} {r0 : Nat} {r1 : Nat} {r2 : Nat} {f : ps_S → Prop} (h0 : ps_is r0 6 = true) (h1 : ps_is r1 5 = true) (h2 : ps_is r2 9 = true) (J : uJ m t s) (k : ∀ (s' : ps_S), uJ m t s' → f s') : ps_Cl (d + 1) 103 [.ref r0, .ref r1, .ref r2] s (ps_rV f) :=
  pg_103_0 (d := d) (ps_nk_i h0 (ps_nk_i h0 (ps_nk_i h0 (us_183 (xk_6_1 h0) (uw_i (c := 6) (by decide) h0 (uw_i (c := 6) (by decide) h0 J)) (fun s1 J1 e1 => (ps_nk_i h0 (us_183 (xk_6_2 h0) J1 (fun s2 J2 e2 => (ps_nk_i h1 (us_103_35 (d := d) (r0 := r0) (r1 := r1) (r2 := r2) (x3 := ((ps_i s2 r1 1) - 1))  h0 h1 h2 J2 k ))))))))))

theorem us_9_2 {m s : ps_S} {t : Int32} {d : Nat} {r0 : Nat} {x1 : Int32} {Q : Option Value → ps_S → Prop} (h0 : ps_is r0 0 = true) (J : uJ m t s) (k : ∀ (s' : ps_S), uJ m t s' → Q none s') : ps_At (d + 2) 9 2 [(0, .ref r0), (1, .int x1)] [] s Q :=
  xs_up (P := fun x1 => ∀ (s : ps_S), ps_is r0 0 = true → uJ m t s → ps_At (d + 2) 9 2 [(0, .ref r0), (1, .int x1)] [] s Q) (fun x1 ih s h0 J => pg_9_2 (d := d + 1) (ps_nk_i h0 (ps_nk_i (xj_0_16 (J).1 h0) (And.intro (fun f1 => (k s J)) (fun f1 => (ps_nk_i h0 (xs_10 h0 (J).1 (fun v1 g1 => (ps_nk_i h0 (ps_nk_i (xj_0_16 (J).1 h0) (xs_135 (xj_0_16 (J).1 h0) (J).1 (fun v2 g2 => (ps_nk_i h0 (ps_nk_i g1 (us_103 g1 g2 (xj_0_16 (J).1 h0) J (fun s3 J3 => (ih ((x1 + 1)) (xs_lt f1) s3 h0 J3))))))))))))))))) x1 s h0 J

theorem us_9 {m s : ps_S} {t : Int32} {d : Nat} {r0 : Nat} {f : ps_S → Prop} (h0 : ps_is r0 0 = true) (J : uJ m t s) (k : ∀ (s' : ps_S), uJ m t s' → f s') : ps_Cl (d + 2) 9 [.ref r0] s (ps_rV f) :=
  pg_9_0 (d := d + 1) (us_9_2 (d := d) (r0 := r0) (x1 := 0)  h0 J k )

theorem us_8_9 {m s : ps_S} {t : Int32} {d : Nat} {r0 : Nat} {x2 : Int32} {x3 : Int32} {Q : Option Value → ps_S → Prop} (h0 : ps_is r0 0 = true) (J : uJ m t s) (k : ∀ (s' : ps_S), uJ m t s' → Q none s') : ps_At (d + 1) 8 9 [(0, .ref r0), (2, .int x2), (3, .int x3)] [] s Q :=
  xs_dn (P := fun x3 => ∀ (x2 : Int32) (s : ps_S), ps_is r0 0 = true → uJ m t s → ps_At (d + 1) 8 9 [(0, .ref r0), (2, .int x2), (3, .int x3)] [] s Q) (fun x3 ih x2 s h0 J => pg_8_9 (d := d) (And.intro (fun f1 => (k s J)) (fun f1 => (ps_nk_i h0 (xs_182 (xk_0_0 h0) (J).1 (fun v1 => (And.intro (fun f2 => (ih ((x3 + (-1))) (xs_ge f1) (x2) s h0 J)) (fun f2 => (ps_nk_i h0 (ps_nd_i (xg_nz f2) (us_183 (xk_0_1 h0) J (fun s2 J2 e2 => (ps_nd_i (xg_nz f2) (ih ((x3 + (-1))) (xs_ge f1) ((x2 / v1)) s2 h0 J2)))))))))))))) x3 x2 s h0 J

theorem us_8 {m s : ps_S} {t : Int32} {d : Nat} {r0 : Nat} {x1 : Int32} {f : ps_S → Prop} (h0 : ps_is r0 0 = true) (J : uJ m t s) (k : ∀ (s' : ps_S), uJ m t s' → f s') : ps_Cl (d + 1) 8 [.ref r0, .int x1] s (ps_rV f) :=
  pg_8_0 (d := d) (ps_nk_i h0 (us_8_9 (d := d) (r0 := r0) (x2 := x1) (x3 := ((ps_i s r0 2) - 1))  h0 J k ))

theorem ur_19 {m s : ps_S} {t : Int32} {d : Nat} {r0 : Nat} {x1 : Int32} {x2 : Int32} {x3 : Int32} {f : Int32 → ps_S → Prop} (HG : usG d (x3 + 1)) (h0 : ps_is r0 0 = true) (J : uJ m t s) (k : ∀ (v : Int32), f v s) : ps_Cl (d + 9) 19 [.ref r0, .int x1, .int x2, .int x3] s (ps_rI f) :=
  pg_19_0 (d := d + 8) (ps_nk_i h0 (ps_nk_i h0 (ps_nk_i (xj_0_14 (J).1 h0) (xs_92 (xj_0_14 (J).1 h0) (J).1 (fun v1 => (ps_nk_i (xj_0_16 (J).1 h0) (xs_136 (xj_0_16 (J).1 h0) (J).1 (fun v2 => (And.intro (fun f1 => (ps_nk_i h0 (HG _ _ _ _ _ _ _ h0 J (fun v3 => (And.intro (fun f2 => (ps_nk_i h0 (ps_nk_i h0 (ps_nk_i (xj_0_15 (J).1 h0) (xs_104 (xj_0_15 (J).1 h0) (J).1 (fun v4 => (ps_nk_i h0 (HG _ _ _ _ _ _ _ h0 J (fun v5 => (k ((v3 * (ps_i s r0 11)) + v5))))))))))) (fun f2 => (k v3))))))) (fun f1 => (k 0)))))))))))

theorem ur_18 {m s : ps_S} {t : Int32} {d : Nat} {r0 : Nat} {x1 : Int32} {x2 : Int32} {x3 : Int32} {f : Int32 → ps_S → Prop} (H : x3 ≤ 12 → usG d (x3 + 1)) (h0 : ps_is r0 0 = true) (J : uJ m t s) (k : ∀ (v : Int32), f v s) : ps_Cl (d + 10) 18 [.ref r0, .int x1, .int x2, .int x3] s (ps_rI f) :=
  pg_18_0 (d := d + 9) (And.intro (fun f1 => (ps_nk_i h0 (ps_nk_i (xj_0_14 (J).1 h0) (xs_92 (xj_0_14 (J).1 h0) (J).1 (fun v1 => (And.intro (fun f2 => (xs_185  (J).1 (fun v2 b2 => (And.intro (fun f3 => (ps_nk_i h0 (ps_nk_i h0 (xs_182 (xk_0_4 h0) (J).1 (fun v3 => (ps_nk_i h0 (ur_19 (H f1) h0 J (fun v4 => (xs_182 (xk_0_1 h0) (J).1 (fun v5 => (k v5))))))))))) (fun f3 => (ps_nk_i h0 (xs_182 (xk_0_7 h0) (J).1 (fun v6 => (k v6))))))))) (fun f2 => (ps_nk_i h0 (xs_182 (xk_0_8 h0) (J).1 (fun v7 => (k v7))))))))))) (fun f1 => (k 0)))

theorem ur_16 {m s : ps_S} {t : Int32} {d : Nat} {r0 : Nat} {x1 : Int32} {x2 : Int32} {x3 : Int32} {f : Int32 → ps_S → Prop} (HS : usS d x3) (h0 : ps_is r0 0 = true) (J : uJ m t s) (k : ∀ (v : Int32) (s' : ps_S), v &&& 1 = v → uJ m t s' → f v s') : ps_Cl (d + 9) 16 [.ref r0, .int x1, .int x2, .int x3] s (ps_rI f) :=
  pg_16_0 (d := d + 8) (ps_nk_i h0 (HS _ _ _ _ _ _ _ h0 J (fun v1 s1 b1 J1 => (ps_nk_i h0 (ps_nk_i (xj_0_14 (J1).1 h0) (xs_92 (xj_0_14 (J1).1 h0) (J1).1 (fun v2 => (And.intro (fun f1 => (And.intro (fun f2 => (k 0 s1 (by decide) J1)) (fun f2 => (ps_nk_i h0 (ps_nk_i (xj_0_15 (J1).1 h0) (xs_104 (xj_0_15 (J1).1 h0) (J1).1 (fun v3 => (ps_nk_i h0 (HS _ _ _ _ _ _ _ h0 J1 (fun v4 s4 b4 J4 => (And.intro (fun f3 => (k 0 s4 (by decide) J4)) (fun f3 => (k 1 s4 (by decide) J4))))))))))))) (fun f1 => (And.intro (fun f4 => (And.intro (fun f5 => (k 1 s1 (by decide) J1)) (fun f5 => (ps_nk_i h0 (ps_nk_i (xj_0_15 (J1).1 h0) (xs_104 (xj_0_15 (J1).1 h0) (J1).1 (fun v5 => (ps_nk_i h0 (HS _ _ _ _ _ _ _ h0 J1 (fun v6 s6 b6 J6 => (And.intro (fun f6 => (k 0 s6 (by decide) J6)) (fun f6 => (k 1 s6 (by decide) J6))))))))))))) (fun f4 => (And.intro (fun f7 => (k 1 s1 (by decide) J1)) (fun f7 => (ps_nk_i h0 (ps_nk_i (xj_0_15 (J1).1 h0) (xs_104 (xj_0_15 (J1).1 h0) (J1).1 (fun v7 => (ps_nk_i h0 (HS _ _ _ _ _ _ _ h0 J1 (fun v8 s8 b8 J8 => (And.intro (fun f8 => (k 0 s8 (by decide) J8)) (fun f8 => (k 1 s8 (by decide) J8)))))))))))))))))))))))

theorem ur_17_22 {m s : ps_S} {t : Int32} {d : Nat} {r0 : Nat} {x1 : Int32} {x2 : Int32} {x3 : Int32} {x4 : Int32} {x5 : Int32} {Q : Option Value → ps_S → Prop} (HS : usS d (x3 + 1)) (h0 : ps_is r0 0 = true) (e0 : x4 &&& 1 = x4) (J : uJ m t s) (k : ∀ (v : Int32) (s' : ps_S), v &&& 1 = v → uJ m t s' → Q (some (.int v)) s') : ps_At (d + 9) 17 22 [(0, .ref r0), (1, .int x1), (2, .int x2), (3, .int x3), (4, .int x4), (5, .int x5)] [] s Q :=
  xs_up (P := fun x5 => ∀ (s : ps_S), ps_is r0 0 = true → x4 &&& 1 = x4 → uJ m t s → ps_At (d + 9) 17 22 [(0, .ref r0), (1, .int x1), (2, .int x2), (3, .int x3), (4, .int x4), (5, .int x5)] [] s Q) (fun x5 ih s h0 e0 J => pg_17_22 (d := d + 8) (ps_nk_i h0 (And.intro (fun f1 => (ps_nd_i (decide_eq_true e0) ((k x4 s (of_decide_eq_true (decide_eq_true e0)) J)))) (fun f1 => (ps_nk_i h0 (us_183 (xk_0_7 h0) J (fun s1 J1 e1 => (ps_nk_i h0 (HS _ _ _ _ _ _ _ h0 J1 (fun v2 s2 b2 J2 => (And.intro (fun f2 => (ih ((x5 + 1)) (xs_lt f1) s2 h0 e0 J2)) (fun f2 => (And.intro (fun f3 => (k 0 s2 (by decide) J2)) (fun f3 => (k 1 s2 (by decide) J2))))))))))))))) x5 s h0 e0 J

theorem ur_17 {m s : ps_S} {t : Int32} {d : Nat} {r0 : Nat} {x1 : Int32} {x2 : Int32} {x3 : Int32} {f : Int32 → ps_S → Prop} (HS : usS d (x3 + 1)) (h0 : ps_is r0 0 = true) (J : uJ m t s) (k : ∀ (v : Int32) (s' : ps_S), v &&& 1 = v → uJ m t s' → f v s') : ps_Cl (d + 9) 17 [.ref r0, .int x1, .int x2, .int x3] s (ps_rI f) :=
  pg_17_0 (d := d + 8) (ps_nk_i h0 (ps_nk_i (xj_0_14 (J).1 h0) (xs_92 (xj_0_14 (J).1 h0) (J).1 (fun v1 => (And.intro (fun f1 => (ur_17_22 (d := d) (r0 := r0) (x1 := x1) (x2 := x2) (x3 := x3) (x4 := 0) (x5 := 0) HS h0 (by decide) J k )) (fun f1 => (ur_17_22 (d := d) (r0 := r0) (x1 := x1) (x2 := x2) (x3 := x3) (x4 := 1) (x5 := 0) HS h0 (by decide) J k )))))))

theorem ur_15 {m s : ps_S} {t : Int32} {d : Nat} {r0 : Nat} {x1 : Int32} {x2 : Int32} {x3 : Int32} {f : Int32 → ps_S → Prop} (HS : x3 ≤ 12 → usS d (x3 + 1)) (HG : ∀ e, x3 ≤ 12 → usG (d + e) (x3 + 1)) (h0 : ps_is r0 0 = true) (J : uJ m t s) (k : ∀ (v : Int32) (s' : ps_S), v &&& 1 = v → uJ m t s' → f v s') : ps_Cl (d + 10) 15 [.ref r0, .int x1, .int x2, .int x3] s (ps_rI f) :=
  pg_15_0 (d := d + 9) (And.intro (fun f1 => (ps_nk_i h0 (ps_nk_i (xj_0_14 (J).1 h0) (xs_92 (xj_0_14 (J).1 h0) (J).1 (fun v1 => (And.intro (fun f2 => (k 0 s (by decide) J)) (fun f2 => (And.intro (fun f3 => (ps_nk_i h0 (ur_16 (HS f1) h0 J (fun v2 s2 b2 J2 => (ps_nd_i (decide_eq_true b2) ((k v2 s2 (of_decide_eq_true (decide_eq_true b2)) J2))))))) (fun f3 => (And.intro (fun f4 => (ps_nk_i h0 (ur_16 (HS f1) h0 J (fun v3 s3 b3 J3 => (ps_nd_i (decide_eq_true b3) ((k v3 s3 (of_decide_eq_true (decide_eq_true b3)) J3))))))) (fun f4 => (And.intro (fun f5 => (ps_nk_i h0 (ur_16 (HS f1) h0 J (fun v4 s4 b4 J4 => (ps_nd_i (decide_eq_true b4) ((k v4 s4 (of_decide_eq_true (decide_eq_true b4)) J4))))))) (fun f5 => (And.intro (fun f6 => (ps_nk_i h0 (ur_17 (HS f1) h0 J (fun v5 s5 b5 J5 => (ps_nd_i (decide_eq_true b5) ((k v5 s5 (of_decide_eq_true (decide_eq_true b5)) J5))))))) (fun f6 => (And.intro (fun f7 => (ps_nk_i h0 (ur_17 (HS f1) h0 J (fun v6 s6 b6 J6 => (ps_nd_i (decide_eq_true b6) ((k v6 s6 (of_decide_eq_true (decide_eq_true b6)) J6))))))) (fun f7 => (And.intro (fun f8 => (ps_nk_i h0 ((HG 1 f1) _ _ _ _ _ _ _ h0 J (fun v7 => (ps_nk_i h0 (ps_nk_i (xj_0_15 (J).1 h0) (xs_104 (xj_0_15 (J).1 h0) (J).1 (fun v8 => (ps_nk_i h0 ((HG 1 f1) _ _ _ _ _ _ _ h0 J (fun v9 => (And.intro (fun f9 => (k 0 s (by decide) J)) (fun f9 => (k 1 s (by decide) J)))))))))))))) (fun f8 => (ps_nk_i h0 (ps_nk_i h0 (xs_182 (xk_0_3 h0) (J).1 (fun v10 => (ps_nk_i h0 (ur_19 (HG 0 f1) h0 J (fun v11 => (xs_182 (xk_0_1 h0) (J).1 (fun v12 => (And.intro (fun f10 => (k 0 s (by decide) J)) (fun f10 => (k 1 s (by decide) J))))))))))))))))))))))))))))))) (fun f1 => (k 0 s (by decide) J)))

theorem ur_G : ∀ (k : Nat) (x : Int32) (d : Nat), 0 ≤ x.toInt → x.toInt ≤ 13 → 13 - x.toInt ≤ k → 2 * k + 2 ≤ d → usG d x := by
  intro k
  induction k with
  | zero =>
    intro x d h0 h1 h2 h3
    obtain ⟨e, rfl⟩ : ∃ e, d = e + 2 := ⟨d - 2, by omega⟩
    have e1 : (12 : Int32).toInt = 12 := by decide
    have hx : ¬ x ≤ 12 := by rw [Int32.le_iff_toInt_le, e1]; omega
    exact fun m s t r0 x1 x2 f h J k => ur_18 (d := e) (fun q => absurd q hx) h J k
  | succ k ih =>
    intro x d h0 h1 h2 h3
    obtain ⟨e, rfl⟩ : ∃ e, d = e + 2 := ⟨d - 2, by omega⟩
    have e1 : (12 : Int32).toInt = 12 := by decide
    have s1 : x ≤ 12 → usG e (x + 1) := fun q => by
      rw [Int32.le_iff_toInt_le, e1] at q
      have ex : (x + 1).toInt = x.toInt + 1 := by rw [xI_add (by rw [xone]; omega) (by rw [xone]; omega), xone]
      exact ih (x + 1) e (by omega) (by omega) (by omega) (by omega)
    exact fun m s t r0 x1 x2 f h J k => ur_18 (d := e) s1 h J k
theorem ur_S : ∀ (k : Nat) (x : Int32) (d : Nat), 0 ≤ x.toInt → x.toInt ≤ 13 → 13 - x.toInt ≤ k → 2 * k + 2 ≤ d → usS d x := by
  intro k
  induction k with
  | zero =>
    intro x d h0 h1 h2 h3
    obtain ⟨e, rfl⟩ : ∃ e, d = e + 2 := ⟨d - 2, by omega⟩
    have e1 : (12 : Int32).toInt = 12 := by decide
    have hx : ¬ x ≤ 12 := by rw [Int32.le_iff_toInt_le, e1]; omega
    exact fun m s t r0 x1 x2 f h J k => ur_15 (d := e) (fun q => absurd q hx) (fun _ q => absurd q hx) h J k
  | succ k ih =>
    intro x d h0 h1 h2 h3
    obtain ⟨e, rfl⟩ : ∃ e, d = e + 2 := ⟨d - 2, by omega⟩
    have e1 : (12 : Int32).toInt = 12 := by decide
    have ex : x ≤ 12 → (x + 1).toInt = x.toInt + 1 ∧ x.toInt ≤ 12 := fun q => by
      rw [Int32.le_iff_toInt_le, e1] at q
      exact ⟨by rw [xI_add (by rw [xone]; omega) (by rw [xone]; omega), xone], q⟩
    exact fun m s t r0 x1 x2 f h J k' => ur_15 (d := e) (fun q => ih (x + 1) e (by have := ex q; omega) (by have := ex q; omega) (by have := ex q; omega) (by omega)) (fun i q => ur_G k (x + 1) (e + i) (by have := ex q; omega) (by have := ex q; omega) (by have := ex q; omega) (by omega)) h J k'
theorem us_15 {m s : ps_S} {t x1 x2 : Int32} {d r0 : Nat} {f : Int32 → ps_S → Prop} (h0 : ps_is r0 0 = true) (J : uJ m t s) (k : ∀ (v : Int32) (s' : ps_S), v &&& 1 = v → uJ m t s' → f v s') : ps_Cl (d + 36) 15 [.ref r0, .int x1, .int x2, .int 0] s (ps_rI f) :=
  (ur_S 13 0 (d + 28) (by decide) (by decide) (by decide) (by omega)) m s t r0 x1 x2 f h0 J k

theorem us_12_7 {m s : ps_S} {t : Int32} {d : Nat} {r0 : Nat} {x2 : Int32} {Q : Option Value → ps_S → Prop} (h0 : ps_is r0 0 = true) (J : uJ m t s) (k : ∀ (v : Int32) (s' : ps_S), v &&& 1 = v → uJ m t s' → Q (some (.int v)) s') : ps_At (d + 37) 12 7 [(0, .ref r0), (2, .int x2)] [] s Q :=
  xs_up (P := fun x2 => ∀ (s : ps_S), ps_is r0 0 = true → uJ m t s → ps_At (d + 37) 12 7 [(0, .ref r0), (2, .int x2)] [] s Q) (fun x2 ih s h0 J => pg_12_7 (d := d + 36) (ps_nk_i h0 (ps_nk_i (xj_0_16 (J).1 h0) (And.intro (fun f1 => (k 1 s (by decide) J)) (fun f1 => (ps_nk_i h0 (ps_nk_i (xj_0_16 (J).1 h0) (xs_135 (xj_0_16 (J).1 h0) (J).1 (fun v1 g1 => (ps_nk_i h0 (ps_nk_i h0 (xs_10 h0 ((uw_rc (c := 0) (by decide) h0 (xw_0_14 h0 g1 (J).1) J)).1 (fun v2 g2 => (ps_nk_i h0 (ps_nk_i h0 (us_15 h0 (uw_rc (c := 0) (by decide) h0 (xw_0_15 h0 g2 ((uw_rc (c := 0) (by decide) h0 (xw_0_14 h0 g1 (J).1) J)).1) (uw_rc (c := 0) (by decide) h0 (xw_0_14 h0 g1 (J).1) J)) (fun v3 s3 b3 J3 => (And.intro (fun f2 => (ih ((x2 + 1)) (xs_lt f1) s3 h0 J3)) (fun f2 => (k 0 s3 (by decide) J3)))))))))))))))))))) x2 s h0 J

theorem us_12 {m s : ps_S} {t : Int32} {d : Nat} {r0 : Nat} {x1 : Int32} {f : Int32 → ps_S → Prop} (h0 : ps_is r0 0 = true) (J : uJ m t s) (k : ∀ (v : Int32) (s' : ps_S), v &&& 1 = v → uJ m t s' → f v s') : ps_Cl (d + 37) 12 [.ref r0, .int x1] s (ps_rI f) :=
  pg_12_0 (d := d + 36) (ps_nk_i h0 (us_8 h0 J (fun s1 J1 => (us_12_7 (d := d) (r0 := r0) (x2 := 0)  h0 J1 k ))))

theorem us_11_106 {m s : ps_S} {t : Int32} {d : Nat} {r0 : Nat} {x2 : Int32} {l3 : Int64} {Q : Option Value → ps_S → Prop} (h0 : ps_is r0 0 = true) (e0 : 0 ≤ x2) (e1 : x2 < (nI (ps_ln (ps_c0 r0 13)))) (J : uJ m t s) (k : ∀ (v : Int32) (s' : ps_S), v &&& 1 = v → uJ m t s' → Q (some (.int v)) s') : ps_At (d + 38) 11 106 [(0, .ref r0), (2, .int x2), (3, .long l3)] [] s Q :=
  pg_11_106 (d := d + 37) (ps_nk_i h0 (ps_nk_i (xn_3 ((xk_0_13 h0)).1) (ps_nd_i (xg_in e0 e1) (And.intro (fun f1 => (k 0 s (by decide) J)) (fun f1 => (k 1 s (by decide) J))))))

theorem us_11 {m s : ps_S} {t : Int32} {d : Nat} {r0 : Nat} {x1 : Int32} {f : Int32 → ps_S → Prop} (h0 : ps_is r0 0 = true) (J : uJ m t s) (k : ∀ (v : Int32) (s' : ps_S), v &&& 1 = v → uJ m t s' → f v s') : ps_Cl (d + 38) 11 [.ref r0, .int x1] s (ps_rI f) :=
  pg_11_0 (d := d + 37) (ps_nk_i h0 (And.intro (fun f1 => (k 0 s (by decide) J)) (fun f1 => (ps_nk_i h0 (ps_nk_i (xn_l ((xk_0_12 h0)).1) (And.intro (fun f2 => (k 0 s (by decide) J)) (fun f2 => (ps_nk_i h0 (ps_nk_i (xn_l ((xk_0_13 h0)).1) (And.intro (fun f3 => (ps_nk_i h0 (ps_nk_i (xn_3 ((xk_0_12 h0)).1) (ps_nd_i (xg_in f1 f2) (And.intro (fun f4 => (us_11_106 (d := d) (r0 := r0) (x2 := ((((ps_i s r0 11) - 1) * 64) + (x1 / 64))) (l3 := ((1 : Int64) <<< (Int32.toInt64 (x1 - (x1 / 64) * 64) &&& 63)))  h0 f1 f3 J k )) (fun f4 => (ps_nk_i h0 (ps_nk_i (xn_3 ((xk_0_12 h0)).1) (ps_nd_i (xg_in f1 f2) (ps_nk_i (xn_3 ((xk_0_12 h0)).1) (ps_nd_i (xg_in f1 f2) (ps_nk_i h0 (ps_nk_i h0 (us_12 h0 (uw_b ((xk_0_12 h0)).2 J) (fun v1 s1 b1 J1 => (And.intro (fun f5 => (ps_nk_i h0 (ps_nk_i (xn_3 ((xk_0_13 h0)).1) (ps_nd_i (xg_in f1 f3) (ps_nk_i (xn_3 ((xk_0_13 h0)).1) (ps_nd_i (xg_in f1 f3) (us_11_106 (d := d) (r0 := r0) (x2 := ((((ps_i s r0 11) - 1) * 64) + (x1 / 64))) (l3 := ((1 : Int64) <<< (Int32.toInt64 (x1 - (x1 / 64) * 64) &&& 63)))  h0 f1 f3 (uw_b ((xk_0_13 h0)).2 J1) k ))))))) (fun f5 => (ps_nk_i h0 (ps_nk_i (xn_3 ((xk_0_13 h0)).1) (ps_nd_i (xg_in f1 f3) (ps_nk_i (xn_3 ((xk_0_13 h0)).1) (ps_nd_i (xg_in f1 f3) (us_11_106 (d := d) (r0 := r0) (x2 := ((((ps_i s r0 11) - 1) * 64) + (x1 / 64))) (l3 := ((1 : Int64) <<< (Int32.toInt64 (x1 - (x1 / 64) * 64) &&& 63)))  h0 f1 f3 (uw_b ((xk_0_13 h0)).2 J1) k ))))))))))))))))))))))) (fun f3 => (k 0 s (by decide) J))))))))))))

theorem us_3_17 {m s : ps_S} {t : Int32} {d : Nat} {r0 : Nat} {x3 : Int32} {x4 : Int32} {x5 : Int32} {Q : Option Value → ps_S → Prop} (h0 : ps_is r0 0 = true) (J : uJ m t s) (k : ∀ (v : Int32) (s' : ps_S), uJ m t s' → Q (some (.int v)) s') : ps_At (d + 39) 3 17 [(0, .ref r0), (3, .int x3), (4, .int x4), (5, .int x5)] [] s Q :=
  xs_up (P := fun x5 => ∀ (x4 : Int32) (s : ps_S), ps_is r0 0 = true → uJ m t s → ps_At (d + 39) 3 17 [(0, .ref r0), (3, .int x3), (4, .int x4), (5, .int x5)] [] s Q) (fun x5 ih x4 s h0 J => pg_3_17 (d := d + 38) (And.intro (fun f1 => (And.intro (fun f2 => (k x4 s J)) (fun f2 => (k (-2) s J)))) (fun f1 => (ps_nk_i h0 (us_11 h0 J (fun v1 s1 b1 J1 => (And.intro (fun f3 => (ih ((x5 + 1)) (xs_lt f1) (x4) s1 h0 J1)) (fun f3 => (ih ((x5 + 1)) (xs_lt f1) ((x4 + 1)) s1 h0 J1))))))))) x5 x4 s h0 J

theorem us_3 {m s : ps_S} {t : Int32} {d : Nat} {r0 : Nat} {r1 : Nat} {x2 : Int32} {f : Int32 → ps_S → Prop} (h0 : ps_is r0 0 = true) (h1 : ps_is r1 9 = true) (J : uJ m t s) (k : ∀ (v : Int32) (s' : ps_S), uJ m t s' → f v s') : ps_Cl (d + 39) 3 [.ref r0, .ref r1, .int x2] s (ps_rI f) :=
  pg_3_0 (d := d + 38) (ps_nk_i h0 (us_2 h0 h1 J (fun v1 s1 J1 => (ps_nk_i h0 (us_9 h0 J1 (fun s2 J2 => (us_3_17 (d := d) (r0 := r0) (x3 := v1) (x4 := 0) (x5 := 0)  h0 J2 k )))))))

theorem us_13_7 {m s : ps_S} {t : Int32} {d : Nat} {r0 : Nat} {r1 : Nat} {x2 : Int32} {Q : Option Value → ps_S → Prop} (h0 : ps_is r0 0 = true) (h1 : ps_is r1 5 = true) (J : uJ m t s) (k : ∀ (s' : ps_S), uJ m t s' → Q none s') : ps_At (d + 2) 13 7 [(0, .ref r0), (1, .ref r1), (2, .int x2)] [] s Q :=
  xs_up (P := fun x2 => ∀ (s : ps_S), ps_is r0 0 = true → ps_is r1 5 = true → uJ m t s → ps_At (d + 2) 13 7 [(0, .ref r0), (1, .ref r1), (2, .int x2)] [] s Q) (fun x2 ih s h0 h1 J => pg_13_7 (d := d + 1) (And.intro (fun f1 => (k s J)) (fun f1 => (ps_nk_i h1 (xs_100 h1 (J).1 (fun v1 b1 => (And.intro (fun f2 => (ih ((x2 + 1)) (xs_lt f1) s h0 h1 J)) (fun f2 => (ps_nk_i h0 (ps_nk_i h0 (us_183 (xk_0_9 h0) J (fun s2 J2 e2 => (ps_nk_i h0 (ps_nk_i h0 (ih ((x2 + 1)) (xs_lt f1) (ps_ui s2 r0 10 ((ps_i s2 r0 10) + 1)) h0 h1 (uw_i (c := 0) (by decide) h0 J2)))))))))))))))) x2 s h0 h1 J

theorem us_13 {m s : ps_S} {t : Int32} {d : Nat} {r0 : Nat} {r1 : Nat} {f : ps_S → Prop} (h0 : ps_is r0 0 = true) (h1 : ps_is r1 5 = true) (J : uJ m t s) (k : ∀ (s' : ps_S), uJ m t s' → f s') : ps_Cl (d + 2) 13 [.ref r0, .ref r1] s (ps_rV f) :=
  pg_13_0 (d := d + 1) (ps_nk_i h0 (us_13_7 (d := d) (r0 := r0) (r1 := r1) (x2 := 0)  h0 h1 (uw_i (c := 0) (by decide) h0 J) k ))

theorem us_14_105 {m s : ps_S} {t : Int32} {d : Nat} {r0 : Nat} {x2 : Int32} {x3 : Int32} {Q : Option Value → ps_S → Prop} (h0 : ps_is r0 0 = true) (J : uJ m t s) (k : ∀ (v : Int32) (s' : ps_S), v &&& 1 = v → uJ m t s' → Q (some (.int v)) s') (K40 : ∀ (s : ps_S), ps_is r0 0 = true → uJ m t s → ps_At (d + 37) 14 40 [(0, .ref r0), (2, .int x2), (3, .int (x3 + 1))] [] s Q) : ps_At (d + 37) 14 105 [(0, .ref r0), (2, .int x2), (3, .int x3)] [] s Q :=
  pg_14_105 (d := d + 36) (ps_nk_i h0 (us_15 h0 J (fun v1 s1 b1 J1 => (And.intro (fun f1 => (K40 s1 h0 J1)) (fun f1 => (k 0 s1 (by decide) J1))))))

theorem us_14_51 {m s : ps_S} {t : Int32} {d : Nat} {r0 : Nat} {x2 : Int32} {x3 : Int32} {x4 : Int32} {x5 : Int32} {Q : Option Value → ps_S → Prop} (h0 : ps_is r0 0 = true) (J : uJ m t s) (k : ∀ (v : Int32) (s' : ps_S), v &&& 1 = v → uJ m t s' → Q (some (.int v)) s') (K40 : ∀ (s : ps_S), ps_is r0 0 = true → uJ m t s → ps_At (d + 37) 14 40 [(0, .ref r0), (2, .int x2), (3, .int (x3 + 1))] [] s Q) : ps_At (d + 37) 14 51 [(0, .ref r0), (2, .int x2), (3, .int x3), (4, .int x4), (5, .int x5)] [] s Q :=
  xs_up (P := fun x5 => ∀ (x4 : Int32) (s : ps_S), ps_is r0 0 = true → uJ m t s → ps_At (d + 37) 14 51 [(0, .ref r0), (2, .int x2), (3, .int x3), (4, .int x4), (5, .int x5)] [] s Q) (fun x5 ih x4 s h0 J => pg_14_51 (d := d + 36) (ps_nk_i h0 (And.intro (fun f1 => (us_14_105 (d := d) (r0 := r0) (x2 := x2) (x3 := x3)  h0 J k K40)) (fun f1 => (ps_nk_i h0 (And.intro (fun f2 => (us_14_105 (d := d) (r0 := r0) (x2 := x2) (x3 := x3)  h0 J k K40)) (fun f2 => (ps_nk_i h0 (ps_nk_i h0 (xs_182 (xk_0_9 h0) (J).1 (fun v1 => (ps_nk_i h0 (ps_nd_i (xg_nz f2) (us_183 (xk_0_8 h0) J (fun s2 J2 e2 => (ps_nk_i h0 (ps_nd_i (xg_nz (by rw [e2]; exact f2)) (ih ((x5 + 1)) (xs_lt f1) ((x4 / (ps_i s2 r0 11))) s2 h0 J2)))))))))))))))))) x5 x4 s h0 J

theorem us_14_40 {m s : ps_S} {t : Int32} {d : Nat} {r0 : Nat} {x2 : Int32} {x3 : Int32} {Q : Option Value → ps_S → Prop} (h0 : ps_is r0 0 = true) (J : uJ m t s) (k : ∀ (v : Int32) (s' : ps_S), v &&& 1 = v → uJ m t s' → Q (some (.int v)) s') : ps_At (d + 37) 14 40 [(0, .ref r0), (2, .int x2), (3, .int x3)] [] s Q :=
  xs_up (P := fun x3 => ∀ (s : ps_S), ps_is r0 0 = true → uJ m t s → ps_At (d + 37) 14 40 [(0, .ref r0), (2, .int x2), (3, .int x3)] [] s Q) (fun x3 ih s h0 J => pg_14_40 (d := d + 36) (And.intro (fun f1 => (k 1 s (by decide) J)) (fun f1 => (us_14_51 (d := d) (r0 := r0) (x2 := x2) (x3 := x3) (x4 := x3) (x5 := 0)  h0 J k (fun s9 h0z J9 => ih (x3 + 1) (xs_lt f1) s9 h0z J9))))) x3 s h0 J

theorem us_14_17 {m s : ps_S} {t : Int32} {d : Nat} {r0 : Nat} {x2 : Int32} {x3 : Int32} {Q : Option Value → ps_S → Prop} (h0 : ps_is r0 0 = true) (J : uJ m t s) (k : ∀ (v : Int32) (s' : ps_S), v &&& 1 = v → uJ m t s' → Q (some (.int v)) s') : ps_At (d + 37) 14 17 [(0, .ref r0), (2, .int x2), (3, .int x3)] [] s Q :=
  xs_up (P := fun x3 => ∀ (x2 : Int32) (s : ps_S), ps_is r0 0 = true → uJ m t s → ps_At (d + 37) 14 17 [(0, .ref r0), (2, .int x2), (3, .int x3)] [] s Q) (fun x3 ih x2 s h0 J => pg_14_17 (d := d + 36) (ps_nk_i h0 (And.intro (fun f1 => (us_14_40 (d := d) (r0 := r0) (x2 := x2) (x3 := 0)  h0 J k )) (fun f1 => (ps_nk_i h0 (ih ((x3 + 1)) (xs_lt f1) ((x2 * (ps_i s r0 11))) s h0 J)))))) x3 x2 s h0 J

theorem us_14 {m s : ps_S} {t : Int32} {d : Nat} {r0 : Nat} {r1 : Nat} {f : Int32 → ps_S → Prop} (h0 : ps_is r0 0 = true) (h1 : ps_is r1 5 = true) (J : uJ m t s) (k : ∀ (v : Int32) (s' : ps_S), v &&& 1 = v → uJ m t s' → f v s') : ps_Cl (d + 37) 14 [.ref r0, .ref r1] s (ps_rI f) :=
  pg_14_0 (d := d + 36) (ps_nk_i h0 (ps_nk_i h0 (ps_nk_i h0 (us_14_17 (d := d) (r0 := r0) (x2 := 1) (x3 := 0)  h0 (uw_rc (c := 0) (by decide) h0 (xw_0_15 h0 (xk_0_6 h0) ((uw_rc (c := 0) (by decide) h0 (xw_0_14 h0 h1 (J).1) J)).1) (uw_rc (c := 0) (by decide) h0 (xw_0_14 h0 h1 (J).1) J)) k ))))

theorem us_4 {m s : ps_S} {t : Int32} {d : Nat} {r0 : Nat} {r1 : Nat} {r2 : Nat} {x3 : Int32} {x4 : Int32} {f : Int32 → ps_S → Prop} (h0 : ps_is r0 0 = true) (h1 : ps_is r1 9 = true) (h2 : ps_is r2 5 = true) (J : uJ m t s) (k : ∀ (v : Int32) (s' : ps_S), uJ m t s' → f v s') : ps_Cl (d + 38) 4 [.ref r0, .ref r1, .ref r2, .int x3, .int x4] s (ps_rI f) :=
  pg_4_0 (d := d + 37) (ps_nk_i h0 (us_6 h0 h1 J (fun v1 s1 J1 => (And.intro (fun f1 => (ps_nk_i h0 (us_13 h0 h2 J1 (fun s2 J2 => (And.intro (fun f2 => (k (-2) s2 J2)) (fun f2 => (ps_nk_i h0 (And.intro (fun f3 => (ps_nk_i h0 (ps_nk_i h0 (ps_nk_i (xk_0_6 h0) (us_103 (xk_0_6 h0) h2 (xj_0_16 (J2).1 h0) J2 (fun s3 J3 => (ps_nk_i h0 (us_8 h0 J3 (fun s4 J4 => (ps_nk_i h0 (us_14 h0 h2 J4 (fun v5 s5 b5 J5 => (And.intro (fun f4 => (k 0 s5 J5)) (fun f4 => (k 1 s5 J5))))))))))))))) (fun f3 => (k (-2) s2 J2)))))))))) (fun f1 => (k (-1) s1 J1))))))

theorem us_5_50 {m s : ps_S} {t : Int32} {d : Nat} {r0 : Nat} {r2 : Nat} {x4 : Int32} {x5 : Int32} {Q : Option Value → ps_S → Prop} (h0 : ps_is r0 0 = true) (h2 : ps_is r2 5 = true) (J : uJ m t s) (k : ∀ (v : Int32) (s' : ps_S), uJ m t s' → Q (some (.int v)) s') : ps_At (d + 39) 5 50 [(0, .ref r0), (2, .ref r2), (4, .int x4), (5, .int x5)] [] s Q :=
  xs_up (P := fun x5 => ∀ (s : ps_S), ps_is r0 0 = true → ps_is r2 5 = true → uJ m t s → ps_At (d + 39) 5 50 [(0, .ref r0), (2, .ref r2), (4, .int x4), (5, .int x5)] [] s Q) (fun x5 ih s h0 h2 J => pg_5_50 (d := d + 38) (And.intro (fun f1 => (k (-1) s J)) (fun f1 => (ps_nk_i h0 (us_11 h0 J (fun v1 s1 b1 J1 => (And.intro (fun f2 => (ih ((x5 + 1)) (xs_lt f1) s1 h0 h2 J1)) (fun f2 => (ps_nk_i h0 (us_8 h0 J1 (fun s2 J2 => (ps_nk_i h0 (us_14 h0 h2 J2 (fun v3 s3 b3 J3 => (And.intro (fun f3 => (ih ((x5 + 1)) (xs_lt f1) s3 h0 h2 J3)) (fun f3 => (k x5 s3 J3))))))))))))))))) x5 s h0 h2 J

theorem us_5 {m s : ps_S} {t : Int32} {d : Nat} {r0 : Nat} {r1 : Nat} {r2 : Nat} {x3 : Int32} {f : Int32 → ps_S → Prop} (h0 : ps_is r0 0 = true) (h1 : ps_is r1 9 = true) (h2 : ps_is r2 5 = true) (J : uJ m t s) (k : ∀ (v : Int32) (s' : ps_S), uJ m t s' → f v s') : ps_Cl (d + 39) 5 [.ref r0, .ref r1, .ref r2, .int x3] s (ps_rI f) :=
  pg_5_0 (d := d + 38) (ps_nk_i h0 (us_2 h0 h1 J (fun v1 s1 J1 => (ps_nk_i h0 (us_13 h0 h2 J1 (fun s2 J2 => (And.intro (fun f1 => (k (-2) s2 J2)) (fun f1 => (ps_nk_i h0 (And.intro (fun f2 => (ps_nk_i h0 (us_9 h0 J2 (fun s3 J3 => (ps_nk_i h0 (ps_nk_i h0 (ps_nk_i (xk_0_6 h0) (us_103 (xk_0_6 h0) h2 (xj_0_16 (J3).1 h0) J3 (fun s4 J4 => (us_5_50 (d := d) (r0 := r0) (r2 := r2) (x4 := v1) (x5 := 0)  h0 h2 J4 k )))))))))) (fun f2 => (k (-2) s2 J2))))))))))))

theorem us_22_2 {m s : ps_S} {t : Int32} {d : Nat} {r0 : Nat} {r1 : Nat} {x2 : Int32} {x3 : Int32} {Q : Option Value → ps_S → Prop} (h0 : ps_is r0 1 = true) (h1 : ps_is r1 5 = true) (J : uJ m t s) (k : ∀ (v : Int32) (s' : ps_S), uJ m t s' → Q (some (.int v)) s') : ps_At (d + 2) 22 2 [(0, .ref r0), (1, .ref r1), (2, .int x2), (3, .int x3)] [] s Q :=
  xs_up (P := fun x3 => ∀ (s : ps_S), ps_is r0 1 = true → ps_is r1 5 = true → uJ m t s → ps_At (d + 2) 22 2 [(0, .ref r0), (1, .ref r1), (2, .int x2), (3, .int x3)] [] s Q) (fun x3 ih s h0 h1 J => pg_22_2 (d := d + 1) (ps_nk_i h0 (And.intro (fun f1 => (ps_nk_i h0 (ps_nk_i h0 (us_183 (xk_1_3 h0) J (fun s1 J1 e1 => (ps_nk_i h0 (ps_nk_i h0 (ps_nk_i h0 (k ((ps_i (ps_ui s1 r0 4 ((ps_i s1 r0 4) + 1)) r0 4) - 1) (ps_ui s1 r0 4 ((ps_i s1 r0 4) + 1)) (uw_i (c := 1) (by decide) h0 J1)))))))))) (fun f1 => (ps_nk_i h0 (ps_nk_i (xk_1_0 h0) (xs_104 (xk_1_0 h0) (J).1 (fun v2 => (ps_nk_i h0 (xs_182 (xk_1_3 h0) (J).1 (fun v3 => (ps_nk_i h1 (xs_99 h1 h1 (J).1 (fun v4 b4 => (And.intro (fun f2 => (ih ((x3 + 1)) (xs_lt f1) s h0 h1 J)) (fun f2 => (k x3 s J))))))))))))))))) x3 s h0 h1 J

theorem us_22 {m s : ps_S} {t : Int32} {d : Nat} {r0 : Nat} {r1 : Nat} {x2 : Int32} {f : Int32 → ps_S → Prop} (h0 : ps_is r0 1 = true) (h1 : ps_is r1 5 = true) (J : uJ m t s) (k : ∀ (v : Int32) (s' : ps_S), uJ m t s' → f v s') : ps_Cl (d + 2) 22 [.ref r0, .ref r1, .int x2] s (ps_rI f) :=
  pg_22_0 (d := d + 1) (us_22_2 (d := d) (r0 := r0) (r1 := r1) (x2 := x2) (x3 := 0)  h0 h1 J k )

theorem us_21_21 {m s : ps_S} {t : Int32} {d : Nat} {r0 : Nat} {r1 : Nat} {x3 : Int32} {Q : Option Value → ps_S → Prop} (h0 : ps_is r0 1 = true) (h1 : ps_is r1 5 = true) (J : uJ m t s) (k : ∀ (s' : ps_S), uJ m t s' → Q none s') : ps_At (d + 3) 21 21 [(0, .ref r0), (1, .ref r1), (3, .int x3)] [] s Q :=
  xs_up (P := fun x3 => ∀ (s : ps_S), ps_is r0 1 = true → ps_is r1 5 = true → uJ m t s → ps_At (d + 3) 21 21 [(0, .ref r0), (1, .ref r1), (3, .int x3)] [] s Q) (fun x3 ih s h0 h1 J => pg_21_21 (d := d + 2) (ps_nk_i h1 (And.intro (fun f1 => (k s J)) (fun f1 => (ps_nk_i h1 (xs_92 h1 (J).1 (fun v1 => (And.intro (fun f2 => (ps_nk_i h0 (ps_nk_i h0 (And.intro (fun f3 => (ps_nk_i h1 (xs_92 h1 (J).1 (fun v2 => (us_183 (xk_1_1 h0) J (fun s3 J3 e3 => (ps_nk_i h0 (ps_nk_i h0 (And.intro (fun f4 => (ih ((x3 + 1)) (xs_lt f1) (ps_ui s3 r0 2 ((ps_i s3 r0 2) + 1)) h0 h1 (uw_i (c := 1) (by decide) h0 J3))) (fun f4 => (ps_nk_i h0 (ps_nk_i (xk_1_0 h0) (xs_104 (xk_1_0 h0) ((uw_i (c := 1) (by decide) h0 J3)).1 (fun v4 => (ih ((if (x3 + 1) < v4 then v4 else (x3 + 1))) (xs_max f1) (ps_ui s3 r0 2 ((ps_i s3 r0 2) + 1)) h0 h1 (uw_i (c := 1) (by decide) h0 J3)))))))))))))))) (fun f3 => (ps_nk_i h0 (us_22 h0 h1 J (fun v5 s5 J5 => (us_183 (xk_1_1 h0) J5 (fun s6 J6 e6 => (ps_nk_i h0 (ps_nk_i h0 (And.intro (fun f5 => (ih ((x3 + 1)) (xs_lt f1) (ps_ui s6 r0 2 ((ps_i s6 r0 2) + 1)) h0 h1 (uw_i (c := 1) (by decide) h0 J6))) (fun f5 => (ps_nk_i h0 (ps_nk_i (xk_1_0 h0) (xs_104 (xk_1_0 h0) ((uw_i (c := 1) (by decide) h0 J6)).1 (fun v7 => (ih ((if (x3 + 1) < v7 then v7 else (x3 + 1))) (xs_max f1) (ps_ui s6 r0 2 ((ps_i s6 r0 2) + 1)) h0 h1 (uw_i (c := 1) (by decide) h0 J6)))))))))))))))))))) (fun f2 => (ps_nk_i h0 (ps_nk_i h0 (And.intro (fun f6 => (ps_nk_i h1 (xs_92 h1 (J).1 (fun v8 => (us_183 (xk_1_1 h0) J (fun s9 J9 e9 => (ps_nk_i h0 (ps_nk_i h0 (And.intro (fun f7 => (ih ((x3 + 1)) (xs_lt f1) (ps_ui s9 r0 2 ((ps_i s9 r0 2) + 1)) h0 h1 (uw_i (c := 1) (by decide) h0 J9))) (fun f7 => (ps_nk_i h0 (ps_nk_i (xk_1_0 h0) (xs_104 (xk_1_0 h0) ((uw_i (c := 1) (by decide) h0 J9)).1 (fun v10 => (ih ((if (x3 + 1) < v10 then v10 else (x3 + 1))) (xs_max f1) (ps_ui s9 r0 2 ((ps_i s9 r0 2) + 1)) h0 h1 (uw_i (c := 1) (by decide) h0 J9)))))))))))))))) (fun f6 => (ps_nk_i h0 (us_22 h0 h1 J (fun v11 s11 J11 => (us_183 (xk_1_1 h0) J11 (fun s12 J12 e12 => (ps_nk_i h0 (ps_nk_i h0 (And.intro (fun f8 => (ih ((x3 + 1)) (xs_lt f1) (ps_ui s12 r0 2 ((ps_i s12 r0 2) + 1)) h0 h1 (uw_i (c := 1) (by decide) h0 J12))) (fun f8 => (ps_nk_i h0 (ps_nk_i (xk_1_0 h0) (xs_104 (xk_1_0 h0) ((uw_i (c := 1) (by decide) h0 J12)).1 (fun v13 => (ih ((if (x3 + 1) < v13 then v13 else (x3 + 1))) (xs_max f1) (ps_ui s12 r0 2 ((ps_i s12 r0 2) + 1)) h0 h1 (uw_i (c := 1) (by decide) h0 J12)))))))))))))))))))))))))))) x3 s h0 h1 J

theorem us_21 {m s : ps_S} {t : Int32} {d : Nat} {r0 : Nat} {r1 : Nat} {r2 : Nat} {f : ps_S → Prop} (h0 : ps_is r0 1 = true) (h1 : ps_is r1 5 = true) (h2 : ps_is r2 9 = true) (J : uJ m t s) (k : ∀ (s' : ps_S), uJ m t s' → f s') : ps_Cl (d + 3) 21 [.ref r0, .ref r1, .ref r2] s (ps_rV f) :=
  pg_21_0 (d := d + 2) (ps_nk_i h0 (ps_nk_i (xk_1_0 h0) (us_103 (xk_1_0 h0) h1 h2 J (fun s1 J1 => (ps_nk_i h0 (ps_nk_i h0 (us_21_21 (d := d) (r0 := r0) (r1 := r1) (x3 := 0)  h0 h1 (uw_i (c := 1) (by decide) h0 (uw_i (c := 1) (by decide) h0 J1)) k )))))))

theorem us_28 {m s : ps_S} {t : Int32} {d : Nat} {r0 : Nat} {x1 : Int32} {f : ps_S → Prop} (h0 : ps_is r0 1 = true) (J : uJ m t s) (k : ∀ (s' : ps_S), uJ m t s' → f s') : ps_Cl (d + 1) 28 [.ref r0, .int x1] s (ps_rV f) :=
  pg_28_0 (d := d) (ps_nk_i h0 (ps_nk_i h0 (us_183 (xk_1_5 h0) J (fun s1 J1 e1 => (ps_nk_i h0 (ps_nk_i h0 (k (ps_ui s1 r0 6 ((ps_i s1 r0 6) + 1)) (uw_i (c := 1) (by decide) h0 J1))))))))

theorem us_29 {m s : ps_S} {t : Int32} {d : Nat} {r0 : Nat} {f : Int32 → ps_S → Prop} (h0 : ps_is r0 1 = true) (J : uJ m t s) (k : ∀ (v : Int32) (s' : ps_S), uJ m t s' → f v s') : ps_Cl (d + 1) 29 [.ref r0] s (ps_rI f) :=
  pg_29_0 (d := d) (ps_nk_i h0 (ps_nk_i h0 (ps_nk_i h0 (ps_nk_i h0 (xs_182 (xk_1_5 h0) ((uw_i (c := 1) (by decide) h0 J)).1 (fun v1 => (k v1 (ps_ui s r0 6 ((ps_i s r0 6) - 1)) (uw_i (c := 1) (by decide) h0 J))))))))

theorem us_26_12 {m s : ps_S} {t : Int32} {d : Nat} {r0 : Nat} {x1 : Int32} {x2 : Int32} {Q : Option Value → ps_S → Prop} (h0 : ps_is r0 1 = true) (J : uJ m t s) (k : ∀ (v : Int32) (s' : ps_S), v &&& 1 = v → uJ m t s' → Q (some (.int v)) s') : ps_At (d + 2) 26 12 [(0, .ref r0), (1, .int x1), (2, .int x2)] [] s Q :=
  xs_dn (P := fun x2 => ∀ (s : ps_S), ps_is r0 1 = true → uJ m t s → ps_At (d + 2) 26 12 [(0, .ref r0), (1, .int x1), (2, .int x2)] [] s Q) (fun x2 ih s h0 J => pg_26_12 (d := d + 1) (And.intro (fun f1 => (ps_nk_i h0 (us_29 h0 J (fun v1 s1 J1 => (And.intro (fun f2 => (k 0 s1 (by decide) J1)) (fun f2 => (k 1 s1 (by decide) J1))))))) (fun f1 => (ps_nk_i h0 (xs_182 (xk_1_1 h0) (J).1 (fun v2 => (And.intro (fun f3 => (And.intro (fun f4 => (ps_nk_i h0 (us_29 h0 J (fun v3 s3 J3 => (ps_nk_i h0 (us_29 h0 J3 (fun v4 s4 J4 => (xs_27  (J4).1 (fun v5 => (ps_nk_i h0 (us_28 h0 J4 (fun s6 J6 => (ih ((x2 + (-1))) (xs_ge f1) s6 h0 J6))))))))))))) (fun f4 => (ps_nk_i h0 (us_28 h0 J (fun s7 J7 => (ih ((x2 + (-1))) (xs_ge f1) s7 h0 J7))))))) (fun f3 => (ps_nk_i h0 (ps_nk_i h0 (us_28 h0 J (fun s8 J8 => (ih ((x2 + (-1))) (xs_ge f1) s8 h0 J8))))))))))))) x2 s h0 J

theorem us_26 {m s : ps_S} {t : Int32} {d : Nat} {r0 : Nat} {x1 : Int32} {f : Int32 → ps_S → Prop} (h0 : ps_is r0 1 = true) (J : uJ m t s) (k : ∀ (v : Int32) (s' : ps_S), v &&& 1 = v → uJ m t s' → f v s') : ps_Cl (d + 2) 26 [.ref r0, .int x1] s (ps_rI f) :=
  pg_26_0 (d := d + 1) (ps_nk_i h0 (ps_nk_i h0 (us_26_12 (d := d) (r0 := r0) (x1 := x1) (x2 := ((ps_i (ps_ui s r0 6 0) r0 2) - 1))  h0 (uw_i (c := 1) (by decide) h0 J) k )))

theorem us_23_4 {m s : ps_S} {t : Int32} {d : Nat} {r0 : Nat} {x1 : Int32} {x2 : Int32} {Q : Option Value → ps_S → Prop} (h0 : ps_is r0 1 = true) (J : uJ m t s) (k : ∀ (v : Int32) (s' : ps_S), uJ m t s' → Q (some (.int v)) s') : ps_At (d + 3) 23 4 [(0, .ref r0), (1, .int x1), (2, .int x2)] [] s Q :=
  xs_up (P := fun x2 => ∀ (x1 : Int32) (s : ps_S), ps_is r0 1 = true → uJ m t s → ps_At (d + 3) 23 4 [(0, .ref r0), (1, .int x1), (2, .int x2)] [] s Q) (fun x2 ih x1 s h0 J => pg_23_4 (d := d + 2) (ps_nk_i h0 (xs_25 h0 (J).1 (fun v1 => (And.intro (fun f1 => (k x1 s J)) (fun f1 => (ps_nk_i h0 (us_26 h0 J (fun v2 s2 b2 J2 => (And.intro (fun f2 => (ih ((x2 + 1)) (xs_lt f1) (x1) s2 h0 J2)) (fun f2 => (ih ((x2 + 1)) (xs_lt f1) ((x1 + 1)) s2 h0 J2)))))))))))) x2 x1 s h0 J

theorem us_23 {m s : ps_S} {t : Int32} {d : Nat} {r0 : Nat} {f : Int32 → ps_S → Prop} (h0 : ps_is r0 1 = true) (J : uJ m t s) (k : ∀ (v : Int32) (s' : ps_S), uJ m t s' → f v s') : ps_Cl (d + 3) 23 [.ref r0] s (ps_rI f) :=
  pg_23_0 (d := d + 2) (us_23_4 (d := d) (r0 := r0) (x1 := 0) (x2 := 0)  h0 J k )
end
section
set_option maxRecDepth 100000
theorem us_24_2 {m s : ps_S} {t : Int32} {d : Nat} {r0 : Nat} {x1 : Int32} {Q : Option Value → ps_S → Prop} (h0 : ps_is r0 1 = true) (J : uJ m t s) (k : ∀ (v : Int32) (s' : ps_S), uJ m t s' → Q (some (.int v)) s') : ps_At (d + 3) 24 2 [(0, .ref r0), (1, .int x1)] [] s Q :=
  xs_up (P := fun x1 => ∀ (s : ps_S), ps_is r0 1 = true → uJ m t s → ps_At (d + 3) 24 2 [(0, .ref r0), (1, .int x1)] [] s Q) (fun x1 ih s h0 J => pg_24_2 (d := d + 2) (ps_nk_i h0 (xs_25 h0 (J).1 (fun v1 => (And.intro (fun f1 => (k (-1) s J)) (fun f1 => (ps_nk_i h0 (us_26 h0 J (fun v2 s2 b2 J2 => (And.intro (fun f2 => (ih ((x1 + 1)) (xs_lt f1) s2 h0 J2)) (fun f2 => (k x1 s2 J2)))))))))))) x1 s h0 J

theorem us_24 {m s : ps_S} {t : Int32} {d : Nat} {r0 : Nat} {f : Int32 → ps_S → Prop} (h0 : ps_is r0 1 = true) (J : uJ m t s) (k : ∀ (v : Int32) (s' : ps_S), uJ m t s' → f v s') : ps_Cl (d + 3) 24 [.ref r0] s (ps_rI f) :=
  pg_24_0 (d := d + 2) (us_24_2 (d := d) (r0 := r0) (x1 := 0)  h0 J k )

theorem us_31 {m s : ps_S} {t : Int32} {d : Nat} {r0 : Nat} {f : ps_S → Prop} (h0 : ps_is r0 2 = true) (J : uJ m t s) (k : ∀ (s' : ps_S), uJ m t s' → f s') : ps_Cl d 31 [.ref r0] s (ps_rV f) :=
  pg_31_0 (ps_nk_i h0 (ps_nk_i h0 (ps_nk_i h0 (k (ps_ui (ps_ui (ps_ui s r0 7 0) r0 8 0) r0 9 0) (uw_i (c := 2) (by decide) h0 (uw_i (c := 2) (by decide) h0 (uw_i (c := 2) (by decide) h0 J)))))))

theorem us_91 {m s : ps_S} {t : Int32} {d : Nat} {r0 : Nat} {f : ps_S → Prop} (h0 : ps_is r0 5 = true) (J : uJ m t s) (k : ∀ (s' : ps_S), uJ m t s' → f s') : ps_Cl d 91 [.ref r0] s (ps_rV f) :=
  pg_91_0 (ps_nk_i h0 (ps_nk_i h0 (k (ps_ui (ps_ui s r0 1 0) r0 2 0) (uw_i (c := 5) (by decide) h0 (uw_i (c := 5) (by decide) h0 J)))))

theorem us_93 {m s : ps_S} {t : Int32} {d : Nat} {r0 : Nat} {x1 : Int32} {f : ps_S → Prop} (h0 : ps_is r0 5 = true) (J : uJ m t s) (k : ∀ (s' : ps_S), uJ m t s' → f s') : ps_Cl d 93 [.ref r0, .int x1] s (ps_rV f) :=
  pg_93_0 (ps_nk_i h0 (And.intro (fun f1 => (ps_nk_i h0 (k (ps_ui s r0 2 1) (uw_i (c := 5) (by decide) h0 J)))) (fun f1 => (ps_nk_i h0 (ps_nk_i h0 (ps_nk_i (xn_l ((xk_5_0 h0)).1) (And.intro (fun f2 => (ps_nk_i h0 (k (ps_ui s r0 2 1) (uw_i (c := 5) (by decide) h0 J)))) (fun f2 => (ps_nk_i h0 (ps_nk_i h0 (ps_nk_i (xn_0 ((xk_5_0 h0)).1) (ps_nd_i (xg_in f1 f2) (ps_nk_i h0 (ps_nk_i h0 (k (ps_ui (ps_ua s (ps_c0 r0 0) (Int32.toNatClampNeg (ps_i s r0 1)) x1) r0 1 ((ps_i (ps_ua s (ps_c0 r0 0) (Int32.toNatClampNeg (ps_i s r0 1)) x1) r0 1) + 1)) (uw_i (c := 5) (by decide) h0 (uw_a ((xk_5_0 h0)).2 J)))))))))))))))))

theorem us_94_3 {m s : ps_S} {t : Int32} {d : Nat} {r0 : Nat} {r1 : Nat} {x3 : Int32} {x4 : Int32} {Q : Option Value → ps_S → Prop} (h0 : ps_is r0 5 = true) (h1 : ps_is r1 5 = true) (J : uJ m t s) (k : ∀ (s' : ps_S), uJ m t s' → Q none s') : ps_At (d + 1) 94 3 [(0, .ref r0), (1, .ref r1), (3, .int x3), (4, .int x4)] [] s Q :=
  xs_up (P := fun x4 => ∀ (s : ps_S), ps_is r0 5 = true → ps_is r1 5 = true → uJ m t s → ps_At (d + 1) 94 3 [(0, .ref r0), (1, .ref r1), (3, .int x3), (4, .int x4)] [] s Q) (fun x4 ih s h0 h1 J => pg_94_3 (d := d) (And.intro (fun f1 => (k s J)) (fun f1 => (ps_nk_i h1 (xs_92 h1 (J).1 (fun v1 => (ps_nk_i h0 (us_93 h0 J (fun s2 J2 => (ih ((x4 + 1)) (xs_lt f1) s2 h0 h1 J2)))))))))) x4 s h0 h1 J

theorem us_94 {m s : ps_S} {t : Int32} {d : Nat} {r0 : Nat} {r1 : Nat} {x2 : Int32} {x3 : Int32} {f : ps_S → Prop} (h0 : ps_is r0 5 = true) (h1 : ps_is r1 5 = true) (J : uJ m t s) (k : ∀ (s' : ps_S), uJ m t s' → f s') : ps_Cl (d + 1) 94 [.ref r0, .ref r1, .int x2, .int x3] s (ps_rV f) :=
  pg_94_0 (d := d) (us_94_3 (d := d) (r0 := r0) (r1 := r1) (x3 := x3) (x4 := x2)  h0 h1 J k )

theorem us_95 {m s : ps_S} {t : Int32} {d : Nat} {r0 : Nat} {r1 : Nat} {f : ps_S → Prop} (h0 : ps_is r0 5 = true) (h1 : ps_is r1 5 = true) (J : uJ m t s) (k : ∀ (s' : ps_S), uJ m t s' → f s') : ps_Cl (d + 2) 95 [.ref r0, .ref r1] s (ps_rV f) :=
  pg_95_0 (d := d + 1) (ps_nk_i h0 (us_91 h0 J (fun s1 J1 => (ps_nk_i h1 (ps_nk_i h0 (us_94 h0 h1 J1 (fun s2 J2 => (k s2 J2))))))))

theorem us_123 {m s : ps_S} {t : Int32} {d : Nat} {r0 : Nat} {x1 : Int32} {f : ps_S → Prop} (h0 : ps_is r0 8 = true) (J : uJ m t s) (k : ∀ (s' : ps_S), uJ m t s' → f s') : ps_Cl d 123 [.ref r0, .int x1] s (ps_rV f) :=
  pg_123_0 (ps_nk_i h0 (And.intro (fun f1 => (ps_nk_i h0 (k (ps_ui s r0 9 1) (uw_i (c := 8) (by decide) h0 J)))) (fun f1 => (ps_nk_i h0 (ps_nk_i h0 (ps_nk_i (xn_l ((xk_8_7 h0)).1) (And.intro (fun f2 => (ps_nk_i h0 (k (ps_ui s r0 9 1) (uw_i (c := 8) (by decide) h0 J)))) (fun f2 => (ps_nk_i h0 (ps_nk_i h0 (ps_nk_i (xn_0 ((xk_8_7 h0)).1) (ps_nd_i (xg_in f1 f2) (ps_nk_i h0 (ps_nk_i h0 (k (ps_ui (ps_ua s (ps_c0 r0 7) (Int32.toNatClampNeg (ps_i s r0 8)) x1) r0 8 ((ps_i (ps_ua s (ps_c0 r0 7) (Int32.toNatClampNeg (ps_i s r0 8)) x1) r0 8) + 1)) (uw_i (c := 8) (by decide) h0 (uw_a ((xk_8_7 h0)).2 J)))))))))))))))))

theorem us_97 {m s : ps_S} {t : Int32} {d : Nat} {r0 : Nat} {x1 : Int32} {r2 : Nat} {r3 : Nat} {f : ps_S → Prop} (h0 : ps_is r0 5 = true) (h2 : ps_is r2 5 = true) (h3 : ps_is r3 5 = true) (J : uJ m t s) (k : ∀ (s' : ps_S), uJ m t s' → f s') : ps_Cl (d + 2) 97 [.ref r0, .int x1, .ref r2, .ref r3] s (ps_rV f) :=
  pg_97_0 (d := d + 1) (ps_nk_i h0 (us_91 h0 J (fun s1 J1 => (ps_nk_i h0 (us_93 h0 J1 (fun s2 J2 => (ps_nk_i h2 (ps_nk_i h0 (us_94 h0 h2 J2 (fun s3 J3 => (ps_nk_i h3 (ps_nk_i h0 (us_94 h0 h3 J3 (fun s4 J4 => (k s4 J4)))))))))))))))

theorem us_43 {m s : ps_S} {t : Int32} {d : Nat} {r0 : Nat} {r1 : Nat} {x2 : Int32} {r3 : Nat} {f : Int32 → ps_S → Prop} (h0 : ps_is r0 2 = true) (h1 : ps_is r1 8 = true) (h3 : ps_is r3 7 = true) (J : uJ m t s) (k : ∀ (v : Int32) (s' : ps_S), uJ m t s' → f v s') : ps_Cl (d + 3) 43 [.ref r0, .ref r1, .int x2, .ref r3] s (ps_rI f) :=
  pg_43_0 (d := d + 2) (ps_nk_i h1 (And.intro (fun f1 => (ps_nk_i h1 (ps_nk_i h0 (ps_nk_i h1 (ps_nk_i (xj_2_6 (J).1 h0) (xs_135 (xj_2_6 (J).1 h0) (J).1 (fun v1 g1 => (ps_nk_i (xk_8_6 h1) (us_95 (xk_8_6 h1) g1 J (fun s2 J2 => (ps_nk_i h1 (ps_nk_i h1 (k 0 (ps_ui s2 r1 10 ((1 : Int32) <<< ((ps_i s2 r1 2) &&& 31))) (uw_i (c := 8) (by decide) h1 J2)))))))))))))) (fun f1 => (And.intro (fun f2 => (ps_nk_i h1 (ps_nk_i h1 (ps_nk_i (xk_8_6 h1) (us_95 (xk_8_6 h1) (xk_8_5 h1) J (fun s3 J3 => (ps_nk_i h1 (us_123 h1 J3 (fun s4 J4 => (k 0 s4 J4)))))))))) (fun f2 => (And.intro (fun f3 => (ps_nk_i h1 (ps_nk_i h1 (xs_121 h1 (J).1 (fun v5 => (ps_nk_i h3 (xs_110 h3 (J).1 (fun v6 g6 => (ps_nk_i (xk_8_6 h1) (us_95 (xk_8_6 h1) g6 J (fun s7 J7 => (ps_nk_i h1 (xs_121 h1 (J7).1 (fun v8 => (ps_nk_i h1 (k 0 (ps_ui s7 r1 11 ((1 : Int32) <<< (v8 &&& 31))) (uw_i (c := 8) (by decide) h1 J7))))))))))))))))) (fun f3 => (ps_nk_i h1 (ps_nk_i h1 (ps_nk_i h1 (ps_nk_i (xk_8_6 h1) (us_97 (xk_8_6 h1) (xk_8_4 h1) (xk_8_4 h1) J (fun s9 J9 => (k 0 s9 J9))))))))))))))

theorem us_44 {m s : ps_S} {t : Int32} {d : Nat} {r0 : Nat} {r1 : Nat} {r2 : Nat} {f : Int32 → ps_S → Prop} (h0 : ps_is r0 2 = true) (h1 : ps_is r1 8 = true) (h2 : ps_is r2 5 = true) (J : uJ m t s) (k : ∀ (v : Int32) (s' : ps_S), uJ m t s' → f v s') : ps_Cl (d + 3) 44 [.ref r0, .ref r1, .ref r2] s (ps_rI f) :=
  pg_44_0 (d := d + 2) (ps_nk_i h1 (And.intro (fun f1 => (ps_nk_i h1 (ps_nk_i h0 (xs_37 h0 h1 (J).1 (fun v1 g1 => (ps_nk_i g1 (ps_nk_i (xk_8_6 h1) (us_97 (xk_8_6 h1) h2 (xk_8_6 g1) J (fun s2 J2 => (k 0 s2 J2)))))))))) (fun f1 => (And.intro (fun f2 => (ps_nk_i h1 (ps_nk_i h1 (ps_nk_i (xk_8_6 h1) (us_97 (xk_8_6 h1) (xk_8_5 h1) h2 J (fun s3 J3 => (ps_nk_i h0 (xs_38 h0 (J3).1 (fun v4 g4 => (ps_nk_i h1 (ps_nk_i g4 (us_95 g4 (xk_8_5 h1) J3 (fun s5 J5 => (k 0 s5 J5)))))))))))))) (fun f2 => (And.intro (fun f3 => (ps_nk_i h1 (ps_nk_i h1 (ps_nk_i (xk_8_6 h1) (us_97 (xk_8_6 h1) (xk_8_5 h1) h2 J (fun s6 J6 => (ps_nk_i h0 (xs_38 h0 (J6).1 (fun v7 g7 => (ps_nk_i h1 (ps_nk_i g7 (us_95 g7 (xk_8_5 h1) J6 (fun s8 J8 => (k 0 s8 J8)))))))))))))) (fun f3 => (And.intro (fun f4 => (ps_nk_i h1 (ps_nk_i h1 (ps_nk_i (xk_8_6 h1) (us_97 (xk_8_6 h1) h2 (xk_8_5 h1) J (fun s9 J9 => (k 0 s9 J9))))))) (fun f4 => (And.intro (fun f5 => (ps_nk_i h1 (ps_nk_i h1 (ps_nk_i (xk_8_6 h1) (us_97 (xk_8_6 h1) (xk_8_5 h1) h2 J (fun s10 J10 => (k 0 s10 J10))))))) (fun f5 => (ps_nk_i h1 (ps_nk_i h1 (ps_nk_i (xk_8_6 h1) (us_97 (xk_8_6 h1) (xk_8_5 h1) h2 J (fun s11 J11 => (ps_nk_i h0 (xs_38 h0 (J11).1 (fun v12 g12 => (ps_nk_i h1 (ps_nk_i g12 (us_95 g12 (xk_8_5 h1) J11 (fun s13 J13 => (k 0 s13 J13))))))))))))))))))))))))

theorem us_96 {m s : ps_S} {t : Int32} {d : Nat} {r0 : Nat} {r1 : Nat} {x2 : Int32} {x3 : Int32} {f : ps_S → Prop} (h0 : ps_is r0 5 = true) (h1 : ps_is r1 5 = true) (J : uJ m t s) (k : ∀ (s' : ps_S), uJ m t s' → f s') : ps_Cl (d + 2) 96 [.ref r0, .ref r1, .int x2, .int x3] s (ps_rV f) :=
  pg_96_0 (d := d + 1) (ps_nk_i h0 (us_91 h0 J (fun s1 J1 => (ps_nk_i h0 (us_94 h0 h1 J1 (fun s2 J2 => (k s2 J2)))))))

theorem us_45 {m s : ps_S} {t : Int32} {d : Nat} {r0 : Nat} {r1 : Nat} {r2 : Nat} {f : Int32 → ps_S → Prop} (h0 : ps_is r0 2 = true) (h1 : ps_is r1 8 = true) (h2 : ps_is r2 5 = true) (J : uJ m t s) (k : ∀ (v : Int32) (s' : ps_S), uJ m t s' → f v s') : ps_Cl (d + 3) 45 [.ref r0, .ref r1, .ref r2] s (ps_rI f) :=
  pg_45_0 (d := d + 2) (ps_nk_i h2 (xs_92 h2 (J).1 (fun v1 => (And.intro (fun f1 => (ps_nk_i h0 (ps_nk_i h0 (ps_nk_i (xk_2_5 h0) (us_103 (xk_2_5 h0) h2 (xj_2_6 (J).1 h0) J (fun s2 J2 => (ps_nk_i h0 (ps_nk_i (xk_2_5 h0) (xs_104 (xk_2_5 h0) (J2).1 (fun v3 => (ps_nk_i h1 (And.intro (fun f2 => (ps_nk_i h1 (ps_nk_i h2 (ps_nk_i (xk_8_6 h1) (us_96 (xk_8_6 h1) h2 J2 (fun s4 J4 => (k 0 s4 J4))))))) (fun f2 => (ps_nk_i h1 (ps_nk_i (xk_8_6 h1) (us_96 (xk_8_6 h1) h2 J2 (fun s5 J5 => (k 0 s5 J5)))))))))))))))))) (fun f1 => (k 2 s J))))))

theorem us_46 {m s : ps_S} {t : Int32} {d : Nat} {r0 : Nat} {r1 : Nat} {r2 : Nat} {f : Int32 → ps_S → Prop} (h0 : ps_is r0 2 = true) (h1 : ps_is r1 8 = true) (h2 : ps_is r2 5 = true) (J : uJ m t s) (k : ∀ (v : Int32) (s' : ps_S), uJ m t s' → f v s') : ps_Cl (d + 3) 46 [.ref r0, .ref r1, .ref r2] s (ps_rI f) :=
  pg_46_0 (d := d + 2) (ps_nk_i h0 (xs_37 h0 h1 (J).1 (fun v1 g1 => (ps_nk_i g1 (ps_nk_i h2 (xs_92 h2 (J).1 (fun v2 => (And.intro (fun f1 => (k 2 s J)) (fun f1 => (ps_nk_i h0 (xs_37 h0 h1 (J).1 (fun v3 g3 => (ps_nk_i g3 (ps_nk_i (xk_8_6 g1) (xs_98 (xk_8_6 g1) (xk_8_6 g3) (J).1 (fun v4 b4 => (And.intro (fun f2 => (ps_nk_i h0 (ps_nk_i h0 (ps_nk_i (xk_2_5 h0) (us_103 (xk_2_5 h0) h2 (xj_2_6 (J).1 h0) J (fun s5 J5 => (ps_nk_i h0 (ps_nk_i (xk_2_5 h0) (xs_104 (xk_2_5 h0) (J5).1 (fun v6 => (ps_nk_i h0 (xs_38 h0 (J5).1 (fun v7 g7 => (ps_nk_i g7 (us_96 g7 h2 J5 (fun s8 J8 => (ps_nk_i h0 (xs_38 h0 (J8).1 (fun v9 g9 => (ps_nk_i h2 (ps_nk_i g9 (us_96 g9 h2 J8 (fun s10 J10 => (ps_nk_i h1 (ps_nk_i (xk_8_6 h1) (us_95 (xk_8_6 h1) (xk_8_6 g1) J10 (fun s11 J11 => (k 0 s11 J11)))))))))))))))))))))))))))) (fun f2 => (k 2 s J)))))))))))))))))))

theorem us_47 {m s : ps_S} {t : Int32} {d : Nat} {r0 : Nat} {r1 : Nat} {r2 : Nat} {r3 : Nat} {f : Int32 → ps_S → Prop} (h0 : ps_is r0 2 = true) (h1 : ps_is r1 8 = true) (h2 : ps_is r2 5 = true) (h3 : ps_is r3 5 = true) (J : uJ m t s) (k : ∀ (v : Int32) (s' : ps_S), uJ m t s' → f v s') : ps_Cl (d + 3) 47 [.ref r0, .ref r1, .ref r2, .ref r3] s (ps_rI f) :=
  pg_47_0 (d := d + 2) (ps_nk_i h0 (ps_nk_i h0 (ps_nk_i (xk_2_5 h0) (us_103 (xk_2_5 h0) h2 (xj_2_6 (J).1 h0) J (fun s1 J1 => (ps_nk_i h0 (ps_nk_i (xk_2_5 h0) (xs_104 (xk_2_5 h0) (J1).1 (fun v2 => (ps_nk_i h2 (xs_92 h2 (J1).1 (fun v3 => (And.intro (fun f1 => (k 2 s1 J1)) (fun f1 => (ps_nk_i h3 (And.intro (fun f2 => (k 2 s1 J1)) (fun f2 => (ps_nk_i h2 (xs_99 h2 h3 (J1).1 (fun v4 b4 => (And.intro (fun f3 => (ps_nk_i h1 (ps_nk_i h2 (ps_nk_i (xk_8_6 h1) (us_96 (xk_8_6 h1) h2 J1 (fun s5 J5 => (k 0 s5 J5))))))) (fun f3 => (k 2 s1 J1)))))))))))))))))))))))

theorem us_49_52 {m s : ps_S} {t : Int32} {d : Nat} {r0 : Nat} {r1 : Nat} {r2 : Nat} {x3 : Int32} {Q : Option Value → ps_S → Prop} (h0 : ps_is r0 2 = true) (h1 : ps_is r1 8 = true) (h2 : ps_is r2 5 = true) (J : uJ m t s) (k : ∀ (v : Int32) (s' : ps_S), uJ m t s' → Q (some (.int v)) s') : ps_At (d + 3) 49 52 [(0, .ref r0), (1, .ref r1), (2, .ref r2), (3, .int x3)] [] s Q :=
  xs_up (P := fun x3 => ∀ (s : ps_S), ps_is r0 2 = true → ps_is r1 8 = true → ps_is r2 5 = true → uJ m t s → ps_At (d + 3) 49 52 [(0, .ref r0), (1, .ref r1), (2, .ref r2), (3, .int x3)] [] s Q) (fun x3 ih s h0 h1 h2 J => pg_49_52 (d := d + 2) (ps_nk_i h2 (And.intro (fun f1 => (k 0 s J)) (fun f1 => (ps_nk_i h1 (ps_nk_i h2 (xs_92 h2 (J).1 (fun v1 => (ps_nk_i h1 (And.intro (fun f2 => (ps_nk_i h2 (xs_92 h2 (J).1 (fun v2 => (ps_nk_i (xk_8_6 h1) (us_93 (xk_8_6 h1) J (fun s3 J3 => (ih ((x3 + 1)) (xs_lt f1) s3 h0 h1 h2 J3)))))))) (fun f2 => (ps_nk_i h0 (ps_nk_i (xk_2_5 h0) (xs_105 (xk_2_5 h0) (J).1 (fun v4 => (ps_nk_i (xk_8_6 h1) (us_93 (xk_8_6 h1) J (fun s5 J5 => (ih ((x3 + 1)) (xs_lt f1) s5 h0 h1 h2 J5))))))))))))))))))) x3 s h0 h1 h2 J

theorem us_49 {m s : ps_S} {t : Int32} {d : Nat} {r0 : Nat} {r1 : Nat} {r2 : Nat} {f : Int32 → ps_S → Prop} (h0 : ps_is r0 2 = true) (h1 : ps_is r1 8 = true) (h2 : ps_is r2 5 = true) (J : uJ m t s) (k : ∀ (v : Int32) (s' : ps_S), uJ m t s' → f v s') : ps_Cl (d + 3) 49 [.ref r0, .ref r1, .ref r2] s (ps_rI f) :=
  pg_49_0 (d := d + 2) (ps_nk_i h0 (xs_37 h0 h1 (J).1 (fun v1 g1 => (ps_nk_i h1 (ps_nk_i h0 (ps_nk_i h0 (xs_51 h0 g1 (xk_2_3 h0) (J).1 (fun v2 b2 => (And.intro (fun f1 => (ps_nk_i h0 (ps_nk_i h0 (ps_nk_i (xk_2_5 h0) (us_103 (xk_2_5 h0) h2 (xj_2_6 (J).1 h0) J (fun s3 J3 => (ps_nk_i h1 (ps_nk_i (xk_8_6 h1) (us_91 (xk_8_6 h1) J3 (fun s4 J4 => (ps_nk_i h1 (ps_nk_i (xk_8_6 h1) (us_93 (xk_8_6 h1) J4 (fun s5 J5 => (us_49_52 (d := d) (r0 := r0) (r1 := r1) (r2 := r2) (x3 := 0)  h0 h1 h2 J5 k ))))))))))))))) (fun f1 => (k 3 s J)))))))))))

theorem us_52_19 {m s : ps_S} {t : Int32} {d : Nat} {r0 : Nat} {r1 : Nat} {r2 : Nat} {r3 : Nat} {x4 : Int32} {Q : Option Value → ps_S → Prop} (h0 : ps_is r0 2 = true) (h1 : ps_is r1 5 = true) (h2 : ps_is r2 5 = true) (h3 : ps_is r3 5 = true) (J : uJ m t s) (k : ∀ (s' : ps_S), uJ m t s' → Q none s') : ps_At (d + 2) 52 19 [(0, .ref r0), (1, .ref r1), (2, .ref r2), (3, .ref r3), (4, .int x4)] [] s Q :=
  xs_up (P := fun x4 => ∀ (s : ps_S), ps_is r0 2 = true → ps_is r1 5 = true → ps_is r2 5 = true → ps_is r3 5 = true → uJ m t s → ps_At (d + 2) 52 19 [(0, .ref r0), (1, .ref r1), (2, .ref r2), (3, .ref r3), (4, .int x4)] [] s Q) (fun x4 ih s h0 h1 h2 h3 J => pg_52_19 (d := d + 1) (ps_nk_i h2 (And.intro (fun f1 => (k s J)) (fun f1 => (ps_nk_i h2 (xs_92 h2 (J).1 (fun v1 => (ps_nk_i h0 (ps_nk_i (xk_2_5 h0) (xs_105 (xk_2_5 h0) (J).1 (fun v2 => (And.intro (fun f2 => (ps_nk_i h2 (xs_92 h2 (J).1 (fun v3 => (ps_nk_i h1 (us_93 h1 J (fun s4 J4 => (ih ((x4 + 1)) (xs_lt f1) s4 h0 h1 h2 h3 J4)))))))) (fun f2 => (ps_nk_i h3 (ps_nk_i h1 (us_94 h1 h3 J (fun s5 J5 => (ih ((x4 + 1)) (xs_lt f1) s5 h0 h1 h2 h3 J5)))))))))))))))))) x4 s h0 h1 h2 h3 J

theorem us_52 {m s : ps_S} {t : Int32} {d : Nat} {r0 : Nat} {r1 : Nat} {r2 : Nat} {r3 : Nat} {f : ps_S → Prop} (h0 : ps_is r0 2 = true) (h1 : ps_is r1 5 = true) (h2 : ps_is r2 5 = true) (h3 : ps_is r3 5 = true) (J : uJ m t s) (k : ∀ (s' : ps_S), uJ m t s' → f s') : ps_Cl (d + 2) 52 [.ref r0, .ref r1, .ref r2, .ref r3] s (ps_rV f) :=
  pg_52_0 (d := d + 1) (ps_nk_i h0 (ps_nk_i h0 (ps_nk_i (xk_2_5 h0) (us_103 (xk_2_5 h0) h2 (xj_2_6 (J).1 h0) J (fun s1 J1 => (ps_nk_i h1 (us_91 h1 J1 (fun s2 J2 => (us_52_19 (d := d) (r0 := r0) (r1 := r1) (r2 := r2) (r3 := r3) (x4 := 1)  h0 h1 h2 h3 J2 k )))))))))

theorem us_50 {m s : ps_S} {t : Int32} {d : Nat} {r0 : Nat} {r1 : Nat} {r2 : Nat} {f : Int32 → ps_S → Prop} (h0 : ps_is r0 2 = true) (h1 : ps_is r1 8 = true) (h2 : ps_is r2 5 = true) (J : uJ m t s) (k : ∀ (v : Int32) (s' : ps_S), uJ m t s' → f v s') : ps_Cl (d + 3) 50 [.ref r0, .ref r1, .ref r2] s (ps_rI f) :=
  pg_50_0 (d := d + 2) (ps_nk_i h2 (xs_92 h2 (J).1 (fun v1 => (And.intro (fun f1 => (ps_nk_i h1 (ps_nk_i h1 (ps_nk_i h0 (us_52 h0 (xk_8_6 h1) h2 (xk_8_4 h1) J (fun s2 J2 => (k 0 s2 J2))))))) (fun f1 => (k 2 s J))))))

theorem us_53 {m s : ps_S} {t : Int32} {d : Nat} {r0 : Nat} {r1 : Nat} {r2 : Nat} {f : Int32 → ps_S → Prop} (h0 : ps_is r0 2 = true) (h1 : ps_is r1 8 = true) (h2 : ps_is r2 5 = true) (J : uJ m t s) (k : ∀ (v : Int32) (s' : ps_S), uJ m t s' → f v s') : ps_Cl (d + 3) 53 [.ref r0, .ref r1, .ref r2] s (ps_rI f) :=
  pg_53_0 (d := d + 2) (ps_nk_i h1 (ps_nk_i (xk_8_5 h1) (xs_92 (xk_8_5 h1) (J).1 (fun v1 => (And.intro (fun f1 => (ps_nk_i h0 (ps_nk_i h1 (ps_nk_i h1 (ps_nk_i h0 (us_52 h0 (xk_2_4 h0) (xk_8_5 h1) (xk_8_4 h1) J (fun s2 J2 => (ps_nk_i h0 (ps_nk_i (xk_2_4 h0) (xs_98 (xk_2_4 h0) h2 (J2).1 (fun v3 b3 => (And.intro (fun f2 => (ps_nk_i h1 (ps_nk_i h1 (ps_nk_i (xk_8_6 h1) (us_95 (xk_8_6 h1) (xk_8_5 h1) J2 (fun s4 J4 => (k 0 s4 J4))))))) (fun f2 => (k 4 s2 J2)))))))))))))) (fun f1 => (k 4 s J)))))))

theorem us_54_68 {m s : ps_S} {t : Int32} {d : Nat} {r0 : Nat} {r1 : Nat} {r3 : Nat} {Q : Option Value → ps_S → Prop} (h0 : ps_is r0 2 = true) (h1 : ps_is r1 8 = true) (h3 : ps_is r3 8 = true) (J : uJ m t s) (k : ∀ (v : Int32) (s' : ps_S), uJ m t s' → Q (some (.int v)) s') : ps_At (d + 3) 54 68 [(0, .ref r0), (1, .ref r1), (3, .ref r3)] [] s Q :=
  pg_54_68 (d := d + 2) (And.intro (fun f1 => (k 3 s J)) (fun f1 => (ps_nk_i h1 (ps_nk_i h0 (xs_38 h0 (J).1 (fun v1 g1 => (ps_nk_i h0 (xs_51 h0 h3 g1 (J).1 (fun v2 b2 => (And.intro (fun f2 => (ps_nk_i h1 (ps_nk_i h3 (ps_nk_i (xk_8_6 h1) (us_95 (xk_8_6 h1) (xk_8_6 h3) J (fun s3 J3 => (k 0 s3 J3))))))) (fun f2 => (k 3 s J))))))))))))

theorem us_54 {m s : ps_S} {t : Int32} {d : Nat} {r0 : Nat} {r1 : Nat} {r2 : Nat} {r3 : Nat} {f : Int32 → ps_S → Prop} (h0 : ps_is r0 2 = true) (h1 : ps_is r1 8 = true) (h2 : ps_is r2 5 = true) (h3 : ps_is r3 8 = true) (J : uJ m t s) (k : ∀ (v : Int32) (s' : ps_S), uJ m t s' → f v s') : ps_Cl (d + 3) 54 [.ref r0, .ref r1, .ref r2, .ref r3] s (ps_rI f) :=
  pg_54_0 (d := d + 2) (ps_nk_i h2 (xs_92 h2 (J).1 (fun v1 => (And.intro (fun f1 => (ps_nk_i h1 (ps_nk_i (xk_8_4 h1) (us_91 (xk_8_4 h1) J (fun s2 J2 => (ps_nk_i h1 (ps_nk_i h1 (ps_nk_i (xk_8_4 h1) (us_93 (xk_8_4 h1) J2 (fun s3 J3 => (ps_nk_i h0 (xs_38 h0 (J3).1 (fun v4 g4 => (ps_nk_i h1 (ps_nk_i h0 (us_52 h0 g4 h2 (xk_8_4 h1) J3 (fun s5 J5 => (ps_nk_i h1 (ps_nk_i h2 (xs_100 h2 (J5).1 (fun v6 b6 => (And.intro (fun f2 => (us_54_68 (d := d) (r0 := r0) (r1 := r1) (r3 := r3)  h0 h1 h3 J5 k )) (fun f2 => (ps_nk_i h3 (ps_nk_i h1 (ps_nk_i (xk_8_6 h3) (xs_100 (xk_8_6 h3) (J5).1 (fun v7 b7 => (And.intro (fun f3 => (And.intro (fun f4 => (k 3 s5 J5)) (fun f4 => (ps_nk_i h1 (ps_nk_i h0 (xs_38 h0 (J5).1 (fun v8 g8 => (ps_nk_i h0 (xs_51 h0 h3 g8 (J5).1 (fun v9 b9 => (And.intro (fun f5 => (ps_nk_i h1 (ps_nk_i h3 (ps_nk_i (xk_8_6 h1) (us_95 (xk_8_6 h1) (xk_8_6 h3) J5 (fun s10 J10 => (k 0 s10 J10))))))) (fun f5 => (k 3 s5 J5))))))))))))) (fun f3 => (us_54_68 (d := d) (r0 := r0) (r1 := r1) (r3 := r3)  h0 h1 h3 J5 k ))))))))))))))))))))))))))))))) (fun f1 => (k 2 s J))))))

theorem us_56_117 {m s : ps_S} {t : Int32} {d : Nat} {r1 : Nat} {r2 : Nat} {r3 : Nat} {x4 : Int32} {x5 : Int32} {x6 : Int32} {x7 : Int32} {x8 : Int32} {x9 : Int32} {Q : Option Value → ps_S → Prop} (h1 : ps_is r1 5 = true) (h2 : ps_is r2 5 = true) (h3 : ps_is r3 5 = true) (J : uJ m t s) (k : ∀ (v : Int32) (s' : ps_S), v &&& 1 = v → uJ m t s' → Q (some (.int v)) s') (K46 : ∀ (x7 : Int32) (x8 : Int32) (s : ps_S), ps_is r1 5 = true → ps_is r2 5 = true → ps_is r3 5 = true → uJ m t s → ps_At (d + 2) 56 46 [(1, .ref r1), (2, .ref r2), (3, .ref r3), (4, .int x4), (5, .int x5), (6, .int x6), (7, .int x7), (8, .int x8), (9, .int (x9 + 1))] [] s Q) : ps_At (d + 2) 56 117 [(1, .ref r1), (2, .ref r2), (3, .ref r3), (4, .int x4), (5, .int x5), (6, .int x6), (7, .int x7), (8, .int x8), (9, .int x9)] [] s Q :=
  pg_56_117 (d := d + 1) (ps_nk_i h1 (xs_92 h1 (J).1 (fun v1 => (ps_nk_i h3 (xs_92 h3 (J).1 (fun v2 => (And.intro (fun f1 => (k 0 s (by decide) J)) (fun f1 => (K46 ((x7 + 1)) ((x8 + 1)) s h1 h2 h3 J)))))))))

theorem us_56_149 {m s : ps_S} {t : Int32} {d : Nat} {r1 : Nat} {r3 : Nat} {x7 : Int32} {x8 : Int32} {Q : Option Value → ps_S → Prop} (h1 : ps_is r1 5 = true) (h3 : ps_is r3 5 = true) (J : uJ m t s) (k : ∀ (v : Int32) (s' : ps_S), v &&& 1 = v → uJ m t s' → Q (some (.int v)) s') : ps_At (d + 2) 56 149 [(1, .ref r1), (3, .ref r3), (7, .int x7), (8, .int x8)] [] s Q :=
  pg_56_149 (d := d + 1) (ps_nk_i h1 (And.intro (fun f1 => (k 0 s (by decide) J)) (fun f1 => (ps_nk_i h3 (And.intro (fun f2 => (k 0 s (by decide) J)) (fun f2 => (k 1 s (by decide) J)))))))

theorem us_56_46 {m s : ps_S} {t : Int32} {d : Nat} {r1 : Nat} {r2 : Nat} {r3 : Nat} {x4 : Int32} {x5 : Int32} {x6 : Int32} {x7 : Int32} {x8 : Int32} {x9 : Int32} {Q : Option Value → ps_S → Prop} (h1 : ps_is r1 5 = true) (h2 : ps_is r2 5 = true) (h3 : ps_is r3 5 = true) (J : uJ m t s) (k : ∀ (v : Int32) (s' : ps_S), v &&& 1 = v → uJ m t s' → Q (some (.int v)) s') : ps_At (d + 2) 56 46 [(1, .ref r1), (2, .ref r2), (3, .ref r3), (4, .int x4), (5, .int x5), (6, .int x6), (7, .int x7), (8, .int x8), (9, .int x9)] [] s Q :=
  xs_up (P := fun x9 => ∀ (x7 : Int32) (x8 : Int32) (s : ps_S), ps_is r1 5 = true → ps_is r2 5 = true → ps_is r3 5 = true → uJ m t s → ps_At (d + 2) 56 46 [(1, .ref r1), (2, .ref r2), (3, .ref r3), (4, .int x4), (5, .int x5), (6, .int x6), (7, .int x7), (8, .int x8), (9, .int x9)] [] s Q) (fun x9 ih x7 x8 s h1 h2 h3 J => pg_56_46 (d := d + 1) (And.intro (fun f1 => (us_56_149 (d := d) (r1 := r1) (r3 := r3) (x7 := x7) (x8 := x8)  h1 h3 J k )) (fun f1 => (ps_nk_i h1 (And.intro (fun f2 => (us_56_149 (d := d) (r1 := r1) (r3 := r3) (x7 := x7) (x8 := x8)  h1 h3 J k )) (fun f2 => (ps_nk_i h3 (And.intro (fun f3 => (us_56_149 (d := d) (r1 := r1) (r3 := r3) (x7 := x7) (x8 := x8)  h1 h3 J k )) (fun f3 => (ps_nk_i h2 (xs_99 h2 h3 (J).1 (fun v1 b1 => (And.intro (fun f4 => (us_56_117 (d := d) (r1 := r1) (r2 := r2) (r3 := r3) (x4 := x4) (x5 := x5) (x6 := x6) (x7 := x7) (x8 := x8) (x9 := x9)  h1 h2 h3 J k (fun x7 x8 s9 h1z h2z h3z J9 => ih (x9 + 1) (xs_lt f1) x7 x8 s9 h1z h2z h3z J9))) (fun f4 => (ps_nk_i h2 (ps_nk_i h2 (xs_99 h2 h1 (J).1 (fun v2 b2 => (And.intro (fun f5 => (us_56_117 (d := d) (r1 := r1) (r2 := r2) (r3 := r3) (x4 := x4) (x5 := x5) (x6 := x6) (x7 := x7) (x8 := x8) (x9 := x9)  h1 h2 h3 J k (fun x7 x8 s9 h1z h2z h3z J9 => ih (x9 + 1) (xs_lt f1) x7 x8 s9 h1z h2z h3z J9))) (fun f5 => (ih ((x9 + 1)) (xs_lt f1) ((x7 + x6)) ((x8 + x5)) s h1 h2 h3 J))))))))))))))))))))) x9 x7 x8 s h1 h2 h3 J

theorem us_56 {m s : ps_S} {t : Int32} {d : Nat} {r0 : Nat} {r1 : Nat} {r2 : Nat} {r3 : Nat} {f : Int32 → ps_S → Prop} (h0 : ps_is r0 2 = true) (h1 : ps_is r1 5 = true) (h2 : ps_is r2 5 = true) (h3 : ps_is r3 5 = true) (J : uJ m t s) (k : ∀ (v : Int32) (s' : ps_S), v &&& 1 = v → uJ m t s' → f v s') : ps_Cl (d + 2) 56 [.ref r0, .ref r1, .ref r2, .ref r3] s (ps_rI f) :=
  pg_56_0 (d := d + 1) (ps_nk_i h0 (ps_nk_i h0 (ps_nk_i (xk_2_5 h0) (us_103 (xk_2_5 h0) h2 (xj_2_6 (J).1 h0) J (fun s1 J1 => (ps_nk_i h0 (ps_nk_i (xk_2_5 h0) (xs_104 (xk_2_5 h0) (J1).1 (fun v2 => (ps_nk_i h2 (us_56_46 (d := d) (r1 := r1) (r2 := r2) (r3 := r3) (x4 := v2) (x5 := (v2 - 1)) (x6 := ((ps_i s1 r2 1) - v2)) (x7 := 0) (x8 := 0) (x9 := 0)  h1 h2 h3 J1 k )))))))))))

theorem us_55 {m s : ps_S} {t : Int32} {d : Nat} {r0 : Nat} {r1 : Nat} {r2 : Nat} {r3 : Nat} {f : Int32 → ps_S → Prop} (h0 : ps_is r0 2 = true) (h1 : ps_is r1 8 = true) (h2 : ps_is r2 5 = true) (h3 : ps_is r3 5 = true) (J : uJ m t s) (k : ∀ (v : Int32) (s' : ps_S), uJ m t s' → f v s') : ps_Cl (d + 3) 55 [.ref r0, .ref r1, .ref r2, .ref r3] s (ps_rI f) :=
  pg_55_0 (d := d + 2) (ps_nk_i h2 (xs_92 h2 (J).1 (fun v1 => (And.intro (fun f1 => (ps_nk_i h1 (ps_nk_i h0 (us_56 h0 (xk_8_5 h1) h2 h3 J (fun v2 s2 b2 J2 => (And.intro (fun f2 => (ps_nk_i h1 (ps_nk_i h1 (ps_nk_i (xk_8_6 h1) (us_95 (xk_8_6 h1) (xk_8_5 h1) J2 (fun s3 J3 => (k 0 s3 J3))))))) (fun f2 => (k 4 s2 J2)))))))) (fun f1 => (k 2 s J))))))

theorem us_48 {m s : ps_S} {t : Int32} {d : Nat} {r0 : Nat} {r1 : Nat} {r2 : Nat} {f : Int32 → ps_S → Prop} (h0 : ps_is r0 2 = true) (h1 : ps_is r1 8 = true) (h2 : ps_is r2 5 = true) (J : uJ m t s) (k : ∀ (v : Int32) (s' : ps_S), uJ m t s' → f v s') : ps_Cl (d + 3) 48 [.ref r0, .ref r1, .ref r2] s (ps_rI f) :=
  pg_48_0 (d := d + 2) (ps_nk_i h2 (xs_92 h2 (J).1 (fun v1 => (And.intro (fun f1 => (ps_nk_i h1 (ps_nk_i h1 (ps_nk_i (xk_8_6 h1) (us_95 (xk_8_6 h1) (xk_8_5 h1) J (fun s2 J2 => (ps_nk_i h1 (And.intro (fun f2 => (k 0 s2 J2)) (fun f2 => (ps_nk_i h0 (xs_38 h0 (J2).1 (fun v3 g3 => (ps_nk_i g3 (us_91 g3 J2 (fun s4 J4 => (ps_nk_i h0 (xs_38 h0 (J4).1 (fun v5 g5 => (ps_nk_i g5 (us_93 g5 J4 (fun s6 J6 => (ps_nk_i h0 (xs_38 h0 (J6).1 (fun v7 g7 => (ps_nk_i h1 (ps_nk_i h1 (ps_nk_i (xk_8_5 h1) (ps_nk_i g7 (us_94 g7 (xk_8_5 h1) J6 (fun s8 J8 => (ps_nk_i h0 (xs_38 h0 (J8).1 (fun v9 g9 => (ps_nk_i g9 (us_93 g9 J8 (fun s10 J10 => (k 0 s10 J10))))))))))))))))))))))))))))))))))))) (fun f1 => (k 2 s J))))))

theorem us_42 {m s : ps_S} {t : Int32} {d : Nat} {r0 : Nat} {r1 : Nat} {x2 : Int32} {r3 : Nat} {f : Int32 → ps_S → Prop} (h0 : ps_is r0 2 = true) (h1 : ps_is r1 8 = true) (h3 : ps_is r3 7 = true) (J : uJ m t s) (k : ∀ (v : Int32) (s' : ps_S), uJ m t s' → f v s') : ps_Cl (d + 4) 42 [.ref r0, .ref r1, .int x2, .ref r3] s (ps_rI f) :=
  pg_42_0 (d := d + 3) (ps_nk_i h0 (xs_37 h0 h1 (J).1 (fun v1 g1 => (ps_nk_i g1 (ps_nk_i h1 (And.intro (fun f1 => (ps_nk_i h0 (us_43 h0 h1 h3 J (fun v2 s2 J2 => (k v2 s2 J2))))) (fun f1 => (And.intro (fun f2 => (ps_nk_i h0 (us_48 h0 h1 (xk_8_6 g1) J (fun v3 s3 J3 => (k v3 s3 J3))))) (fun f2 => (And.intro (fun f3 => (ps_nk_i h0 (us_48 h0 h1 (xk_8_6 g1) J (fun v4 s4 J4 => (k v4 s4 J4))))) (fun f3 => (And.intro (fun f4 => (ps_nk_i h0 (us_48 h0 h1 (xk_8_6 g1) J (fun v5 s5 J5 => (k v5 s5 J5))))) (fun f4 => (And.intro (fun f5 => (ps_nk_i h0 (us_43 h0 h1 h3 J (fun v6 s6 J6 => (k v6 s6 J6))))) (fun f5 => (And.intro (fun f6 => (ps_nk_i h0 (us_43 h0 h1 h3 J (fun v7 s7 J7 => (k v7 s7 J7))))) (fun f6 => (And.intro (fun f7 => (ps_nk_i h0 (us_43 h0 h1 h3 J (fun v8 s8 J8 => (k v8 s8 J8))))) (fun f7 => (And.intro (fun f8 => (ps_nk_i h0 (us_44 h0 h1 (xk_8_6 g1) J (fun v9 s9 J9 => (k v9 s9 J9))))) (fun f8 => (And.intro (fun f9 => (ps_nk_i h0 (us_45 h0 h1 (xk_8_6 g1) J (fun v10 s10 J10 => (k v10 s10 J10))))) (fun f9 => (And.intro (fun f10 => (ps_nk_i h0 (us_45 h0 h1 (xk_8_6 g1) J (fun v11 s11 J11 => (k v11 s11 J11))))) (fun f10 => (And.intro (fun f11 => (ps_nk_i h0 (us_44 h0 h1 (xk_8_6 g1) J (fun v12 s12 J12 => (k v12 s12 J12))))) (fun f11 => (And.intro (fun f12 => (ps_nk_i h0 (us_44 h0 h1 (xk_8_6 g1) J (fun v13 s13 J13 => (k v13 s13 J13))))) (fun f12 => (And.intro (fun f13 => (ps_nk_i h0 (us_46 h0 h1 (xk_8_6 g1) J (fun v14 s14 J14 => (k v14 s14 J14))))) (fun f13 => (And.intro (fun f14 => (ps_nk_i h0 (xs_37 h0 h1 (J).1 (fun v15 g15 => (ps_nk_i g15 (ps_nk_i h0 (us_47 h0 h1 (xk_8_6 g1) (xk_8_6 g15) J (fun v16 s16 J16 => (k v16 s16 J16))))))))) (fun f14 => (And.intro (fun f15 => (ps_nk_i h0 (us_44 h0 h1 (xk_8_6 g1) J (fun v17 s17 J17 => (k v17 s17 J17))))) (fun f15 => (And.intro (fun f16 => (ps_nk_i h0 (us_49 h0 h1 (xk_8_6 g1) J (fun v18 s18 J18 => (k v18 s18 J18))))) (fun f16 => (And.intro (fun f17 => (ps_nk_i h0 (us_50 h0 h1 (xk_8_6 g1) J (fun v19 s19 J19 => (k v19 s19 J19))))) (fun f17 => (And.intro (fun f18 => (ps_nk_i h0 (us_53 h0 h1 (xk_8_6 g1) J (fun v20 s20 J20 => (k v20 s20 J20))))) (fun f18 => (And.intro (fun f19 => (ps_nk_i h0 (xs_37 h0 h1 (J).1 (fun v21 g21 => (ps_nk_i h0 (us_54 h0 h1 (xk_8_6 g1) g21 J (fun v22 s22 J22 => (k v22 s22 J22)))))))) (fun f19 => (And.intro (fun f20 => (ps_nk_i h0 (xs_37 h0 h1 (J).1 (fun v23 g23 => (ps_nk_i g23 (ps_nk_i h0 (us_55 h0 h1 (xk_8_6 g1) (xk_8_6 g23) J (fun v24 s24 J24 => (k v24 s24 J24))))))))) (fun f20 => (ps_nk_i h0 (us_48 h0 h1 (xk_8_6 g1) J (fun v25 s25 J25 => (k v25 s25 J25)))))))))))))))))))))))))))))))))))))))))))))))))

theorem us_124 {m s : ps_S} {t : Int32} {d : Nat} {r0 : Nat} {r1 : Nat} {f : ps_S → Prop} (h0 : ps_is r0 8 = true) (h1 : ps_is r1 8 = true) (J : uJ m t s) (k : ∀ (s' : ps_S), uJ m t s' → f s') : ps_Cl d 124 [.ref r0, .ref r1] s (ps_rV f) :=
  pg_124_0 (ps_nk_i h0 (ps_nk_i h1 (ps_nk_i h0 (ps_nk_i h0 (ps_nk_i h1 (ps_nk_i h0 (ps_nk_i h0 (ps_nk_i h1 (ps_nk_i h0 (k (ps_uj (ps_ui (ps_ui s r0 10 ((ps_i s r0 10) ||| (ps_i s r1 10))) r0 11 ((ps_i (ps_ui s r0 10 ((ps_i s r0 10) ||| (ps_i s r1 10))) r0 11) ||| (ps_i (ps_ui s r0 10 ((ps_i s r0 10) ||| (ps_i s r1 10))) r1 11))) r0 12 ((ps_j (ps_ui (ps_ui s r0 10 ((ps_i s r0 10) ||| (ps_i s r1 10))) r0 11 ((ps_i (ps_ui s r0 10 ((ps_i s r0 10) ||| (ps_i s r1 10))) r0 11) ||| (ps_i (ps_ui s r0 10 ((ps_i s r0 10) ||| (ps_i s r1 10))) r1 11))) r0 12) ||| (ps_j (ps_ui (ps_ui s r0 10 ((ps_i s r0 10) ||| (ps_i s r1 10))) r0 11 ((ps_i (ps_ui s r0 10 ((ps_i s r0 10) ||| (ps_i s r1 10))) r0 11) ||| (ps_i (ps_ui s r0 10 ((ps_i s r0 10) ||| (ps_i s r1 10))) r1 11))) r1 12))) (uw_j (c := 8) (by decide) h0 (uw_i (c := 8) (by decide) h0 (uw_i (c := 8) (by decide) h0 J)))))))))))))

theorem us_39_3 {m s : ps_S} {t : Int32} {d : Nat} {r0 : Nat} {r1 : Nat} {r2 : Nat} {r3 : Nat} {x4 : Int32} {Q : Option Value → ps_S → Prop} (h0 : ps_is r0 2 = true) (h1 : ps_is r1 8 = true) (h2 : ps_is r2 8 = true) (h3 : ps_is r3 5 = true) (J : uJ m t s) (k : ∀ (s' : ps_S), uJ m t s' → Q none s') : ps_At (d + 3) 39 3 [(0, .ref r0), (1, .ref r1), (2, .ref r2), (3, .ref r3), (4, .int x4)] [] s Q :=
  xs_up (P := fun x4 => ∀ (s : ps_S), ps_is r0 2 = true → ps_is r1 8 = true → ps_is r2 8 = true → ps_is r3 5 = true → uJ m t s → ps_At (d + 3) 39 3 [(0, .ref r0), (1, .ref r1), (2, .ref r2), (3, .ref r3), (4, .int x4)] [] s Q) (fun x4 ih s h0 h1 h2 h3 J => pg_39_3 (d := d + 2) (ps_nk_i h2 (And.intro (fun f1 => (k s J)) (fun f1 => (ps_nk_i h2 (xs_122 h2 (J).1 (fun v1 => (ps_nk_i h0 (xs_33 h0 (J).1 (fun v2 g2 => (ps_nk_i g2 (ps_nk_i (xk_8_6 g2) (xs_98 (xk_8_6 g2) h3 (J).1 (fun v3 b3 => (And.intro (fun f2 => (ih ((x4 + 1)) (xs_lt f1) s h0 h1 h2 h3 J)) (fun f2 => (ps_nk_i h0 (xs_40 h0 h1 (xk_8_6 g2) (J).1 (fun v4 b4 => (And.intro (fun f3 => (ih ((x4 + 1)) (xs_lt f1) s h0 h1 h2 h3 J)) (fun f3 => (ps_nk_i h1 (us_123 h1 J (fun s5 J5 => (ih ((x4 + 1)) (xs_lt f1) s5 h0 h1 h2 h3 J5))))))))))))))))))))))))) x4 s h0 h1 h2 h3 J

theorem us_39 {m s : ps_S} {t : Int32} {d : Nat} {r0 : Nat} {r1 : Nat} {r2 : Nat} {r3 : Nat} {f : ps_S → Prop} (h0 : ps_is r0 2 = true) (h1 : ps_is r1 8 = true) (h2 : ps_is r2 8 = true) (h3 : ps_is r3 5 = true) (J : uJ m t s) (k : ∀ (s' : ps_S), uJ m t s' → f s') : ps_Cl (d + 3) 39 [.ref r0, .ref r1, .ref r2, .ref r3] s (ps_rV f) :=
  pg_39_0 (d := d + 2) (us_39_3 (d := d) (r0 := r0) (r1 := r1) (r2 := r2) (r3 := r3) (x4 := 0)  h0 h1 h2 h3 J k )
end
section
set_option maxRecDepth 100000
theorem us_41 {m s : ps_S} {t : Int32} {d : Nat} {r0 : Nat} {r1 : Nat} {f : Int32 → ps_S → Prop} (h0 : ps_is r0 2 = true) (h1 : ps_is r1 8 = true) (J : uJ m t s) (k : ∀ (v : Int32) (s' : ps_S), v &&& 1 = v → uJ m t s' → f v s') : ps_Cl (d + 2) 41 [.ref r0, .ref r1] s (ps_rI f) :=
  pg_41_0 (d := d + 1) (ps_nk_i h1 (ps_nk_i (xk_8_6 h1) (And.intro (fun f1 => (k 1 s (by decide) J)) (fun f1 => (ps_nk_i h1 (And.intro (fun f2 => (ps_nk_i h0 (ps_nk_i h1 (ps_nk_i h0 (ps_nk_i (xk_2_5 h0) (us_103 (xk_2_5 h0) (xk_8_6 h1) (xj_2_6 (J).1 h0) J (fun s1 J1 => (ps_nk_i h0 (ps_nk_i (xk_2_5 h0) (xs_106 (xk_2_5 h0) (J1).1 (fun v2 b2 => (ps_nd_i (decide_eq_true b2) ((k v2 s1 (of_decide_eq_true (decide_eq_true b2)) J1)))))))))))))) (fun f2 => (k 1 s (by decide) J))))))))

theorem us_35_73 {m s : ps_S} {t : Int32} {d : Nat} {r0 : Nat} {r3 : Nat} {x5 : Int32} {Q : Option Value → ps_S → Prop} (h0 : ps_is r0 2 = true) (h3 : ps_is r3 8 = true) (J : uJ m t s) (k : ∀ (v : Int32) (s' : ps_S), uJ m t s' → Q (some (.int v)) s') : ps_At (d + 5) 35 73 [(0, .ref r0), (3, .ref r3), (5, .int x5)] [] s Q :=
  xs_up (P := fun x5 => ∀ (s : ps_S), ps_is r0 2 = true → ps_is r3 8 = true → uJ m t s → ps_At (d + 5) 35 73 [(0, .ref r0), (3, .ref r3), (5, .int x5)] [] s Q) (fun x5 ih s h0 h3 J => pg_35_73 (d := d + 4) (ps_nk_i h3 (xs_116  (J).1 (fun v1 => (And.intro (fun f1 => (ps_nk_i h0 (us_41 h0 h3 J (fun v2 s2 b2 J2 => (And.intro (fun f2 => (k 0 s2 J2)) (fun f2 => (k 5 s2 J2))))))) (fun f1 => (ps_nk_i h0 (xs_37 h0 h3 (J).1 (fun v3 g3 => (ps_nk_i h3 (us_124 h3 g3 J (fun s4 J4 => (ps_nk_i h0 (xs_37 h0 h3 (J4).1 (fun v5 g5 => (ps_nk_i h0 (xs_38 h0 (J4).1 (fun v6 g6 => (ps_nk_i h0 (us_39 h0 h3 g5 g6 J4 (fun s7 J7 => (ih ((x5 + 1)) (xs_lt f1) s7 h0 h3 J7)))))))))))))))))))))) x5 s h0 h3 J

theorem us_35_21 {m s : ps_S} {t : Int32} {d : Nat} {r0 : Nat} {x1 : Int32} {r2 : Nat} {r3 : Nat} {x4 : Int32} {Q : Option Value → ps_S → Prop} (h0 : ps_is r0 2 = true) (h2 : ps_is r2 7 = true) (h3 : ps_is r3 8 = true) (J : uJ m t s) (k : ∀ (v : Int32) (s' : ps_S), uJ m t s' → Q (some (.int v)) s') : ps_At (d + 5) 35 21 [(0, .ref r0), (1, .int x1), (2, .ref r2), (3, .ref r3), (4, .int x4)] [] s Q :=
  xs_up (P := fun x4 => ∀ (s : ps_S), ps_is r0 2 = true → ps_is r2 7 = true → ps_is r3 8 = true → uJ m t s → ps_At (d + 5) 35 21 [(0, .ref r0), (1, .int x1), (2, .ref r2), (3, .ref r3), (4, .int x4)] [] s Q) (fun x4 ih s h0 h2 h3 J => pg_35_21 (d := d + 4) (ps_nk_i h0 (ps_nk_i (xn_l ((xk_2_2 h0)).1) (And.intro (fun f1 => (ps_nk_i h0 (us_42 h0 h3 h2 J (fun v1 s1 J1 => (And.intro (fun f2 => (ps_nk_i h3 (us_35_73 (d := d) (r0 := r0) (r3 := r3) (x5 := 0)  h0 h3 (uw_j (c := 8) (by decide) h3 J1) k ))) (fun f2 => (k v1 s1 J1))))))) (fun f1 => (ps_nk_i h0 (xs_38 h0 (J).1 (fun v2 g2 => (ps_nk_i g2 (us_91 g2 J (fun s3 J3 => (ih ((x4 + 1)) (xs_lt f1) s3 h0 h2 h3 J3)))))))))))) x4 s h0 h2 h3 J

theorem us_35 {m s : ps_S} {t : Int32} {d : Nat} {r0 : Nat} {x1 : Int32} {r2 : Nat} {f : Int32 → ps_S → Prop} (h0 : ps_is r0 2 = true) (h2 : ps_is r2 7 = true) (J : uJ m t s) (k : ∀ (v : Int32) (s' : ps_S), uJ m t s' → f v s') : ps_Cl (d + 5) 35 [.ref r0, .int x1, .ref r2] s (ps_rI f) :=
  pg_35_0 (d := d + 4) (ps_nk_i h0 (xs_33 h0 (J).1 (fun v1 g1 => (ps_nk_i h0 (xs_36 h0 g1 h2 (J).1 (fun v2 b2 => (And.intro (fun f1 => (us_35_21 (d := d) (r0 := r0) (x1 := x1) (r2 := r2) (r3 := v1) (x4 := 0)  h0 h2 g1 J k )) (fun f1 => (k 1 s J)))))))))

theorem us_34_7 {m s : ps_S} {t : Int32} {d : Nat} {r0 : Nat} {r2 : Nat} {x3 : Int32} {Q : Option Value → ps_S → Prop} (h0 : ps_is r0 2 = true) (h2 : ps_is r2 7 = true) (J : uJ m t s) (k : ∀ (s' : ps_S), uJ m t s' → Q none s') : ps_At (d + 6) 34 7 [(0, .ref r0), (2, .ref r2), (3, .int x3)] [] s Q :=
  xs_up (P := fun x3 => ∀ (s : ps_S), ps_is r0 2 = true → ps_is r2 7 = true → uJ m t s → ps_At (d + 6) 34 7 [(0, .ref r0), (2, .ref r2), (3, .int x3)] [] s Q) (fun x3 ih s h0 h2 J => pg_34_7 (d := d + 5) (ps_nk_i h0 (And.intro (fun f1 => (k s J)) (fun f1 => (ps_nk_i h0 (us_35 h0 h2 J (fun v1 s1 J1 => (ps_nk_i h0 (ps_nk_i h0 (And.intro (fun f2 => (ps_nk_i h0 (ih ((x3 + 1)) (xs_lt f1) (ps_ui (ps_ui s1 r0 9 v1) r0 8 (x3 + 1)) h0 h2 (uw_i (c := 2) (by decide) h0 (uw_i (c := 2) (by decide) h0 J1))))) (fun f2 => (k (ps_ui s1 r0 9 v1) (uw_i (c := 2) (by decide) h0 J1))))))))))))) x3 s h0 h2 J

theorem us_34 {m s : ps_S} {t : Int32} {d : Nat} {r0 : Nat} {r1 : Nat} {r2 : Nat} {f : ps_S → Prop} (h0 : ps_is r0 2 = true) (h1 : ps_is r1 9 = true) (h2 : ps_is r2 7 = true) (J : uJ m t s) (k : ∀ (s' : ps_S), uJ m t s' → f s') : ps_Cl (d + 6) 34 [.ref r0, .ref r1, .ref r2] s (ps_rV f) :=
  pg_34_0 (d := d + 5) (ps_nk_i h0 (us_34_7 (d := d) (r0 := r0) (r2 := r2) (x3 := 0)  h0 h2 (uw_rc (c := 2) (by decide) h0 (xw_2_6 h0 h1 (J).1) J) k ))

theorem us_141_78 {m s : ps_S} {t : Int32} {d : Nat} {r0 : Nat} {x2 : Int32} {Q : Option Value → ps_S → Prop} (h0 : ps_is r0 10 = true) (e0 : 0 ≤ x2) (J : uJ m t s) (k : ∀ (s' : ps_S), uJ m t s' → Q none s') : ps_At (d + 1) 141 78 [(0, .ref r0), (2, .int x2)] [] s Q :=
  xs_up (P := fun x2 => ∀ (s : ps_S), ps_is r0 10 = true → 0 ≤ x2 → uJ m t s → ps_At (d + 1) 141 78 [(0, .ref r0), (2, .int x2)] [] s Q) (fun x2 ih s h0 e0 J => pg_141_78 (d := d) (ps_nk_i h0 (ps_nk_i (xn_l ((xk_10_0 h0)).1) (And.intro (fun f1 => (k s J)) (fun f1 => (ps_nk_i h0 (And.intro (fun f2 => (k s J)) (fun f2 => (ps_nk_i h0 (ps_nk_i (xn_3 ((xk_10_0 h0)).1) (ps_nd_i (xg_in e0 f1) (ps_nk_i h0 (And.intro (fun f3 => (ih ((x2 + 1)) (xs_lt f1) s h0 (xs_nn e0 f1) J)) (fun f3 => (ps_nk_i h0 (ps_nk_i h0 (ih ((x2 + 1)) (xs_lt f1) (ps_ui (ps_ui s r0 4 3) r0 6 x2) h0 (xs_nn e0 f1) (uw_i (c := 10) (by decide) h0 (uw_i (c := 10) (by decide) h0 J))))))))))))))))))) x2 s h0 e0 J

theorem us_141_51 {m s : ps_S} {t : Int32} {d : Nat} {r0 : Nat} {x1 : Int32} {Q : Option Value → ps_S → Prop} (h0 : ps_is r0 10 = true) (J : uJ m t s) (k : ∀ (s' : ps_S), uJ m t s' → Q none s') : ps_At (d + 1) 141 51 [(0, .ref r0), (1, .int x1)] [] s Q :=
  pg_141_51 (d := d) (ps_nk_i h0 (ps_nk_i h0 (And.intro (fun f1 => (ps_nk_i h0 (us_141_78 (d := d) (r0 := r0) (x2 := 0)  h0 (by decide) (uw_i (c := 10) (by decide) h0 (uw_i (c := 10) (by decide) h0 J)) k ))) (fun f1 => (ps_nk_i h0 (us_141_78 (d := d) (r0 := r0) (x2 := 0)  h0 (by decide) (uw_i (c := 10) (by decide) h0 (uw_i (c := 10) (by decide) h0 J)) k ))))))

theorem us_141_10 {m s : ps_S} {t : Int32} {d : Nat} {r0 : Nat} {x1 : Int32} {Q : Option Value → ps_S → Prop} (h0 : ps_is r0 10 = true) (J : uJ m t s) (k : ∀ (s' : ps_S), uJ m t s' → Q none s') : ps_At (d + 1) 141 10 [(0, .ref r0), (1, .int x1)] [] s Q :=
  xs_up (P := fun x1 => ∀ (s : ps_S), ps_is r0 10 = true → uJ m t s → ps_At (d + 1) 141 10 [(0, .ref r0), (1, .int x1)] [] s Q) (fun x1 ih s h0 J => pg_141_10 (d := d) (ps_nk_i h0 (And.intro (fun f1 => (us_141_51 (d := d) (r0 := r0) (x1 := x1)  h0 J k )) (fun f1 => (ps_nk_i h0 (xs_143 h0 (J).1 (fun v1 => (xs_146  (J).1 (fun v2 b2 => (And.intro (fun f2 => (us_141_51 (d := d) (r0 := r0) (x1 := x1)  h0 J k )) (fun f2 => (ps_nk_i h0 (ps_nk_i h0 (xs_143 h0 (J).1 (fun v3 => (xs_144  (J).1 (fun v4 => (ps_nk_i h0 (ih ((x1 + 1)) (xs_lt f1) (ps_uj s r0 8 v4) h0 (uw_j (c := 10) (by decide) h0 J)))))))))))))))))))) x1 s h0 J

theorem us_141 {m s : ps_S} {t : Int32} {d : Nat} {r0 : Nat} {f : ps_S → Prop} (h0 : ps_is r0 10 = true) (J : uJ m t s) (k : ∀ (s' : ps_S), uJ m t s' → f s') : ps_Cl (d + 1) 141 [.ref r0] s (ps_rV f) :=
  pg_141_0 (d := d) (ps_nk_i h0 (ps_nk_i h0 (us_141_10 (d := d) (r0 := r0) (x1 := (ps_i s r0 5))  h0 (uw_j (c := 10) (by decide) h0 J) k )))

theorem us_142_55 {m s : ps_S} {t : Int32} {d : Nat} {r0 : Nat} {x1 : Int32} {Q : Option Value → ps_S → Prop} (h0 : ps_is r0 10 = true) (J : uJ m t s) (k : ∀ (s' : ps_S), uJ m t s' → Q none s') : ps_At (d + 1) 142 55 [(0, .ref r0), (1, .int x1)] [] s Q :=
  pg_142_55 (d := d) (ps_nk_i h0 (ps_nk_i h0 (And.intro (fun f1 => (ps_nk_i h0 (k (ps_ui (ps_ui s r0 3 x1) r0 4 1) (uw_i (c := 10) (by decide) h0 (uw_i (c := 10) (by decide) h0 J))))) (fun f1 => (ps_nk_i h0 (xs_143 h0 ((uw_i (c := 10) (by decide) h0 J)).1 (fun v1 => (xs_146  ((uw_i (c := 10) (by decide) h0 J)).1 (fun v2 b2 => (And.intro (fun f2 => (ps_nk_i h0 (k (ps_ui (ps_ui s r0 3 x1) r0 4 4) (uw_i (c := 10) (by decide) h0 (uw_i (c := 10) (by decide) h0 J))))) (fun f2 => (ps_nk_i h0 (k (ps_ui (ps_ui s r0 3 x1) r0 4 1) (uw_i (c := 10) (by decide) h0 (uw_i (c := 10) (by decide) h0 J)))))))))))))))

theorem us_142_10 {m s : ps_S} {t : Int32} {d : Nat} {r0 : Nat} {x1 : Int32} {Q : Option Value → ps_S → Prop} (h0 : ps_is r0 10 = true) (J : uJ m t s) (k : ∀ (s' : ps_S), uJ m t s' → Q none s') : ps_At (d + 1) 142 10 [(0, .ref r0), (1, .int x1)] [] s Q :=
  xs_up (P := fun x1 => ∀ (s : ps_S), ps_is r0 10 = true → uJ m t s → ps_At (d + 1) 142 10 [(0, .ref r0), (1, .int x1)] [] s Q) (fun x1 ih s h0 J => pg_142_10 (d := d) (ps_nk_i h0 (And.intro (fun f1 => (us_142_55 (d := d) (r0 := r0) (x1 := x1)  h0 J k )) (fun f1 => (ps_nk_i h0 (xs_143 h0 (J).1 (fun v1 => (xs_147  (J).1 (fun v2 b2 => (And.intro (fun f2 => (us_142_55 (d := d) (r0 := r0) (x1 := x1)  h0 J k )) (fun f2 => (ps_nk_i h0 (ps_nk_i h0 (xs_143 h0 (J).1 (fun v3 => (ps_nk_i h0 (ih ((x1 + 1)) (xs_lt f1) (ps_ui s r0 7 ((((ps_i s r0 7) * 10) + v3) - 48)) h0 (uw_i (c := 10) (by decide) h0 J)))))))))))))))))) x1 s h0 J

theorem us_142 {m s : ps_S} {t : Int32} {d : Nat} {r0 : Nat} {f : ps_S → Prop} (h0 : ps_is r0 10 = true) (J : uJ m t s) (k : ∀ (s' : ps_S), uJ m t s' → f s') : ps_Cl (d + 1) 142 [.ref r0] s (ps_rV f) :=
  pg_142_0 (d := d) (ps_nk_i h0 (ps_nk_i h0 (us_142_10 (d := d) (r0 := r0) (x1 := (ps_i s r0 5))  h0 (uw_i (c := 10) (by decide) h0 J) k )))

theorem us_140_30 {m s : ps_S} {t : Int32} {d : Nat} {r0 : Nat} {x1 : Int32} {Q : Option Value → ps_S → Prop} (h0 : ps_is r0 10 = true) (J : uJ m t s) (k : ∀ (s' : ps_S), uJ m t s' → Q none s') : ps_At (d + 2) 140 30 [(0, .ref r0), (1, .int x1)] [] s Q :=
  pg_140_30 (d := d + 1) (ps_nk_i h0 (ps_nk_i h0 (ps_nk_i h0 (xs_143 h0 ((uw_i (c := 10) (by decide) h0 (uw_i (c := 10) (by decide) h0 J))).1 (fun v1 => (ps_nk_i h0 (And.intro (fun f1 => (xs_146  ((uw_i (c := 10) (by decide) h0 (uw_i (c := 10) (by decide) h0 J))).1 (fun v2 b2 => (And.intro (fun f2 => (xs_147  ((uw_i (c := 10) (by decide) h0 (uw_i (c := 10) (by decide) h0 J))).1 (fun v3 b3 => (And.intro (fun f3 => (And.intro (fun f4 => (ps_nk_i h0 (ps_nk_i h0 (k (ps_ui (ps_ui (ps_ui (ps_ui s r0 5 x1) r0 6 (-1)) r0 4 1) r0 3 (x1 + 1)) (uw_i (c := 10) (by decide) h0 (uw_i (c := 10) (by decide) h0 (uw_i (c := 10) (by decide) h0 (uw_i (c := 10) (by decide) h0 J)))))))) (fun f4 => (ps_nk_i h0 (ps_nk_i h0 (k (ps_ui (ps_ui (ps_ui (ps_ui s r0 5 x1) r0 6 (-1)) r0 4 5) r0 3 (x1 + 1)) (uw_i (c := 10) (by decide) h0 (uw_i (c := 10) (by decide) h0 (uw_i (c := 10) (by decide) h0 (uw_i (c := 10) (by decide) h0 J)))))))))) (fun f3 => (ps_nk_i h0 (us_142 h0 (uw_i (c := 10) (by decide) h0 (uw_i (c := 10) (by decide) h0 J)) (fun s4 J4 => (k s4 J4))))))))) (fun f2 => (ps_nk_i h0 (us_141 h0 (uw_i (c := 10) (by decide) h0 (uw_i (c := 10) (by decide) h0 J)) (fun s5 J5 => (k s5 J5))))))))) (fun f1 => (ps_nk_i h0 (ps_nk_i h0 (k (ps_ui (ps_ui (ps_ui (ps_ui s r0 5 x1) r0 6 (-1)) r0 4 0) r0 3 x1) (uw_i (c := 10) (by decide) h0 (uw_i (c := 10) (by decide) h0 (uw_i (c := 10) (by decide) h0 (uw_i (c := 10) (by decide) h0 J)))))))))))))))

theorem us_140_5 {m s : ps_S} {t : Int32} {d : Nat} {r0 : Nat} {x1 : Int32} {Q : Option Value → ps_S → Prop} (h0 : ps_is r0 10 = true) (J : uJ m t s) (k : ∀ (s' : ps_S), uJ m t s' → Q none s') : ps_At (d + 2) 140 5 [(0, .ref r0), (1, .int x1)] [] s Q :=
  xs_up (P := fun x1 => ∀ (s : ps_S), ps_is r0 10 = true → uJ m t s → ps_At (d + 2) 140 5 [(0, .ref r0), (1, .int x1)] [] s Q) (fun x1 ih s h0 J => pg_140_5 (d := d + 1) (ps_nk_i h0 (And.intro (fun f1 => (us_140_30 (d := d) (r0 := r0) (x1 := x1)  h0 J k )) (fun f1 => (ps_nk_i h0 (xs_143 h0 (J).1 (fun v1 => (xs_145  (J).1 (fun v2 b2 => (And.intro (fun f2 => (us_140_30 (d := d) (r0 := r0) (x1 := x1)  h0 J k )) (fun f2 => (ih ((x1 + 1)) (xs_lt f1) s h0 J)))))))))))) x1 s h0 J

theorem us_140 {m s : ps_S} {t : Int32} {d : Nat} {r0 : Nat} {f : ps_S → Prop} (h0 : ps_is r0 10 = true) (J : uJ m t s) (k : ∀ (s' : ps_S), uJ m t s' → f s') : ps_Cl (d + 2) 140 [.ref r0] s (ps_rV f) :=
  pg_140_0 (d := d + 1) (ps_nk_i h0 (us_140_5 (d := d) (r0 := r0) (x1 := (ps_i s r0 3))  h0 J k ))

theorem us_139 {m s : ps_S} {t : Int32} {d : Nat} {r0 : Nat} {r1 : Nat} {x2 : Int32} {f : ps_S → Prop} (h0 : ps_is r0 10 = true) (h1 : ps_ar r1 1 = true ∧ r1 < 1131) (J : uJ m t s) (k : ∀ (s' : ps_S), uJ m t s' → f s') : ps_Cl (d + 3) 139 [.ref r0, .ref r1, .int x2] s (ps_rV f) :=
  pg_139_0 (d := d + 2) (ps_nk_i h0 (ps_nk_i h0 (ps_nk_i h0 (ps_nk_i h0 (us_140 h0 (uw_i (c := 10) (by decide) h0 (uw_i (c := 10) (by decide) h0 (uw_rc (c := 10) (by decide) h0 (xw_10_1 h0 h1 (J).1) J))) (fun s1 J1 => (k s1 J1)))))))

theorem us_61 {m s : ps_S} {t : Int32} {d : Nat} {r0 : Nat} {r1 : Nat} {x2 : Int32} {r3 : Nat} {f : ps_S → Prop} (h0 : ps_is r0 3 = true) (h1 : ps_ar r1 1 = true ∧ r1 < 1131) (h3 : ps_is r3 9 = true) (J : uJ m t s) (k : ∀ (s' : ps_S), uJ m t s' → f s') : ps_Cl (d + 4) 61 [.ref r0, .ref r1, .int x2, .ref r3] s (ps_rV f) :=
  pg_61_0 (d := d + 3) (ps_nk_i h0 (ps_nk_i h0 (ps_nk_i h0 (ps_nk_i h0 (ps_nk_i h0 (ps_nk_i h0 (ps_nk_i h0 (ps_nk_i (xk_3_0 h0) (us_139 (xk_3_0 h0) h1 (uw_i (c := 3) (by decide) h0 (uw_i (c := 3) (by decide) h0 (uw_i (c := 3) (by decide) h0 (uw_i (c := 3) (by decide) h0 (uw_i (c := 3) (by decide) h0 (uw_rc (c := 3) (by decide) h0 (xw_3_5 h0 h3 (J).1) J)))))) (fun s1 J1 => (k s1 J1)))))))))))

theorem us_62 {m s : ps_S} {t : Int32} {d : Nat} {r0 : Nat} {x1 : Int32} {f : Int32 → ps_S → Prop} (h0 : ps_is r0 3 = true) (J : uJ m t s) (k : ∀ (v : Int32) (s' : ps_S), v &&& 1 = v → uJ m t s' → f v s') : ps_Cl d 62 [.ref r0, .int x1] s (ps_rI f) :=
  pg_62_0 (ps_nk_i h0 (ps_nk_i (xk_3_0 h0) (And.intro (fun f1 => (ps_nk_i h0 (ps_nk_i h0 (ps_nk_i (xk_3_0 h0) (ps_nk_i h0 (k 0 (ps_ui (ps_ui s r0 9 x1) r0 10 (ps_i (ps_ui s r0 9 x1) (ps_c0 r0 0) 5)) (by decide) (uw_i (c := 3) (by decide) h0 (uw_i (c := 3) (by decide) h0 J)))))))) (fun f1 => (ps_nk_i h0 (ps_nk_i h0 (ps_nk_i (xk_3_0 h0) (ps_nk_i h0 (k 0 (ps_ui (ps_ui s r0 9 1) r0 10 (ps_i (ps_ui s r0 9 1) (ps_c0 r0 0) 5)) (by decide) (uw_i (c := 3) (by decide) h0 (uw_i (c := 3) (by decide) h0 J)))))))))))

theorem us_79_47 {m s : ps_S} {t : Int32} {d : Nat} {r0 : Nat} {Q : Option Value → ps_S → Prop} (h0 : ps_is r0 3 = true) (J : uJ m t s) (k : ∀ (v : Int32) (s' : ps_S), uJ m t s' → Q (some (.int v)) s') : ps_At d 79 47 [(0, .ref r0)] [] s Q :=
  pg_79_47 (ps_nk_i h0 (And.intro (fun f1 => (k (-1) s J)) (fun f1 => (ps_nk_i h0 (ps_nk_i h0 (ps_nk_i (xn_l ((xk_3_1 h0)).1) (And.intro (fun f2 => (ps_nk_i h0 (ps_nk_i h0 (ps_nk_i h0 (ps_nk_i (xk_3_0 h0) (ps_nk_i (xn_3 ((xk_3_1 h0)).1) (ps_nd_i (xg_in f1 f2) (ps_nk_i h0 (ps_nk_i h0 (ps_nk_i h0 (k (((60 : Int32) + (ps_i (ps_ui (ps_ub s (ps_c0 r0 1) (Int32.toNatClampNeg (ps_i s r0 2)) (ps_j s (ps_c0 r0 0) 8)) r0 2 ((ps_i (ps_ub s (ps_c0 r0 1) (Int32.toNatClampNeg (ps_i s r0 2)) (ps_j s (ps_c0 r0 0) 8)) r0 2) + 1)) r0 2)) - 1) (ps_ui (ps_ub s (ps_c0 r0 1) (Int32.toNatClampNeg (ps_i s r0 2)) (ps_j s (ps_c0 r0 0) 8)) r0 2 ((ps_i (ps_ub s (ps_c0 r0 1) (Int32.toNatClampNeg (ps_i s r0 2)) (ps_j s (ps_c0 r0 0) 8)) r0 2) + 1)) (uw_i (c := 3) (by decide) h0 (uw_b ((xk_3_1 h0)).2 J))))))))))))) (fun f2 => (k (-1) s J)))))))))

theorem us_79_2 {m s : ps_S} {t : Int32} {d : Nat} {r0 : Nat} {x1 : Int32} {Q : Option Value → ps_S → Prop} (h0 : ps_is r0 3 = true) (e0 : 0 ≤ x1) (J : uJ m t s) (k : ∀ (v : Int32) (s' : ps_S), uJ m t s' → Q (some (.int v)) s') : ps_At d 79 2 [(0, .ref r0), (1, .int x1)] [] s Q :=
  xs_up (P := fun x1 => ∀ (s : ps_S), ps_is r0 3 = true → 0 ≤ x1 → uJ m t s → ps_At d 79 2 [(0, .ref r0), (1, .int x1)] [] s Q) (fun x1 ih s h0 e0 J => pg_79_2 (ps_nk_i h0 (And.intro (fun f1 => (us_79_47 (d := d) (r0 := r0)  h0 J k )) (fun f1 => (ps_nk_i h0 (ps_nk_i (xn_l ((xk_3_1 h0)).1) (And.intro (fun f2 => (us_79_47 (d := d) (r0 := r0)  h0 J k )) (fun f2 => (ps_nk_i h0 (ps_nk_i (xn_3 ((xk_3_1 h0)).1) (ps_nd_i (xg_in e0 f2) (ps_nk_i h0 (ps_nk_i (xk_3_0 h0) (And.intro (fun f3 => (ih ((x1 + 1)) (xs_lt f1) s h0 (xs_nn e0 f1) J)) (fun f3 => (k ((60 : Int32) + x1) s J)))))))))))))))) x1 s h0 e0 J

theorem us_79 {m s : ps_S} {t : Int32} {d : Nat} {r0 : Nat} {f : Int32 → ps_S → Prop} (h0 : ps_is r0 3 = true) (J : uJ m t s) (k : ∀ (v : Int32) (s' : ps_S), uJ m t s' → f v s') : ps_Cl d 79 [.ref r0] s (ps_rI f) :=
  pg_79_0 (us_79_2 (d := d) (r0 := r0) (x1 := 0)  h0 (by decide) J k )

theorem us_78_2 {m s : ps_S} {t : Int32} {d : Nat} {r0 : Nat} {x1 : Int32} {Q : Option Value → ps_S → Prop} (h0 : ps_is r0 3 = true) (J : uJ m t s) (k : ∀ (v : Int32) (s' : ps_S), uJ m t s' → Q (some (.int v)) s') : ps_At (d + 1) 78 2 [(0, .ref r0), (1, .int x1)] [] s Q :=
  xs_up (P := fun x1 => ∀ (s : ps_S), ps_is r0 3 = true → uJ m t s → ps_At (d + 1) 78 2 [(0, .ref r0), (1, .int x1)] [] s Q) (fun x1 ih s h0 J => pg_78_2 (d := d) (ps_nk_i h0 (And.intro (fun f1 => (ps_nk_i h0 (And.intro (fun f2 => (ps_nk_i h0 (us_79 h0 J (fun v1 s1 J1 => (k v1 s1 J1))))) (fun f2 => (k (-1) s J))))) (fun f1 => (ps_nk_i h0 (And.intro (fun f3 => (ih ((x1 + 1)) (xs_lt f1) s h0 J)) (fun f3 => (ps_nk_i h0 (ps_nk_i (xn_l ((xk_3_3 h0)).1) (And.intro (fun f4 => (ih ((x1 + 1)) (xs_lt f1) s h0 J)) (fun f4 => (ps_nk_i h0 (ps_nk_i (xn_3 ((xk_3_3 h0)).1) (ps_nd_i (xg_in f3 f4) (ps_nk_i h0 (ps_nk_i (xk_3_0 h0) (And.intro (fun f5 => (ih ((x1 + 1)) (xs_lt f1) s h0 J)) (fun f5 => (k ((40 : Int32) + x1) s J))))))))))))))))))) x1 s h0 J

theorem us_78 {m s : ps_S} {t : Int32} {d : Nat} {r0 : Nat} {f : Int32 → ps_S → Prop} (h0 : ps_is r0 3 = true) (J : uJ m t s) (k : ∀ (v : Int32) (s' : ps_S), uJ m t s' → f v s') : ps_Cl (d + 1) 78 [.ref r0] s (ps_rI f) :=
  pg_78_0 (d := d) (us_78_2 (d := d) (r0 := r0) (x1 := 0)  h0 J k )

theorem ur_71_9 {m s : ps_S} {t : Int32} {d : Nat} {r0 : Nat} {x1 : Int32} {x2 : Int32} {x3 : Int32} {Q : Option Value → ps_S → Prop} (HF : usF d x2) (HT : usT d x2) (h0 : ps_is r0 3 = true) (J : uJ m t s) (k : ∀ (v : Int32) (s' : ps_S), v &&& 1 = v → uJ m t s' → Q (some (.int v)) s') : ps_At (d + 9) 71 9 [(0, .ref r0), (1, .int x1), (2, .int x2), (3, .int x3)] [] s Q :=
  xs_dn (P := fun x3 => ∀ (s : ps_S), ps_is r0 3 = true → uJ m t s → ps_At (d + 9) 71 9 [(0, .ref r0), (1, .int x1), (2, .int x2), (3, .int x3)] [] s Q) (fun x3 ih s h0 J => pg_71_9 (d := d + 8) (And.intro (fun f1 => (k 1 s (by decide) J)) (fun f1 => (And.intro (fun f2 => (ps_nk_i h0 (HF _ _ _ _ _ h0 J (fun v1 s1 b1 J1 => (And.intro (fun f3 => (ih ((x3 + (-1))) (xs_gt f1) s1 h0 J1)) (fun f3 => (k 0 s1 (by decide) J1))))))) (fun f2 => (ps_nk_i h0 (HT _ _ _ _ _ h0 J (fun v2 s2 b2 J2 => (And.intro (fun f4 => (k 0 s2 (by decide) J2)) (fun f4 => (ih ((x3 + (-1))) (xs_gt f1) s2 h0 J2))))))))))) x3 s h0 J

theorem ur_71 {m s : ps_S} {t : Int32} {d : Nat} {r0 : Nat} {x1 : Int32} {x2 : Int32} {f : Int32 → ps_S → Prop} (HF : usF d x2) (HT : usT d x2) (h0 : ps_is r0 3 = true) (J : uJ m t s) (k : ∀ (v : Int32) (s' : ps_S), v &&& 1 = v → uJ m t s' → f v s') : ps_Cl (d + 9) 71 [.ref r0, .int x1, .int x2] s (ps_rI f) :=
  pg_71_0 (d := d + 8) (ps_nk_i h0 (ps_nk_i (xj_3_5 (J).1 h0) (xs_136 (xj_3_5 (J).1 h0) (J).1 (fun v1 => (ur_71_9 (d := d) (r0 := r0) (x1 := x1) (x2 := x2) (x3 := v1) HF HT h0 J k )))))

theorem ur_75_58 {m s : ps_S} {t : Int32} {d : Nat} {r0 : Nat} {x1 : Int32} {Q : Option Value → ps_S → Prop} (HF : usF d (x1 + 1)) (h0 : ps_is r0 3 = true) (J : uJ m t s) (k : ∀ (v : Int32) (s' : ps_S), v &&& 1 = v → uJ m t s' → Q (some (.int v)) s') : ps_At (d + 9) 75 58 [(0, .ref r0), (1, .int x1)] [] s Q :=
  pg_75_58 (d := d + 8) (ps_nk_i h0 (ps_nk_i (xk_3_0 h0) (us_140 (xk_3_0 h0) J (fun s1 J1 => (ps_nk_i h0 (HF _ _ _ _ _ h0 J1 (fun v2 s2 b2 J2 => (ps_nk_i h0 (ps_nk_i h0 (ps_nd_i (decide_eq_true b2) ((k v2 (ps_ui s2 r0 4 ((ps_i s2 r0 4) - 1)) (of_decide_eq_true (decide_eq_true b2)) (uw_i (c := 3) (by decide) h0 J2)))))))))))))

theorem ur_75 {m s : ps_S} {t : Int32} {d : Nat} {r0 : Nat} {x1 : Int32} {f : Int32 → ps_S → Prop} (HF : usF d (x1 + 1)) (h0 : ps_is r0 3 = true) (J : uJ m t s) (k : ∀ (v : Int32) (s' : ps_S), v &&& 1 = v → uJ m t s' → f v s') : ps_Cl (d + 9) 75 [.ref r0, .int x1] s (ps_rI f) :=
  pg_75_0 (d := d + 8) (ps_nk_i h0 (xs_77 h0 (J).1 (fun v1 b1 => (And.intro (fun f1 => (ps_nk_i h0 (And.intro (fun f2 => (ur_75_58 (d := d) (r0 := r0) (x1 := x1) HF h0 J k )) (fun f2 => (ps_nk_i h0 (ps_nk_i h0 (ps_nk_i (xn_l ((xk_3_3 h0)).1) (And.intro (fun f3 => (ur_75_58 (d := d) (r0 := r0) (x1 := x1) HF h0 J k )) (fun f3 => (ps_nk_i h0 (ps_nk_i h0 (ps_nk_i h0 (ps_nk_i (xk_3_0 h0) (ps_nk_i (xn_3 ((xk_3_3 h0)).1) (ps_nd_i (xg_in f2 f3) (ps_nk_i h0 (ps_nk_i h0 (ur_75_58 (d := d) (r0 := r0) (x1 := x1) HF h0 (uw_i (c := 3) (by decide) h0 (uw_b ((xk_3_3 h0)).2 J)) k )))))))))))))))))) (fun f1 => (ps_nk_i h0 (us_62 h0 J (fun v2 s2 b2 J2 => (ps_nd_i (decide_eq_true b2) ((k v2 s2 (of_decide_eq_true (decide_eq_true b2)) J2)))))))))))

theorem ur_74 {m s : ps_S} {t : Int32} {d : Nat} {r0 : Nat} {x1 : Int32} {f : Int32 → ps_S → Prop} (HF : x1 + 1 ≤ 12 → usF d (x1 + 1)) (h0 : ps_is r0 3 = true) (J : uJ m t s) (k : ∀ (v : Int32) (s' : ps_S), v &&& 1 = v → uJ m t s' → f v s') : ps_Cl (d + 9) 74 [.ref r0, .int x1] s (ps_rI f) :=
  pg_74_0 (d := d + 8) (ps_nk_i h0 (xs_73 h0 (J).1 (fun v1 b1 q1 => (And.intro (fun f1 => (ps_nk_i h0 (ps_nk_i (xj_3_6 (J).1 h0) (us_93 (xj_3_6 (J).1 h0) J (fun s2 J2 => (ps_nk_i h0 (ps_nk_i (xk_3_0 h0) (us_140 (xk_3_0 h0) J2 (fun s3 J3 => (ps_nk_i h0 (ps_nk_i h0 (ps_nk_i h0 ((HF (q1 f1)) _ _ _ _ _ h0 (uw_i (c := 3) (by decide) h0 J3) (fun v4 s4 b4 J4 => (And.intro (fun f2 => (ps_nk_i h0 (ps_nk_i h0 (ps_nk_i h0 (ps_nk_i (xj_3_6 ((uw_i (c := 3) (by decide) h0 J4)).1 h0) (us_93 (xj_3_6 ((uw_i (c := 3) (by decide) h0 J4)).1 h0) (uw_i (c := 3) (by decide) h0 J4) (fun s5 J5 => (k 1 s5 (by decide) J5)))))))) (fun f2 => (k 0 s4 (by decide) J4))))))))))))))))) (fun f1 => (ps_nk_i h0 (us_62 h0 J (fun v6 s6 b6 J6 => (ps_nd_i (decide_eq_true b6) ((k v6 s6 (of_decide_eq_true (decide_eq_true b6)) J6)))))))))))

theorem ur_70_62 {m s : ps_S} {t : Int32} {d : Nat} {r0 : Nat} {Q : Option Value → ps_S → Prop} (h0 : ps_is r0 3 = true) (J : uJ m t s) (k : ∀ (v : Int32) (s' : ps_S), v &&& 1 = v → uJ m t s' → Q (some (.int v)) s') : ps_At (d + 10) 70 62 [(0, .ref r0)] [] s Q :=
  pg_70_62 (d := d + 9) (ps_nk_i h0 (us_62 h0 J (fun v1 s1 b1 J1 => (ps_nd_i (decide_eq_true b1) ((k v1 s1 (of_decide_eq_true (decide_eq_true b1)) J1))))))

theorem ur_70_42 {m s : ps_S} {t : Int32} {d : Nat} {r0 : Nat} {x1 : Int32} {x2 : Int32} {Q : Option Value → ps_S → Prop} (H : x1 ≤ 12 → usF d (x1 + 1) ∧ usT d (x1 + 1)) (H2 : x1 + 1 ≤ 12 → usF d (x1 + 1)) (h0 : ps_is r0 3 = true) (J : uJ m t s) (k : ∀ (v : Int32) (s' : ps_S), v &&& 1 = v → uJ m t s' → Q (some (.int v)) s') : ps_At (d + 10) 70 42 [(0, .ref r0), (1, .int x1), (2, .int x2)] [] s Q :=
  pg_70_42 (d := d + 9) (And.intro (fun f1 => (ur_70_62 (d := d) (r0 := r0)  h0 J k )) (fun f1 => (And.intro (fun f2 => (ur_70_62 (d := d) (r0 := r0)  h0 J k )) (fun f2 => (ps_nk_i h0 (xs_73 h0 (J).1 (fun v1 b1 q1 => (And.intro (fun f3 => (ps_nk_i h0 (ps_nk_i (xj_3_6 (J).1 h0) (us_93 (xj_3_6 (J).1 h0) J (fun s2 J2 => (ps_nk_i h0 (ps_nk_i (xk_3_0 h0) (us_140 (xk_3_0 h0) J2 (fun s3 J3 => (xs_184  (J3).1 (fun v4 b4 => (And.intro (fun f4 => (ps_nk_i h0 (ur_71 (H (q1 f3)).1 (H (q1 f3)).2 h0 J3 (fun v5 s5 b5 J5 => (ps_nd_i (decide_eq_true b5) ((k v5 s5 (of_decide_eq_true (decide_eq_true b5)) J5))))))) (fun f4 => (ps_nk_i h0 (ur_75 (H (q1 f3)).1 h0 J3 (fun v6 s6 b6 J6 => (ps_nd_i (decide_eq_true b6) ((k v6 s6 (of_decide_eq_true (decide_eq_true b6)) J6))))))))))))))))))) (fun f3 => (ur_70_62 (d := d) (r0 := r0)  h0 J k ))))))))))

theorem ur_70 {m s : ps_S} {t : Int32} {d : Nat} {r0 : Nat} {x1 : Int32} {f : Int32 → ps_S → Prop} (H : x1 ≤ 12 → usF d (x1 + 1) ∧ usT d (x1 + 1)) (H2 : x1 + 1 ≤ 12 → usF d (x1 + 1)) (h0 : ps_is r0 3 = true) (J : uJ m t s) (k : ∀ (v : Int32) (s' : ps_S), v &&& 1 = v → uJ m t s' → f v s') : ps_Cl (d + 10) 70 [.ref r0, .int x1] s (ps_rI f) :=
  pg_70_0 (d := d + 9) (ps_nk_i h0 (ps_nk_i (xk_3_0 h0) (And.intro (fun f1 => (ps_nk_i h0 (xs_72 h0 (J).1 (fun v1 => (xs_184  (J).1 (fun v2 b2 => (And.intro (fun f2 => (ur_70_42 (d := d) (r0 := r0) (x1 := x1) (x2 := v1) H H2 h0 J k )) (fun f2 => (ps_nk_i h0 (And.intro (fun f3 => (ur_70_42 (d := d) (r0 := r0) (x1 := x1) (x2 := v1) H H2 h0 J k )) (fun f3 => (And.intro (fun f4 => (ur_70_62 (d := d) (r0 := r0)  h0 J k )) (fun f4 => (And.intro (fun f5 => (ur_70_62 (d := d) (r0 := r0)  h0 J k )) (fun f5 => (ps_nk_i h0 (xs_73 h0 (J).1 (fun v3 b3 q3 => (And.intro (fun f6 => (ps_nk_i h0 (ps_nk_i (xj_3_6 (J).1 h0) (us_93 (xj_3_6 (J).1 h0) J (fun s4 J4 => (ps_nk_i h0 (ps_nk_i (xk_3_0 h0) (us_140 (xk_3_0 h0) J4 (fun s5 J5 => (xs_184  (J5).1 (fun v6 b6 => (And.intro (fun f7 => (ps_nk_i h0 (ur_71 (H (q3 f6)).1 (H (q3 f6)).2 h0 J5 (fun v7 s7 b7 J7 => (ps_nd_i (decide_eq_true b7) ((k v7 s7 (of_decide_eq_true (decide_eq_true b7)) J7))))))) (fun f7 => (ps_nk_i h0 (ur_75 (H (q3 f6)).1 h0 J5 (fun v8 s8 b8 J8 => (ps_nd_i (decide_eq_true b8) ((k v8 s8 (of_decide_eq_true (decide_eq_true b8)) J8))))))))))))))))))) (fun f6 => (ur_70_62 (d := d) (r0 := r0)  h0 J k ))))))))))))))))))))) (fun f1 => (ps_nk_i h0 (ur_74 H2 h0 J (fun v9 s9 b9 J9 => (ps_nd_i (decide_eq_true b9) ((k v9 s9 (of_decide_eq_true (decide_eq_true b9)) J9))))))))))

theorem ur_76_20 {m s : ps_S} {t : Int32} {d : Nat} {r0 : Nat} {Q : Option Value → ps_S → Prop} (h0 : ps_is r0 3 = true) (J : uJ m t s) (k : ∀ (v : Int32) (s' : ps_S), v &&& 1 = v → uJ m t s' → Q (some (.int v)) s') : ps_At (d + 10) 76 20 [(0, .ref r0)] [] s Q :=
  pg_76_20 (d := d + 9) (ps_nk_i h0 (us_62 h0 J (fun v1 s1 b1 J1 => (ps_nd_i (decide_eq_true b1) ((k v1 s1 (of_decide_eq_true (decide_eq_true b1)) J1))))))

theorem ur_76_59 {m s : ps_S} {t : Int32} {d : Nat} {r0 : Nat} {x1 : Int32} {x2 : Int32} {Q : Option Value → ps_S → Prop} (H : x1 ≤ 12 → usF d (x1 + 1) ∧ usT d (x1 + 1)) (h0 : ps_is r0 3 = true) (e0 : x1 ≤ 12) (J : uJ m t s) (k : ∀ (v : Int32) (s' : ps_S), v &&& 1 = v → uJ m t s' → Q (some (.int v)) s') : ps_At (d + 10) 76 59 [(0, .ref r0), (1, .int x1), (2, .int x2)] [] s Q :=
  pg_76_59 (d := d + 9) (And.intro (fun f1 => (And.intro (fun f2 => (ps_nk_i h0 (ps_nk_i (xj_3_6 (J).1 h0) (us_93 (xj_3_6 (J).1 h0) J (fun s1 J1 => (ps_nk_i h0 (ps_nk_i (xk_3_0 h0) (us_140 (xk_3_0 h0) J1 (fun s2 J2 => (ps_nk_i h0 (ur_71 (H e0).1 (H e0).2 h0 J2 (fun v3 s3 b3 J3 => (ps_nd_i (decide_eq_true b3) ((k v3 s3 (of_decide_eq_true (decide_eq_true b3)) J3))))))))))))))) (fun f2 => (ps_nk_i h0 (And.intro (fun f3 => (ps_nk_i h0 (us_62 h0 J (fun v4 s4 b4 J4 => (ps_nd_i (decide_eq_true b4) ((k v4 s4 (of_decide_eq_true (decide_eq_true b4)) J4))))))) (fun f3 => (ps_nk_i h0 (us_62 h0 J (fun v5 s5 b5 J5 => (ps_nd_i (decide_eq_true b5) ((k v5 s5 (of_decide_eq_true (decide_eq_true b5)) J5)))))))))))) (fun f1 => (ps_nk_i h0 (us_78 h0 J (fun v6 s6 J6 => (And.intro (fun f4 => (ps_nk_i h0 (ps_nk_i (xj_3_6 (J6).1 h0) (us_93 (xj_3_6 (J6).1 h0) J6 (fun s7 J7 => (ps_nk_i h0 (ps_nk_i (xk_3_0 h0) (us_140 (xk_3_0 h0) J7 (fun s8 J8 => (ps_nk_i h0 (ur_71 (H e0).1 (H e0).2 h0 J8 (fun v9 s9 b9 J9 => (ps_nd_i (decide_eq_true b9) ((k v9 s9 (of_decide_eq_true (decide_eq_true b9)) J9))))))))))))))) (fun f4 => (ps_nk_i h0 (And.intro (fun f5 => (ps_nk_i h0 (us_62 h0 J6 (fun v10 s10 b10 J10 => (ps_nd_i (decide_eq_true b10) ((k v10 s10 (of_decide_eq_true (decide_eq_true b10)) J10))))))) (fun f5 => (ps_nk_i h0 (us_62 h0 J6 (fun v11 s11 b11 J11 => (ps_nd_i (decide_eq_true b11) ((k v11 s11 (of_decide_eq_true (decide_eq_true b11)) J11))))))))))))))))

theorem ur_76 {m s : ps_S} {t : Int32} {d : Nat} {r0 : Nat} {x1 : Int32} {f : Int32 → ps_S → Prop} (H : x1 ≤ 12 → usF d (x1 + 1) ∧ usT d (x1 + 1)) (h0 : ps_is r0 3 = true) (J : uJ m t s) (k : ∀ (v : Int32) (s' : ps_S), v &&& 1 = v → uJ m t s' → f v s') : ps_Cl (d + 10) 76 [.ref r0, .int x1] s (ps_rI f) :=
  pg_76_0 (d := d + 9) (ps_nk_i h0 (ps_nk_i (xk_3_0 h0) (And.intro (fun f1 => (ur_76_20 (d := d) (r0 := r0)  h0 J k )) (fun f1 => (ps_nk_i h0 (xs_73 h0 (J).1 (fun v1 b1 q1 => (And.intro (fun f2 => (ps_nk_i h0 (ps_nk_i h0 (ps_nk_i (xk_3_0 h0) (ps_nk_i (xj_3_5 (J).1 h0) (xs_128 (xj_3_5 (J).1 h0) (J).1 (fun v2 => (And.intro (fun f3 => (ur_76_59 (d := d) (r0 := r0) (x1 := x1) (x2 := v2) H h0 (q1 f2) J k )) (fun f3 => (ps_nk_i h0 (xs_77 h0 (J).1 (fun v3 b3 => (And.intro (fun f4 => (ur_76_59 (d := d) (r0 := r0) (x1 := x1) (x2 := v2) H h0 (q1 f2) J k )) (fun f4 => (ps_nk_i h0 (us_62 h0 J (fun v4 s4 b4 J4 => (ps_nd_i (decide_eq_true b4) ((k v4 s4 (of_decide_eq_true (decide_eq_true b4)) J4)))))))))))))))))))) (fun f2 => (ur_76_20 (d := d) (r0 := r0)  h0 J k ))))))))))

theorem ur_A : ∀ (k : Nat) (x : Int32) (d : Nat), 0 ≤ x.toInt → x.toInt ≤ 13 → 13 - x.toInt ≤ k → 2 * k + 2 ≤ d → usF d x ∧ usT d x := by
  intro k
  induction k with
  | zero =>
    intro x d h0 h1 h2 h3
    obtain ⟨e, rfl⟩ : ∃ e, d = e + 2 := ⟨d - 2, by omega⟩
    have e1 : (12 : Int32).toInt = 12 := by decide
    have hx : ¬ x ≤ 12 := by rw [Int32.le_iff_toInt_le, e1]; omega
    have hx2 : ¬ x + 1 ≤ 12 := by
      rw [Int32.le_iff_toInt_le, e1, xI_add (by rw [xone]; omega) (by rw [xone]; omega), xone]; omega
    exact ⟨fun m s t r0 f h J k => ur_70 (d := e) (fun q => absurd q hx) (fun q => absurd q hx2) h J k, fun m s t r0 f h J k => ur_76 (d := e) (fun q => absurd q hx) h J k⟩
  | succ k ih =>
    intro x d h0 h1 h2 h3
    obtain ⟨e, rfl⟩ : ∃ e, d = e + 2 := ⟨d - 2, by omega⟩
    have e1 : (12 : Int32).toInt = 12 := by decide
    have ex : (x + 1).toInt = x.toInt + 1 := by rw [xI_add (by rw [xone]; omega) (by rw [xone]; omega), xone]
    have st : x.toInt ≤ 12 → usF e (x + 1) ∧ usT e (x + 1) := fun q => ih (x + 1) e (by omega) (by omega) (by omega) (by omega)
    have s1 : x ≤ 12 → usF e (x + 1) ∧ usT e (x + 1) := fun q => st (by rw [Int32.le_iff_toInt_le, e1] at q; exact q)
    have s2 : x + 1 ≤ 12 → usF e (x + 1) := fun q => (st (by rw [Int32.le_iff_toInt_le, e1, ex] at q; omega)).1
    exact ⟨fun m s t r0 f h J k => ur_70 (d := e) s1 s2 h J k, fun m s t r0 f h J k => ur_76 (d := e) s1 h J k⟩
theorem us_70 {m s : ps_S} {t : Int32} {d r0 : Nat} {f : Int32 → ps_S → Prop} (h0 : ps_is r0 3 = true) (J : uJ m t s) (k : ∀ (v : Int32) (s' : ps_S), v &&& 1 = v → uJ m t s' → f v s') : ps_Cl (d + 36) 70 [.ref r0, .int 0] s (ps_rI f) :=
  (ur_A 13 0 (d + 28) (by decide) (by decide) (by decide) (by omega)).1 m s t r0 f h0 J k
theorem us_76 {m s : ps_S} {t : Int32} {d r0 : Nat} {f : Int32 → ps_S → Prop} (h0 : ps_is r0 3 = true) (J : uJ m t s) (k : ∀ (v : Int32) (s' : ps_S), v &&& 1 = v → uJ m t s' → f v s') : ps_Cl (d + 36) 76 [.ref r0, .int 0] s (ps_rI f) :=
  (ur_A 13 0 (d + 28) (by decide) (by decide) (by decide) (by omega)).2 m s t r0 f h0 J k

theorem us_69 {m s : ps_S} {t : Int32} {d : Nat} {r0 : Nat} {r1 : Nat} {x2 : Int32} {f : Int32 → ps_S → Prop} (h0 : ps_is r0 3 = true) (h1 : ps_is r1 5 = true) (J : uJ m t s) (k : ∀ (v : Int32) (s' : ps_S), v &&& 1 = v → uJ m t s' → f v s') : ps_Cl (d + 37) 69 [.ref r0, .ref r1, .int x2] s (ps_rI f) :=
  pg_69_0 (d := d + 36) (ps_nk_i h0 (ps_nk_i h0 (ps_nk_i (xj_3_6 ((uw_rc (c := 3) (by decide) h0 (xw_3_6 h0 h1 (J).1) J)).1 h0) (us_91 (xj_3_6 ((uw_rc (c := 3) (by decide) h0 (xw_3_6 h0 h1 (J).1) J)).1 h0) (uw_rc (c := 3) (by decide) h0 (xw_3_6 h0 h1 (J).1) J) (fun s1 J1 => (ps_nk_i h0 (And.intro (fun f1 => (ps_nk_i h0 (us_70 h0 (uw_i (c := 3) (by decide) h0 J1) (fun v2 s2 b2 J2 => (ps_nd_i (decide_eq_true b2) ((k v2 s2 (of_decide_eq_true (decide_eq_true b2)) J2))))))) (fun f1 => (ps_nk_i h0 (us_76 h0 (uw_i (c := 3) (by decide) h0 J1) (fun v3 s3 b3 J3 => (ps_nd_i (decide_eq_true b3) ((k v3 s3 (of_decide_eq_true (decide_eq_true b3)) J3))))))))))))))

theorem us_65 {m s : ps_S} {t : Int32} {d : Nat} {r0 : Nat} {f : Int32 → ps_S → Prop} (h0 : ps_is r0 3 = true) (J : uJ m t s) (k : ∀ (v : Int32) (s' : ps_S), v &&& 1 = v → uJ m t s' → f v s') : ps_Cl (d + 3) 65 [.ref r0] s (ps_rI f) :=
  pg_65_0 (d := d + 2) (ps_nk_i h0 (ps_nk_i (xk_3_0 h0) (And.intro (fun f1 => (ps_nk_i h0 (ps_nk_i (xk_3_0 h0) (us_140 (xk_3_0 h0) J (fun s1 J1 => (k 1 s1 (by decide) J1)))))) (fun f1 => (ps_nk_i h0 (us_62 h0 J (fun v2 s2 b2 J2 => (ps_nd_i (decide_eq_true b2) ((k v2 s2 (of_decide_eq_true (decide_eq_true b2)) J2))))))))))

theorem us_120 {m s : ps_S} {t : Int32} {d : Nat} {r0 : Nat} {x1 : Int32} {f : ps_S → Prop} (h0 : ps_is r0 8 = true) (J : uJ m t s) (k : ∀ (s' : ps_S), uJ m t s' → f s') : ps_Cl (d + 1) 120 [.ref r0, .int x1] s (ps_rV f) :=
  pg_120_0 (d := d) (ps_nk_i h0 (ps_nk_i h0 (ps_nk_i h0 (ps_nk_i h0 (ps_nk_i (xk_8_4 h0) (us_91 (xk_8_4 h0) (uw_i (c := 8) (by decide) h0 (uw_i (c := 8) (by decide) h0 (uw_i (c := 8) (by decide) h0 J))) (fun s1 J1 => (ps_nk_i h0 (ps_nk_i (xk_8_5 h0) (us_91 (xk_8_5 h0) J1 (fun s2 J2 => (ps_nk_i h0 (ps_nk_i (xk_8_6 h0) (us_91 (xk_8_6 h0) J2 (fun s3 J3 => (ps_nk_i h0 (ps_nk_i h0 (ps_nk_i h0 (ps_nk_i h0 (ps_nk_i h0 (k (ps_uj (ps_ui (ps_ui (ps_ui (ps_ui s3 r0 8 0) r0 9 0) r0 10 0) r0 11 0) r0 12 0) (uw_j (c := 8) (by decide) h0 (uw_i (c := 8) (by decide) h0 (uw_i (c := 8) (by decide) h0 (uw_i (c := 8) (by decide) h0 (uw_i (c := 8) (by decide) h0 J3))))))))))))))))))))))))))

theorem us_67 {m s : ps_S} {t : Int32} {d : Nat} {r0 : Nat} {r1 : Nat} {f : Int32 → ps_S → Prop} (h0 : ps_is r0 3 = true) (h1 : ps_is r1 8 = true) (J : uJ m t s) (k : ∀ (v : Int32) (s' : ps_S), v &&& 1 = v → uJ m t s' → f v s') : ps_Cl (d + 3) 67 [.ref r0, .ref r1] s (ps_rI f) :=
  pg_67_0 (d := d + 2) (ps_nk_i h0 (ps_nk_i (xk_3_0 h0) (And.intro (fun f1 => (ps_nk_i h0 (ps_nk_i h0 (ps_nk_i (xk_3_0 h0) (ps_nk_i (xj_3_5 (J).1 h0) (xs_129 (xj_3_5 (J).1 h0) (J).1 (fun v1 => (ps_nk_i h1 (ps_nk_i h1 (And.intro (fun f2 => (ps_nk_i h0 (ps_nk_i (xk_3_0 h0) (us_140 (xk_3_0 h0) (uw_i (c := 8) (by decide) h1 J) (fun s2 J2 => (k 1 s2 (by decide) J2)))))) (fun f2 => (ps_nk_i h0 (us_62 h0 (uw_i (c := 8) (by decide) h1 J) (fun v3 s3 b3 J3 => (ps_nd_i (decide_eq_true b3) ((k v3 s3 (of_decide_eq_true (decide_eq_true b3)) J3))))))))))))))))) (fun f1 => (ps_nk_i h0 (us_62 h0 J (fun v4 s4 b4 J4 => (ps_nd_i (decide_eq_true b4) ((k v4 s4 (of_decide_eq_true (decide_eq_true b4)) J4))))))))))

theorem us_68 {m s : ps_S} {t : Int32} {d : Nat} {r0 : Nat} {r1 : Nat} {f : Int32 → ps_S → Prop} (h0 : ps_is r0 3 = true) (h1 : ps_is r1 8 = true) (J : uJ m t s) (k : ∀ (v : Int32) (s' : ps_S), v &&& 1 = v → uJ m t s' → f v s') : ps_Cl (d + 3) 68 [.ref r0, .ref r1] s (ps_rI f) :=
  pg_68_0 (d := d + 2) (ps_nk_i h0 (xs_77 h0 (J).1 (fun v1 b1 => (And.intro (fun f1 => (ps_nk_i h0 (us_79 h0 J (fun v2 s2 J2 => (ps_nk_i h1 (ps_nk_i h1 (And.intro (fun f2 => (ps_nk_i h0 (ps_nk_i (xk_3_0 h0) (us_140 (xk_3_0 h0) (uw_i (c := 8) (by decide) h1 J2) (fun s3 J3 => (k 1 s3 (by decide) J3)))))) (fun f2 => (ps_nk_i h0 (us_62 h0 (uw_i (c := 8) (by decide) h1 J2) (fun v4 s4 b4 J4 => (ps_nd_i (decide_eq_true b4) ((k v4 s4 (of_decide_eq_true (decide_eq_true b4)) J4)))))))))))))) (fun f1 => (ps_nk_i h0 (us_62 h0 J (fun v5 s5 b5 J5 => (ps_nd_i (decide_eq_true b5) ((k v5 s5 (of_decide_eq_true (decide_eq_true b5)) J5)))))))))))

theorem us_66_161 {m s : ps_S} {t : Int32} {d : Nat} {r0 : Nat} {Q : Option Value → ps_S → Prop} (h0 : ps_is r0 3 = true) (J : uJ m t s) (k : ∀ (v : Int32) (s' : ps_S), v &&& 1 = v → uJ m t s' → Q (some (.int v)) s') : ps_At (d + 38) 66 161 [(0, .ref r0)] [] s Q :=
  pg_66_161 (d := d + 37) (ps_nk_i h0 (us_65 h0 J (fun v1 s1 b1 J1 => (ps_nd_i (decide_eq_true b1) ((k v1 s1 (of_decide_eq_true (decide_eq_true b1)) J1))))))

theorem us_66_140 {m s : ps_S} {t : Int32} {d : Nat} {r0 : Nat} {r1 : Nat} {x2 : Int32} {Q : Option Value → ps_S → Prop} (h0 : ps_is r0 3 = true) (h1 : ps_is r1 8 = true) (J : uJ m t s) (k : ∀ (v : Int32) (s' : ps_S), v &&& 1 = v → uJ m t s' → Q (some (.int v)) s') : ps_At (d + 38) 66 140 [(0, .ref r0), (1, .ref r1), (2, .int x2)] [] s Q :=
  pg_66_140 (d := d + 37) (xs_119  (J).1 (fun v1 b1 => (And.intro (fun f1 => (us_66_161 (d := d) (r0 := r0)  h0 J k )) (fun f1 => (ps_nk_i h1 (ps_nk_i h0 (us_69 h0 (xk_8_5 h1) J (fun v2 s2 b2 J2 => (And.intro (fun f2 => (us_66_161 (d := d) (r0 := r0)  h0 J2 k )) (fun f2 => (k 0 s2 (by decide) J2)))))))))))

theorem us_66_119 {m s : ps_S} {t : Int32} {d : Nat} {r0 : Nat} {r1 : Nat} {x2 : Int32} {Q : Option Value → ps_S → Prop} (h0 : ps_is r0 3 = true) (h1 : ps_is r1 8 = true) (J : uJ m t s) (k : ∀ (v : Int32) (s' : ps_S), v &&& 1 = v → uJ m t s' → Q (some (.int v)) s') : ps_At (d + 38) 66 119 [(0, .ref r0), (1, .ref r1), (2, .int x2)] [] s Q :=
  pg_66_119 (d := d + 37) (xs_118  (J).1 (fun v1 b1 => (And.intro (fun f1 => (us_66_140 (d := d) (r0 := r0) (r1 := r1) (x2 := x2)  h0 h1 J k )) (fun f1 => (ps_nk_i h1 (ps_nk_i h0 (us_69 h0 (xk_8_4 h1) J (fun v2 s2 b2 J2 => (And.intro (fun f2 => (us_66_140 (d := d) (r0 := r0) (r1 := r1) (x2 := x2)  h0 h1 J2 k )) (fun f2 => (k 0 s2 (by decide) J2)))))))))))

theorem us_66_102 {m s : ps_S} {t : Int32} {d : Nat} {r0 : Nat} {r1 : Nat} {x2 : Int32} {Q : Option Value → ps_S → Prop} (h0 : ps_is r0 3 = true) (h1 : ps_is r1 8 = true) (J : uJ m t s) (k : ∀ (v : Int32) (s' : ps_S), v &&& 1 = v → uJ m t s' → Q (some (.int v)) s') : ps_At (d + 38) 66 102 [(0, .ref r0), (1, .ref r1), (2, .int x2)] [] s Q :=
  pg_66_102 (d := d + 37) (xs_117  (J).1 (fun v1 b1 => (And.intro (fun f1 => (us_66_119 (d := d) (r0 := r0) (r1 := r1) (x2 := x2)  h0 h1 J k )) (fun f1 => (ps_nk_i h0 (us_68 h0 h1 J (fun v2 s2 b2 J2 => (And.intro (fun f2 => (us_66_119 (d := d) (r0 := r0) (r1 := r1) (x2 := x2)  h0 h1 J2 k )) (fun f2 => (k 0 s2 (by decide) J2))))))))))

theorem us_66_35 {m s : ps_S} {t : Int32} {d : Nat} {r0 : Nat} {r1 : Nat} {x2 : Int32} {x3 : Int32} {Q : Option Value → ps_S → Prop} (h0 : ps_is r0 3 = true) (h1 : ps_is r1 8 = true) (J : uJ m t s) (k : ∀ (v : Int32) (s' : ps_S), v &&& 1 = v → uJ m t s' → Q (some (.int v)) s') : ps_At (d + 38) 66 35 [(0, .ref r0), (1, .ref r1), (2, .int x2), (3, .int x3)] [] s Q :=
  xs_up (P := fun x3 => ∀ (s : ps_S), ps_is r0 3 = true → ps_is r1 8 = true → uJ m t s → ps_At (d + 38) 66 35 [(0, .ref r0), (1, .ref r1), (2, .int x2), (3, .int x3)] [] s Q) (fun x3 ih s h0 h1 J => pg_66_35 (d := d + 37) (xs_115  (J).1 (fun v1 => (And.intro (fun f1 => (And.intro (fun f2 => (us_66_102 (d := d) (r0 := r0) (r1 := r1) (x2 := x2)  h0 h1 J k )) (fun f2 => (ps_nk_i h0 (us_67 h0 h1 J (fun v2 s2 b2 J2 => (And.intro (fun f3 => (k 0 s2 (by decide) J2)) (fun f3 => (us_66_102 (d := d) (r0 := r0) (r1 := r1) (x2 := x2)  h0 h1 J2 k ))))))))) (fun f1 => (ps_nk_i h0 (ps_nk_i (xk_3_0 h0) (And.intro (fun f4 => (ps_nk_i h1 (ps_nk_i h0 (ps_nk_i (xk_3_0 h0) (us_183 (xk_8_1 h1) J (fun s3 J3 e3 => (ps_nk_i h0 (ps_nk_i (xk_3_0 h0) (us_140 (xk_3_0 h0) J3 (fun s4 J4 => (ih ((x3 + 1)) (xs_lt f1) s4 h0 h1 J4))))))))))) (fun f4 => (ps_nk_i h0 (us_62 h0 J (fun v5 s5 b5 J5 => (ps_nd_i (decide_eq_true b5) ((k v5 s5 (of_decide_eq_true (decide_eq_true b5)) J5))))))))))))))) x3 s h0 h1 J

theorem us_66 {m s : ps_S} {t : Int32} {d : Nat} {r0 : Nat} {r1 : Nat} {f : Int32 → ps_S → Prop} (h0 : ps_is r0 3 = true) (h1 : ps_is r1 8 = true) (J : uJ m t s) (k : ∀ (v : Int32) (s' : ps_S), v &&& 1 = v → uJ m t s' → f v s') : ps_Cl (d + 38) 66 [.ref r0, .ref r1] s (ps_rI f) :=
  pg_66_0 (d := d + 37) (ps_nk_i h0 (ps_nk_i (xk_3_0 h0) (xs_114  (J).1 (fun v1 b1 => (And.intro (fun f1 => (ps_nk_i h1 (us_120 h1 J (fun s2 J2 => (ps_nk_i h0 (ps_nk_i (xk_3_0 h0) (us_140 (xk_3_0 h0) J2 (fun s3 J3 => (us_66_35 (d := d) (r0 := r0) (r1 := r1) (x2 := (ps_i s (ps_c0 r0 0) 6)) (x3 := 0)  h0 h1 J3 k ))))))))) (fun f1 => (ps_nk_i h0 (us_62 h0 J (fun v4 s4 b4 J4 => (ps_nd_i (decide_eq_true b4) ((k v4 s4 (of_decide_eq_true (decide_eq_true b4)) J4))))))))))))

theorem us_59_15 {m s : ps_S} {t : Int32} {d : Nat} {r0 : Nat} {r4 : Nat} {x5 : Int32} {Q : Option Value → ps_S → Prop} (h0 : ps_is r0 3 = true) (h4 : ps_is r4 2 = true) (J : uJ m t s) (k : ∀ (v : Int32) (s' : ps_S), v &&& 1 = v → uJ m t s' → Q (some (.int v)) s') : ps_At (d + 39) 59 15 [(0, .ref r0), (4, .ref r4), (5, .int x5)] [] s Q :=
  xs_up (P := fun x5 => ∀ (s : ps_S), ps_is r0 3 = true → ps_is r4 2 = true → uJ m t s → ps_At (d + 39) 59 15 [(0, .ref r0), (4, .ref r4), (5, .int x5)] [] s Q) (fun x5 ih s h0 h4 J => pg_59_15 (d := d + 38) (And.intro (fun f1 => (k 1 s (by decide) J)) (fun f1 => (ps_nk_i h0 (ps_nk_i (xk_3_0 h0) (And.intro (fun f2 => (k 1 s (by decide) J)) (fun f2 => (And.intro (fun f3 => (ps_nk_i h4 (xs_33 h4 (J).1 (fun v1 g1 => (ps_nk_i h0 (us_66 h0 g1 J (fun v2 s2 b2 J2 => (And.intro (fun f4 => (ps_nk_i h4 (ih ((x5 + 1)) (xs_le f1 (by decide)) (ps_ui s2 r4 7 (x5 + 1)) h0 h4 (uw_i (c := 2) (by decide) h4 J2)))) (fun f4 => (k 0 s2 (by decide) J2)))))))))) (fun f3 => (ps_nk_i h0 (us_62 h0 J (fun v3 s3 b3 J3 => (ps_nd_i (decide_eq_true b3) ((k v3 s3 (of_decide_eq_true (decide_eq_true b3)) J3))))))))))))))) x5 s h0 h4 J

theorem us_59 {m s : ps_S} {t : Int32} {d : Nat} {r0 : Nat} {r1 : Nat} {x2 : Int32} {r3 : Nat} {r4 : Nat} {f : Int32 → ps_S → Prop} (h0 : ps_is r0 3 = true) (h1 : ps_ar r1 1 = true ∧ r1 < 1131) (h3 : ps_is r3 9 = true) (h4 : ps_is r4 2 = true) (J : uJ m t s) (k : ∀ (v : Int32) (s' : ps_S), v &&& 1 = v → uJ m t s' → f v s') : ps_Cl (d + 39) 59 [.ref r0, .ref r1, .int x2, .ref r3, .ref r4] s (ps_rI f) :=
  pg_59_0 (d := d + 38) (ps_nk_i h4 (us_31 h4 J (fun s1 J1 => (ps_nk_i h0 (us_61 h0 h1 h3 J1 (fun s2 J2 => (us_59_15 (d := d) (r0 := r0) (r4 := r4) (x5 := 0)  h0 h4 J2 k )))))))

theorem us_60 {m s : ps_S} {t : Int32} {d : Nat} {r0 : Nat} {r1 : Nat} {x2 : Int32} {r3 : Nat} {r4 : Nat} {x5 : Int32} {f : Int32 → ps_S → Prop} (h0 : ps_is r0 3 = true) (h1 : ps_ar r1 1 = true ∧ r1 < 1131) (h3 : ps_is r3 9 = true) (h4 : ps_is r4 5 = true) (J : uJ m t s) (k : ∀ (v : Int32) (s' : ps_S), v &&& 1 = v → uJ m t s' → f v s') : ps_Cl (d + 38) 60 [.ref r0, .ref r1, .int x2, .ref r3, .ref r4, .int x5] s (ps_rI f) :=
  pg_60_0 (d := d + 37) (ps_nk_i h0 (us_61 h0 h1 h3 J (fun s1 J1 => (ps_nk_i h0 (us_69 h0 h4 J1 (fun v2 s2 b2 J2 => (And.intro (fun f1 => (ps_nk_i h0 (ps_nk_i (xk_3_0 h0) (And.intro (fun f2 => (k 1 s2 (by decide) J2)) (fun f2 => (ps_nk_i h0 (us_62 h0 J2 (fun v3 s3 b3 J3 => (ps_nd_i (decide_eq_true b3) ((k v3 s3 (of_decide_eq_true (decide_eq_true b3)) J3))))))))))) (fun f1 => (k 0 s2 (by decide) J2)))))))))

theorem us_81 {m s : ps_S} {t : Int32} {d : Nat} {r0 : Nat} {f : ps_S → Prop} (h0 : ps_is r0 4 = true) (J : uJ m t s) (k : ∀ (s' : ps_S), uJ m t s' → f s') : ps_Cl (d + 1) 81 [.ref r0] s (ps_rV f) :=
  pg_81_0 (d := d) (ps_nk_i h0 (ps_nk_i (xk_4_0 h0) (us_91 (xk_4_0 h0) J (fun s1 J1 => (k s1 J1)))))
end
section
set_option maxRecDepth 100000
theorem us_83_109 {m s : ps_S} {t : Int32} {d : Nat} {r0 : Nat} {r1 : Nat} {x2 : Int32} {x5 : Int32} {x6 : Int32} {Q : Option Value → ps_S → Prop} (h0 : ps_is r0 4 = true) (h1 : ps_is r1 9 = true) (J : uJ m t s) (k : ∀ (s' : ps_S), uJ m t s' → Q none s') (K2 : ∀ (s : ps_S), ps_is r0 4 = true → ps_is r1 9 = true → uJ m t s → ps_At (d + 2) 83 2 [(0, .ref r0), (1, .ref r1), (2, .int (x2 + 1))] [] s Q) : ps_At (d + 2) 83 109 [(0, .ref r0), (1, .ref r1), (2, .int x2), (5, .int x5), (6, .int x6)] [] s Q :=
  pg_83_109 (d := d + 1) (ps_nk_i h0 (us_183 (xk_4_6 h0) J (fun s1 J1 e1 => (ps_nk_i h0 (And.intro (fun f1 => (us_183 (xk_4_7 h0) J1 (fun s2 J2 e2 => (K2 s2 h0 h1 J2)))) (fun f1 => (us_183 (xk_4_7 h0) J1 (fun s3 J3 e3 => (K2 s3 h0 h1 J3)))))))))

theorem us_83_44 {m s : ps_S} {t : Int32} {d : Nat} {r0 : Nat} {r1 : Nat} {x2 : Int32} {r3 : Nat} {x4 : Int32} {Q : Option Value → ps_S → Prop} (h0 : ps_is r0 4 = true) (h1 : ps_is r1 9 = true) (h3 : ps_is r3 5 = true) (J : uJ m t s) (k : ∀ (s' : ps_S), uJ m t s' → Q none s') (K2 : ∀ (s : ps_S), ps_is r0 4 = true → ps_is r1 9 = true → uJ m t s → ps_At (d + 2) 83 2 [(0, .ref r0), (1, .ref r1), (2, .int (x2 + 1))] [] s Q) : ps_At (d + 2) 83 44 [(0, .ref r0), (1, .ref r1), (2, .int x2), (3, .ref r3), (4, .int x4)] [] s Q :=
  pg_83_44 (d := d + 1) (ps_nk_i h0 (ps_nk_i (xk_4_3 h0) (us_103 (xk_4_3 h0) h3 h1 J (fun s1 J1 => (ps_nk_i h0 (ps_nk_i (xk_4_3 h0) (xs_104 (xk_4_3 h0) (J1).1 (fun v2 => (ps_nk_i h3 (xs_92 h3 (J1).1 (fun v3 => (And.intro (fun f1 => (us_83_109 (d := d) (r0 := r0) (r1 := r1) (x2 := x2) (x5 := (x4 + 1)) (x6 := v2)  h0 h1 J1 k K2)) (fun f1 => (ps_nk_i h3 (xs_92 h3 (J1).1 (fun v4 => (xs_186  (J1).1 (fun v5 b5 => (And.intro (fun f2 => (us_83_109 (d := d) (r0 := r0) (r1 := r1) (x2 := x2) (x5 := (x4 + 1)) (x6 := v2)  h0 h1 J1 k K2)) (fun f2 => (ps_nk_i h0 (xs_84 h0 h3 (J1).1 (fun v6 b6 => (And.intro (fun f3 => (us_83_109 (d := d) (r0 := r0) (r1 := r1) (x2 := x2) (x5 := (x4 + 1)) (x6 := v2)  h0 h1 J1 k K2)) (fun f3 => (ps_nk_i h0 (us_183 (xk_4_6 h0) J1 (fun s7 J7 e7 => (ps_nk_i h0 (And.intro (fun f4 => (us_183 (xk_4_7 h0) J7 (fun s8 J8 e8 => (K2 s8 h0 h1 J8)))) (fun f4 => (us_183 (xk_4_7 h0) J7 (fun s9 J9 e9 => (K2 s9 h0 h1 J9))))))))))))))))))))))))))))))))))

theorem us_83_19 {m s : ps_S} {t : Int32} {d : Nat} {r0 : Nat} {r1 : Nat} {x2 : Int32} {r3 : Nat} {x4 : Int32} {Q : Option Value → ps_S → Prop} (h0 : ps_is r0 4 = true) (h1 : ps_is r1 9 = true) (h3 : ps_is r3 5 = true) (J : uJ m t s) (k : ∀ (s' : ps_S), uJ m t s' → Q none s') (K2 : ∀ (s : ps_S), ps_is r0 4 = true → ps_is r1 9 = true → uJ m t s → ps_At (d + 2) 83 2 [(0, .ref r0), (1, .ref r1), (2, .int (x2 + 1))] [] s Q) : ps_At (d + 2) 83 19 [(0, .ref r0), (1, .ref r1), (2, .int x2), (3, .ref r3), (4, .int x4)] [] s Q :=
  xs_up (P := fun x4 => ∀ (s : ps_S), ps_is r0 4 = true → ps_is r1 9 = true → ps_is r3 5 = true → uJ m t s → ps_At (d + 2) 83 19 [(0, .ref r0), (1, .ref r1), (2, .int x2), (3, .ref r3), (4, .int x4)] [] s Q) (fun x4 ih s h0 h1 h3 J => pg_83_19 (d := d + 1) (ps_nk_i h3 (And.intro (fun f1 => (us_83_44 (d := d) (r0 := r0) (r1 := r1) (x2 := x2) (r3 := r3) (x4 := x4)  h0 h1 h3 J k K2)) (fun f1 => (ps_nk_i h3 (xs_92 h3 (J).1 (fun v1 => (And.intro (fun f2 => (us_83_44 (d := d) (r0 := r0) (r1 := r1) (x2 := x2) (r3 := r3) (x4 := x4)  h0 h1 h3 J k K2)) (fun f2 => (ih ((x4 + 1)) (xs_lt f1) s h0 h1 h3 J)))))))))) x4 s h0 h1 h3 J

theorem us_83_2 {m s : ps_S} {t : Int32} {d : Nat} {r0 : Nat} {r1 : Nat} {x2 : Int32} {Q : Option Value → ps_S → Prop} (h0 : ps_is r0 4 = true) (h1 : ps_is r1 9 = true) (J : uJ m t s) (k : ∀ (s' : ps_S), uJ m t s' → Q none s') : ps_At (d + 2) 83 2 [(0, .ref r0), (1, .ref r1), (2, .int x2)] [] s Q :=
  xs_up (P := fun x2 => ∀ (s : ps_S), ps_is r0 4 = true → ps_is r1 9 = true → uJ m t s → ps_At (d + 2) 83 2 [(0, .ref r0), (1, .ref r1), (2, .int x2)] [] s Q) (fun x2 ih s h0 h1 J => pg_83_2 (d := d + 1) (ps_nk_i h1 (And.intro (fun f1 => (k s J)) (fun f1 => (ps_nk_i h1 (xs_135 h1 (J).1 (fun v1 g1 => (us_83_19 (d := d) (r0 := r0) (r1 := r1) (x2 := x2) (r3 := v1) (x4 := 0)  h0 h1 g1 J k (fun s9 h0z h1z J9 => ih (x2 + 1) (xs_lt f1) s9 h0z h1z J9))))))))) x2 s h0 h1 J

theorem us_83 {m s : ps_S} {t : Int32} {d : Nat} {r0 : Nat} {r1 : Nat} {f : ps_S → Prop} (h0 : ps_is r0 4 = true) (h1 : ps_is r1 9 = true) (J : uJ m t s) (k : ∀ (s' : ps_S), uJ m t s' → f s') : ps_Cl (d + 2) 83 [.ref r0, .ref r1] s (ps_rV f) :=
  pg_83_0 (d := d + 1) (us_83_2 (d := d) (r0 := r0) (r1 := r1) (x2 := 0)  h0 h1 J k )

theorem us_82_9 {m s : ps_S} {t : Int32} {d : Nat} {r0 : Nat} {r1 : Nat} {x2 : Int32} {x3 : Int32} {Q : Option Value → ps_S → Prop} (h0 : ps_is r0 4 = true) (h1 : ps_is r1 9 = true) (J : uJ m t s) (k : ∀ (v : Int32) (s' : ps_S), uJ m t s' → Q (some (.int v)) s') : ps_At (d + 3) 82 9 [(0, .ref r0), (1, .ref r1), (2, .int x2), (3, .int x3)] [] s Q :=
  xs_up (P := fun x3 => ∀ (x2 : Int32) (s : ps_S), ps_is r0 4 = true → ps_is r1 9 = true → uJ m t s → ps_At (d + 3) 82 9 [(0, .ref r0), (1, .ref r1), (2, .int x2), (3, .int x3)] [] s Q) (fun x3 ih x2 s h0 h1 J => pg_82_9 (d := d + 2) (ps_nk_i h1 (And.intro (fun f1 => (k x2 s J)) (fun f1 => (ps_nk_i h0 (xs_182 (xk_4_7 h0) (J).1 (fun v1 => (And.intro (fun f2 => (ih ((x3 + 1)) (xs_lt f1) (x2) s h0 h1 J)) (fun f2 => (ih ((x3 + 1)) (xs_lt f1) ((x2 ||| ((1 : Int32) <<< (x3 &&& 31)))) s h0 h1 J)))))))))) x3 x2 s h0 h1 J

theorem us_82 {m s : ps_S} {t : Int32} {d : Nat} {r0 : Nat} {r1 : Nat} {f : Int32 → ps_S → Prop} (h0 : ps_is r0 4 = true) (h1 : ps_is r1 9 = true) (J : uJ m t s) (k : ∀ (v : Int32) (s' : ps_S), uJ m t s' → f v s') : ps_Cl (d + 3) 82 [.ref r0, .ref r1] s (ps_rI f) :=
  pg_82_0 (d := d + 2) (ps_nk_i h0 (us_83 h0 h1 J (fun s1 J1 => (us_82_9 (d := d) (r0 := r0) (r1 := r1) (x2 := 0) (x3 := 0)  h0 h1 J1 k ))))

theorem us_88 {m s : ps_S} {t : Int32} {d : Nat} {r0 : Nat} {x1 : Int32} {x2 : Int32} {f : Int32 → ps_S → Prop} (h0 : ps_is r0 4 = true) (J : uJ m t s) (k : ∀ (v : Int32) (s' : ps_S), v &&& 1 = v → uJ m t s' → f v s') : ps_Cl (d + 2) 88 [.ref r0, .int x1, .int x2] s (ps_rI f) :=
  pg_88_0 (d := d + 1) (ps_nk_i h0 (ps_nk_i (xk_4_2 h0) (xs_104 (xk_4_2 h0) (J).1 (fun v1 => (ps_nk_i h0 (xs_182 (xk_4_4 h0) (J).1 (fun v2 => (And.intro (fun f1 => (ps_nk_i h0 (xs_182 (xk_4_5 h0) (J).1 (fun v3 => (And.intro (fun f2 => (k 0 s (by decide) J)) (fun f2 => (ps_nk_i h0 (ps_nk_i h0 (ps_nk_i (xk_4_0 h0) (xs_99 (xk_4_0 h0) (xk_4_0 h0) (J).1 (fun v4 b4 => (And.intro (fun f3 => (k 0 s (by decide) J)) (fun f3 => (k 1 s (by decide) J)))))))))))))) (fun f1 => (ps_nk_i h0 (us_183 (xk_4_4 h0) J (fun s5 J5 e5 => (ps_nk_i h0 (us_183 (xk_4_5 h0) J5 (fun s6 J6 e6 => (k 1 s6 (by decide) J6))))))))))))))))

theorem us_87_32 {m s : ps_S} {t : Int32} {d : Nat} {r0 : Nat} {r1 : Nat} {x3 : Int32} {x5 : Int32} {x6 : Int32} {Q : Option Value → ps_S → Prop} (h0 : ps_is r0 4 = true) (h1 : ps_is r1 5 = true) (J : uJ m t s) (k : ∀ (v : Int32) (s' : ps_S), v &&& 1 = v → uJ m t s' → Q (some (.int v)) s') : ps_At (d + 3) 87 32 [(0, .ref r0), (1, .ref r1), (3, .int x3), (5, .int x5), (6, .int x6)] [] s Q :=
  xs_up (P := fun x6 => ∀ (x5 : Int32) (s : ps_S), ps_is r0 4 = true → ps_is r1 5 = true → uJ m t s → ps_At (d + 3) 87 32 [(0, .ref r0), (1, .ref r1), (3, .int x3), (5, .int x5), (6, .int x6)] [] s Q) (fun x6 ih x5 s h0 h1 J => pg_87_32 (d := d + 2) (And.intro (fun f1 => (k 1 s (by decide) J)) (fun f1 => (ps_nk_i h1 (xs_92 h1 (J).1 (fun v1 => (xs_185  (J).1 (fun v2 b2 => (And.intro (fun f2 => (ps_nk_i h0 (ps_nk_i (xk_4_0 h0) (xs_92 (xk_4_0 h0) (J).1 (fun v3 => (And.intro (fun f3 => (k 0 s (by decide) J)) (fun f3 => (ih ((x6 + 1)) (xs_lt f1) ((x5 + 1)) s h0 h1 J)))))))) (fun f2 => (ps_nk_i h0 (us_88 h0 J (fun v4 s4 b4 J4 => (And.intro (fun f4 => (ps_nk_i h0 (ps_nk_i (xk_4_2 h0) (xs_104 (xk_4_2 h0) (J4).1 (fun v5 => (ih ((x6 + 1)) (xs_lt f1) (v5) s4 h0 h1 J4)))))) (fun f4 => (k 0 s4 (by decide) J4)))))))))))))))) x6 x5 s h0 h1 J

theorem us_87_3 {m s : ps_S} {t : Int32} {d : Nat} {r0 : Nat} {r1 : Nat} {x2 : Int32} {x3 : Int32} {x4 : Int32} {x5 : Int32} {Q : Option Value → ps_S → Prop} (h0 : ps_is r0 4 = true) (h1 : ps_is r1 5 = true) (J : uJ m t s) (k : ∀ (v : Int32) (s' : ps_S), v &&& 1 = v → uJ m t s' → Q (some (.int v)) s') : ps_At (d + 3) 87 3 [(0, .ref r0), (1, .ref r1), (2, .int x2), (3, .int x3), (4, .int x4), (5, .int x5)] [] s Q :=
  xs_up (P := fun x5 => ∀ (s : ps_S), ps_is r0 4 = true → ps_is r1 5 = true → uJ m t s → ps_At (d + 3) 87 3 [(0, .ref r0), (1, .ref r1), (2, .int x2), (3, .int x3), (4, .int x4), (5, .int x5)] [] s Q) (fun x5 ih s h0 h1 J => pg_87_3 (d := d + 2) (And.intro (fun f1 => (us_87_32 (d := d) (r0 := r0) (r1 := r1) (x3 := x3) (x5 := x4) (x6 := x2)  h0 h1 J k )) (fun f1 => (ps_nk_i h0 (us_183 (xk_4_4 h0) J (fun s1 J1 e1 => (ih ((x5 + 1)) (xs_lt f1) s1 h0 h1 J1))))))) x5 s h0 h1 J

theorem us_87 {m s : ps_S} {t : Int32} {d : Nat} {r0 : Nat} {r1 : Nat} {x2 : Int32} {x3 : Int32} {x4 : Int32} {f : Int32 → ps_S → Prop} (h0 : ps_is r0 4 = true) (h1 : ps_is r1 5 = true) (J : uJ m t s) (k : ∀ (v : Int32) (s' : ps_S), v &&& 1 = v → uJ m t s' → f v s') : ps_Cl (d + 3) 87 [.ref r0, .ref r1, .int x2, .int x3, .int x4] s (ps_rI f) :=
  pg_87_0 (d := d + 2) (us_87_3 (d := d) (r0 := r0) (r1 := r1) (x2 := x2) (x3 := x3) (x4 := x4) (x5 := 0)  h0 h1 J k )

theorem us_89_23 {m s : ps_S} {t : Int32} {d : Nat} {r0 : Nat} {r1 : Nat} {x3 : Int32} {x4 : Int32} {Q : Option Value → ps_S → Prop} (h0 : ps_is r0 4 = true) (h1 : ps_is r1 5 = true) (J : uJ m t s) (k : ∀ (s' : ps_S), uJ m t s' → Q none s') : ps_At (d + 2) 89 23 [(0, .ref r0), (1, .ref r1), (3, .int x3), (4, .int x4)] [] s Q :=
  xs_up (P := fun x4 => ∀ (s : ps_S), ps_is r0 4 = true → ps_is r1 5 = true → uJ m t s → ps_At (d + 2) 89 23 [(0, .ref r0), (1, .ref r1), (3, .int x3), (4, .int x4)] [] s Q) (fun x4 ih s h0 h1 J => pg_89_23 (d := d + 1) (ps_nk_i h1 (And.intro (fun f1 => (ps_nk_i h0 (ps_nk_i h0 (ps_nk_i h0 (ps_nk_i (xk_4_2 h0) (xs_104 (xk_4_2 h0) (J).1 (fun v1 => (ps_nk_i h0 (ps_nk_i (xk_4_0 h0) (ps_nk_i (xk_4_1 h0) (us_94 (xk_4_1 h0) (xk_4_0 h0) J (fun s2 J2 => (k s2 J2))))))))))))) (fun f1 => (ps_nk_i h1 (xs_92 h1 (J).1 (fun v3 => (xs_185  (J).1 (fun v4 b4 => (And.intro (fun f2 => (ps_nk_i h0 (ps_nk_i (xk_4_1 h0) (us_93 (xk_4_1 h0) J (fun s5 J5 => (ih ((x4 + 1)) (xs_lt f1) s5 h0 h1 J5)))))) (fun f2 => (ps_nk_i h0 (ps_nk_i h0 (ps_nk_i h0 (xs_182 (xk_4_4 h0) (J).1 (fun v6 => (ps_nk_i h0 (xs_182 (xk_4_5 h0) (J).1 (fun v7 => (ps_nk_i (xk_4_1 h0) (us_94 (xk_4_1 h0) (xk_4_0 h0) J (fun s8 J8 => (ih ((x4 + 1)) (xs_lt f1) s8 h0 h1 J8))))))))))))))))))))))) x4 s h0 h1 J

theorem us_89 {m s : ps_S} {t : Int32} {d : Nat} {r0 : Nat} {r1 : Nat} {x2 : Int32} {x3 : Int32} {f : ps_S → Prop} (h0 : ps_is r0 4 = true) (h1 : ps_is r1 5 = true) (J : uJ m t s) (k : ∀ (s' : ps_S), uJ m t s' → f s') : ps_Cl (d + 2) 89 [.ref r0, .ref r1, .int x2, .int x3] s (ps_rV f) :=
  pg_89_0 (d := d + 1) (ps_nk_i h0 (ps_nk_i (xk_4_1 h0) (us_91 (xk_4_1 h0) J (fun s1 J1 => (ps_nk_i h0 (ps_nk_i h0 (ps_nk_i (xk_4_1 h0) (us_94 (xk_4_1 h0) (xk_4_0 h0) J1 (fun s2 J2 => (us_89_23 (d := d) (r0 := r0) (r1 := r1) (x3 := x3) (x4 := x2)  h0 h1 J2 k ))))))))))

theorem us_86_15 {m s : ps_S} {t : Int32} {d : Nat} {r0 : Nat} {r1 : Nat} {x2 : Int32} {x3 : Int32} {Q : Option Value → ps_S → Prop} (h0 : ps_is r0 4 = true) (h1 : ps_is r1 9 = true) (J : uJ m t s) (k : ∀ (v : Int32) (s' : ps_S), v &&& 1 = v → uJ m t s' → Q (some (.int v)) s') (K2 : ∀ (s : ps_S), ps_is r0 4 = true → ps_is r1 9 = true → uJ m t s → ps_At (d + 4) 86 2 [(0, .ref r0), (1, .ref r1), (2, .int (x2 + 1))] [] s Q) : ps_At (d + 4) 86 15 [(0, .ref r0), (1, .ref r1), (2, .int x2), (3, .int x3)] [] s Q :=
  xs_up (P := fun x3 => ∀ (s : ps_S), ps_is r0 4 = true → ps_is r1 9 = true → uJ m t s → ps_At (d + 4) 86 15 [(0, .ref r0), (1, .ref r1), (2, .int x2), (3, .int x3)] [] s Q) (fun x3 ih s h0 h1 J => pg_86_15 (d := d + 3) (ps_nk_i h1 (And.intro (fun f1 => (K2 s h0 h1 J)) (fun f1 => (ps_nk_i h0 (ps_nk_i (xk_4_0 h0) (xs_92 (xk_4_0 h0) (J).1 (fun v1 => (xs_186  (J).1 (fun v2 b2 => (And.intro (fun f2 => (K2 s h0 h1 J)) (fun f2 => (ps_nk_i h0 (xs_182 (xk_4_7 h0) (J).1 (fun v3 => (And.intro (fun f3 => (ih ((x3 + 1)) (xs_lt f1) s h0 h1 J)) (fun f3 => (ps_nk_i h1 (xs_135 h1 (J).1 (fun v4 g4 => (ps_nk_i h0 (xs_182 (xk_4_6 h0) (J).1 (fun v5 => (ps_nk_i h0 (us_87 h0 g4 J (fun v6 s6 b6 J6 => (And.intro (fun f4 => (ih ((x3 + 1)) (xs_lt f1) s6 h0 h1 J6)) (fun f4 => (ps_nk_i h1 (xs_135 h1 (J6).1 (fun v7 g7 => (ps_nk_i h0 (us_89 h0 g7 J6 (fun s8 J8 => (k 1 s8 (by decide) J8))))))))))))))))))))))))))))))))))) x3 s h0 h1 J

theorem us_86_2 {m s : ps_S} {t : Int32} {d : Nat} {r0 : Nat} {r1 : Nat} {x2 : Int32} {Q : Option Value → ps_S → Prop} (h0 : ps_is r0 4 = true) (h1 : ps_is r1 9 = true) (J : uJ m t s) (k : ∀ (v : Int32) (s' : ps_S), v &&& 1 = v → uJ m t s' → Q (some (.int v)) s') : ps_At (d + 4) 86 2 [(0, .ref r0), (1, .ref r1), (2, .int x2)] [] s Q :=
  xs_up (P := fun x2 => ∀ (s : ps_S), ps_is r0 4 = true → ps_is r1 9 = true → uJ m t s → ps_At (d + 4) 86 2 [(0, .ref r0), (1, .ref r1), (2, .int x2)] [] s Q) (fun x2 ih s h0 h1 J => pg_86_2 (d := d + 3) (ps_nk_i h0 (ps_nk_i (xk_4_0 h0) (And.intro (fun f1 => (k 0 s (by decide) J)) (fun f1 => (us_86_15 (d := d) (r0 := r0) (r1 := r1) (x2 := x2) (x3 := 0)  h0 h1 J k (fun s9 h0z h1z J9 => ih (x2 + 1) (xs_lt f1) s9 h0z h1z J9))))))) x2 s h0 h1 J

theorem us_86 {m s : ps_S} {t : Int32} {d : Nat} {r0 : Nat} {r1 : Nat} {f : Int32 → ps_S → Prop} (h0 : ps_is r0 4 = true) (h1 : ps_is r1 9 = true) (J : uJ m t s) (k : ∀ (v : Int32) (s' : ps_S), v &&& 1 = v → uJ m t s' → f v s') : ps_Cl (d + 4) 86 [.ref r0, .ref r1] s (ps_rI f) :=
  pg_86_0 (d := d + 3) (us_86_2 (d := d) (r0 := r0) (r1 := r1) (x2 := 0)  h0 h1 J k )

theorem us_85_87 {m s : ps_S} {t : Int32} {d : Nat} {r0 : Nat} {Q : Option Value → ps_S → Prop} (h0 : ps_is r0 4 = true) (J : uJ m t s) (k : ∀ (v : Int32) (s' : ps_S), uJ m t s' → Q (some (.int v)) s') : ps_At (d + 5) 85 87 [(0, .ref r0)] [] s Q :=
  pg_85_87 (d := d + 4) (ps_nk_i h0 (ps_nk_i (xk_4_0 h0) (us_91 (xk_4_0 h0) J (fun s1 J1 => (k (-2) s1 J1)))))

theorem us_85_19 {m s : ps_S} {t : Int32} {d : Nat} {r0 : Nat} {r1 : Nat} {x2 : Int32} {Q : Option Value → ps_S → Prop} (h0 : ps_is r0 4 = true) (h1 : ps_is r1 9 = true) (J : uJ m t s) (k : ∀ (v : Int32) (s' : ps_S), uJ m t s' → Q (some (.int v)) s') : ps_At (d + 5) 85 19 [(0, .ref r0), (1, .ref r1), (2, .int x2)] [] s Q :=
  xs_up (P := fun x2 => ∀ (s : ps_S), ps_is r0 4 = true → ps_is r1 9 = true → uJ m t s → ps_At (d + 5) 85 19 [(0, .ref r0), (1, .ref r1), (2, .int x2)] [] s Q) (fun x2 ih s h0 h1 J => pg_85_19 (d := d + 4) (And.intro (fun f1 => (us_85_87 (d := d) (r0 := r0)  h0 J k )) (fun f1 => (ps_nk_i h0 (us_86 h0 h1 J (fun v1 s1 b1 J1 => (And.intro (fun f2 => (ps_nk_i h0 (ps_nk_i h0 (ps_nk_i (xk_4_0 h0) (us_95 (xk_4_0 h0) (xk_4_1 h0) J1 (fun s2 J2 => (ps_nk_i h0 (ps_nk_i h0 (ps_nk_i (xk_4_2 h0) (us_103 (xk_4_2 h0) (xk_4_0 h0) h1 J2 (fun s3 J3 => (ps_nk_i h0 (ps_nk_i (xk_4_1 h0) (And.intro (fun f3 => (us_85_87 (d := d) (r0 := r0)  h0 J3 k )) (fun f3 => (ps_nk_i h0 (ps_nk_i (xk_4_2 h0) (xs_106 (xk_4_2 h0) (J3).1 (fun v4 b4 => (And.intro (fun f4 => (ih ((x2 + 1)) (xs_le f1 (by decide)) s3 h0 h1 J3)) (fun f4 => (us_85_87 (d := d) (r0 := r0)  h0 J3 k )))))))))))))))))))))) (fun f2 => (k x2 s1 J1))))))))) x2 s h0 h1 J

theorem us_85 {m s : ps_S} {t : Int32} {d : Nat} {r0 : Nat} {r1 : Nat} {f : Int32 → ps_S → Prop} (h0 : ps_is r0 4 = true) (h1 : ps_is r1 9 = true) (J : uJ m t s) (k : ∀ (v : Int32) (s' : ps_S), uJ m t s' → f v s') : ps_Cl (d + 5) 85 [.ref r0, .ref r1] s (ps_rI f) :=
  pg_85_0 (d := d + 4) (ps_nk_i h0 (us_83 h0 h1 J (fun s1 J1 => (ps_nk_i h0 (ps_nk_i h0 (ps_nk_i (xk_4_2 h0) (us_103 (xk_4_2 h0) (xk_4_0 h0) h1 J1 (fun s2 J2 => (us_85_19 (d := d) (r0 := r0) (r1 := r1) (x2 := 0)  h0 h1 J2 k )))))))))

theorem us_111_18 {m s : ps_S} {t : Int32} {d : Nat} {r0 : Nat} {r1 : Nat} {x2 : Int32} {x3 : Int32} {Q : Option Value → ps_S → Prop} (h0 : ps_is r0 7 = true) (h1 : ps_is r1 8 = true) (J : uJ m t s) (k : ∀ (v : Int32) (s' : ps_S), uJ m t s' → Q (some (.int v)) s') : ps_At (d + 3) 111 18 [(0, .ref r0), (1, .ref r1), (2, .int x2), (3, .int x3)] [] s Q :=
  xs_up (P := fun x3 => ∀ (x2 : Int32) (s : ps_S), ps_is r0 7 = true → ps_is r1 8 = true → uJ m t s → ps_At (d + 3) 111 18 [(0, .ref r0), (1, .ref r1), (2, .int x2), (3, .int x3)] [] s Q) (fun x3 ih x2 s h0 h1 J => pg_111_18 (d := d + 2) (ps_nk_i h0 (And.intro (fun f1 => (ps_nk_i h0 (ps_nk_i h0 (xs_110 h0 (J).1 (fun v1 g1 => (ps_nk_i h1 (ps_nk_i g1 (us_95 g1 (xk_8_6 h1) J (fun s2 J2 => (ps_nk_i h0 (ps_nk_i h0 (ps_nk_i h1 (us_183 (xk_7_2 h0) J2 (fun s3 J3 e3 => (ps_nk_i h0 (ps_nk_i h0 (ps_nk_i h1 (us_183 (xk_7_3 h0) J3 (fun s4 J4 e4 => (ps_nk_i h0 (ps_nk_i h0 (us_183 (xk_7_4 h0) J4 (fun s5 J5 e5 => (ps_nk_i h0 (ps_nk_i h0 (ps_nk_i h0 (k ((ps_i (ps_ui s5 r0 5 ((ps_i s5 r0 5) + 1)) r0 5) - 1) (ps_ui s5 r0 5 ((ps_i s5 r0 5) + 1)) (uw_i (c := 7) (by decide) h0 J5)))))))))))))))))))))))))))) (fun f1 => (ps_nk_i h1 (And.intro (fun f2 => (ih ((x3 + 1)) (xs_lt f1) (x2) s h0 h1 J)) (fun f2 => (ps_nk_i h0 (xs_182 (xk_7_4 h0) (J).1 (fun v6 => (ih ((x3 + 1)) (xs_lt f1) ((x2 ||| v6)) s h0 h1 J))))))))))) x3 x2 s h0 h1 J

theorem us_111 {m s : ps_S} {t : Int32} {d : Nat} {r0 : Nat} {r1 : Nat} {f : Int32 → ps_S → Prop} (h0 : ps_is r0 7 = true) (h1 : ps_is r1 8 = true) (J : uJ m t s) (k : ∀ (v : Int32) (s' : ps_S), uJ m t s' → f v s') : ps_Cl (d + 3) 111 [.ref r0, .ref r1] s (ps_rI f) :=
  pg_111_0 (d := d + 2) (ps_nk_i h0 (And.intro (fun f1 => (ps_nk_i h1 (us_111_18 (d := d) (r0 := r0) (r1 := r1) (x2 := (ps_i s r1 10)) (x3 := 0)  h0 h1 J k ))) (fun f1 => (k (-1) s J))))

theorem us_112_10 {m s : ps_S} {t : Int32} {d : Nat} {r0 : Nat} {r1 : Nat} {x2 : Int32} {Q : Option Value → ps_S → Prop} (h0 : ps_is r0 7 = true) (h1 : ps_is r1 7 = true) (J : uJ m t s) (k : ∀ (s' : ps_S), uJ m t s' → Q none s') : ps_At (d + 3) 112 10 [(0, .ref r0), (1, .ref r1), (2, .int x2)] [] s Q :=
  xs_up (P := fun x2 => ∀ (s : ps_S), ps_is r0 7 = true → ps_is r1 7 = true → uJ m t s → ps_At (d + 3) 112 10 [(0, .ref r0), (1, .ref r1), (2, .int x2)] [] s Q) (fun x2 ih s h0 h1 J => pg_112_10 (d := d + 2) (ps_nk_i h0 (And.intro (fun f1 => (k s J)) (fun f1 => (ps_nk_i h0 (xs_110 h0 (J).1 (fun v1 g1 => (ps_nk_i h1 (xs_110 h1 (J).1 (fun v2 g2 => (ps_nk_i g1 (us_95 g1 g2 J (fun s3 J3 => (ps_nk_i h0 (ps_nk_i h1 (xs_182 (xk_7_2 h1) (J3).1 (fun v4 => (us_183 (xk_7_2 h0) J3 (fun s5 J5 e5 => (ps_nk_i h0 (ps_nk_i h1 (xs_182 (xk_7_3 h1) (J5).1 (fun v6 => (us_183 (xk_7_3 h0) J5 (fun s7 J7 e7 => (ps_nk_i h0 (ps_nk_i h1 (xs_182 (xk_7_4 h1) (J7).1 (fun v8 => (us_183 (xk_7_4 h0) J7 (fun s9 J9 e9 => (ih ((x2 + 1)) (xs_lt f1) s9 h0 h1 J9)))))))))))))))))))))))))))))))) x2 s h0 h1 J

theorem us_112 {m s : ps_S} {t : Int32} {d : Nat} {r0 : Nat} {r1 : Nat} {f : ps_S → Prop} (h0 : ps_is r0 7 = true) (h1 : ps_is r1 7 = true) (J : uJ m t s) (k : ∀ (s' : ps_S), uJ m t s' → f s') : ps_Cl (d + 3) 112 [.ref r0, .ref r1] s (ps_rV f) :=
  pg_112_0 (d := d + 2) (ps_nk_i h1 (ps_nk_i h0 (us_112_10 (d := d) (r0 := r0) (r1 := r1) (x2 := 0)  h0 h1 (uw_i (c := 7) (by decide) h0 J) k )))

theorem us_153 {m s : ps_S} {t : Int32} {d : Nat} {f : Int32 → ps_S → Prop} (J : uJ m t s) (k : ∀ (v : Int32) (s' : ps_S), uJ m 0 s' → f v s') : ps_Cl (d + 40) 153 [.ref 0] s (ps_rI f) :=
  pg_153_0 (d := d + 39) (us_59 (rfl : ps_is 902 3 = true) (xq_a (r := 1) (t := 1) rfl rfl) (xj_11_2 (J).1 (rfl : ps_is 0 11 = true)) (xj_11_5 (J).1 (rfl : ps_is 0 11 = true)) J (fun v1 s1 b1 J1 => (And.intro (fun f1 => (ps_nk_i (xj_11_4 ((uw_rq (by decide) (xw_11_5 (rfl : ps_is 0 11 = true) (xj_11_4 ((uw_tape J1)).1 (rfl : ps_is 0 11 = true)) ((uw_rq (by decide) (xw_11_4 (rfl : ps_is 0 11 = true) (xj_11_5 ((uw_tape J1)).1 (rfl : ps_is 0 11 = true)) ((uw_tape J1)).1) (uw_tape J1))).1) (uw_rq (by decide) (xw_11_4 (rfl : ps_is 0 11 = true) (xj_11_5 ((uw_tape J1)).1 (rfl : ps_is 0 11 = true)) ((uw_tape J1)).1) (uw_tape J1)))).1 (rfl : ps_is 0 11 = true)) (us_34 (xj_11_4 ((uw_rq (by decide) (xw_11_5 (rfl : ps_is 0 11 = true) (xj_11_4 ((uw_tape J1)).1 (rfl : ps_is 0 11 = true)) ((uw_rq (by decide) (xw_11_4 (rfl : ps_is 0 11 = true) (xj_11_5 ((uw_tape J1)).1 (rfl : ps_is 0 11 = true)) ((uw_tape J1)).1) (uw_tape J1))).1) (uw_rq (by decide) (xw_11_4 (rfl : ps_is 0 11 = true) (xj_11_5 ((uw_tape J1)).1 (rfl : ps_is 0 11 = true)) ((uw_tape J1)).1) (uw_tape J1)))).1 (rfl : ps_is 0 11 = true)) (xj_11_2 ((uw_rq (by decide) (xw_11_5 (rfl : ps_is 0 11 = true) (xj_11_4 ((uw_tape J1)).1 (rfl : ps_is 0 11 = true)) ((uw_rq (by decide) (xw_11_4 (rfl : ps_is 0 11 = true) (xj_11_5 ((uw_tape J1)).1 (rfl : ps_is 0 11 = true)) ((uw_tape J1)).1) (uw_tape J1))).1) (uw_rq (by decide) (xw_11_4 (rfl : ps_is 0 11 = true) (xj_11_5 ((uw_tape J1)).1 (rfl : ps_is 0 11 = true)) ((uw_tape J1)).1) (uw_tape J1)))).1 (rfl : ps_is 0 11 = true)) (rfl : ps_is 870 7 = true) (uw_rq (by decide) (xw_11_5 (rfl : ps_is 0 11 = true) (xj_11_4 ((uw_tape J1)).1 (rfl : ps_is 0 11 = true)) ((uw_rq (by decide) (xw_11_4 (rfl : ps_is 0 11 = true) (xj_11_5 ((uw_tape J1)).1 (rfl : ps_is 0 11 = true)) ((uw_tape J1)).1) (uw_tape J1))).1) (uw_rq (by decide) (xw_11_4 (rfl : ps_is 0 11 = true) (xj_11_5 ((uw_tape J1)).1 (rfl : ps_is 0 11 = true)) ((uw_tape J1)).1) (uw_tape J1))) (fun s2 J2 => (ps_nk_i (xj_11_4 (J2).1 (rfl : ps_is 0 11 = true)) (k (ps_i s2 (ps_r s2 0 4) 8) s2 J2)))))) (fun f1 => (k (-1) (ps_ui s1 0 1 0) (uw_tape J1))))))

theorem us_158 {m s : ps_S} {t : Int32} {d : Nat} {f : Int32 → ps_S → Prop} (J : uJ m t s) (k : ∀ (v : Int32) (s' : ps_S), uJ m t s' → f v s') : ps_Cl (d + 4) 158 [.ref 0] s (ps_rI f) :=
  pg_158_0 (d := d + 3) (ps_nk_i (xj_11_4 (J).1 (rfl : ps_is 0 11 = true)) (And.intro (fun f1 => (k (-1) s J)) (fun f1 => (ps_nk_i (xj_11_4 (J).1 (rfl : ps_is 0 11 = true)) (And.intro (fun f2 => (ps_nk_i (xj_11_4 (J).1 (rfl : ps_is 0 11 = true)) (ps_nk_i (xj_11_4 (J).1 (rfl : ps_is 0 11 = true)) (xs_33 (xj_11_4 (J).1 (rfl : ps_is 0 11 = true)) (J).1 (fun v1 g1 => (ps_nk_i g1 (And.intro (fun f3 => (k (-1) s J)) (fun f3 => (ps_nk_i g1 (ps_nk_i (xk_8_6 g1) (xs_101 (xk_8_6 g1) (J).1 (fun v2 b2 => (And.intro (fun f4 => (us_111 (rfl : ps_is 870 7 = true) g1 J (fun v3 s3 J3 => (k v3 s3 J3)))) (fun f4 => (k (-1) s J))))))))))))))) (fun f2 => (k (-1) s J)))))))

theorem us_161 {m s : ps_S} {t : Int32} {d : Nat} {f : Int32 → ps_S → Prop} (J : uJ m t s) (k : ∀ (v : Int32) (s' : ps_S), uJ m t s' → f v s') : ps_Cl (d + 1) 161 [.ref 0] s (ps_rI f) :=
  pg_161_0 (d := d) (And.intro (fun f1 => (ps_nk_i (xj_11_4 ((uw_i (c := 7) (by decide) (rfl : ps_is 870 7 = true) J)).1 (rfl : ps_is 0 11 = true)) (us_31 (xj_11_4 ((uw_i (c := 7) (by decide) (rfl : ps_is 870 7 = true) J)).1 (rfl : ps_is 0 11 = true)) (uw_i (c := 7) (by decide) (rfl : ps_is 870 7 = true) J) (fun s1 J1 => (k (ps_i s1 870 5) s1 J1))))) (fun f1 => (k (-1) s J)))

theorem us_162 {m s : ps_S} {t : Int32} {d : Nat} {f : Int32 → ps_S → Prop} (J : uJ m t s) (k : ∀ (v : Int32) (s' : ps_S), uJ m 0 s' → f v s') : ps_Cl (d + 39) 162 [.ref 0] s (ps_rI f) :=
  pg_162_0 (d := d + 38) (us_60 (rfl : ps_is 902 3 = true) (xq_a (r := 1) (t := 1) rfl rfl) (xj_11_2 (J).1 (rfl : ps_is 0 11 = true)) (rfl : ps_is 934 5 = true) J (fun v1 s1 b1 J1 => (And.intro (fun f1 => (k (ps_i (ps_ui s1 0 1 0) 934 1) (ps_ui s1 0 1 0) (uw_tape J1))) (fun f1 => (us_91 (rfl : ps_is 934 5 = true) (uw_tape J1) (fun s2 J2 => (k (-1) s2 J2)))))))

theorem us_166 {m s : ps_S} {t : Int32} {d : Nat} {f : Int32 → ps_S → Prop} (J : uJ m t s) (k : ∀ (v : Int32) (s' : ps_S), uJ m t s' → f v s') : ps_Cl (d + 4) 166 [.ref 0] s (ps_rI f) :=
  pg_166_0 (d := d + 3) (And.intro (fun f1 => (us_21 (rfl : ps_is 936 1 = true) (rfl : ps_is 934 5 = true) (xj_11_2 (J).1 (rfl : ps_is 0 11 = true)) J (fun s1 J1 => (k (ps_i s1 936 4) s1 J1)))) (fun f1 => (k (-1) s J)))

theorem us_167 {m s : ps_S} {t : Int32} {d : Nat} {f : Int32 → ps_S → Prop} (J : uJ m t s) (k : ∀ (v : Int32) (s' : ps_S), uJ m t s' → f v s') : ps_Cl (d + 4) 167 [.ref 0] s (ps_rI f) :=
  pg_167_0 (d := d + 3) (And.intro (fun f1 => (us_21 (rfl : ps_is 936 1 = true) (rfl : ps_is 934 5 = true) (xj_11_2 (J).1 (rfl : ps_is 0 11 = true)) J (fun s1 J1 => (And.intro (fun f2 => (us_23 (rfl : ps_is 936 1 = true) J1 (fun v2 s2 J2 => (k v2 s2 J2)))) (fun f2 => (k (-2) s1 J1)))))) (fun f1 => (k (-1) s J)))

theorem us_168 {m s : ps_S} {t : Int32} {d : Nat} {f : Int32 → ps_S → Prop} (J : uJ m t s) (k : ∀ (v : Int32) (s' : ps_S), uJ m t s' → f v s') : ps_Cl (d + 4) 168 [.ref 0] s (ps_rI f) :=
  pg_168_0 (d := d + 3) (And.intro (fun f1 => (us_21 (rfl : ps_is 936 1 = true) (rfl : ps_is 934 5 = true) (xj_11_2 (J).1 (rfl : ps_is 0 11 = true)) J (fun s1 J1 => (And.intro (fun f2 => (us_24 (rfl : ps_is 936 1 = true) J1 (fun v2 s2 J2 => (k v2 s2 J2)))) (fun f2 => (k (-2) s1 J1)))))) (fun f1 => (k (-1) s J)))

theorem us_169 {m s : ps_S} {t : Int32} {d : Nat} {f : Int32 → ps_S → Prop} (J : uJ m t s) (k : ∀ (v : Int32) (s' : ps_S), uJ m 0 s' → f v s') : ps_Cl (d + 39) 169 [.ref 0] s (ps_rI f) :=
  pg_169_0 (d := d + 38) (us_60 (rfl : ps_is 902 3 = true) (xq_a (r := 1) (t := 1) rfl rfl) (xj_11_2 (J).1 (rfl : ps_is 0 11 = true)) (rfl : ps_is 1022 5 = true) J (fun v1 s1 b1 J1 => (And.intro (fun f1 => (us_85 (rfl : ps_is 1021 4 = true) (xj_11_2 ((uw_tape J1)).1 (rfl : ps_is 0 11 = true)) (uw_tape J1) (fun v2 s2 J2 => (k v2 s2 J2)))) (fun f1 => (us_81 (rfl : ps_is 1021 4 = true) (uw_tape J1) (fun s3 J3 => (k (-1) s3 J3)))))))

theorem us_171 {m s : ps_S} {t : Int32} {d : Nat} {f : Int32 → ps_S → Prop} (J : uJ m t s) (k : ∀ (v : Int32) (s' : ps_S), uJ m t s' → f v s') : ps_Cl (d + 4) 171 [.ref 0] s (ps_rI f) :=
  pg_171_0 (d := d + 3) (us_82 (rfl : ps_is 1021 4 = true) (xj_11_2 (J).1 (rfl : ps_is 0 11 = true)) J (fun v1 s1 J1 => (k v1 s1 J1)))

theorem us_172 {m s : ps_S} {t : Int32} {d : Nat} {x1 : Int32} {f : Int32 → ps_S → Prop} (J : uJ m t s) (k : ∀ (v : Int32) (s' : ps_S), uJ m t s' → f v s') : ps_Cl (d + 4) 172 [.ref 0, .int x1] s (ps_rI f) :=
  pg_172_0 (d := d + 3) (xs_181  (J).1 (fun v1 b1 => (And.intro (fun f1 => (k (-1) s J)) (fun f1 => (us_2 (rfl : ps_is 944 0 = true) (xj_11_2 (J).1 (rfl : ps_is 0 11 = true)) J (fun v2 s2 J2 => (k v2 s2 J2)))))))

theorem us_173 {m s : ps_S} {t : Int32} {d : Nat} {x1 : Int32} {f : Int32 → ps_S → Prop} (J : uJ m t s) (k : ∀ (v : Int32) (s' : ps_S), uJ m t s' → f v s') : ps_Cl (d + 40) 173 [.ref 0, .int x1] s (ps_rI f) :=
  pg_173_0 (d := d + 39) (xs_181  (J).1 (fun v1 b1 => (And.intro (fun f1 => (k (-1) s J)) (fun f1 => (us_3 (rfl : ps_is 944 0 = true) (xj_11_2 (J).1 (rfl : ps_is 0 11 = true)) J (fun v2 s2 J2 => (k v2 s2 J2)))))))

theorem us_174 {m s : ps_S} {t : Int32} {d : Nat} {x1 : Int32} {x2 : Int32} {f : Int32 → ps_S → Prop} (J : uJ m t s) (k : ∀ (v : Int32) (s' : ps_S), uJ m t s' → f v s') : ps_Cl (d + 39) 174 [.ref 0, .int x1, .int x2] s (ps_rI f) :=
  pg_174_0 (d := d + 38) (xs_181  (J).1 (fun v1 b1 => (And.intro (fun f1 => (k (-1) s J)) (fun f1 => (And.intro (fun f2 => (k (-1) s J)) (fun f2 => (And.intro (fun f3 => (us_4 (rfl : ps_is 944 0 = true) (xj_11_2 (J).1 (rfl : ps_is 0 11 = true)) (rfl : ps_is 934 5 = true) J (fun v2 s2 J2 => (k v2 s2 J2)))) (fun f3 => (k (-1) s J)))))))))

theorem us_175 {m s : ps_S} {t : Int32} {d : Nat} {x1 : Int32} {f : Int32 → ps_S → Prop} (J : uJ m t s) (k : ∀ (v : Int32) (s' : ps_S), uJ m t s' → f v s') : ps_Cl (d + 40) 175 [.ref 0, .int x1] s (ps_rI f) :=
  pg_175_0 (d := d + 39) (xs_181  (J).1 (fun v1 b1 => (And.intro (fun f1 => (k (-1) s J)) (fun f1 => (And.intro (fun f2 => (us_5 (rfl : ps_is 944 0 = true) (xj_11_2 (J).1 (rfl : ps_is 0 11 = true)) (rfl : ps_is 934 5 = true) J (fun v2 s2 J2 => (k v2 s2 J2)))) (fun f2 => (k (-1) s J)))))))

theorem us_176 {m s : ps_S} {t : Int32} {d : Nat} {x1 : Int32} {f : Int32 → ps_S → Prop} (J : uJ m t s) (k : ∀ (v : Int32) (s' : ps_S), uJ m t s' → f v s') : ps_Cl (d + 4) 176 [.ref 0, .int x1] s (ps_rI f) :=
  pg_176_0 (d := d + 3) (And.intro (fun f1 => (k (-1) s J)) (fun f1 => (And.intro (fun f2 => (xs_180  (J).1 (fun v1 g1 => (ps_nk_i g1 (us_112 g1 (rfl : ps_is 870 7 = true) J (fun s2 J2 => (xs_180  (J2).1 (fun v3 g3 => (ps_nk_i g3 (k (ps_i (ps_ui s2 v3 6 1) 870 5) (ps_ui s2 v3 6 1) (uw_i (c := 7) (by decide) g3 J2))))))))))) (fun f2 => (k (-1) s J)))))

theorem us_177 {m s : ps_S} {t : Int32} {d : Nat} {x1 : Int32} {f : Int32 → ps_S → Prop} (J : uJ m t s) (k : ∀ (v : Int32) (s' : ps_S), uJ m t s' → f v s') : ps_Cl (d + 4) 177 [.ref 0, .int x1] s (ps_rI f) :=
  pg_177_0 (d := d + 3) (And.intro (fun f1 => (k (-1) s J)) (fun f1 => (And.intro (fun f2 => (k (-1) s J)) (fun f2 => (xs_180  (J).1 (fun v1 g1 => (ps_nk_i g1 (And.intro (fun f3 => (xs_180  (J).1 (fun v2 g2 => (us_112 (rfl : ps_is 870 7 = true) g2 J (fun s3 J3 => (ps_nk_i (xj_11_4 (J3).1 (rfl : ps_is 0 11 = true)) (us_31 (xj_11_4 (J3).1 (rfl : ps_is 0 11 = true)) J3 (fun s4 J4 => (k (ps_i s4 870 5) s4 J4))))))))) (fun f3 => (k (-1) s J))))))))))
end
section
set_option maxRecDepth 100000
/-! piece() of the reference -/
-- ProofBenchModel.isIn(III)Z
theorem pl_200_0 {n : Nat} {x0 : Int32} {x1 : Int32} {x2 : Int32} {s : ps_S} {Q : Option Value → ps_S → Prop} (h :
  (x0 < x1 →
    Q (some (.int 0)) s) ∧
  (x1 ≤ x0 →
    (x2 < x0 →
      Q (some (.int 0)) s) ∧
    (x0 ≤ x2 →
      Q (some (.int 1)) s))) : pl_At (n + 1) 200 0 [(0, .int x0), (1, .int x1), (2, .int x2)] [] s Q :=
  pl_wp_at (stops := []) (f := 15) h rfl

-- ProofBenchModel.pieceAt(II)I
theorem pl_220_0 {n : Nat} {x1 : Int32} {x2 : Int32} {s : ps_S} {Q : Option Value → ps_S → Prop} (h :
  (pm_in ((x1 + 1) + x2) 27400 = true →
    Q (some (.int (ps_a s 1134 (Int32.toNatClampNeg ((x1 + 1) + x2))))) s)) : pl_At (n + 1) 220 0 [(0, .ref 1131), (1, .int x1), (2, .int x2)] [] s Q :=
  pl_wp_at (stops := []) (f := 11) h rfl

theorem fm_200 {n : Nat} {x0 x1 x2 : Int32} {s : ps_S} {R : Int32 → ps_S → Prop} (k1 : x1.toInt ≤ x0.toInt → x0.toInt ≤ x2.toInt → R 1 s) (k0 : ¬ (x1.toInt ≤ x0.toInt ∧ x0.toInt ≤ x2.toInt) → R 0 s) : pl_Cl n 200 [.int x0, .int x1, .int x2] s (ps_rI R) := by
  cases n with
  | zero => exact pl_At_0
  | succ n =>
  show pl_At (n + 1) 200 0 [(0, .int x0), (1, .int x1), (2, .int x2)] [] s (ps_rI R)
  refine pl_200_0 ?_
  refine ⟨fun h2 => ?_, fun h2 => ?_⟩
  · have h2 : x0.toInt < x1.toInt := xlt h2
    exact k0 (by omega)
  · have h2 : x1.toInt ≤ x0.toInt := xle h2
    refine ⟨fun h7 => ?_, fun h7 => ?_⟩
    · have h7 : x2.toInt < x0.toInt := xlt h7
      exact k0 (by omega)
    · have h7 : x0.toInt ≤ x2.toInt := xle h7
      exact k1 (by omega) (by omega)
theorem fm_220 {n j : Nat} {x1 x2 : Int32} {s : ps_S} {R : Int32 → ps_S → Prop} (hj : ((x1 + 1) + x2).toInt = j) (k : R (ps_a s 1134 j) s) : pl_Cl n 220 [.ref 1131, .int x1, .int x2] s (ps_rI R) := by
  cases n with
  | zero => exact pl_At_0
  | succ n =>
  show pl_At (n + 1) 220 0 [(0, .ref 1131), (1, .int x1), (2, .int x2)] [] s (ps_rI R)
  refine pl_220_0 ?_
  intro b9
  obtain ⟨b9, c9⟩ := pl_in b9
  rw [xtn hj]
  exact k
theorem fm_264 {n to : Nat} {x1 x2 : Int32} {s : ps_S} {l : List Nat} {R : Int32 → ps_S → Prop} (hx : x1.toInt = to) (ht : to < 27400) (hW : mv_W s to l) (k : ∀ v : Int32, pc_is l x2 v → R v s) : pl_Cl n 264 [.ref 1131, .int x1, .int x2] s (ps_rI R) := by
  cases n with
  | zero => exact pl_At_0
  | succ n =>
  show pl_At (n + 1) 264 0 [(0, .ref 1131), (1, .int x1), (2, .int x2)] [] s (ps_rI R)
  obtain ⟨w1, w2, w3⟩ := hW
  have c1 : (1 : Int32).toInt = 1 := by decide
  have c0 : (0 : Int32).toInt = 0 := by decide
  have e1 : ((ps_a s 1134 to) - 1).toInt = (l.length : Int) - 1 := by rw [xIs (by omega) (by omega)]; omega
  refine pl_264_0 ?_
  refine fm_219 hx ?_
  refine fm_200 (fun h1 h2 => ⟨fun z => absurd z (by decide), fun _ => ?_⟩) (fun h => ⟨fun _ => k _ ⟨fun c a b => ?_, fun _ => by decide⟩, fun z => absurd rfl z⟩)
  · have hj : ((x1 + 1) + x2).toInt = (to + 1 + x2.toInt.toNat : Nat) := by
      have a1 : (x1 + 1).toInt = to + 1 := by rw [xIa (by omega) (by omega)]; omega
      rw [xIa (by omega) (by omega)]
      omega
    refine fm_220 hj ?_
    exact k _ ⟨fun c _ hc => w3 _ c hc, fun z => by omega⟩
  · have hl := (List.getElem?_eq_some_iff.mp b).1
    omega
theorem fm_275 {n : Nat} {x1 : Int32} {s : ps_S} {l : List Nat} {R : Int32 → ps_S → Prop} (hW : mv_W s 25748 l) (k : ∀ v : Int32, pc_is l x1 v → R v s) : pl_Cl n 275 [.ref 1131, .int x1] s (ps_rI R) := by
  cases n with
  | zero => exact pl_At_0
  | succ n =>
  show pl_At (n + 1) 275 0 [(0, .ref 1131), (1, .int x1)] [] s (ps_rI R)
  refine pl_275_0 ?_
  exact fm_264 (to := 25748) (by decide) (by decide) hW (fun v z => k v z)
end
section
set_option maxRecDepth 100000
/-! between two calls: both sides hold one theory and one formula -/
def LG (s : ps_S) : Prop := ∃ (h : tx_H) (l : List Nat) (b : Nat), b < 2 ∧ (ps_i s 1131 21).toInt = b ∧ cv_H s (ps_r s 0 2) h ∧ mv_H s b h ∧ ((ps_r s 0 2 = 2 ∧ ps_r s 0 3 = 26) ∨ (ps_r s 0 2 = 26 ∧ ps_r s 0 3 = 2)) ∧ cv_W s 934 l ∧ mv_W s 25748 l
theorem mv_W_V {s s' : ps_S} {to : Nat} {l : List Nat} (h : mv_W s to l) (hV : ∀ k, to ≤ k → k < to + 41 → ps_a s' 1134 k = ps_a s 1134 k) : mv_W s' to l := by
  obtain ⟨h1, h2, h3⟩ := h
  refine ⟨by rw [hV to (by omega) (by omega)]; exact h1, h2, fun k c hk => ?_⟩
  have hl := (List.getElem?_eq_some_iff.mp hk).1
  rw [hV (to + 1 + k) (by omega) (by omega)]
  exact h3 k c hk
theorem mv_H_V {s s' : ps_S} {b : Nat} {h : tx_H} (hb : b < 2) (H : mv_H s b h) (ha : ∀ r, r ∈ [1135, 1136, 1137, 1138, 1139] → ps_a s' r = ps_a s r) (hbb : ∀ r, r ∈ [1140, 1141, 1142] → ps_b s' r = ps_b s r) (hV : ∀ k, 21812 ≤ k → k < 22468 → ps_a s' 1134 k = ps_a s 1134 k) : mv_H s' b h := by
  obtain ⟨⟨e1, e2, e3, e4, e5, e6⟩, f2, f3, f4⟩ := H
  refine ⟨⟨by rw [ha 1135 (by decide)]; exact e1, by rw [ha 1136 (by decide)]; exact e2, e3, e4, fun k w a hk => ?_, fun k w a hk => ?_⟩, by rw [ha 1137 (by decide)]; exact f2, f3, fun k w l hk => ?_⟩
  · obtain ⟨y1, y2, y3, y4⟩ := e5 k w a hk
    exact ⟨y1, y2, by rw [hbb 1140 (by decide)]; exact y3, by rw [ha 1138 (by decide)]; exact y4⟩
  · obtain ⟨y1, y2, y3, y4⟩ := e6 k w a hk
    exact ⟨y1, y2, by rw [hbb 1141 (by decide)]; exact y3, by rw [ha 1139 (by decide)]; exact y4⟩
  · obtain ⟨y1, y2, y3⟩ := f4 k w l hk
    have hl := (List.getElem?_eq_some_iff.mp hk).1
    exact ⟨y1, by rw [hbb 1142 (by decide)]; exact y2, mv_W_V y3 (fun j h1 h2 => hV j (by omega) (by omega))⟩
theorem LG_mk {s s' : ps_S} {C : Nat → Prop} (H : LG s) (F : cfr C s s') (hC : ∀ q, (1 ≤ q ∧ q < 50) ∨ q = 934 ∨ q = 935 → ¬ C q) (r2 : ps_r s' 0 2 = ps_r s 0 2) (r3 : ps_r s' 0 3 = ps_r s 0 3) (h21 : ps_i s' 1131 21 = ps_i s 1131 21) (ha : ∀ r, r ∈ [1135, 1136, 1137, 1138, 1139] → ps_a s' r = ps_a s r) (hbb : ∀ r, r ∈ [1140, 1141, 1142] → ps_b s' r = ps_b s r) (hV : ∀ k, (21812 ≤ k ∧ k < 22468) ∨ (25748 ≤ k ∧ k < 25789) → ps_a s' 1134 k = ps_a s 1134 k) : LG s' := by
  obtain ⟨h, l, b, hb, h1, h2, h3, h4, h5, h6⟩ := H
  refine ⟨h, l, b, hb, by rw [h21]; exact h1, ?_, mv_H_V hb h3 ha hbb (fun k a b => hV k (Or.inl ⟨a, b⟩)), by rw [r2, r3]; exact h4, cv_W_cfr h5 F (hC _ (by omega)) (hC _ (by omega)), mv_W_V h6 (fun k a b => hV k (Or.inr ⟨by omega, by omega⟩))⟩
  rw [r2]
  have hl := h2.2.2.1
  exact cv_H_cfr h2 F (fun q a b => hC q (Or.inl (by omega)))
/-- a call of the class -/
theorem LG_x {s s' : ps_S} {t : Int32} {C : Nat → Prop} (H : LG s) (J : xJ s t s') (F : cfr C s s') (hC : ∀ q, (1 ≤ q ∧ q < 50) ∨ q = 934 ∨ q = 935 → ¬ C q) (r2 : ps_r s' 0 2 = ps_r s 0 2) (r3 : ps_r s' 0 3 = ps_r s 0 3) : LG s' := by
  have E : ∀ r, 1131 ≤ r → ps_i s' r = ps_i s r ∧ ps_j s' r = ps_j s r ∧ ps_a s' r = ps_a s r ∧ ps_b s' r = ps_b s r := J.2.2
  refine LG_mk H F hC r2 r3 (by rw [(E 1131 (by decide)).1]) (fun r hr => (E r ?_).2.2.1) (fun r hr => (E r ?_).2.2.2) (fun k _ => by rw [(E 1134 (by decide)).2.2.1])
  · exact (show ∀ r, r ∈ [1135, 1136, 1137, 1138, 1139] → 1131 ≤ r by decide) r hr
  · exact (show ∀ r, r ∈ [1140, 1141, 1142] → 1131 ≤ r by decide) r hr
/-- a call of the reference -/
theorem LG_m {s s' : ps_S} {t : Int32} {A F : List Nat} (H : LG s) (J : mJ s.1.2.2 t s') (K : kp A F s s') (hA : A.all (fun a => Nat.ble 1131 a && ![1135, 1136, 1137, 1138, 1139, 1140, 1141, 1142].contains a) = true) (hF : F.contains 21 = false) (hV : ∀ k, (21812 ≤ k ∧ k < 22468) ∨ (25748 ≤ k ∧ k < 25789) → ps_a s' 1134 k = ps_a s 1134 k) : LG s' := by
  have hr : ps_r s' = ps_r s := J.1
  rw [List.all_eq_true] at hA
  have hn : ∀ r, r < 1131 ∨ r ∈ [1135, 1136, 1137, 1138, 1139, 1140, 1141, 1142] → A.contains r = false := fun r hr => by
    cases e : A.contains r with
    | false => rfl
    | true =>
      have z := hA r (List.contains_iff_mem.mp e)
      rw [Bool.and_eq_true] at z
      rcases hr with hr | hr
      · have := Nat.le_of_ble_eq_true z.1
        omega
      · rw [List.contains_iff_mem.mpr hr] at z
        exact absurd z.2 (by decide)
  have Fr : cfr (fun q => 1131 ≤ q) s s' := fun q hq => by
    have hq : q < 1131 := by omega
    exact ⟨fun f => (K.1 q f (fun z => by omega)).1, fun f => (K.1 q f (fun z => by omega)).2, fun f => by rw [hr], (K.2 q (hn q (Or.inl hq))).1, (K.2 q (hn q (Or.inl hq))).2⟩
  refine LG_mk H Fr (fun q hq z => by omega) (by rw [hr]) (by rw [hr]) (kp_i K 21 hF) (fun r h => (K.2 r (hn r (Or.inr ?_))).1) (fun r h => (K.2 r (hn r (Or.inr ?_))).2) hV
  · exact (show ∀ r, r ∈ [1135, 1136, 1137, 1138, 1139] → r ∈ [1135, 1136, 1137, 1138, 1139, 1140, 1141, 1142] by decide) r h
  · exact (show ∀ r, r ∈ [1140, 1141, 1142] → r ∈ [1135, 1136, 1137, 1138, 1139, 1140, 1141, 1142] by decide) r h
/-- the pool untouched -/
theorem LG_p {s s' : ps_S} {A F : List Nat} (K : kp A F s s') (a : A.contains 1134 = false) : ∀ k, (21812 ≤ k ∧ k < 22468) ∨ (25748 ≤ k ∧ k < 25789) → ps_a s' 1134 k = ps_a s 1134 k := fun k _ => by rw [(K.2 1134 a).1]
theorem s1_LG : LG ps_s1 := by
  have e2 : ps_r ps_s1 0 2 = 2 := by decide +kernel
  have e3 : ps_r ps_s1 0 3 = 26 := by decide +kernel
  have hb : cv_base ps_s1 2 := s1_LF.2.2.1
  refine ⟨(([], []), []), [], (ps_i ps_s1 1131 21).toInt.toNat, by decide +kernel, by decide +kernel, ?_, ?_, Or.inl ⟨e2, e3⟩, ?_, ?_⟩
  · rw [e2]
    exact ⟨⟨by decide +kernel, by decide +kernel, Nat.zero_le _, Nat.zero_le _, (fun k w a hk => by cases hk), (fun k w a hk => by cases hk), hb, (fun w m1 _ => by cases m1)⟩, by decide +kernel, Nat.zero_le _, (fun k w l hk => by cases hk)⟩
  · exact ⟨⟨by decide +kernel, by decide +kernel, Nat.zero_le _, Nat.zero_le _, (fun k w a hk => by cases hk), (fun k w a hk => by cases hk)⟩, by decide +kernel, Nat.zero_le _, (fun k w l hk => by cases hk)⟩
  · exact ⟨by decide +kernel, by decide +kernel, Nat.zero_le _, (fun k c hk => by cases hk)⟩
  · exact ⟨by decide +kernel, Nat.zero_le _, (fun k c hk => by cases hk)⟩
end
section
set_option maxRecDepth 100000
/-! one world, two states that it holds: what is said of the one holds of the other -/
theorem det_i {w : pm_W} {s s' : ps_S} (h : ps_R w s) (h' : ps_R w s') {r c n q : Nat} (hr : r < 1179) (hk : ps_K r = (1, c, n)) (hq : q < (pm_Ts c).length) (ht : (pm_Ts c).getD q .int = .int ∨ (pm_Ts c).getD q .int = .boolean) : ps_i s r q = ps_i s' r q := by
  have e := ps_det_f h h' hr hk hq
  unfold ps_fv at e
  rcases ht with ht | ht <;> rw [ht] at e <;> exact Value.int.inj e
theorem cv_W_det {w : pm_W} {s s' : ps_S} (h : ps_R w s) (h' : ps_R w s') {r n : Nat} {l : List Nat} (hr : r + 1 < 1179) (hk : ps_K r = (1, 5, n)) (ha : ps_K (r + 1) = (0, 0, 40)) (W : cv_W s r l) : cv_W s' r l := by
  obtain ⟨w1, w2, w3, w4⟩ := W
  refine ⟨by rw [← det_i h h' (q := 1) (by omega) hk (by decide) (Or.inl rfl)]; exact w1, by rw [← det_i h h' (q := 2) (by omega) hk (by decide) (Or.inr rfl)]; exact w2, w3, fun k c hc => ?_⟩
  have hl := (List.getElem?_eq_some_iff.mp hc).1
  rw [← ps_det_a h h' (r := r + 1) (t := 0) (n := 40) (i := k) hr ha (by decide) (by omega)]
  exact w4 k c hc
theorem mv_W_det {w : pm_W} {s s' : ps_S} (h : ps_R w s) (h' : ps_R w s') {to : Nat} {l : List Nat} (ht : to + 41 ≤ 27400) (W : mv_W s to l) : mv_W s' to l :=
  ⟨by rw [← ps_det_a h h' (r := 1134) (t := 0) (n := 27400) (i := to) (by decide) rfl (by decide) (by omega)]; exact W.1, W.2.1, fun k c hc => by
    have hl := (List.getElem?_eq_some_iff.mp hc).1
    have h2 := W.2.1
    rw [← ps_det_a h h' (r := 1134) (t := 0) (n := 27400) (i := to + 1 + k) (by decide) rfl (by decide) (by omega)]
    exact W.2.2 k c hc⟩
theorem mv_H_det {w : pm_W} {s s' : ps_S} (h : ps_R w s) (h' : ps_R w s') {b : Nat} {g : tx_H} (hb : b < 2) (H : mv_H s b g) : mv_H s' b g := by
  obtain ⟨⟨e1, e2, e3, e4, e5, e6⟩, f2, f3, f4⟩ := H
  refine ⟨⟨?_, ?_, e3, e4, fun k w a hk => ?_, fun k w a hk => ?_⟩, ?_, f3, fun k w l hk => ?_⟩
  · rw [← ps_det_a h h' (r := 1135) (t := 0) (n := 2) (by decide) rfl (by decide) hb]; exact e1
  · rw [← ps_det_a h h' (r := 1136) (t := 0) (n := 2) (by decide) rfl (by decide) hb]; exact e2
  · have hl := (List.getElem?_eq_some_iff.mp hk).1
    obtain ⟨y1, y2, y3, y4⟩ := e5 k w a hk
    exact ⟨y1, y2, by rw [← ps_det_b h h' (r := 1140) (n := 12) (by decide) rfl (by omega)]; exact y3, by rw [← ps_det_a h h' (r := 1138) (t := 0) (n := 12) (by decide) rfl (by decide) (by omega)]; exact y4⟩
  · have hl := (List.getElem?_eq_some_iff.mp hk).1
    obtain ⟨y1, y2, y3, y4⟩ := e6 k w a hk
    exact ⟨y1, y2, by rw [← ps_det_b h h' (r := 1141) (n := 8) (by decide) rfl (by omega)]; exact y3, by rw [← ps_det_a h h' (r := 1139) (t := 0) (n := 8) (by decide) rfl (by decide) (by omega)]; exact y4⟩
  · rw [← ps_det_a h h' (r := 1137) (t := 0) (n := 2) (by decide) rfl (by decide) hb]; exact f2
  · have hl := (List.getElem?_eq_some_iff.mp hk).1
    obtain ⟨y1, y2, y3⟩ := f4 k w l hk
    exact ⟨y1, by rw [← ps_det_b h h' (r := 1142) (n := 16) (by decide) rfl (by omega)]; exact y2, mv_W_det h h' (by omega) y3⟩
theorem th_R {k : Nat} (hk : k < 8) : (ps_K (2 + 8 + 2 * k) = (1, 5, 0) ∧ ps_K (2 + 8 + 2 * k + 1) = (0, 0, 40)) ∧ ps_K (26 + 8 + 2 * k) = (1, 5, 0) ∧ ps_K (26 + 8 + 2 * k + 1) = (0, 0, 40) := by
  rcases (show k = 0 ∨ k = 1 ∨ k = 2 ∨ k = 3 ∨ k = 4 ∨ k = 5 ∨ k = 6 ∨ k = 7 by omega) with rfl | rfl | rfl | rfl | rfl | rfl | rfl | rfl <;> exact ⟨⟨rfl, rfl⟩, rfl, rfl⟩
theorem th_K {th k : Nat} (hth : th = 2 ∨ th = 26) (hk : k < 8) : ps_K th = (1, 9, 0) ∧ ps_K (th + 1) = (0, 3, 6) ∧ ps_K (th + 2) = (0, 3, 4) ∧ ps_K (th + 3) = (0, 3, 8) ∧ ps_K (th + 4) = (0, 0, 40) ∧ ps_K (th + 8 + 2 * k) = (1, 5, 0) ∧ ps_K (th + 8 + 2 * k + 1) = (0, 0, 40) := by
  rcases hth with rfl | rfl
  · exact ⟨rfl, rfl, rfl, rfl, rfl, (th_R hk).1.1, (th_R hk).1.2⟩
  · exact ⟨rfl, rfl, rfl, rfl, rfl, (th_R hk).2.1, (th_R hk).2.2⟩
theorem cv_H_det {w : pm_W} {s s' : ps_S} (h : ps_R w s) (h' : ps_R w s') {th : Nat} {g : tx_H} (hth : th = 2 ∨ th = 26) (H : cv_H s th g) : cv_H s' th g := by
  obtain ⟨⟨e1, e2, e3, e4, e5, e6, e7, e8⟩, f2, f3, f4⟩ := H
  have K := th_K hth (k := 0) (by decide)
  have ar : ∀ i, i < 40 → ps_a s' (th + 4) i = ps_a s (th + 4) i := fun i hi => (ps_det_a h h' (r := th + 4) (t := 0) (n := 40) (by omega) K.2.2.2.2.1 (by decide) hi).symm
  refine ⟨⟨?_, ?_, e3, e4, fun k w a hk => ?_, fun k w a hk => ?_, ?_, e8⟩, ?_, f3, fun k w l hk => ?_⟩
  · rw [← det_i h h' (q := 6) (by omega) K.1 (by decide) (Or.inl rfl)]; exact e1
  · rw [← det_i h h' (q := 7) (by omega) K.1 (by decide) (Or.inl rfl)]; exact e2
  · have hl := (List.getElem?_eq_some_iff.mp hk).1
    obtain ⟨y1, y2, y3, y4⟩ := e5 k w a hk
    exact ⟨y1, y2, by rw [← ps_det_b h h' (by omega) K.2.1 (by omega)]; exact y3, by rw [ar _ (by omega)]; exact y4⟩
  · have hl := (List.getElem?_eq_some_iff.mp hk).1
    obtain ⟨y1, y2, y3, y4⟩ := e6 k w a hk
    exact ⟨y1, y2, by rw [← ps_det_b h h' (by omega) K.2.2.1 (by omega)]; exact y3, by rw [ar _ (by omega)]; exact y4⟩
  · rw [ar 0 (by decide), ar 1 (by decide), ar 2 (by decide), ar 3 (by decide), ar 4 (by decide), ar 5 (by decide), ar 6 (by decide)]
    exact e7
  · rw [← det_i h h' (q := 8) (by omega) K.1 (by decide) (Or.inl rfl)]; exact f2
  · have hl := (List.getElem?_eq_some_iff.mp hk).1
    obtain ⟨y1, y2, y3⟩ := f4 k w l hk
    have Kk := th_K hth (k := k) (by omega)
    exact ⟨y1, by rw [← ps_det_b h h' (by omega) K.2.2.2.1 (by omega)]; exact y2, cv_W_det h h' (by omega) Kk.2.2.2.2.2.1 Kk.2.2.2.2.2.2 y3⟩
end
section
set_option maxRecDepth 100000
/-! theory() once more: what both sides hold behind it -/
def TRc (s : ps_S) (h : tx_H) (l : List Nat) : Prop := cv_H s (ps_r s 0 2) h ∧ ((ps_r s 0 2 = 2 ∧ ps_r s 0 3 = 26) ∨ (ps_r s 0 2 = 26 ∧ ps_r s 0 3 = 2)) ∧ cv_W s 934 l
def KT (s : ps_S) (t : Int32) (v : Int32) (s1 : ps_S) : Prop := (∃ (h : tx_H) (p : Nat), gt_go (tx_ln (TT s) t.toInt.toNat) (0, (([], []), []), 0, 0) (3, h, p, 0) ∧ v.toInt = h.2.length ∧ TRc s1 h []) ∨ ((∃ (h : tx_H) (pl k : Nat), gt_go (tx_ln (TT s) t.toInt.toNat) (0, (([], []), []), 0, 0) (4, h, pl, k) ∧ v.toInt = -1) ∧ ∀ h l, TRc s h l → TRc s1 h l)
theorem KT_x {s : ps_S} {t : Int32} (hI : LI s t) (hF : LF s t) (hG : LG s) (n : Nat) : pl_Cl n 151 [.ref 0] s (ps_rI (fun v s1 => KT s t v s1)) := by
  have ht := LI_t hI
  have e : ps_i s 0 1 = t := hI.2.1.2.1
  obtain ⟨h0, l0, b0, -, -, -, -, hr, -, -⟩ := hG
  rcases hr with ⟨r2, r3⟩ | ⟨r2, r3⟩
  · refine fs_151s (th := 26) (th2 := 2) (Or.inr rfl) r3 r2 hF.2.2.2.1 (by rw [e]; omega) (by omega) (fun k _ => bytes_T) hF.2.1 (fun v s' h p g hv H r W _ => Or.inl ⟨h, p, g, hv, ?_⟩) (fun s' h p k g _ _ F r => Or.inr ⟨⟨h, p, k, g, by decide⟩, fun h1 l1 z => ?_⟩)
    · exact ⟨by rw [r.1]; exact H, Or.inr r, W⟩
    · obtain ⟨z1, z2, z3⟩ := z
      rw [r2] at z1
      refine ⟨by rw [r.1]; exact cv_H_cfr z1 F (fun q a b c => by have := z1.2.2.1; unfold cv_HC at c; omega), Or.inl r, cv_W_cfr z3 F (fun c => by unfold cv_HC at c; omega) (fun c => by unfold cv_HC at c; omega)⟩
  · refine fs_151s (th := 2) (th2 := 26) (Or.inl rfl) r3 r2 hF.2.2.1 (by rw [e]; omega) (by omega) (fun k _ => bytes_T) hF.2.1 (fun v s' h p g hv H r W _ => Or.inl ⟨h, p, g, hv, ?_⟩) (fun s' h p k g _ _ F r => Or.inr ⟨⟨h, p, k, g, by decide⟩, fun h1 l1 z => ?_⟩)
    · exact ⟨by rw [r.1]; exact H, Or.inl r, W⟩
    · obtain ⟨z1, z2, z3⟩ := z
      rw [r2] at z1
      refine ⟨by rw [r.1]; exact cv_H_cfr z1 F (fun q a b c => by have := z1.2.2.1; unfold cv_HC at c; omega), Or.inr r, cv_W_cfr z3 F (fun c => by unfold cv_HC at c; omega) (fun c => by unfold cv_HC at c; omega)⟩
theorem TRc_det {w : pm_W} {s s' : ps_S} {h : tx_H} {l : List Nat} (R : ps_R w s) (R' : ps_R w s') (H : TRc s h l) : TRc s' h l := by
  obtain ⟨z1, z2, z3⟩ := H
  have f2 : ps_r s 0 2 = ps_r s' 0 2 := Value.ref.inj (ps_det_f R R' (r := 0) (c := 11) (q := 2) (by decide) rfl (by decide))
  have f3 : ps_r s 0 3 = ps_r s' 0 3 := Value.ref.inj (ps_det_f R R' (r := 0) (c := 11) (q := 3) (by decide) rfl (by decide))
  have hth : ps_r s 0 2 = 2 ∨ ps_r s 0 2 = 26 := by omega
  refine ⟨by rw [← f2]; exact cv_H_det R R' hth z1, by rw [← f2, ← f3]; exact z2, cv_W_det R R' (by decide) rfl rfl z3⟩
/-- the reference's part -/
def TRm (s : ps_S) (h : tx_H) (l : List Nat) : Prop := ∃ b : Nat, b < 2 ∧ (ps_i s 1131 21).toInt = b ∧ mv_H s b h ∧ mv_W s 25748 l
theorem LG_of {s : ps_S} {h : tx_H} {l : List Nat} (c : TRc s h l) (m : TRm s h l) : LG s := by
  obtain ⟨c1, c2, c3⟩ := c
  obtain ⟨b, m1, m2, m3, m4⟩ := m
  exact ⟨h, l, b, m1, m2, c1, m3, c2, c3, m4⟩
theorem LG_to {s : ps_S} (g : LG s) : ∃ h l, TRc s h l ∧ TRm s h l := by
  obtain ⟨h, l, b, m1, m2, c1, m3, c2, c3, m4⟩ := g
  exact ⟨h, l, ⟨c1, c2, c3⟩, b, m1, m2, m3, m4⟩
theorem TRm_det {w : pm_W} {s s' : ps_S} {h : tx_H} {l : List Nat} (R : ps_R w s) (R' : ps_R w s') (H : TRm s h l) : TRm s' h l := by
  obtain ⟨b, m1, m2, m3, m4⟩ := H
  exact ⟨b, m1, by rw [← det_i R R' (r := 1131) (c := 12) (q := 21) (by decide) rfl (by decide) (Or.inl rfl)]; exact m2, mv_H_det R R' m1 m3, mv_W_det R R' (by decide) m4⟩
end
section
set_option maxRecDepth 100000
/-! theory() of the reference: what it leaves of the pool behind the axioms -/
def mt_fs (b : Nat) (s s' : ps_S) : Prop := mt_fr b s s' ∧ ∀ i, 22468 ≤ i → ps_a s' 1134 i = ps_a s 1134 i
def mt_fo (b : Nat) (s s' : ps_S) : Prop := mt_fr b s s' ∧ ∀ i, 22468 ≤ i → i ≠ 25748 → i ≠ 25789 → ps_a s' 1134 i = ps_a s 1134 i
def mt_okx (b : Nat) (T : Nat → Nat) (N : Nat) (s s' : ps_S) (v : Int32) : Prop := mt_ok b T N s s' v ∧ ∀ i, 22468 ≤ i → i ≠ 25748 → i ≠ 25789 → ps_a s' 1134 i = ps_a s 1134 i
def mt_badx (b : Nat) (T : Nat → Nat) (N : Nat) (s s' : ps_S) (v : Int32) : Prop := mt_bad b T N s s' v ∧ ∀ i, 22468 ≤ i → ps_a s' 1134 i = ps_a s 1134 i
theorem mt_fs_bk {rb b : Nat} {s s1 s2 : ps_S} (hrb : rb < 2) (hb : b < 2) (hne : b ≠ rb) (F : mt_fs b s s1) (B : mv_bk rb s1 s2) : mt_fs b s s2 := ⟨mt_fr_bk hrb hb hne F.1 B, fun i hi => (B.2.2.2.2.2 i (by omega)).trans (F.2 i hi)⟩

theorem fm_201x_65b {b : Nat} {s0 : ps_S} {T : Nat → Nat} {N : Nat} {R : Int32 → ps_S → Prop} (hb : b < 2) (k1 : ∀ v s', mt_okx b T N s0 s' v → R v s') (k0 : ∀ v s', mt_badx b T N s0 s' v → R v s') {n : Nat} {s : ps_S} {h : tx_H} {pl kk : Nat} (g : gt_go (tx_ln T N) (0, (([], []), []), 0, 0) (4, h, pl, kk)) (hk : kk ≠ 0) (h5 : (ps_i s 1131 5).toInt = kk) (h6 : (ps_i s 1131 6).toInt = pl) (h21 : (ps_i s 1131 21).toInt = b) (F : mt_fs b s0 s) : pl_At n 201 65 [(0, .ref 1131)] [] s (ps_rI R) := by
  cases n with
  | zero => exact pl_At_0
  | succ n =>
  refine pl_201_65 ?_
  exact fm_192 (fun z => by omega) (fun _ => ⟨fun z => absurd rfl z, fun _ => k0 _ _ ⟨⟨h, pl, kk, g, rfl, hk, h5, h6, h21, F.1⟩, F.2⟩⟩)
theorem fm_201x_44b {b : Nat} {s0 : ps_S} {T : Nat → Nat} {N : Nat} {R : Int32 → ps_S → Prop} (hb : b < 2) (k1 : ∀ v s', mt_okx b T N s0 s' v → R v s') (k0 : ∀ v s', mt_badx b T N s0 s' v → R v s') {n : Nat} {s : ps_S} {h : tx_H} {pl kk : Nat} (g : gt_go (tx_ln T N) (0, (([], []), []), 0, 0) (4, h, pl, kk)) (hk : kk ≠ 0) (h5 : (ps_i s 1131 5).toInt = kk) (h6 : (ps_i s 1131 6).toInt = pl) (h21 : (ps_i s 1131 21).toInt = b) (F : mt_fs b s0 s) : pl_At n 201 44 [(0, .ref 1131)] [] s (ps_rI R) := by
  cases n with
  | zero => exact pl_At_0
  | succ n =>
  refine pl_201_44 ?_
  exact fm_192 (fun z => by omega) (fun _ => ⟨fun _ => fm_201x_65b hb k1 k0 g hk h5 h6 h21 F, fun z => absurd rfl z⟩)
theorem fm_201x_88 {b : Nat} {s0 : ps_S} {T : Nat → Nat} {N : Nat} {R : Int32 → ps_S → Prop} (hb : b < 2) (k1 : ∀ v s', mt_okx b T N s0 s' v → R v s') (k0 : ∀ v s', mt_badx b T N s0 s' v → R v s') {h : tx_H} {p : Nat} (g : gt_go (tx_ln T N) (0, (([], []), []), 0, 0) (3, h, p, 0)) : ∀ (n : Nat) {s : ps_S} {x1 : Int32} {i : Nat}, x1.toInt = i → i ≤ 3 → mv_H s (1 - b) h → (ps_i s 1131 21).toInt = (1 - b : Nat) → mv_G s → mt_fo b s0 s → ((ps_i s 1131 47).toInt = 0 ∧ (ps_i s 1131 48).toInt = -1 ∧ (ps_i s 1131 49).toInt = -1 ∧ (ps_i s 1131 54).toInt = 0 ∧ ps_a s 1134 25748 = 0 ∧ ps_a s 1134 25789 = 0 ∧ ∀ j, j < i → ps_a s 1176 j = -1) → pl_At n 201 88 [(0, .ref 1131), (1, .int x1)] [] s (ps_rI R)
  | 0, _, _, _, _, _, _, _, _, _, _ => pl_At_0
  | n + 1, s, x1, i, hx, hi, H, h21, hG, F, ⟨c1, c2, c3, c4, c5, c6, c7⟩ => by
    refine pl_201_88 ?_
    refine ⟨fun h90 => ?_, fun h90 => ?_⟩
    · have h90 : (3 : Int) ≤ x1.toInt := xle h90
      intro b114
      obtain ⟨b114, c114⟩ := pl_in b114
      rw [xtn h21]
      exact k1 _ _ ⟨⟨h, p, g, H.2.1, H, h21, hG, F.1, c1, c2, c3, c4, c5, c6, fun j hj => c7 j (by omega)⟩, F.2⟩
    · have h90 : x1.toInt < (3 : Int) := xlt h90
      intro b99
      obtain ⟨b99, c99⟩ := pl_in b99
      rw [xtn hx]
      have K : kq [1176] [] s (ps_ua s 1176 i (-1)) := kqa kq_refl rfl
      refine fm_201x_88 hb k1 k0 g n (xj1 hx (by omega)) (by omega) (mv_H_kq H K (by decide)) h21 hG ⟨⟨kqt F.1.1 K (by decide) (by decide), fun hb' z => mv_H_kq (F.1.2.1 hb' z) K (by decide), F.1.2.2⟩, fun i a b c => by rw [kq_a K 1134 (by decide)]; exact F.2 i a b c⟩ ⟨c1, c2, c3, c4, c5, c6, fun j hj => ?_⟩
      rw [ps_a_ua]
      by_cases e : j = i
      · rw [if_pos ⟨rfl, e⟩]
      · rw [if_neg (fun z => e z.2)]
        exact c7 j (by omega)
theorem fm_201x_65 {b : Nat} {s0 : ps_S} {T : Nat → Nat} {N : Nat} {R : Int32 → ps_S → Prop} (hb : b < 2) (k1 : ∀ v s', mt_okx b T N s0 s' v → R v s') (k0 : ∀ v s', mt_badx b T N s0 s' v → R v s') {n : Nat} {s : ps_S} {h : tx_H} {p : Nat} (g : gt_go (tx_ln T N) (0, (([], []), []), 0, 0) (3, h, p, 0)) (L : mv_L s (1 - b) T N h p) (F : mt_fs b s0 s) : pl_At n 201 65 [(0, .ref 1131)] [] s (ps_rI R) := by
  cases n with
  | zero => exact pl_At_0
  | succ n =>
  obtain ⟨hrb, h22, hT, hH, hp, hK, h23, hG⟩ := id L
  refine pl_201_65 ?_
  refine fm_192 (fun _ => ⟨fun _ => ?_, fun z => absurd z (by decide)⟩) (fun z => absurd hG.1 z)
  refine fm_202 ?_
  have K1 : kq [] [21, 47, 48, 49, 54] s (ps_ui (ps_ui (ps_ui (ps_ui (ps_ui s 1131 21 (ps_i s 1131 22)) 1131 47 0) 1131 48 (-1)) 1131 49 (-1)) 1131 54 0) := kqi (kqi (kqi (kqi (kqi kq_refl rfl) rfl) rfl) rfl) rfl
  generalize hq : (ps_ui (ps_ui (ps_ui (ps_ui (ps_ui s 1131 21 (ps_i s 1131 22)) 1131 47 0) 1131 48 (-1)) 1131 49 (-1)) 1131 54 0) = s1 at K1 ⊢
  have K2 : kq [1134] [] s1 (ps_ua (ps_ua s1 1134 25748 0) 1134 25789 0) := kqa (kqa kq_refl rfl) rfl
  have P2 : ∀ i, i < 25748 → ps_a (ps_ua (ps_ua s1 1134 25748 0) 1134 25789 0) 1134 i = ps_a s1 1134 i := fun i hi => by rw [ps_a_ua, if_neg (by omega), ps_a_ua, if_neg (by omega)]
  have HH : ∀ (c : Nat) (h' : tx_H), c < 2 → mv_H s1 c h' → mv_H (ps_ua (ps_ua s1 1134 25748 0) 1134 25789 0) c h' := fun c h' hc H => by
    obtain ⟨f1, f2, f3, f4⟩ := H
    refine ⟨mv_E_kq f1 K2 (by decide), by rw [kq_a K2 1137 (by decide)]; exact f2, f3, fun k w l hk => ?_⟩
    obtain ⟨y1, y2, y3, y4, y5⟩ := f4 k w l hk
    have hl := (List.getElem?_eq_some_iff.mp hk).1
    refine ⟨y1, y2, by rw [P2 _ (by omega)]; exact y3, y4, fun q c hq => ?_⟩
    have hq2 := (List.getElem?_eq_some_iff.mp hq).1
    rw [P2 _ (by omega)]
    exact y5 q c hq
  refine fm_201x_88 hb k1 k0 g n (i := 0) rfl (Nat.zero_le _) (HH _ _ hrb (mv_H_kq hH K1 (by decide))) (by rw [kq_i K2 21 (by decide), ← hq]; exact h22) (mv_G_kq (mv_G_kq hG K1 (by decide) (by decide)) K2 (by decide) (by decide)) ⟨⟨kqt (kqt F.1.1 K1 (by decide) (by decide)) K2 (by decide) (by decide), fun hb' z => HH b hb' hb (mv_H_kq (F.1.2.1 hb' z) K1 (by decide)), by rw [kq_i K2 3 (by decide), kq_i K1 3 (by decide)]; exact F.1.2.2⟩, fun i a b c => by rw [ps_a_ua, if_neg (by omega), ps_a_ua, if_neg (by omega), kq_a K1 1134 (by decide)]; exact F.2 i a⟩ ⟨?_, ?_, ?_, ?_, ?_, ?_, fun j hj => absurd hj (Nat.not_lt_zero _)⟩
  · rw [kq_i K2 47 (by decide), ← hq]; rfl
  · rw [kq_i K2 48 (by decide), ← hq]; rfl
  · rw [kq_i K2 49 (by decide), ← hq]; rfl
  · rw [kq_i K2 54 (by decide), ← hq]; rfl
  · rw [ps_a_ua, if_neg (by decide), ps_a_ua, if_pos ⟨rfl, rfl⟩]
  · rw [ps_a_ua, if_pos ⟨rfl, rfl⟩]
theorem fm_201x_44 {b : Nat} {s0 : ps_S} {T : Nat → Nat} {N : Nat} {R : Int32 → ps_S → Prop} (hb : b < 2) (k1 : ∀ v s', mt_okx b T N s0 s' v → R v s') (k0 : ∀ v s', mt_badx b T N s0 s' v → R v s') : ∀ (n : Nat) {s : ps_S} {h : tx_H} {p : Nat}, gt_go (tx_ln T N) (0, (([], []), []), 0, 0) (0, h, p, 0) → mv_L s (1 - b) T N h p → (ps_i s 1131 21).toInt = b → mt_fs b s0 s → pl_At n 201 44 [(0, .ref 1131)] [] s (ps_rI R)
  | 0, _, _, _, _, _, _, _ => pl_At_0
  | n + 1, s, h, p, g, L, h21, F => by
    obtain ⟨hrb, h22, hT, hH, hp, hK, h23, hG⟩ := id L
    have h9 := hK.1
    have hne : b ≠ 1 - b := by omega
    refine pl_201_44 ?_
    refine fm_192 (fun q45 => ?_) (fun q45 => ?_)
    · refine ⟨fun h48 => ?_, fun h48 => ?_⟩
      · exact absurd h48 (by decide)
      · refine ⟨fun h55 => ?_, fun h55 => ?_⟩
        · have h55 : (ps_i s 1131 9).toInt = (0 : Int) := xeq h55
          exact fm_201x_65 hb k1 k0 (gt_trans g (gt_one (tx_l_end (by omega)))) L F
        · have h55 : (ps_i s 1131 9).toInt ≠ (0 : Int) := xne h55
          refine fm_204u L (by omega) (fun s59 q59 => ?_)
          rcases q59 with ⟨h2, p2, e, L2, B⟩ | ⟨h2, pl, kk, e, e1, e2, e3, B⟩
          · exact fm_201x_44 hb k1 k0 n (gt_trans g (gt_one e)) L2 (by rw [kq_i B.1 21 (by decide)]; exact h21) (mt_fs_bk hrb hb hne F B)
          · exact fm_201x_44b hb k1 k0 (gt_trans g (gt_one e)) e1 e2 e3 (by rw [kq_i B.1 21 (by decide)]; exact h21) (mt_fs_bk hrb hb hne F B)
    · refine ⟨fun h48 => ?_, fun h48 => ?_⟩
      · exact absurd hG.1 q45
      · exact absurd h48 (by decide)
theorem fm_201x {n b : Nat} {s : ps_S} {T : Nat → Nat} {N : Nat} {R : Int32 → ps_S → Prop} (hb : b < 2) (h21 : (ps_i s 1131 21).toInt = b) (h3 : (ps_i s 1131 3).toInt = N) (hN : N ≤ 1600) (hT : ∀ k, k < N → (ps_a s 1132 k &&& 255).toInt = T k) (k1 : ∀ v s', mt_okx b T N s s' v → R v s') (k0 : ∀ v s', mt_badx b T N s s' v → R v s') : pl_Cl n 201 [.ref 1131] s (ps_rI R) := by
  cases n with
  | zero => exact pl_At_0
  | succ n =>
  show pl_At (n + 1) 201 0 [(0, .ref 1131)] [] s (ps_rI R)
  refine pl_201_0 ?_
  refine fm_198 h21 h3 hN hT (fun s1 q1 => ?_)
  intro b23
  obtain ⟨b23, c23⟩ := pl_in b23
  intro b33
  obtain ⟨b33, c33⟩ := pl_in b33
  intro b43
  obtain ⟨b43, c43⟩ := pl_in b43
  have c1 : (1 : Int32).toInt = 1 := by decide
  obtain ⟨K1, t1, t2, t3, t4, t5, t6⟩ := q1
  have j21 : (ps_i s1 1131 21).toInt = b := by rw [kq_i K1 21 (by decide)]; exact h21
  have e22 : ((1 : Int32) - (ps_i s1 1131 21)).toInt = (1 - b : Nat) := by rw [xIs (by omega) (by omega)]; omega
  show pl_At _ 201 44 [(0, .ref 1131)] [] (ps_ua (ps_ua (ps_ua (ps_ui s1 1131 22 ((1 : Int32) - (ps_i s1 1131 21))) 1135 (Int32.toNatClampNeg ((1 : Int32) - (ps_i s1 1131 21))) 0) 1136 (Int32.toNatClampNeg ((1 : Int32) - (ps_i s1 1131 21))) 0) 1137 (Int32.toNatClampNeg ((1 : Int32) - (ps_i s1 1131 21))) 0) _
  rw [xtn e22]
  generalize ((1 : Int32) - (ps_i s1 1131 21)) = v22 at e22 ⊢
  have K2 : kq [] [22] s1 (ps_ui s1 1131 22 v22) := kqi kq_refl rfl
  have B2 : mv_bk (1 - b) (ps_ui s1 1131 22 v22) (ps_ua (ps_ua (ps_ua (ps_ui s1 1131 22 v22) 1135 (1 - b) 0) 1136 (1 - b) 0) 1137 (1 - b) 0) := mv_bk_tr (mv_bk_tr (mv_bk_a (Or.inl ⟨rfl, rfl⟩)) (mv_bk_a (Or.inr (Or.inl ⟨rfl, rfl⟩)))) (mv_bk_a (Or.inr (Or.inr (Or.inl ⟨rfl, rfl⟩))))
  have F1 : mt_fs b s (ps_ui s1 1131 22 v22) := ⟨⟨kqt (kqt kq_refl K1 (by decide) (by decide)) K2 (by decide) (by decide), fun hb' z => mv_H_kq (mv_H_kq z K1 (by decide)) K2 (by decide), t6⟩, fun i _ => by rw [kq_a K2 1134 (by decide), kq_a K1 1134 (by decide)]⟩
  have K3 : kq [1135, 1136, 1137] [] (ps_ui s1 1131 22 v22) (ps_ua (ps_ua (ps_ua (ps_ui s1 1131 22 v22) 1135 (1 - b) 0) 1136 (1 - b) 0) 1137 (1 - b) 0) := kqa (kqa (kqa kq_refl rfl) rfl) rfl
  have K4 := kqt (A := [1135, 1136, 1137]) (F := [22]) (kqt kq_refl K2 (by decide) (by decide)) K3 (by decide) (by decide)
  exact fm_201x_44 hb k1 k0 n gt_refl ⟨by omega, e22, mv_T_kq t1 K4 (by decide) (by decide), mv_H_nil, Nat.zero_le _, mv_K_kq t2 K4 (by decide), t4, mv_G_kq t3 K4 (by decide) (by decide)⟩ j21 (mt_fs_bk (by omega) hb (by omega) F1 B2)
end
section
set_option maxRecDepth 100000
/-! ends that are joined; what a call of the class leaves -/
theorem pm_T_det {X : Option (Nat × (Nat → Int32))} {d y pc : Nat} {L : pm_L} {st : List Value} {w : pm_W} {r r' : Option Value × pm_W} (h : pm_T X d y pc L st w r) (h' : pm_T X d y pc L st w r') : r = r' := by
  obtain ⟨n, h⟩ := h
  obtain ⟨k, h'⟩ := h'
  have a := pm_run_X (X := X) (Y := X) (Or.inr rfl) n k d y pc L st w r h
  have b := pm_run_X (X := X) (Y := X) (Or.inr rfl) k n d y pc L st w r' h'
  rw [Nat.add_comm] at b
  rw [a] at b
  exact Option.some.inj b
theorem ps_and2 {d y : Nat} {args : List Value} {s : ps_S} {P P2 : Option Value → ps_S → Prop} (h : ps_Cl d y args s P) (h2 : ps_Cl d y args s P2) (hd : ∀ (o : Option Value) (w : pm_W) (s1 s2 : ps_S), ps_R w s1 → ps_R w s2 → P2 o s2 → P2 o s1) : ps_Cl d y args s (fun o s' => P o s' ∧ P2 o s') := by
  intro w Lp hw hL
  obtain ⟨o, w', h1, s', r1, p1⟩ := h w Lp hw hL
  obtain ⟨o2, w2, g1, s2, r2, p2⟩ := h2 w Lp hw hL
  have e := pm_T_det h1 g1
  cases e
  exact ⟨o, w', h1, s', r1, p1, hd o w' s' s2 r1 r2 p2⟩
theorem ps_andl {d y : Nat} {args : List Value} {s : ps_S} {P P2 : Option Value → ps_S → Prop} (h : ps_Cl d y args s P) (h2 : ∀ n, pl_Cl n y args s P2) (hd : ∀ (o : Option Value) (w : pm_W) (s1 s2 : ps_S), ps_R w s1 → ps_R w s2 → P2 o s2 → P2 o s1) : ps_Cl d y args s (fun o s' => P o s' ∧ P2 o s') := by
  intro w Lp hw hL
  obtain ⟨o, w', h1, s', r1, p1⟩ := h w Lp hw hL
  obtain ⟨n, h1'⟩ := id h1
  obtain ⟨s2, r2, p2⟩ := h2 (n + 1) n d w Lp o w' (Nat.lt_succ_self n) hw hL h1'
  exact ⟨o, w', h1, s', r1, p1, hd o w' s' s2 r1 r2 p2⟩
theorem rI_and {f g : Int32 → ps_S → Prop} {o : Option Value} {s : ps_S} (h : ps_rI f o s) (h' : ps_rI g o s) : ps_rI (fun v s => f v s ∧ g v s) o s := by
  obtain ⟨v, rfl, p⟩ := l2_int h
  exact ⟨p, h'⟩
theorem rI_mono {f g : Int32 → ps_S → Prop} {o : Option Value} {s : ps_S} (h : ps_rI f o s) (k : ∀ v, f v s → g v s) : ps_rI g o s := by
  obtain ⟨v, rfl, p⟩ := l2_int h
  exact k v p
theorem rJ_mono {f g : Int64 → ps_S → Prop} {o : Option Value} {s : ps_S} (h : ps_rJ f o s) (k : ∀ v, f v s → g v s) : ps_rJ g o s := by
  obtain ⟨v, rfl, p⟩ := l2_lng h
  exact k v p
def pdet (g : Int32 → ps_S → Prop) : Prop := ∀ (v : Int32) (w : pm_W) (s1 s2 : ps_S), ps_R w s1 → ps_R w s2 → g v s2 → g v s1
theorem pdet_I {g : Int32 → ps_S → Prop} (h : pdet g) (o : Option Value) (w : pm_W) (s1 s2 : ps_S) (r1 : ps_R w s1) (r2 : ps_R w s2) (p : ps_rI g o s2) : ps_rI g o s1 := by
  obtain ⟨v, rfl, p⟩ := l2_int p
  exact h v w s1 s2 r1 r2 p
theorem ps_and2I {d y : Nat} {args : List Value} {s : ps_S} {f g : Int32 → ps_S → Prop} (h : ps_Cl d y args s (ps_rI f)) (h2 : ps_Cl d y args s (ps_rI g)) (hd : pdet g) : ps_Cl d y args s (ps_rI (fun v s' => f v s' ∧ g v s')) := (ps_and2 h h2 (pdet_I hd)).mono (fun _ _ z => rI_and z.1 z.2)
theorem ps_andlI {d y : Nat} {args : List Value} {s : ps_S} {f g : Int32 → ps_S → Prop} (h : ps_Cl d y args s (ps_rI f)) (h2 : ∀ n, pl_Cl n y args s (ps_rI g)) (hd : pdet g) : ps_Cl d y args s (ps_rI (fun v s' => f v s' ∧ g v s')) := (ps_andl h h2 (pdet_I hd)).mono (fun _ _ z => rI_and z.1 z.2)
theorem ps_monoI {d y : Nat} {args : List Value} {s : ps_S} {f g : Int32 → ps_S → Prop} (h : ps_Cl d y args s (ps_rI f)) (k : ∀ v s', f v s' → g v s') : ps_Cl d y args s (ps_rI g) := h.mono (fun _ s' z => rI_mono z (fun v p => k v s' p))
theorem pdet_v {P : Int32 → Prop} : pdet (fun v _ => P v) := fun _ _ _ _ _ _ h => h
theorem pdet_and {f g : Int32 → ps_S → Prop} (h : pdet f) (h' : pdet g) : pdet (fun v s => f v s ∧ g v s) := fun v w s1 s2 r1 r2 z => ⟨h v w s1 s2 r1 r2 z.1, h' v w s1 s2 r1 r2 z.2⟩
/-- the two theories' references stand -/
def RR (s s' : ps_S) : Prop := ps_r s' 0 2 = ps_r s 0 2 ∧ ps_r s' 0 3 = ps_r s 0 3
theorem det_r0 {w : pm_W} {s s' : ps_S} (h : ps_R w s) (h' : ps_R w s') {q : Nat} (hq : q < (pm_Ts 11).length) (ht : (pm_Ts 11).getD q .int ≠ .int ∧ (pm_Ts 11).getD q .int ≠ .long ∧ (pm_Ts 11).getD q .int ≠ .boolean ∧ (pm_Ts 11).getD q .int ≠ .byte) (hf : ps_fin 11 q = false) (ho : ∃ c, (pm_Ts 11).getD q .int = .object c) : ps_r s 0 q = ps_r s' 0 q := by
  have e := ps_det_f h h' (r := 0) (c := 11) (q := q) (by decide) rfl hq
  obtain ⟨c, hc⟩ := ho
  unfold ps_fv at e
  rw [hc, hf] at e
  exact Value.ref.inj e
theorem RR_det {s : ps_S} : pdet (fun _ s' => RR s s') := fun _ w s1 s2 r1 r2 z => by
  have f2 : ps_r s1 0 2 = ps_r s2 0 2 := Value.ref.inj (ps_det_f r1 r2 (r := 0) (c := 11) (q := 2) (by decide) rfl (by decide))
  have f3 : ps_r s1 0 3 = ps_r s2 0 3 := Value.ref.inj (ps_det_f r1 r2 (r := 0) (c := 11) (q := 3) (by decide) rfl (by decide))
  exact ⟨f2.trans z.1, f3.trans z.2⟩
/-- the class's key words stand -/
def KW (s s' : ps_S) : Prop := ∀ k, k < 28 → ps_b s' 904 k = ps_b s 904 k
theorem KW_det {s : ps_S} : pdet (fun _ s' => KW s s') := fun _ w s1 s2 r1 r2 z k hk => (ps_det_b r1 r2 (r := 904) (n := 28) (by decide) rfl hk).trans (z k hk)
def XK (t : Int32) (C : Nat → Prop) (s s' : ps_S) : Prop := xJ s t s' ∧ cfr C s s' ∧ RR s s' ∧ KW s s'
def kkp (a : Nat) : Nat → Bool
  | 0 => true
  | n + 1 => (!ps_is (a + n) 2 || (Nat.beq 50 (a + n) || Nat.beq 460 (a + n))) && (!ps_is (a + n) 7 || (Nat.beq 870 (a + n) || (Nat.beq 1038 (a + n) || (Nat.beq 1069 (a + n) || Nat.beq 1100 (a + n))))) && kkp a n
theorem kkp_ok {a : Nat} : ∀ {n : Nat}, kkp a n = true → ∀ r, a ≤ r → r < a + n → (ps_is r 2 = true → 50 = r ∨ 460 = r) ∧ (ps_is r 7 = true → 870 = r ∨ 1038 = r ∨ 1069 = r ∨ 1100 = r)
  | 0, _, r, h1, h2 => by omega
  | n + 1, h, r, h1, h2 => by
    unfold kkp at h
    rw [Bool.and_eq_true, Bool.and_eq_true] at h
    by_cases e : r = a + n
    · obtain ⟨⟨g1, g2⟩, -⟩ := h
      rw [← e] at g1 g2
      refine ⟨fun z => ?_, fun z => ?_⟩
      · rw [z, Bool.or_eq_true, Bool.or_eq_true] at g1
        rcases g1 with g1 | g1 | g1
        · cases g1
        · exact Or.inl (Nat.eq_of_beq_eq_true g1)
        · exact Or.inr (Nat.eq_of_beq_eq_true g1)
      · rw [z, Bool.or_eq_true, Bool.or_eq_true, Bool.or_eq_true, Bool.or_eq_true] at g2
        rcases g2 with g2 | g2 | g2 | g2 | g2
        · cases g2
        · exact Or.inl (Nat.eq_of_beq_eq_true g2)
        · exact Or.inr (Or.inl (Nat.eq_of_beq_eq_true g2))
        · exact Or.inr (Or.inr (Or.inl (Nat.eq_of_beq_eq_true g2)))
        · exact Or.inr (Or.inr (Or.inr (Nat.eq_of_beq_eq_true g2)))
    · exact kkp_ok h.2 r h1 (by omega)
set_option maxRecDepth 1000000
theorem kkp_0 : kkp 0 150 = true := by decide +kernel
theorem kkp_150 : kkp 150 150 = true := by decide +kernel
theorem kkp_300 : kkp 300 150 = true := by decide +kernel
theorem kkp_450 : kkp 450 150 = true := by decide +kernel
theorem kkp_600 : kkp 600 150 = true := by decide +kernel
theorem kkp_750 : kkp 750 150 = true := by decide +kernel
theorem kkp_900 : kkp 900 150 = true := by decide +kernel
theorem kkp_1050 : kkp 1050 81 = true := by decide +kernel
set_option maxRecDepth 100000
theorem kkp_is {r : Nat} (hr : r < 1131) : (ps_is r 2 = true → 50 = r ∨ 460 = r) ∧ (ps_is r 7 = true → 870 = r ∨ 1038 = r ∨ 1069 = r ∨ 1100 = r) := by
  by_cases h150 : r < 150
  · exact kkp_ok kkp_0 r (by omega) (by omega)
  by_cases h300 : r < 300
  · exact kkp_ok kkp_150 r (by omega) (by omega)
  by_cases h450 : r < 450
  · exact kkp_ok kkp_300 r (by omega) (by omega)
  by_cases h600 : r < 600
  · exact kkp_ok kkp_450 r (by omega) (by omega)
  by_cases h750 : r < 750
  · exact kkp_ok kkp_600 r (by omega) (by omega)
  by_cases h900 : r < 900
  · exact kkp_ok kkp_750 r (by omega) (by omega)
  by_cases h1050 : r < 1050
  · exact kkp_ok kkp_900 r (by omega) (by omega)
  exact kkp_ok kkp_1050 r (by omega) (by omega)
def C153 (q : Nat) : Prop := q = 0 ∨ (50 ≤ q ∧ q < 870) ∨ (902 ≤ q ∧ q < 933)
def C158 (q : Nat) : Prop := 870 ≤ q ∧ q < 901
def C161 (q : Nat) : Prop := q = 0 ∨ (50 ≤ q ∧ q < 870) ∨ (870 ≤ q ∧ q < 901)
def C162 (q : Nat) : Prop := q = 0 ∨ (902 ≤ q ∧ q < 933) ∨ (934 ≤ q ∧ q < 936)
def C166 (q : Nat) : Prop := 936 ≤ q ∧ q < 944
def C169 (q : Nat) : Prop := q = 0 ∨ (902 ≤ q ∧ q < 933) ∨ (1021 ≤ q ∧ q < 1038)
def C171 (q : Nat) : Prop := 1021 ≤ q ∧ q < 1038
def C172 (q : Nat) : Prop := 944 ≤ q ∧ q < 1021
def C176 (q : Nat) : Prop := q = 0 ∨ (870 ≤ q ∧ q < 901) ∨ (1038 ≤ q ∧ q < 1131)
theorem zP {C : Nat → Prop} (h : ∀ q, 50 ≤ q → q < 870 → C q) (r : Nat) (hr : ps_is r 2 = true) : zI C r 2 := ⟨hr, fun q a b => by
  have hz : zsz 2 = 410 := rfl
  rw [hz] at b
  rcases (kkp_is (xis_lt (by decide) hr)).1 hr with e | e <;> exact h q (by omega) (by omega)⟩
theorem zS {C : Nat → Prop} (h : ∀ q, (870 ≤ q ∧ q < 901) ∨ (1038 ≤ q ∧ q < 1131) → C q) (r : Nat) (hr : ps_is r 7 = true) : zI C r 7 := ⟨hr, fun q a b => by
  have hz : zsz 7 = 31 := rfl
  rw [hz] at b
  rcases (kkp_is (xis_lt (by decide) hr)).2 hr with e | e | e | e <;> exact h q (by omega)⟩
theorem XK_of {t : Int32} {C : Nat → Prop} {s s' : ps_S} (z : zJ C s t s') (h0 : ¬ C 0) (h9 : ¬ C 904) : XK t C s s' := ⟨z.1, z.2, ⟨(z.2 0 h0).2.2.1 2, (z.2 0 h0).2.2.1 3⟩, fun k _ => by rw [(z.2 904 h9).2.2.2.2]⟩
theorem uJ_of {s : ps_S} {t : Int32} (hI : LI s t) : uJ s t s := ⟨LI_J hI, rfl, rfl⟩
theorem cx_150 {s : ps_S} {t : Int32} {x1 : Int32} (hI : LI s t) (hF : LF s t) : ps_Cl 299 150 [.ref 0, .int x1] s (ps_rI (fun v s1 => ∃ t1 : Int32, XK t1 (fun q => q = 0) s s1 ∧ ((v.toInt = -1 ∧ t1 = t ∧ (x1.toInt < 0 ∨ t.toInt < x1.toInt)) ∨ (v = x1 ∧ t1 = x1 ∧ 0 ≤ x1.toInt ∧ x1.toInt ≤ t.toInt)))) := by
  have J := LI_J hI
  have e : ps_i s 0 1 = t := J.2.1
  refine pg_150_0 (And.intro (fun h1 => ?_) (fun h1 => And.intro (fun h2 => ?_) (fun h2 => ?_)))
  · exact ⟨t, ⟨J, cfr_refl, ⟨rfl, rfl⟩, fun _ _ => rfl⟩, Or.inl ⟨by decide, rfl, Or.inl (xlt h1)⟩⟩
  · rw [e] at h2
    exact ⟨x1, ⟨xw_tape J, cfr_i cfr_refl rfl, ⟨rfl, rfl⟩, fun _ _ => rfl⟩, Or.inr ⟨rfl, rfl, xle h1, xle h2⟩⟩
  · rw [e] at h2
    exact ⟨t, ⟨J, cfr_refl, ⟨rfl, rfl⟩, fun _ _ => rfl⟩, Or.inl ⟨by decide, rfl, Or.inr (xlt h2)⟩⟩
theorem cx_153 {s : ps_S} {t : Int32}  (hI : LI s t) (hF : LF s t) : ps_Cl 299 153 [.ref 0] s (ps_rI (fun _ s1 => XK 0 C153 s s1)) := by
  have A : ps_Cl 299 153 [.ref 0] s (ps_rI (fun _ s1 => zJ C153 s 0 s1)) := zs_153 (C := C153) (d := 259) (Or.inl rfl) (zP (fun q a b => Or.inr (Or.inl ⟨a, b⟩))) ⟨rfl, fun q a b => by have hz : zsz 3 = 6 := rfl; rw [hz] at b; unfold C153; omega⟩ (zJ_refl (LI_J hI)) (fun v s1 z => z)
  have B : ps_Cl 299 153 [.ref 0] s (ps_rI (fun _ s1 => RR s s1)) := us_153 (d := 259) (uJ_of hI) (fun v s1 z => z.2)
  have D : ps_Cl 299 153 [.ref 0] s (ps_rI (fun _ s1 => KW s s1)) := ys_153 (d := 259) (LF_J hI hF) (fun v s1 z k _ => by rw [z.2.2.1])
  exact ps_monoI (ps_and2I (ps_and2I A B RR_det) D KW_det) (fun v s1 z => ⟨z.1.1.1, z.1.1.2, z.1.2, z.2⟩)
theorem cx_158 {s : ps_S} {t : Int32}  (hI : LI s t) (hF : LF s t) : ps_Cl 299 158 [.ref 0] s (ps_rI (fun _ s1 => XK t C158 s s1)) := by
  have A : ps_Cl 299 158 [.ref 0] s (ps_rI (fun _ s1 => zJ C158 s t s1)) := zs_158 (C := C158) (d := 295) ⟨rfl, fun q a b => by have hz : zsz 7 = 31 := rfl; rw [hz] at b; unfold C158; omega⟩ (zJ_refl (LI_J hI)) (fun v s1 z => z)
  exact ps_monoI A (fun v s1 z => XK_of z (fun c => by unfold C158 at c; omega) (fun c => by unfold C158 at c; omega))
theorem cx_161 {s : ps_S} {t : Int32}  (hI : LI s t) (hF : LF s t) : ps_Cl 299 161 [.ref 0] s (ps_rI (fun _ s1 => XK t C161 s s1)) := by
  have A : ps_Cl 299 161 [.ref 0] s (ps_rI (fun _ s1 => zJ C161 s t s1)) := zs_161 (C := C161) (d := 298) (Or.inl rfl) (zP (fun q a b => Or.inr (Or.inl ⟨a, b⟩))) ⟨rfl, fun q a b => by have hz : zsz 7 = 31 := rfl; rw [hz] at b; unfold C161; omega⟩ (zJ_refl (LI_J hI)) (fun v s1 z => z)
  have B : ps_Cl 299 161 [.ref 0] s (ps_rI (fun _ s1 => RR s s1)) := us_161 (d := 298) (uJ_of hI) (fun v s1 z => z.2)
  exact ps_monoI (ps_and2I A B RR_det) (fun v s1 z => ⟨z.1.1, z.1.2, z.2, fun k _ => by rw [(z.1.2 904 (fun c => by unfold C161 at c; omega)).2.2.2.2]⟩)
theorem cx_162 {s : ps_S} {t : Int32}  (hI : LI s t) (hF : LF s t) : ps_Cl 299 162 [.ref 0] s (ps_rI (fun _ s1 => XK 0 C162 s s1)) := by
  have A : ps_Cl 299 162 [.ref 0] s (ps_rI (fun _ s1 => zJ C162 s 0 s1)) := zs_162 (C := C162) (d := 260) (Or.inl rfl) ⟨rfl, fun q a b => by have hz : zsz 3 = 6 := rfl; rw [hz] at b; unfold C162; omega⟩ ⟨rfl, fun q a b => by have hz : zsz 5 = 2 := rfl; rw [hz] at b; unfold C162; omega⟩ (zJ_refl (LI_J hI)) (fun v s1 z => z)
  have B : ps_Cl 299 162 [.ref 0] s (ps_rI (fun _ s1 => RR s s1)) := us_162 (d := 260) (uJ_of hI) (fun v s1 z => z.2)
  have D : ps_Cl 299 162 [.ref 0] s (ps_rI (fun _ s1 => KW s s1)) := ys_162 (d := 260) (LF_J hI hF) (fun v s1 z k _ => by rw [z.2.2.1])
  exact ps_monoI (ps_and2I (ps_and2I A B RR_det) D KW_det) (fun v s1 z => ⟨z.1.1.1, z.1.1.2, z.1.2, z.2⟩)
theorem cx_166 {s : ps_S} {t : Int32}  (hI : LI s t) (hF : LF s t) : ps_Cl 299 166 [.ref 0] s (ps_rI (fun _ s1 => XK t C166 s s1)) := by
  have A : ps_Cl 299 166 [.ref 0] s (ps_rI (fun _ s1 => zJ C166 s t s1)) := zs_166 (C := C166) (d := 295) ⟨rfl, fun q a b => by have hz : zsz 1 = 8 := rfl; rw [hz] at b; unfold C166; omega⟩ (zJ_refl (LI_J hI)) (fun v s1 z => z)
  exact ps_monoI A (fun v s1 z => XK_of z (fun c => by unfold C166 at c; omega) (fun c => by unfold C166 at c; omega))
theorem cx_167 {s : ps_S} {t : Int32}  (hI : LI s t) (hF : LF s t) : ps_Cl 299 167 [.ref 0] s (ps_rI (fun _ s1 => XK t C166 s s1)) := by
  have A : ps_Cl 299 167 [.ref 0] s (ps_rI (fun _ s1 => zJ C166 s t s1)) := zs_167 (C := C166) (d := 295) ⟨rfl, fun q a b => by have hz : zsz 1 = 8 := rfl; rw [hz] at b; unfold C166; omega⟩ (zJ_refl (LI_J hI)) (fun v s1 z => z)
  exact ps_monoI A (fun v s1 z => XK_of z (fun c => by unfold C166 at c; omega) (fun c => by unfold C166 at c; omega))
theorem cx_168 {s : ps_S} {t : Int32}  (hI : LI s t) (hF : LF s t) : ps_Cl 299 168 [.ref 0] s (ps_rI (fun _ s1 => XK t C166 s s1)) := by
  have A : ps_Cl 299 168 [.ref 0] s (ps_rI (fun _ s1 => zJ C166 s t s1)) := zs_168 (C := C166) (d := 295) ⟨rfl, fun q a b => by have hz : zsz 1 = 8 := rfl; rw [hz] at b; unfold C166; omega⟩ (zJ_refl (LI_J hI)) (fun v s1 z => z)
  exact ps_monoI A (fun v s1 z => XK_of z (fun c => by unfold C166 at c; omega) (fun c => by unfold C166 at c; omega))
theorem cx_169 {s : ps_S} {t : Int32}  (hI : LI s t) (hF : LF s t) : ps_Cl 299 169 [.ref 0] s (ps_rI (fun _ s1 => XK 0 C169 s s1)) := by
  have A : ps_Cl 299 169 [.ref 0] s (ps_rI (fun _ s1 => zJ C169 s 0 s1)) := zs_169 (C := C169) (d := 260) (Or.inl rfl) ⟨rfl, fun q a b => by have hz : zsz 3 = 6 := rfl; rw [hz] at b; unfold C169; omega⟩ ⟨rfl, fun q a b => by have hz : zsz 4 = 17 := rfl; rw [hz] at b; unfold C169; omega⟩ (zJ_refl (LI_J hI)) (fun v s1 z => z)
  have B : ps_Cl 299 169 [.ref 0] s (ps_rI (fun _ s1 => RR s s1)) := us_169 (d := 260) (uJ_of hI) (fun v s1 z => z.2)
  have D : ps_Cl 299 169 [.ref 0] s (ps_rI (fun _ s1 => KW s s1)) := ys_169 (d := 260) (LF_J hI hF) (fun v s1 z k _ => by rw [z.2.2.1])
  exact ps_monoI (ps_and2I (ps_and2I A B RR_det) D KW_det) (fun v s1 z => ⟨z.1.1.1, z.1.1.2, z.1.2, z.2⟩)
theorem cx_171 {s : ps_S} {t : Int32}  (hI : LI s t) (hF : LF s t) : ps_Cl 299 171 [.ref 0] s (ps_rI (fun _ s1 => XK t C171 s s1)) := by
  have A : ps_Cl 299 171 [.ref 0] s (ps_rI (fun _ s1 => zJ C171 s t s1)) := zs_171 (C := C171) (d := 295) ⟨rfl, fun q a b => by have hz : zsz 4 = 17 := rfl; rw [hz] at b; unfold C171; omega⟩ (zJ_refl (LI_J hI)) (fun v s1 z => z)
  exact ps_monoI A (fun v s1 z => XK_of z (fun c => by unfold C171 at c; omega) (fun c => by unfold C171 at c; omega))
theorem cx_172 {s : ps_S} {t : Int32} {x1 : Int32} (hI : LI s t) (hF : LF s t) : ps_Cl 299 172 [.ref 0, .int x1] s (ps_rI (fun _ s1 => XK t C172 s s1)) := by
  have A : ps_Cl 299 172 [.ref 0, .int x1] s (ps_rI (fun _ s1 => zJ C172 s t s1)) := zs_172 (C := C172) (d := 295) ⟨rfl, fun q a b => by have hz : zsz 0 = 77 := rfl; rw [hz] at b; unfold C172; omega⟩ (zJ_refl (LI_J hI)) (fun v s1 z => z)
  exact ps_monoI A (fun v s1 z => XK_of z (fun c => by unfold C172 at c; omega) (fun c => by unfold C172 at c; omega))
theorem cx_173 {s : ps_S} {t : Int32} {x1 : Int32} (hI : LI s t) (hF : LF s t) : ps_Cl 299 173 [.ref 0, .int x1] s (ps_rI (fun _ s1 => XK t C172 s s1)) := by
  have A : ps_Cl 299 173 [.ref 0, .int x1] s (ps_rI (fun _ s1 => zJ C172 s t s1)) := zs_173 (C := C172) (d := 259) ⟨rfl, fun q a b => by have hz : zsz 0 = 77 := rfl; rw [hz] at b; unfold C172; omega⟩ (zJ_refl (LI_J hI)) (fun v s1 z => z)
  exact ps_monoI A (fun v s1 z => XK_of z (fun c => by unfold C172 at c; omega) (fun c => by unfold C172 at c; omega))
theorem cx_174 {s : ps_S} {t : Int32} {x1 : Int32} {x2 : Int32} (hI : LI s t) (hF : LF s t) : ps_Cl 299 174 [.ref 0, .int x1, .int x2] s (ps_rI (fun _ s1 => XK t C172 s s1)) := by
  have A : ps_Cl 299 174 [.ref 0, .int x1, .int x2] s (ps_rI (fun _ s1 => zJ C172 s t s1)) := zs_174 (C := C172) (d := 260) ⟨rfl, fun q a b => by have hz : zsz 0 = 77 := rfl; rw [hz] at b; unfold C172; omega⟩ (zJ_refl (LI_J hI)) (fun v s1 z => z)
  exact ps_monoI A (fun v s1 z => XK_of z (fun c => by unfold C172 at c; omega) (fun c => by unfold C172 at c; omega))
theorem cx_175 {s : ps_S} {t : Int32} {x1 : Int32} (hI : LI s t) (hF : LF s t) : ps_Cl 299 175 [.ref 0, .int x1] s (ps_rI (fun _ s1 => XK t C172 s s1)) := by
  have A : ps_Cl 299 175 [.ref 0, .int x1] s (ps_rI (fun _ s1 => zJ C172 s t s1)) := zs_175 (C := C172) (d := 259) ⟨rfl, fun q a b => by have hz : zsz 0 = 77 := rfl; rw [hz] at b; unfold C172; omega⟩ (zJ_refl (LI_J hI)) (fun v s1 z => z)
  exact ps_monoI A (fun v s1 z => XK_of z (fun c => by unfold C172 at c; omega) (fun c => by unfold C172 at c; omega))
theorem cx_176 {s : ps_S} {t : Int32} {x1 : Int32} (hI : LI s t) (hF : LF s t) : ps_Cl 299 176 [.ref 0, .int x1] s (ps_rI (fun _ s1 => XK t C176 s s1)) := by
  have A : ps_Cl 299 176 [.ref 0, .int x1] s (ps_rI (fun _ s1 => zJ C176 s t s1)) := zs_176 (C := C176) (d := 295) (Or.inl rfl) (zS (fun q a => Or.inr a)) (zJ_refl (LI_J hI)) (fun v s1 z => z)
  have B : ps_Cl 299 176 [.ref 0, .int x1] s (ps_rI (fun _ s1 => RR s s1)) := us_176 (d := 295) (uJ_of hI) (fun v s1 z => z.2)
  exact ps_monoI (ps_and2I A B RR_det) (fun v s1 z => ⟨z.1.1, z.1.2, z.2, fun k _ => by rw [(z.1.2 904 (fun c => by unfold C176 at c; omega)).2.2.2.2]⟩)
theorem cx_177 {s : ps_S} {t : Int32} {x1 : Int32} (hI : LI s t) (hF : LF s t) : ps_Cl 299 177 [.ref 0, .int x1] s (ps_rI (fun _ s1 => XK t C161 s s1)) := by
  have A : ps_Cl 299 177 [.ref 0, .int x1] s (ps_rI (fun _ s1 => zJ C161 s t s1)) := zs_177 (C := C161) (d := 295) (Or.inl rfl) (zP (fun q a b => Or.inr (Or.inl ⟨a, b⟩))) ⟨rfl, fun q a b => by have hz : zsz 7 = 31 := rfl; rw [hz] at b; unfold C161; omega⟩ (zJ_refl (LI_J hI)) (fun v s1 z => z)
  have B : ps_Cl 299 177 [.ref 0, .int x1] s (ps_rI (fun _ s1 => RR s s1)) := us_177 (d := 295) (uJ_of hI) (fun v s1 z => z.2)
  exact ps_monoI (ps_and2I A B RR_det) (fun v s1 z => ⟨z.1.1, z.1.2, z.2, fun k _ => by rw [(z.1.2 904 (fun c => by unfold C161 at c; omega)).2.2.2.2]⟩)
/-- the class's half of a theory and a formula -/
theorem TRc_x {s s' : ps_S} {t : Int32} {C : Nat → Prop} {h : tx_H} {l : List Nat} (H : TRc s h l) (J : XK t C s s') (hC : ∀ q, (1 ≤ q ∧ q < 50) ∨ q = 934 ∨ q = 935 → ¬ C q) : TRc s' h l := by
  obtain ⟨c1, c2, c3⟩ := H
  obtain ⟨-, F, ⟨r2, r3⟩, -⟩ := J
  have hl := c1.2.2.1
  refine ⟨by rw [r2]; exact cv_H_cfr c1 F (fun q a b => hC q (Or.inl (by omega))), by rw [r2, r3]; exact c2, cv_W_cfr c3 F (hC _ (by omega)) (hC _ (by omega))⟩
theorem TRm_x {s s' : ps_S} {t : Int32} {h : tx_H} {l : List Nat} (H : TRm s h l) (J : xJ s t s') : TRm s' h l := by
  obtain ⟨b, m1, m2, m3, m4⟩ := H
  have E : ∀ r, 1131 ≤ r → ps_i s' r = ps_i s r ∧ ps_j s' r = ps_j s r ∧ ps_a s' r = ps_a s r ∧ ps_b s' r = ps_b s r := J.2.2
  refine ⟨b, m1, by rw [(E 1131 (by decide)).1]; exact m2, mv_H_V m1 m3 (fun r hr => (E r ?_).2.2.1) (fun r hr => (E r ?_).2.2.2) (fun k _ _ => by rw [(E 1134 (by decide)).2.2.1]), mv_W_V m4 (fun k _ _ => by rw [(E 1134 (by decide)).2.2.1])⟩
  · exact (show ∀ r, r ∈ [1135, 1136, 1137, 1138, 1139] → 1131 ≤ r by decide) r hr
  · exact (show ∀ r, r ∈ [1140, 1141, 1142] → 1131 ≤ r by decide) r hr
theorem LF_k {s s' : ps_S} {t t' : Int32} {C : Nat → Prop} (H : LF s t) (J : XK t' C s s') (h1 : ¬ C 1) (h6 : ¬ C 6) (h30 : ¬ C 30) (ht : t'.toInt ≤ t.toInt) : LF s' t' := by
  obtain ⟨J, F, ⟨r2, r3⟩, kw⟩ := J
  refine ⟨fun k hk => ?_, LB_mk H.2 kw (fun i _ => ⟨by rw [(F 6 h6).2.2.2.1], by rw [(F 30 h30).2.2.2.1]⟩) (by rw [r2]; exact H.2.2.2.2.1) (by rw [r3]; exact H.2.2.2.2.2)⟩
  rw [(F 1 h1).2.2.2.1, (J.2.2 1132 (by decide)).2.2.1]
  exact H.1 k (by omega)
/-- all that holds between two calls -/
def ISt (s : ps_S) (t : Int32) : Prop := LI s t ∧ LF s t ∧ LG s
/-- between the two sides' calls: u is the reference's count -/
def IMs (s : ps_S) (t : Int32) (u : Int) : Prop := LX s t u ∧ LF s t ∧ LG s
theorem ISt_M {s : ps_S} {t : Int32} (h : ISt s t) : IMs s t t.toInt := ⟨LI_LX h.1, h.2.1, h.2.2⟩
theorem IMs_L {s : ps_S} {t : Int32} {u : Int} (h : IMs s t u) (e : u = t.toInt) : ISt s t := ⟨LX_LI h.1 e, h.2.1, h.2.2⟩
theorem LG_k {s s' : ps_S} {t : Int32} {C : Nat → Prop} (H : LG s) (J : XK t C s s') (hC : ∀ q, (1 ≤ q ∧ q < 50) ∨ q = 934 ∨ q = 935 → ¬ C q) : LG s' := by
  obtain ⟨h, l, c, m⟩ := LG_to H
  exact LG_of (TRc_x c J hC) (TRm_x m J.1)
theorem IMs_k {s s' : ps_S} {t t' : Int32} {C : Nat → Prop} (H : ISt s t) (J : XK t' C s s') (hC : ∀ q, (1 ≤ q ∧ q < 50) ∨ q = 934 ∨ q = 935 → ¬ C q) (ht : t'.toInt ≤ t.toInt) : IMs s' t' t.toInt :=
  ⟨LI_x H.1 J.1, LF_k H.2.1 J (hC _ (by omega)) (hC _ (by omega)) (hC _ (by omega)) ht, LG_k H.2.2 J (fun q a => hC q a)⟩
theorem TRc_m {s s' : ps_S} {t : Int32} {A F : List Nat} {h : tx_H} {l : List Nat} (H : TRc s h l) (J : mJ s.1.2.2 t s') (K : kp A F s s') (hA : A.all (fun a => Nat.ble 1131 a) = true) : TRc s' h l := by
  have hr : ps_r s' = ps_r s := J.1
  rw [List.all_eq_true] at hA
  have hn : ∀ r, r < 1131 → A.contains r = false := fun r hr => by
    cases e : A.contains r with
    | false => rfl
    | true =>
      have := Nat.le_of_ble_eq_true (hA r (List.contains_iff_mem.mp e))
      omega
  have Fr : cfr (fun q => 1131 ≤ q) s s' := fun q hq => by
    have hq : q < 1131 := by omega
    exact ⟨fun f => (K.1 q f (fun z => by omega)).1, fun f => (K.1 q f (fun z => by omega)).2, fun f => by rw [hr], (K.2 q (hn q hq)).1, (K.2 q (hn q hq)).2⟩
  obtain ⟨c1, c2, c3⟩ := H
  have hl := c1.2.2.1
  exact ⟨by rw [hr]; exact cv_H_cfr c1 Fr (fun q a b z => by omega), by rw [hr]; exact c2, cv_W_cfr c3 Fr (by omega) (by omega)⟩
end
section
set_option maxRecDepth 100000
/-! what a method changes of one object (o) and of rows (A); models() -/
theorem xImN {a b : Int32} {x y : Nat} (ha : a.toInt = x) (hb : b.toInt = y) (h : x * y ≤ 2147483647) : (a * b).toInt = (x * y : Nat) := by
  have e : a.toInt * b.toInt = ((x * y : Nat) : Int) := by rw [ha, hb, Int.natCast_mul]
  generalize x * y = q at e h ⊢
  rw [xIm (by rw [e]; omega) (by rw [e]; omega), e]
def jq (o : Nat) (A F : List Nat) (s s' : ps_S) : Prop := (∀ r q, (r = o → F.contains q = false) → ps_i s' r q = ps_i s r q) ∧ ps_j s' = ps_j s ∧ ps_r s' = ps_r s ∧ ∀ r, A.contains r = false → ps_a s' r = ps_a s r ∧ ps_b s' r = ps_b s r
theorem jq_refl {o : Nat} {A F : List Nat} {s : ps_S} : jq o A F s s := ⟨fun _ _ _ => rfl, rfl, rfl, fun _ _ => ⟨rfl, rfl⟩⟩
theorem jqi {o : Nat} {A F : List Nat} {s s' : ps_S} (h : jq o A F s s') {q : Nat} {v : Int32} (hq : F.contains q = true) : jq o A F s (ps_ui s' o q v) := by
  obtain ⟨a1, a2, a3, a4⟩ := h
  refine ⟨fun r f hf => ?_, a2, a3, a4⟩
  rw [ps_i_ui, if_neg (fun z => ?_)]
  · exact a1 r f hf
  · have := hf z.1
    rw [z.2, hq] at this
    cases this
theorem jqa {o : Nat} {A F : List Nat} {s s' : ps_S} (h : jq o A F s s') {r i : Nat} {v : Int32} (hr : A.contains r = true) : jq o A F s (ps_ua s' r i v) := by
  obtain ⟨a1, a2, a3, a4⟩ := h
  refine ⟨a1, a2, a3, fun q hq => ⟨?_, (a4 q hq).2⟩⟩
  rw [← (a4 q hq).1]
  funext k
  rw [ps_a_ua, if_neg (fun z => ?_)]
  rw [z.1, hr] at hq
  cases hq
theorem jqb {o : Nat} {A F : List Nat} {s s' : ps_S} (h : jq o A F s s') {r i : Nat} {v : Int64} (hr : A.contains r = true) : jq o A F s (ps_ub s' r i v) := by
  obtain ⟨a1, a2, a3, a4⟩ := h
  refine ⟨a1, a2, a3, fun q hq => ⟨(a4 q hq).1, ?_⟩⟩
  rw [← (a4 q hq).2]
  funext k
  rw [ps_b_ub, if_neg (fun z => ?_)]
  rw [z.1, hr] at hq
  cases hq
theorem jq_sub {A' A : List Nat} (h : A'.all (fun a => A.contains a) = true) {r : Nat} (hr : A.contains r = false) : A'.contains r = false := by
  cases e : A'.contains r with
  | false => rfl
  | true =>
    rw [List.all_eq_true] at h
    have := h r (List.contains_iff_mem.mp e)
    rw [hr] at this
    cases this
theorem jqt {o : Nat} {A F A' F' : List Nat} {s s' s'' : ps_S} (h : jq o A F s s') (g : jq o A' F' s' s'') (hA : A'.all (fun a => A.contains a) = true) (hF : F'.all (fun a => F.contains a) = true) : jq o A F s s'' :=
  ⟨fun r q hq => (g.1 r q (fun z => jq_sub hF (hq z))).trans (h.1 r q hq), g.2.1.trans h.2.1, g.2.2.1.trans h.2.2.1, fun r hr => ⟨(g.2.2.2 r (jq_sub hA hr)).1.trans (h.2.2.2 r hr).1, (g.2.2.2 r (jq_sub hA hr)).2.trans (h.2.2.2 r hr).2⟩⟩
theorem jq_i {o : Nat} {A F : List Nat} {s s' : ps_S} (h : jq o A F s s') (q : Nat) (hq : F.contains q = false) : ps_i s' o q = ps_i s o q := h.1 o q (fun _ => hq)
theorem jq_io {o : Nat} {A F : List Nat} {s s' : ps_S} (h : jq o A F s s') {r : Nat} (hr : r ≠ o) (q : Nat) : ps_i s' r q = ps_i s r q := h.1 r q (fun z => absurd z hr)
theorem jq_r {o : Nat} {A F : List Nat} {s s' : ps_S} (h : jq o A F s s') : ps_r s' = ps_r s := h.2.2.1
theorem jq_a {o : Nat} {A F : List Nat} {s s' : ps_S} (h : jq o A F s s') (r : Nat) (hr : A.contains r = false) : ps_a s' r = ps_a s r := (h.2.2.2 r hr).1
theorem jq_b {o : Nat} {A F : List Nat} {s s' : ps_S} (h : jq o A F s s') (r : Nat) (hr : A.contains r = false) : ps_b s' r = ps_b s r := (h.2.2.2 r hr).2
theorem jq_cfr {o : Nat} {A F : List Nat} {s s' : ps_S} (h : jq o A F s s') : cfr (fun q => q = o ∨ A.contains q = true) s s' := fun q hq => by
  have n1 : q ≠ o := fun z => hq (Or.inl z)
  have n2 : A.contains q = false := by
    cases e : A.contains q with
    | false => rfl
    | true => exact absurd (Or.inr e) hq
  exact ⟨fun f => jq_io h n1 f, fun f => by rw [h.2.1], fun f => by rw [h.2.2.1], jq_a h q n2, jq_b h q n2⟩
theorem jq_ge {A : List Nat} {b q : Nat} (hA : A.all (fun a => Nat.ble b a) = true) (hq : q < b) : A.contains q = false := by
  cases e : A.contains q with
  | false => rfl
  | true =>
    rw [List.all_eq_true] at hA
    have := Nat.le_of_ble_eq_true (hA q (List.contains_iff_mem.mp e))
    omega
/-- the theories' cells stand below 50 -/
theorem cv_E_jq {o : Nat} {A F : List Nat} {s s' : ps_S} {th : Nat} {g : tx_g} (H : cv_E s th g) (K : jq o A F s s') (hth : th = 2 ∨ th = 26) (ho : 50 ≤ o) (hA : A.all (fun a => Nat.ble 50 a) = true) : cv_E s' th g := by
  have z : ∀ q, q < 50 → ¬ (q = o ∨ A.contains q = true) := fun q hq c => by
    rcases c with c | c
    · omega
    · rw [jq_ge hA hq] at c
      cases c
  exact cv_E_cfr H (jq_cfr K) (z _ (by omega)) (z _ (by omega)) (z _ (by omega)) (z _ (by omega))
theorem cv_H_jq {o : Nat} {A F : List Nat} {s s' : ps_S} {th : Nat} {g : tx_H} (H : cv_H s th g) (K : jq o A F s s') (hth : th = 2 ∨ th = 26) (ho : 50 ≤ o) (hA : A.all (fun a => Nat.ble 50 a) = true) : cv_H s' th g := by
  have z : ∀ q, q < 50 → ¬ (q = o ∨ A.contains q = true) := fun q hq c => by
    rcases c with c | c
    · omega
    · rw [jq_ge hA hq] at c
      cases c
  have hl := H.2.2.1
  exact cv_H_cfr H (jq_cfr K) (fun q a b => z q (by omega))
theorem cv_W_jq {o : Nat} {A F : List Nat} {s s' : ps_S} {r : Nat} {l : List Nat} (H : cv_W s r l) (K : jq o A F s s') (hr : r ≠ o) (h1 : A.contains (r + 1) = false) : cv_W s' r l := by
  unfold cv_W at *
  rw [jq_io K hr, jq_io K hr, jq_a K _ h1]
  exact H
/-- elements of a row of ints -/
def ar_L (s : ps_S) (r : Nat) (l : List Nat) : Prop := ∀ (k c : Nat), l[k]? = some c → (ps_a s r k).toInt = c
theorem ar_snoc {s : ps_S} {r b : Nat} {l : List Nat} {x : Int32} (h : ar_L s r l) (hx : x.toInt = b) : ar_L (ps_ua s r l.length x) r (l ++ [b]) := fun k c hk => by
  rw [ps_a_ua]
  by_cases e : k = l.length
  · rw [if_pos ⟨rfl, e⟩]
    rw [e, List.getElem?_append_right (Nat.le_refl _), Nat.sub_self] at hk
    cases hk
    exact hx
  · rw [if_neg (fun z => e z.2)]
    have hl := (List.getElem?_eq_some_iff.mp hk).1
    rw [List.length_append, List.length_singleton] at hl
    rw [List.getElem?_append_left (by omega)] at hk
    exact h k c hk
/-- a model's digits: symbols with what they take and how many values they have; the digits' bases -/
def md_sy (m : Nat) (g : tx_g) : List (Nat × Nat) := g.1.map (fun p => (p.2, 2)) ++ g.2.map (fun p => (p.2, m))
def md_B (m : Nat) (L : List (Nat × Nat)) : List Nat := (L.map fun q => List.replicate (m ^ q.1) q.2).flatten
def md_p (l : List Nat) : Nat := l.foldl (fun a b => a * b) 1
theorem md_B_snoc {m : Nat} {L : List (Nat × Nat)} {q : Nat × Nat} : md_B m (L ++ [q]) = md_B m L ++ List.replicate (m ^ q.1) q.2 := by
  unfold md_B
  rw [List.map_append, List.flatten_append]
  simp
theorem md_p_snoc {l : List Nat} {b : Nat} : md_p (l ++ [b]) = md_p l * b := by
  unfold md_p
  rw [List.foldl_append]
  rfl
theorem md_take {α : Type} {L : List α} {i : Nat} {q : α} (h : L[i]? = some q) : L.take (i + 1) = L.take i ++ [q] := by
  rw [List.take_add_one, h]
  rfl
theorem md_sy_1 {m k a : Nat} {g : tx_g} {w : List Nat} (h : g.1[k]? = some (w, a)) : (md_sy m g)[k]? = some (a, 2) := by
  have hl := (List.getElem?_eq_some_iff.mp h).1
  unfold md_sy
  rw [List.getElem?_append_left (by rw [List.length_map]; exact hl), List.getElem?_map, h]
  rfl
theorem md_sy_2 {m k a : Nat} {g : tx_g} {w : List Nat} (h : g.2[k]? = some (w, a)) : (md_sy m g)[g.1.length + k]? = some (a, m) := by
  unfold md_sy
  rw [List.getElem?_append_right (by rw [List.length_map]; omega), List.length_map, Nat.add_sub_cancel_left, List.getElem?_map, h]
  rfl
theorem md_sy_len {m : Nat} {g : tx_g} : (md_sy m g).length = g.1.length + g.2.length := by
  unfold md_sy
  rw [List.length_append, List.length_map, List.length_map]
theorem md_pow9 {m a : Nat} (hm : m ≤ 3) (ha : a ≤ 2) : m ^ a ≤ 9 := by
  have h1 : m ^ a ≤ 3 ^ a := Nat.pow_le_pow_left hm a
  have h2 : 3 ^ a ≤ 3 ^ 2 := Nat.pow_le_pow_right (by decide) ha
  have h3 : 3 ^ 2 = 9 := by decide
  omega
/-- where the i-th symbol's digits begin -/
def md_o (m : Nat) (g : tx_g) (i : Nat) : Nat := (md_B m ((md_sy m g).take i)).length
theorem md_o_le {m : Nat} {g : tx_g} (hm : m ≤ 3) (hg : ∀ q, q ∈ md_sy m g → q.1 ≤ 2) : ∀ i, i ≤ (md_sy m g).length → md_o m g i ≤ 9 * i
  | 0, _ => by unfold md_o md_B; simp
  | i + 1, h => by
    have ih := md_o_le hm hg i (by omega)
    have e := List.getElem?_eq_getElem (l := md_sy m g) (i := i) (by omega)
    unfold md_o at *
    rw [md_take e, md_B_snoc, List.length_append, List.length_replicate]
    have := md_pow9 hm (hg _ (List.mem_of_getElem? e))
    omega
theorem md_sy_ar {s : ps_S} {th m : Nat} {g : tx_g} (H : cv_E s th g) : ∀ q, q ∈ md_sy m g → q.1 ≤ 2 := fun q hq => by
  unfold md_sy at hq
  rcases List.mem_append.mp hq with hq | hq
  · obtain ⟨p, hp, rfl⟩ := List.mem_map.mp hq
    obtain ⟨k, hk⟩ := List.mem_iff_getElem?.mp hp
    exact (H.2.2.2.2.1 k p.1 p.2 hk).2.1
  · obtain ⟨p, hp, rfl⟩ := List.mem_map.mp hq
    obtain ⟨k, hk⟩ := List.mem_iff_getElem?.mp hp
    exact (H.2.2.2.2.2.1 k p.1 p.2 hk).2.1
theorem md_b3 {m : Nat} {g : tx_g} (hm : 1 ≤ m ∧ m ≤ 3) {b : Nat} (hb : b ∈ md_B m (md_sy m g)) : 1 ≤ b ∧ b ≤ 3 := by
  unfold md_B at hb
  obtain ⟨l, hl, hb⟩ := List.mem_flatten.mp hb
  obtain ⟨q, hq, rfl⟩ := List.mem_map.mp hl
  have e := (List.mem_replicate.mp hb).2
  unfold md_sy at hq
  rcases List.mem_append.mp hq with hq | hq
  · obtain ⟨p, hp, rfl⟩ := List.mem_map.mp hq
    have e : b = 2 := e
    omega
  · obtain ⟨p, hp, rfl⟩ := List.mem_map.mp hq
    have e : b = m := e
    omega
/-! the class -/
def jv_D (s : ps_S) (l : List Nat) : Prop := (ps_i s 944 2).toInt = l.length ∧ ar_L s 945 l
theorem jv_D_snoc {s : ps_S} {l : List Nat} {b : Nat} {x : Int32} (D : jv_D s l) (hx : x.toInt = b) (hl : l.length < 90) : jv_D (ps_ui (ps_ua s 945 l.length x) 944 2 (ps_i (ps_ua s 945 l.length x) 944 2 + 1)) (l ++ [b]) := by
  refine ⟨?_, ar_snoc D.2 hx⟩
  rw [ps_i_ui, if_pos ⟨rfl, rfl⟩, List.length_append, List.length_singleton]
  exact xj1 D.1 (by omega)
theorem jv_D_jq {A F : List Nat} {s s' : ps_S} {l : List Nat} (D : jv_D s l) (K : jq 944 A F s s') (hF : F.contains 2 = false) (hA : A.contains 945 = false) : jv_D s' l := by
  unfold jv_D ar_L at *
  rw [jq_i K 2 hF, jq_a K 945 hA]
  exact D

-- ProofBench.valueAt([II)I
theorem pl_182_0 {n : Nat} {r0 : Nat} {x1 : Int32} {s : ps_S} {Q : Option Value → ps_S → Prop} (h :
  (x1 < 0 →
    Q (some (.int (-1))) s) ∧
  (0 ≤ x1 →
    pl_nk (Nat.beq (ps_K r0).1 0) (((nI (ps_ln r0)) ≤ x1 →
      Q (some (.int (-1))) s) ∧
    (x1 < (nI (ps_ln r0)) →
      pl_nk (ps_ar r0 0) ((pm_in x1 (ps_ln r0) = true →
        Q (some (.int (ps_a s r0 (Int32.toNatClampNeg x1)))) s)))))) : pl_At (n + 1) 182 0 [(0, .ref r0), (1, .int x1)] [] s Q :=
  pl_wp_at (stops := []) (f := 17) h rfl

-- ProofBench.areThings(I)Z
theorem pl_181_0 {n : Nat} {x0 : Int32} {s : ps_S} {Q : Option Value → ps_S → Prop} (h :
  (x0 < 1 →
    Q (some (.int 0)) s) ∧
  (1 ≤ x0 →
    (3 < x0 →
      Q (some (.int 0)) s) ∧
    (x0 ≤ 3 →
      Q (some (.int 1)) s))) : pl_At (n + 1) 181 0 [(0, .int x0)] [] s Q :=
  pl_wp_at (stops := []) (f := 15) h rfl

-- ProofBench$Judge.addDigits(II)V
theorem pl_7_0 {n : Nat} {x1 : Int32} {x2 : Int32} {s : ps_S} {Q : Option Value → ps_S → Prop} (h :
  (x2 ≠ 0 →
    (x2 ≠ 1 →
      pl_At n 7 33 [(0, .ref 944), (1, .int x1), (3, .int ((ps_i s 944 11) * (ps_i s 944 11))), (4, .int 0)] [] s Q) ∧
    (x2 = 1 →
      pl_At n 7 33 [(0, .ref 944), (1, .int x1), (3, .int (ps_i s 944 11)), (4, .int 0)] [] s Q)) ∧
  (x2 = 0 →
    pl_At n 7 33 [(0, .ref 944), (1, .int x1), (3, .int 1), (4, .int 0)] [] s Q)) : pl_At (n + 1) 7 0 [(0, .ref 944), (1, .int x1), (2, .int x2)] [] s Q :=
  pl_wp_at (stops := [(33, [0, 1, 3, 4])]) (f := 26) h rfl

theorem pl_7_33 {n : Nat} {x1 : Int32} {x3 : Int32} {x4 : Int32} {s : ps_S} {Q : Option Value → ps_S → Prop} (h :
  (x3 ≤ x4 →
    Q none s) ∧
  (x4 < x3 →
    pl_Cl n 183 [.ref 945, .int (ps_i s 944 2), .int x1] s (ps_rV (fun s1 =>
      pl_At n 7 33 [(0, .ref 944), (1, .int x1), (3, .int x3), (4, .int (x4 + 1))] [] (ps_ui s1 944 2 ((ps_i s1 944 2) + 1)) Q)))) : pl_At (n + 1) 7 33 [(0, .ref 944), (1, .int x1), (3, .int x3), (4, .int x4)] [] s Q :=
  pl_wp_at (stops := [(33, [0, 1, 3, 4])]) (f := 20) h rfl

-- ProofBench$Judge.layTables(LProofBench$Theory;I)J
theorem pl_6_0 {n : Nat} {r1 : Nat} {x2 : Int32} {s : ps_S} {Q : Option Value → ps_S → Prop} (h :
  pl_At n 6 17 [(0, .ref 944), (2, .int x2), (3, .int 0)] [] (ps_ui (ps_ui (ps_ur s 944 16 r1) 944 11 x2) 944 2 0) Q) : pl_At (n + 1) 6 0 [(0, .ref 944), (1, .ref r1), (2, .int x2)] [] s Q :=
  pl_wp_at (stops := [(17, [0, 2, 3]), (64, [0, 2, 3]), (114, [0, 3, 5])]) (f := 13) h rfl

theorem pl_6_17 {n : Nat} {x2 : Int32} {x3 : Int32} {s : ps_S} {Q : Option Value → ps_S → Prop} (h :
  pl_nk (ps_is (ps_r s 944 16) 9) (((ps_i s (ps_r s 944 16) 6) ≤ x3 →
    pl_At n 6 64 [(0, .ref 944), (2, .int x2), (3, .int 0)] [] s Q) ∧
  (x3 < (ps_i s (ps_r s 944 16) 6) →
    pl_Cl n 183 [.ref 947, .int x3, .int (ps_i s 944 2)] s (ps_rV (fun s1 =>
      pl_Cl n 136 [.ref (ps_r s1 944 16), .int ((10 : Int32) + x3)] s1 (ps_rI (fun v2 s2 =>
        pl_Cl n 7 [.ref 944, .int 2, .int v2] s2 (ps_rV (fun s3 =>
          pl_At n 6 17 [(0, .ref 944), (2, .int x2), (3, .int (x3 + 1))] [] s3 Q))))))))) : pl_At (n + 1) 6 17 [(0, .ref 944), (2, .int x2), (3, .int x3)] [] s Q :=
  pl_wp_at (stops := [(17, [0, 2, 3]), (64, [0, 2, 3]), (114, [0, 3, 5])]) (f := 26) h rfl

theorem pl_6_64 {n : Nat} {x2 : Int32} {x3 : Int32} {s : ps_S} {Q : Option Value → ps_S → Prop} (h :
  pl_nk (ps_is (ps_r s 944 16) 9) (((ps_i s (ps_r s 944 16) 7) ≤ x3 →
    pl_At n 6 114 [(0, .ref 944), (3, .long 1), (5, .int 0)] [] s Q) ∧
  (x3 < (ps_i s (ps_r s 944 16) 7) →
    pl_Cl n 183 [.ref 948, .int x3, .int (ps_i s 944 2)] s (ps_rV (fun s1 =>
      pl_Cl n 136 [.ref (ps_r s1 944 16), .int ((20 : Int32) + x3)] s1 (ps_rI (fun v2 s2 =>
        pl_Cl n 7 [.ref 944, .int x2, .int v2] s2 (ps_rV (fun s3 =>
          pl_At n 6 64 [(0, .ref 944), (2, .int x2), (3, .int (x3 + 1))] [] s3 Q))))))))) : pl_At (n + 1) 6 64 [(0, .ref 944), (2, .int x2), (3, .int x3)] [] s Q :=
  pl_wp_at (stops := [(17, [0, 2, 3]), (64, [0, 2, 3]), (114, [0, 3, 5])]) (f := 28) h rfl

theorem pl_6_114 {n : Nat} {l3 : Int64} {x5 : Int32} {s : ps_S} {Q : Option Value → ps_S → Prop} (h :
  ((ps_i s 944 2) ≤ x5 →
    Q (some (.long l3)) s) ∧
  (x5 < (ps_i s 944 2) →
    pl_Cl n 182 [.ref 945, .int x5] s (ps_rI (fun v1 s1 =>
      pl_At n 6 114 [(0, .ref 944), (3, .long (if (1099511627776 : Int64) < (l3 * (Int32.toInt64 v1)) then (1099511627776 : Int64) else (l3 * (Int32.toInt64 v1)))), (5, .int (x5 + 1))] [] s1 Q)))) : pl_At (n + 1) 6 114 [(0, .ref 944), (3, .long l3), (5, .int x5)] [] s Q :=
  pl_wp_at (stops := [(17, [0, 2, 3]), (64, [0, 2, 3]), (114, [0, 3, 5])]) (f := 20) h rfl

-- ProofBench$Judge.modelCount(LProofBench$Theory;I)I
theorem pl_2_0 {n : Nat} {r1 : Nat} {x2 : Int32} {s : ps_S} {Q : Option Value → ps_S → Prop} (h :
  pl_Cl n 6 [.ref 944, .ref r1, .int x2] s (ps_rJ (fun v1 s1 =>
    ((lg_cmp v1 (4096 : Int64)) ≤ 0 →
      Q (some (.int (Int64.toInt32 v1))) s1) ∧
    (0 < (lg_cmp v1 (4096 : Int64)) →
      Q (some (.int (-2))) s1)))) : pl_At (n + 1) 2 0 [(0, .ref 944), (1, .ref r1), (2, .int x2)] [] s Q :=
  pl_wp_at (stops := []) (f := 17) h rfl

-- ProofBench.models(I)I
theorem pl_172_0 {n : Nat} {x1 : Int32} {s : ps_S} {Q : Option Value → ps_S → Prop} (h :
  pl_Cl n 181 [.int x1] s (ps_rI (fun v1 s1 =>
    (v1 = 0 →
      Q (some (.int (-1))) s1) ∧
    (v1 ≠ 0 →
      pl_Cl n 2 [.ref 944, .ref (ps_r s1 0 2), .int x1] s1 (ps_rI (fun v2 s2 =>
        Q (some (.int v2)) s2)))))) : pl_At (n + 1) 172 0 [(0, .ref 0), (1, .int x1)] [] s Q :=
  pl_wp_at (stops := []) (f := 15) h rfl

theorem fs_182 {n r0 a : Nat} {x1 : Int32} {s : ps_S} {R : Int32 → ps_S → Prop} (hx : x1.toInt = a) (ha : a < ps_ln r0) (hl : ps_ln r0 ≤ 20000) (k : R (ps_a s r0 a) s) : pl_Cl n 182 [.ref r0, .int x1] s (ps_rI R) := by
  cases n with
  | zero => exact pl_At_0
  | succ n =>
  show pl_At (n + 1) 182 0 [(0, .ref r0), (1, .int x1)] [] s (ps_rI R)
  have h40 : (nI (ps_ln r0)).toInt = (ps_ln r0 : Nat) := nI_i (by omega)
  refine pl_182_0 ?_
  refine ⟨fun h1 => ?_, fun h1 => ?_⟩
  · have h1 : x1.toInt < (0 : Int) := xlt h1
    exfalso; omega
  · have h1 : (0 : Int) ≤ x1.toInt := xle h1
    refine pl_nk_i (fun nk6 => ?_)
    refine ⟨fun h7 => ?_, fun h7 => ?_⟩
    · have h7 : (nI (ps_ln r0)).toInt ≤ x1.toInt := xle h7
      exfalso; omega
    · have h7 : x1.toInt < (nI (ps_ln r0)).toInt := xlt h7
      refine pl_nk_i (fun nk12 => ?_)
      intro b12
      obtain ⟨b12, c12⟩ := pl_in b12
      rw [xtn hx]
      exact k
theorem fs_181 {n : Nat} {x0 : Int32} {s : ps_S} {R : Int32 → ps_S → Prop} (k1 : 1 ≤ x0.toInt → x0.toInt ≤ 3 → R 1 s) (k0 : ¬ (1 ≤ x0.toInt ∧ x0.toInt ≤ 3) → R 0 s) : pl_Cl n 181 [.int x0] s (ps_rI R) := by
  cases n with
  | zero => exact pl_At_0
  | succ n =>
  show pl_At (n + 1) 181 0 [(0, .int x0)] [] s (ps_rI R)
  refine pl_181_0 ?_
  refine ⟨fun h2 => ?_, fun h2 => ?_⟩
  · have h2 : x0.toInt < (1 : Int) := xlt h2
    exact k0 (by omega)
  · have h2 : (1 : Int) ≤ x0.toInt := xle h2
    refine ⟨fun h7 => ?_, fun h7 => ?_⟩
    · have h7 : (3 : Int) < x0.toInt := xlt h7
      exact k0 (by omega)
    · have h7 : x0.toInt ≤ (3 : Int) := xle h7
      exact k1 (by omega) (by omega)
theorem fs_7_33 {b c : Nat} {l : List Nat} {s0 : ps_S} {x1 x3 : Int32} {R : ps_S → Prop} (hb : x1.toInt = b) (hc : x3.toInt = c) (hl : l.length + c ≤ 90) (k : ∀ s', jv_D s' (l ++ List.replicate c b) → jq 944 [945] [2] s0 s' → R s') : ∀ (n : Nat) {s : ps_S} {x4 : Int32} {j : Nat}, x4.toInt = j → j ≤ c → jv_D s (l ++ List.replicate j b) → jq 944 [945] [2] s0 s → pl_At n 7 33 [(0, .ref 944), (1, .int x1), (3, .int x3), (4, .int x4)] [] s (ps_rV R)
  | 0, _, _, _, _, _, _, _ => pl_At_0
  | n + 1, s, x4, j, hx, hj, D, K => by
    have hlen : (l ++ List.replicate j b).length = l.length + j := by rw [List.length_append, List.length_replicate]
    refine pl_7_33 ?_
    refine ⟨fun h36 => ?_, fun h36 => ?_⟩
    · have h36 : x3.toInt ≤ x4.toInt := xle h36
      have e : j = c := by omega
      subst e
      exact k _ D K
    · have h36 : x4.toInt < x3.toInt := xlt h36
      refine fs_183 (a := (l ++ List.replicate j b).length) D.1 (show (l ++ List.replicate j b).length < 90 from by omega) (by decide) ?_
      refine fs_7_33 hb hc hl k n (xj1 hx (by omega)) (by omega) ?_ (jqi (jqa K rfl) rfl)
      rw [List.replicate_succ', ← List.append_assoc]
      exact jv_D_snoc D hb (by omega)
theorem fs_7 {n a b m : Nat} {l : List Nat} {s : ps_S} {x1 x2 : Int32} {R : ps_S → Prop} (hb : x1.toInt = b) (hx2 : x2.toInt = a) (ha : a ≤ 2) (hm : (ps_i s 944 11).toInt = m) (hm3 : m ≤ 3) (D : jv_D s l) (hl : l.length + m ^ a ≤ 90) (k : ∀ s', jv_D s' (l ++ List.replicate (m ^ a) b) → jq 944 [945] [2] s s' → R s') : pl_Cl n 7 [.ref 944, .int x1, .int x2] s (ps_rV R) := by
  cases n with
  | zero => exact pl_At_0
  | succ n =>
  show pl_At (n + 1) 7 0 [(0, .ref 944), (1, .int x1), (2, .int x2)] [] s (ps_rV R)
  have c1 : (1 : Int32).toInt = 1 := by decide
  have hD0 : jv_D s (l ++ List.replicate 0 b) := by rw [List.replicate_zero, List.append_nil]; exact D
  refine pl_7_0 ?_
  refine ⟨fun h1 => ?_, fun h1 => ?_⟩
  · have h1 : x2.toInt ≠ (0 : Int) := xne h1
    refine ⟨fun h10 => ?_, fun h10 => ?_⟩
    · have h10 : x2.toInt ≠ (1 : Int) := xne h10
      have ea : a = 2 := by omega
      subst ea
      have hmm : m ^ 2 = m * m := by rw [Nat.pow_succ, Nat.pow_one]
      have h9 : m * m ≤ 3 * 3 := Nat.mul_le_mul hm3 hm3
      refine fs_7_33 (c := m ^ 2) hb ?_ hl k n rfl (Nat.zero_le _) hD0 jq_refl
      rw [xIm (by rw [hm, ← Int.natCast_mul]; omega) (by rw [hm, ← Int.natCast_mul]; omega), hm, hmm, Int.natCast_mul]
    · have h10 : x2.toInt = (1 : Int) := xeq h10
      have ea : a = 1 := by omega
      subst ea
      exact fs_7_33 (c := m ^ 1) hb (by rw [Nat.pow_one]; exact hm) hl k n rfl (Nat.zero_le _) hD0 jq_refl
  · have h1 : x2.toInt = (0 : Int) := xeq h1
    have ea : a = 0 := by omega
    subst ea
    exact fs_7_33 (c := m ^ 0) hb (by rw [Nat.pow_zero]; exact c1) hl k n rfl (Nat.zero_le _) hD0 jq_refl
/-- the tables are laid -/
def JL (s : ps_S) (th m : Nat) (g : tx_g) : Prop := ps_r s 944 16 = th ∧ (ps_i s 944 11).toInt = m ∧ jv_D s (md_B m (md_sy m g)) ∧ (∀ k, k < g.1.length → (ps_a s 947 k).toInt = md_o m g k) ∧ ∀ k, k < g.2.length → (ps_a s 948 k).toInt = md_o m g (g.1.length + k)
theorem jm1 {c b : Nat} {l : Int64} {v : Int32} (hl : l = Int64.ofNat c) (hv : v.toInt = b) (hc : c ≤ 1099511627776) (hb : b ≤ 3) : (if (1099511627776 : Int64) < (l * (Int32.toInt64 v)) then (1099511627776 : Int64) else (l * (Int32.toInt64 v))) = Int64.ofNat (min (c * b) 1099511627776) := by
  rw [hl, xon hv, ← Int64.ofNat_mul]
  have h3 : c * b ≤ 1099511627776 * 3 := Nat.mul_le_mul hc hb
  have e1 : (Int64.ofNat (c * b)).toInt = (c * b : Nat) := Int64.toInt_ofNat_of_lt (by omega)
  have e2 : (1099511627776 : Int64).toInt = 1099511627776 := by decide
  by_cases h : 1099511627776 < c * b
  · rw [if_pos (Int64.lt_iff_toInt_lt.mpr (by rw [e1, e2]; omega)), Nat.min_eq_right (by omega)]
    rfl
  · rw [if_neg (fun z => by have := Int64.lt_iff_toInt_lt.mp z; rw [e1, e2] at this; omega), Nat.min_eq_left (by omega)]
theorem md_min {p b : Nat} (hb : 1 ≤ b) : min (min p 1099511627776 * b) 1099511627776 = min (p * b) 1099511627776 := by
  by_cases h : p ≤ 1099511627776
  · rw [Nat.min_eq_left h]
  · rw [Nat.min_eq_right (a := p) (by omega)]
    have h1 : 1099511627776 * 1 ≤ 1099511627776 * b := Nat.mul_le_mul_left _ hb
    have h2 : p * 1 ≤ p * b := Nat.mul_le_mul_left _ hb
    rw [Nat.min_eq_right (by omega), Nat.min_eq_right (by omega)]
section J6
variable {th m : Nat} {g : tx_g} {s0 : ps_S} {R : Int64 → ps_S → Prop}
theorem fs_6_114 (hm : 1 ≤ m ∧ m ≤ 3) (h90 : (md_B m (md_sy m g)).length ≤ 90) (J : JL s0 th m g) (k : R (Int64.ofNat (min (md_p (md_B m (md_sy m g))) 1099511627776)) s0) : ∀ (n : Nat) {l3 : Int64} {x5 : Int32} {i : Nat}, x5.toInt = i → i ≤ (md_B m (md_sy m g)).length → l3 = Int64.ofNat (min (md_p ((md_B m (md_sy m g)).take i)) 1099511627776) → pl_At n 6 114 [(0, .ref 944), (3, .long l3), (5, .int x5)] [] s0 (ps_rJ R)
  | 0, _, _, _, _, _, _ => pl_At_0
  | n + 1, l3, x5, i, hx, hi, hl => by
    have hD := J.2.2.1
    refine pl_6_114 ?_
    refine ⟨fun h120 => ?_, fun h120 => ?_⟩
    · have h120 : (ps_i s0 944 2).toInt ≤ x5.toInt := xle h120
      have e : i = (md_B m (md_sy m g)).length := by have := hD.1; omega
      rw [hl, e, List.take_length]
      exact k
    · have h120 : x5.toInt < (ps_i s0 944 2).toInt := xlt h120
      refine fs_182 (a := i) hx (show i < 90 from by have := hD.1; omega) (by decide) ?_
      have hi2 : i < (md_B m (md_sy m g)).length := by have := hD.1; omega
      have e := List.getElem?_eq_getElem hi2
      have hb := md_b3 hm (List.mem_of_getElem? e)
      have hv := hD.2 i _ e
      refine fs_6_114 hm h90 J k n (xj1 hx (by omega)) (by omega) ?_
      rw [jm1 hl hv (Nat.min_le_right _ _) hb.2, md_take e, md_p_snoc, md_min hb.1]
theorem fs_6_64 (hm : 1 ≤ m ∧ m ≤ 3) (hth : th = 2 ∨ th = 26) (H0 : cv_E s0 th g) (hr : ps_r s0 944 16 = th) (h11 : (ps_i s0 944 11).toInt = m) (k : ∀ s', JL s' th m g → jq 944 [945, 947, 948] [2] s0 s' → R (Int64.ofNat (min (md_p (md_B m (md_sy m g))) 1099511627776)) s') : ∀ (n : Nat) {s : ps_S} {x2 x3 : Int32} {i : Nat}, x2.toInt = m → x3.toInt = i → i ≤ g.2.length → jv_D s (md_B m ((md_sy m g).take (g.1.length + i))) → (∀ k, k < g.1.length → (ps_a s 947 k).toInt = md_o m g k) → (∀ k, k < i → (ps_a s 948 k).toInt = md_o m g (g.1.length + k)) → jq 944 [945, 947, 948] [2] s0 s → pl_At n 6 64 [(0, .ref 944), (2, .int x2), (3, .int x3)] [] s (ps_rJ R)
  | 0, _, _, _, _, _, _, _, _, _, _, _ => pl_At_0
  | n + 1, s, x2, x3, i, hx2, hx, hi, D, h7, h8, K => by
    have H := cv_E_jq H0 K hth (by decide) rfl
    have er : ps_r s 944 16 = th := by rw [jq_r K]; exact hr
    have e11 : (ps_i s 944 11).toInt = m := by rw [jq_i K 11 rfl]; exact h11
    have hsl : (md_sy m g).length = g.1.length + g.2.length := md_sy_len
    have h9 := md_o_le hm.2 (md_sy_ar H)
    have g1 := H.2.2.1
    have g2 := H.2.2.2.1
    have f7 := H.2.1
    have c20 : (20 : Int32).toInt = 20 := by decide
    refine pl_6_64 ?_
    rw [er]
    refine pl_nk_i (fun nk69 => ?_)
    refine ⟨fun h72 => ?_, fun h72 => ?_⟩
    · have h72 : (ps_i s th 7).toInt ≤ x3.toInt := xle h72
      have e : g.1.length + i = (md_sy m g).length := by omega
      rw [e, List.take_length] at D
      have ei : i = g.2.length := by omega
      rw [ei] at h8
      have hlo : (md_B m ((md_sy m g).take (md_sy m g).length)).length ≤ 9 * (md_sy m g).length := h9 _ (Nat.le_refl _)
      rw [List.take_length] at hlo
      exact fs_6_114 hm (by omega) ⟨er, e11, D, h7, h8⟩ (k _ ⟨er, e11, D, h7, h8⟩ K) n (i := 0) rfl (Nat.zero_le _) (by rw [List.take_zero]; rfl)
    · have h72 : x3.toInt < (ps_i s th 7).toInt := xlt h72
      refine fs_183 (a := i) hx (show i < 4 from by omega) (by decide) ?_
      rw [show ps_r (ps_ua s 948 i (ps_i s 944 2)) 944 16 = th from er]
      refine fs_136 (th := th) (c := 20 + i) hth (by rw [xIa (by omega) (by omega), c20, hx]; omega) (fun v97 q97 => ?_)
      have hi2 : i < g.2.length := by omega
      obtain ⟨q, e⟩ : ∃ q, g.2[i]? = some q := ⟨_, List.getElem?_eq_getElem hi2⟩
      have hq := H.2.2.2.2.2.1 i q.1 q.2 e
      have ev : v97.toInt = q.2 := by rw [q97, if_pos (by omega), ps_a_ua, if_neg (by omega)]; exact hq.2.2.2
      have es := md_sy_2 (m := m) e
      have D1 : jv_D (ps_ua s 948 i (ps_i s 944 2)) (md_B m ((md_sy m g).take (g.1.length + i))) := jv_D_jq D (jqa jq_refl rfl : jq 944 [948] [] s _) rfl rfl
      have hlo : (md_B m ((md_sy m g).take (g.1.length + i))).length ≤ 9 * (g.1.length + i) := h9 _ (by omega)
      have hb9 : (md_B m ((md_sy m g).take (g.1.length + i))).length + m ^ q.2 ≤ 90 := by have := md_pow9 hm.2 hq.2.1; omega
      refine fs_7 (m := m) (a := q.2) (b := m) hx2 ev hq.2.1 e11 hm.2 D1 hb9 (fun s100 q100 K100 => ?_)
      refine fs_6_64 hm hth H0 hr h11 k n hx2 (xj1 hx (by omega)) (by omega) ?_ (fun k hk => ?_) (fun k hk => ?_) (jqt (jqa K rfl) K100 (by decide) (by decide))
      · rw [← Nat.add_assoc, md_take es, md_B_snoc]
        exact q100
      · rw [jq_a K100 947 (by decide)]
        exact h7 k hk
      · rw [jq_a K100 948 (by decide), ps_a_ua]
        by_cases ek : k = i
        · rw [if_pos ⟨rfl, ek⟩, ek, D.1]
          rfl
        · rw [if_neg (fun z => ek z.2)]
          exact h8 k (by omega)
theorem fs_6_17 (hm : 1 ≤ m ∧ m ≤ 3) (hth : th = 2 ∨ th = 26) (H0 : cv_E s0 th g) (hr : ps_r s0 944 16 = th) (h11 : (ps_i s0 944 11).toInt = m) (k : ∀ s', JL s' th m g → jq 944 [945, 947, 948] [2] s0 s' → R (Int64.ofNat (min (md_p (md_B m (md_sy m g))) 1099511627776)) s') : ∀ (n : Nat) {s : ps_S} {x2 x3 : Int32} {i : Nat}, x2.toInt = m → x3.toInt = i → i ≤ g.1.length → jv_D s (md_B m ((md_sy m g).take i)) → (∀ k, k < i → (ps_a s 947 k).toInt = md_o m g k) → jq 944 [945, 947, 948] [2] s0 s → pl_At n 6 17 [(0, .ref 944), (2, .int x2), (3, .int x3)] [] s (ps_rJ R)
  | 0, _, _, _, _, _, _, _, _, _, _ => pl_At_0
  | n + 1, s, x2, x3, i, hx2, hx, hi, D, h7, K => by
    have H := cv_E_jq H0 K hth (by decide) rfl
    have er : ps_r s 944 16 = th := by rw [jq_r K]; exact hr
    have e11 : (ps_i s 944 11).toInt = m := by rw [jq_i K 11 rfl]; exact h11
    have hsl : (md_sy m g).length = g.1.length + g.2.length := md_sy_len
    have h9 := md_o_le hm.2 (md_sy_ar H)
    have g1 := H.2.2.1
    have g2 := H.2.2.2.1
    have f6 := H.1
    have c10 : (10 : Int32).toInt = 10 := by decide
    refine pl_6_17 ?_
    rw [er]
    refine pl_nk_i (fun nk22 => ?_)
    refine ⟨fun h25 => ?_, fun h25 => ?_⟩
    · have h25 : (ps_i s th 6).toInt ≤ x3.toInt := xle h25
      have e : i = g.1.length := by omega
      rw [e] at D h7
      exact fs_6_64 hm hth H0 hr h11 k n hx2 (i := 0) rfl (Nat.zero_le _) D h7 (fun k hk => absurd hk (Nat.not_lt_zero _)) K
    · have h25 : x3.toInt < (ps_i s th 6).toInt := xlt h25
      refine fs_183 (a := i) hx (show i < 6 from by omega) (by decide) ?_
      rw [show ps_r (ps_ua s 947 i (ps_i s 944 2)) 944 16 = th from er]
      refine fs_136 (th := th) (c := 10 + i) hth (by rw [xIa (by omega) (by omega), c10, hx]; omega) (fun v50 q50 => ?_)
      have hi2 : i < g.1.length := by omega
      obtain ⟨q, e⟩ : ∃ q, g.1[i]? = some q := ⟨_, List.getElem?_eq_getElem hi2⟩
      have hq := H.2.2.2.2.1 i q.1 q.2 e
      have ev : v50.toInt = q.2 := by rw [q50, if_pos (by omega), ps_a_ua, if_neg (by omega)]; exact hq.2.2.2
      have es := md_sy_1 (m := m) e
      have D1 : jv_D (ps_ua s 947 i (ps_i s 944 2)) (md_B m ((md_sy m g).take (i))) := jv_D_jq D (jqa jq_refl rfl : jq 944 [947] [] s _) rfl rfl
      have hlo : (md_B m ((md_sy m g).take (i))).length ≤ 9 * (i) := h9 _ (by omega)
      have hb9 : (md_B m ((md_sy m g).take (i))).length + m ^ q.2 ≤ 90 := by have := md_pow9 hm.2 hq.2.1; omega
      refine fs_7 (m := m) (a := q.2) (b := 2) (by decide) ev hq.2.1 e11 hm.2 D1 hb9 (fun s53 q53 K53 => ?_)
      refine fs_6_17 hm hth H0 hr h11 k n hx2 (xj1 hx (by omega)) (by omega) ?_ (fun k hk => ?_) (jqt (jqa K rfl) K53 (by decide) (by decide))
      · rw [md_take es, md_B_snoc]
        exact q53
      · rw [jq_a K53 947 (by decide), ps_a_ua]
        by_cases ek : k = i
        · rw [if_pos ⟨rfl, ek⟩, ek, D.1]
          rfl
        · rw [if_neg (fun z => ek z.2)]
          exact h7 k (by omega)
end J6

theorem fs_6 {n th m : Nat} {g : tx_g} {s : ps_S} {x2 : Int32} {R : Int64 → ps_S → Prop} (hm : 1 ≤ m ∧ m ≤ 3) (hth : th = 2 ∨ th = 26) (H : cv_E s th g) (hx : x2.toInt = m) (k : ∀ s', JL s' th m g → jq 944 [945, 947, 948] [2] (ps_ui (ps_ui (ps_ur s 944 16 th) 944 11 x2) 944 2 0) s' → R (Int64.ofNat (min (md_p (md_B m (md_sy m g))) 1099511627776)) s') : pl_Cl n 6 [.ref 944, .ref th, .int x2] s (ps_rJ R) := by
  cases n with
  | zero => exact pl_At_0
  | succ n =>
  show pl_At (n + 1) 6 0 [(0, .ref 944), (1, .ref th), (2, .int x2)] [] s (ps_rJ R)
  refine pl_6_0 ?_
  have C : cfr (fun q => q = 944) s (ps_ui (ps_ui (ps_ur s 944 16 th) 944 11 x2) 944 2 0) := cfr_i (cfr_i (cfr_r cfr_refl rfl) rfl) rfl
  exact fs_6_17 hm hth (cv_E_cfr H C (by omega) (by omega) (by omega) (by omega)) rfl hx k n hx (i := 0) rfl (Nat.zero_le _) ⟨rfl, fun k c hk => by cases hk⟩ (fun k hk => absurd hk (Nat.not_lt_zero _)) jq_refl
/-- how many models, as the answer tells it -/
def md_v (p : Nat) : Int := if p ≤ 4096 then p else -2
theorem lg4096 {c : Nat} (hc : c ≤ 1099511627776) : (lg_cmp (Int64.ofNat c) (4096 : Int64) ≤ 0 ↔ c ≤ 4096) ∧ (0 < lg_cmp (Int64.ofNat c) (4096 : Int64) ↔ 4096 < c) := by
  have e1 : (Int64.ofNat c).toInt = (c : Nat) := Int64.toInt_ofNat_of_lt (by omega)
  have e2 : (4096 : Int64).toInt = 4096 := by decide
  unfold lg_cmp
  by_cases h : 4096 < c
  · have g : (Int64.ofNat c) > (4096 : Int64) := Int64.lt_iff_toInt_lt.mpr (by rw [e1, e2]; omega)
    rw [if_pos g]
    exact ⟨⟨fun z => absurd z (by decide), fun z => absurd z (by omega)⟩, fun _ => h, fun _ => by decide⟩
  · have g : ¬ (Int64.ofNat c) > (4096 : Int64) := fun z => by have := Int64.lt_iff_toInt_lt.mp z; rw [e1, e2] at this; omega
    rw [if_neg g]
    by_cases e : Int64.ofNat c = 4096
    · rw [if_pos e]
      exact ⟨⟨fun _ => by omega, fun _ => by decide⟩, fun z => absurd z (by decide), fun z => absurd z (by omega)⟩
    · rw [if_neg e]
      exact ⟨⟨fun _ => by omega, fun _ => by decide⟩, fun z => absurd z (by decide), fun z => absurd z (by omega)⟩
/-- what laying the tables changes -/
def JC (q : Nat) : Prop := q = 944 ∨ q = 945 ∨ q = 947 ∨ q = 948
theorem JC_of {th : Nat} {x2 : Int32} {s s' : ps_S} (K : jq 944 [945, 947, 948] [2] (ps_ui (ps_ui (ps_ur s 944 16 th) 944 11 x2) 944 2 0) s') : cfr JC s s' := cfr_tr (cfr_i (cfr_i (cfr_r cfr_refl (Or.inl rfl)) (Or.inl rfl)) (Or.inl rfl)) (cfr_mono (jq_cfr K) (fun q z => by
  rcases z with z | z
  · exact Or.inl z
  · have := List.contains_iff_mem.mp z
    simp only [List.mem_cons, List.not_mem_nil, or_false] at this
    unfold JC
    omega))
theorem fs_2 {n th m : Nat} {g : tx_g} {s : ps_S} {x2 : Int32} {R : Int32 → ps_S → Prop} (hm : 1 ≤ m ∧ m ≤ 3) (hth : th = 2 ∨ th = 26) (H : cv_E s th g) (hx : x2.toInt = m) (k : ∀ (v : Int32) s', v.toInt = md_v (md_p (md_B m (md_sy m g))) → JL s' th m g → cfr JC s s' → R v s') : pl_Cl n 2 [.ref 944, .ref th, .int x2] s (ps_rI R) := by
  cases n with
  | zero => exact pl_At_0
  | succ n =>
  show pl_At (n + 1) 2 0 [(0, .ref 944), (1, .ref th), (2, .int x2)] [] s (ps_rI R)
  refine pl_2_0 ?_
  refine fs_6 hm hth H hx (fun s3 J K => ?_)
  generalize hp : md_p (md_B m (md_sy m g)) = p at k ⊢
  have hq := lg4096 (c := min p 1099511627776) (Nat.min_le_right _ _)
  have hmin : min p 1099511627776 ≤ 4096 ↔ p ≤ 4096 := by omega
  refine ⟨fun z => ?_, fun z => ?_⟩
  · have h4 : p ≤ 4096 := hmin.mp (hq.1.mp z)
    refine k _ _ ?_ J (JC_of K)
    rw [Nat.min_eq_left (by omega)]
    unfold md_v
    rw [if_pos h4]
    have e1 : (Int64.ofNat p).toInt = (p : Nat) := Int64.toInt_ofNat_of_lt (by omega)
    rw [Int64.toInt_toInt32, e1, Int.bmod_eq_of_le (by omega) (by omega)]
  · have h4 : ¬ p ≤ 4096 := fun y => by have := hq.2.mp z; omega
    refine k _ _ ?_ J (JC_of K)
    unfold md_v
    rw [if_neg h4]
    rfl
/-- models()'s answer -/
def md_A (g : tx_g) (x v : Int32) : Prop := (1 ≤ x.toInt ∧ x.toInt ≤ 3 → v.toInt = md_v (md_p (md_B x.toInt.toNat (md_sy x.toInt.toNat g)))) ∧ (¬ (1 ≤ x.toInt ∧ x.toInt ≤ 3) → v.toInt = -1)
theorem md_A_eq {g : tx_g} {x v v' : Int32} (h : md_A g x v) (h' : md_A g x v') : v = v' := by
  apply Int32.toInt_inj.mp
  by_cases z : 1 ≤ x.toInt ∧ x.toInt ≤ 3
  · rw [h.1 z, h'.1 z]
  · rw [h.2 z, h'.2 z]
theorem fs_172 {n : Nat} {s : ps_S} {h : tx_H} {l : List Nat} {x1 : Int32} (c : TRc s h l) : pl_Cl n 172 [.ref 0, .int x1] s (ps_rI (fun v _ => md_A h.1 x1 v)) := by
  cases n with
  | zero => exact pl_At_0
  | succ n =>
  show pl_At (n + 1) 172 0 [(0, .ref 0), (1, .int x1)] [] s _
  refine pl_172_0 ?_
  have hth : ps_r s 0 2 = 2 ∨ ps_r s 0 2 = 26 := by have := c.2.1; omega
  refine fs_181 (fun h1 h2 => ⟨fun z => absurd z (by decide), fun _ => ?_⟩) (fun h0 => ⟨fun _ => ⟨fun z => absurd z h0, fun _ => by decide⟩, fun z => absurd rfl z⟩)
  exact fs_2 (m := x1.toInt.toNat) (by omega) hth c.1.1 (by omega) (fun v s2 e _ _ => ⟨fun _ => e, fun z => absurd ⟨h1, h2⟩ z⟩)
/-! the reference -/

-- ProofBenchModel.power(II)I
theorem pl_290_0 {n : Nat} {x0 : Int32} {x1 : Int32} {s : ps_S} {Q : Option Value → ps_S → Prop} (h :
  pl_At n 290 4 [(0, .int x0), (1, .int x1), (2, .int 1), (3, .int 0)] [] s Q) : pl_At (n + 1) 290 0 [(0, .int x0), (1, .int x1)] [] s Q :=
  pl_wp_at (stops := [(4, [0, 1, 2, 3])]) (f := 6) h rfl

theorem pl_290_4 {n : Nat} {x0 : Int32} {x1 : Int32} {x2 : Int32} {x3 : Int32} {s : ps_S} {Q : Option Value → ps_S → Prop} (h :
  (x1 ≤ x3 →
    Q (some (.int x2)) s) ∧
  (x3 < x1 →
    pl_At n 290 4 [(0, .int x0), (1, .int x1), (2, .int (x2 * x0)), (3, .int (x3 + 1))] [] s Q)) : pl_At (n + 1) 290 4 [(0, .int x0), (1, .int x1), (2, .int x2), (3, .int x3)] [] s Q :=
  pl_wp_at (stops := [(4, [0, 1, 2, 3])]) (f := 13) h rfl

-- ProofBenchModel.digit(II)I
theorem pl_292_0 {n : Nat} {x1 : Int32} {x2 : Int32} {s : ps_S} {Q : Option Value → ps_S → Prop} (h :
  (pm_in (ps_i s 1131 73) 96 = true →
    (x2 ≤ 4096 →
      Q (some (.int (x2 * x1))) (ps_ui (ps_ua s 1170 (Int32.toNatClampNeg (ps_i s 1131 73)) x1) 1131 73 ((ps_i (ps_ua s 1170 (Int32.toNatClampNeg (ps_i s 1131 73)) x1) 1131 73) + 1))) ∧
    (4096 < x2 →
      Q (some (.int x2)) (ps_ui (ps_ua s 1170 (Int32.toNatClampNeg (ps_i s 1131 73)) x1) 1131 73 ((ps_i (ps_ua s 1170 (Int32.toNatClampNeg (ps_i s 1131 73)) x1) 1131 73) + 1))))) : pl_At (n + 1) 292 0 [(0, .ref 1131), (1, .int x1), (2, .int x2)] [] s Q :=
  pl_wp_at (stops := []) (f := 24) h rfl

-- ProofBenchModel.layModels(I)I
theorem pl_291_0 {n : Nat} {x1 : Int32} {s : ps_S} {Q : Option Value → ps_S → Prop} (h :
  pl_At n 291 9 [(0, .ref 1131), (1, .int x1), (2, .int 1), (3, .int 0)] [] (ps_ui s 1131 73 0) Q) : pl_At (n + 1) 291 0 [(0, .ref 1131), (1, .int x1)] [] s Q :=
  pl_wp_at (stops := [(9, [0, 1, 2, 3]), (52, [0, 1, 2, 3, 4]), (78, [0, 1, 2, 3]), (120, [0, 1, 2, 3, 4])]) (f := 9) h rfl

theorem pl_291_9 {n : Nat} {x1 : Int32} {x2 : Int32} {x3 : Int32} {s : ps_S} {Q : Option Value → ps_S → Prop} (h :
  (pm_in (ps_i s 1131 21) 2 = true →
    ((ps_a s 1135 (Int32.toNatClampNeg (ps_i s 1131 21))) ≤ x3 →
      pl_At n 291 78 [(0, .ref 1131), (1, .int x1), (2, .int x2), (3, .int 0)] [] s Q) ∧
    (x3 < (ps_a s 1135 (Int32.toNatClampNeg (ps_i s 1131 21))) →
      (pm_in x3 6 = true →
        (pm_in (((6 : Int32) * (ps_i (ps_ua s 1171 (Int32.toNatClampNeg x3) (ps_i s 1131 73)) 1131 21)) + x3) 12 = true →
          pl_Cl n 290 [.int x1, .int (ps_a (ps_ua s 1171 (Int32.toNatClampNeg x3) (ps_i s 1131 73)) 1138 (Int32.toNatClampNeg (((6 : Int32) * (ps_i (ps_ua s 1171 (Int32.toNatClampNeg x3) (ps_i s 1131 73)) 1131 21)) + x3)))] (ps_ua s 1171 (Int32.toNatClampNeg x3) (ps_i s 1131 73)) (ps_rI (fun v1 s1 =>
            pl_At n 291 52 [(0, .ref 1131), (1, .int x1), (2, .int x2), (3, .int x3), (4, .int v1)] [] s1 Q))))))) : pl_At (n + 1) 291 9 [(0, .ref 1131), (1, .int x1), (2, .int x2), (3, .int x3)] [] s Q :=
  pl_wp_at (stops := [(9, [0, 1, 2, 3]), (52, [0, 1, 2, 3, 4]), (78, [0, 1, 2, 3]), (120, [0, 1, 2, 3, 4])]) (f := 29) h rfl

theorem pl_291_52 {n : Nat} {x1 : Int32} {x2 : Int32} {x3 : Int32} {x4 : Int32} {s : ps_S} {Q : Option Value → ps_S → Prop} (h :
  (x4 ≤ 0 →
    pl_At n 291 9 [(0, .ref 1131), (1, .int x1), (2, .int x2), (3, .int (x3 + 1))] [] s Q) ∧
  (0 < x4 →
    pl_Cl n 292 [.ref 1131, .int 2, .int x2] s (ps_rI (fun v1 s1 =>
      pl_At n 291 52 [(0, .ref 1131), (1, .int x1), (2, .int v1), (3, .int x3), (4, .int (x4 + (Int32.ofInt (-1))))] [] s1 Q)))) : pl_At (n + 1) 291 52 [(0, .ref 1131), (1, .int x1), (2, .int x2), (3, .int x3), (4, .int x4)] [] s Q :=
  pl_wp_at (stops := [(9, [0, 1, 2, 3]), (52, [0, 1, 2, 3, 4]), (78, [0, 1, 2, 3]), (120, [0, 1, 2, 3, 4])]) (f := 13) h rfl

theorem pl_291_78 {n : Nat} {x1 : Int32} {x2 : Int32} {x3 : Int32} {s : ps_S} {Q : Option Value → ps_S → Prop} (h :
  (pm_in (ps_i s 1131 21) 2 = true →
    ((ps_a s 1136 (Int32.toNatClampNeg (ps_i s 1131 21))) ≤ x3 →
      Q (some (.int x2)) s) ∧
    (x3 < (ps_a s 1136 (Int32.toNatClampNeg (ps_i s 1131 21))) →
      (pm_in x3 4 = true →
        (pm_in (((4 : Int32) * (ps_i (ps_ua s 1172 (Int32.toNatClampNeg x3) (ps_i s 1131 73)) 1131 21)) + x3) 8 = true →
          pl_Cl n 290 [.int x1, .int (ps_a (ps_ua s 1172 (Int32.toNatClampNeg x3) (ps_i s 1131 73)) 1139 (Int32.toNatClampNeg (((4 : Int32) * (ps_i (ps_ua s 1172 (Int32.toNatClampNeg x3) (ps_i s 1131 73)) 1131 21)) + x3)))] (ps_ua s 1172 (Int32.toNatClampNeg x3) (ps_i s 1131 73)) (ps_rI (fun v1 s1 =>
            pl_At n 291 120 [(0, .ref 1131), (1, .int x1), (2, .int x2), (3, .int x3), (4, .int v1)] [] s1 Q))))))) : pl_At (n + 1) 291 78 [(0, .ref 1131), (1, .int x1), (2, .int x2), (3, .int x3)] [] s Q :=
  pl_wp_at (stops := [(9, [0, 1, 2, 3]), (52, [0, 1, 2, 3, 4]), (78, [0, 1, 2, 3]), (120, [0, 1, 2, 3, 4])]) (f := 29) h rfl

theorem pl_291_120 {n : Nat} {x1 : Int32} {x2 : Int32} {x3 : Int32} {x4 : Int32} {s : ps_S} {Q : Option Value → ps_S → Prop} (h :
  (x4 ≤ 0 →
    pl_At n 291 78 [(0, .ref 1131), (1, .int x1), (2, .int x2), (3, .int (x3 + 1))] [] s Q) ∧
  (0 < x4 →
    pl_Cl n 292 [.ref 1131, .int x1, .int x2] s (ps_rI (fun v1 s1 =>
      pl_At n 291 120 [(0, .ref 1131), (1, .int x1), (2, .int v1), (3, .int x3), (4, .int (x4 + (Int32.ofInt (-1))))] [] s1 Q)))) : pl_At (n + 1) 291 120 [(0, .ref 1131), (1, .int x1), (2, .int x2), (3, .int x3), (4, .int x4)] [] s Q :=
  pl_wp_at (stops := [(9, [0, 1, 2, 3]), (52, [0, 1, 2, 3, 4]), (78, [0, 1, 2, 3]), (120, [0, 1, 2, 3, 4])]) (f := 13) h rfl

-- ProofBenchModel.models(I)I
theorem pl_301_0 {n : Nat} {x1 : Int32} {s : ps_S} {Q : Option Value → ps_S → Prop} (h :
  pl_Cl n 200 [.int x1, .int 1, .int 3] s (ps_rI (fun v1 s1 =>
    (v1 ≠ 0 →
      pl_Cl n 291 [.ref 1131, .int x1] s1 (ps_rI (fun v2 s2 =>
        (v2 ≤ 4096 →
          Q (some (.int v2)) s2) ∧
        (4096 < v2 →
          Q (some (.int (-2))) s2)))) ∧
    (v1 = 0 →
      Q (some (.int (-1))) s1)))) : pl_At (n + 1) 301 0 [(0, .ref 1131), (1, .int x1)] [] s Q :=
  pl_wp_at (stops := []) (f := 21) h rfl

theorem md_pow {m i : Nat} (hm : m ≤ 3) (hi : i ≤ 19) : m ^ i ≤ 1162261467 := by
  have h1 : m ^ i ≤ 3 ^ i := Nat.pow_le_pow_left hm i
  have h2 : 3 ^ i ≤ 3 ^ 19 := Nat.pow_le_pow_right (by decide) hi
  have h3 : 3 ^ 19 = 1162261467 := by decide
  omega
theorem fm_290_4 {m a : Nat} {x0 x1 : Int32} {s : ps_S} {R : Int32 → ps_S → Prop} (h0 : x0.toInt = m) (h1 : x1.toInt = a) (hm : m ≤ 3) (ha : a ≤ 19) (k : ∀ v : Int32, v.toInt = (m ^ a : Nat) → R v s) : ∀ (n : Nat) {x2 x3 : Int32} {i : Nat}, x3.toInt = i → i ≤ a → x2.toInt = (m ^ i : Nat) → pl_At n 290 4 [(0, .int x0), (1, .int x1), (2, .int x2), (3, .int x3)] [] s (ps_rI R)
  | 0, _, _, _, _, _, _ => pl_At_0
  | n + 1, x2, x3, i, hx, hi, h2 => by
    refine pl_290_4 ?_
    refine ⟨fun h6 => ?_, fun h6 => ?_⟩
    · have h6 : x1.toInt ≤ x3.toInt := xle h6
      have e : i = a := by omega
      subst e
      exact k _ h2
    · have h6 : x3.toInt < x1.toInt := xlt h6
      refine fm_290_4 h0 h1 hm ha k n (xj1 hx (by omega)) (by omega) ?_
      have hp := md_pow (i := i + 1) hm (by omega)
      rw [Nat.pow_succ] at hp ⊢
      exact xImN h2 h0 (by omega)
theorem fm_290 {n m a : Nat} {x0 x1 : Int32} {s : ps_S} {R : Int32 → ps_S → Prop} (h0 : x0.toInt = m) (h1 : x1.toInt = a) (hm : m ≤ 3) (ha : a ≤ 19) (k : ∀ v : Int32, v.toInt = (m ^ a : Nat) → R v s) : pl_Cl n 290 [.int x0, .int x1] s (ps_rI R) := by
  cases n with
  | zero => exact pl_At_0
  | succ n =>
  show pl_At (n + 1) 290 0 [(0, .int x0), (1, .int x1)] [] s (ps_rI R)
  refine pl_290_0 ?_
  exact fm_290_4 h0 h1 hm ha k n (i := 0) rfl (Nat.zero_le _) (by rw [Nat.pow_zero]; rfl)
/-- the digits so far, and their product as far as it is told -/
def mv_Dg (s : ps_S) (l : List Nat) : Prop := (ps_i s 1131 73).toInt = l.length ∧ ar_L s 1170 l
def md_r (l : List Nat) (a : Int) : Prop := (a ≤ 4096 ∧ a = md_p l) ∨ (4096 < a ∧ a ≤ 12288 ∧ 4096 < md_p l)
theorem md_r_snoc {l : List Nat} {b : Nat} {x1 x2 : Int32} (h : md_r l x2.toInt) (hx : x1.toInt = b) (hb : 1 ≤ b ∧ b ≤ 3) : (x2.toInt ≤ 4096 → md_r (l ++ [b]) (x2 * x1).toInt) ∧ (4096 < x2.toInt → md_r (l ++ [b]) x2.toInt) := by
  unfold md_r at h ⊢
  rw [md_p_snoc]
  have e1 : md_p l * 1 ≤ md_p l * b := Nat.mul_le_mul_left _ hb.1
  have e3 : md_p l * b ≤ md_p l * 3 := Nat.mul_le_mul_left _ hb.2
  rcases h with ⟨h1, h2⟩ | ⟨h1, h2, h3⟩
  · refine ⟨fun _ => ?_, fun z => absurd z (by omega)⟩
    have ex : (x2 * x1).toInt = (md_p l * b : Nat) := by
      exact xImN h2 hx (by omega)
    rw [ex]
    generalize md_p l * b = q at e1 e3 ⊢
    omega
  · exact ⟨fun z => absurd z (by omega), fun _ => Or.inr ⟨h1, h2, by omega⟩⟩
theorem mv_Dg_snoc {s : ps_S} {l : List Nat} {b : Nat} {x : Int32} (D : mv_Dg s l) (hx : x.toInt = b) (hl : l.length < 96) : mv_Dg (ps_ui (ps_ua s 1170 l.length x) 1131 73 (ps_i (ps_ua s 1170 l.length x) 1131 73 + 1)) (l ++ [b]) := by
  refine ⟨?_, ar_snoc D.2 hx⟩
  rw [ps_i_ui, if_pos ⟨rfl, rfl⟩, List.length_append, List.length_singleton]
  exact xj1 D.1 (by omega)
theorem fm_292 {n b : Nat} {l : List Nat} {x1 x2 : Int32} {s : ps_S} {R : Int32 → ps_S → Prop} (D : mv_Dg s l) (h : md_r l x2.toInt) (hx : x1.toInt = b) (hb : 1 ≤ b ∧ b ≤ 3) (k : ∀ (v : Int32) s', mv_Dg s' (l ++ [b]) ∧ md_r (l ++ [b]) v.toInt ∧ kq [1170] [73] s s' → R v s') : pl_Cl n 292 [.ref 1131, .int x1, .int x2] s (ps_rI R) := by
  cases n with
  | zero => exact pl_At_0
  | succ n =>
  show pl_At (n + 1) 292 0 [(0, .ref 1131), (1, .int x1), (2, .int x2)] [] s (ps_rI R)
  have hr := md_r_snoc h hx hb
  have c4 : (4096 : Int32).toInt = 4096 := by decide
  refine pl_292_0 ?_
  intro b9
  obtain ⟨b9, c9⟩ := pl_in b9
  refine ⟨fun h24 => ?_, fun h24 => ?_⟩
  · have h24 : x2.toInt ≤ (4096 : Int) := xle h24
    rw [xtn D.1] at *
    exact k _ _ ⟨mv_Dg_snoc D hx (by have := D.1; omega), hr.1 (by omega), kqi (kqa kq_refl rfl) rfl⟩
  · have h24 : (4096 : Int) < x2.toInt := xlt h24
    rw [xtn D.1] at *
    exact k _ _ ⟨mv_Dg_snoc D hx (by have := D.1; omega), hr.2 (by omega), kqi (kqa kq_refl rfl) rfl⟩
def ML (s : ps_S) (m : Nat) (g : tx_g) : Prop := mv_Dg s (md_B m (md_sy m g)) ∧ (∀ k, k < g.1.length → (ps_a s 1171 k).toInt = md_o m g k) ∧ ∀ k, k < g.2.length → (ps_a s 1172 k).toInt = md_o m g (g.1.length + k)
section M291
variable {b m : Nat} {g : tx_g} {s0 : ps_S} {R : Int32 → ps_S → Prop}
def MK (b m : Nat) (g : tx_g) (s0 : ps_S) (R : Int32 → ps_S → Prop) : Prop := ∀ (v : Int32) s', ML s' m g → md_r (md_B m (md_sy m g)) v.toInt → kq [1170, 1171, 1172] [73] s0 s' → R v s'
/-- what holds at the loops' heads -/
def MH (b m : Nat) (g : tx_g) (s0 s : ps_S) : Prop := kq [1170, 1171, 1172] [73] s0 s ∧ b < 2 ∧ (ps_i s 1131 21).toInt = b ∧ mv_E s b g
theorem MH_k {b m : Nat} {g : tx_g} {s0 s s' : ps_S} {A F : List Nat} (H : MH b m g s0 s) (K : kq A F s s') (hA : A.all (fun a => [1170, 1171, 1172].contains a) = true) (hF : F.all (fun a => [73].contains a) = true) : MH b m g s0 s' := by
  obtain ⟨h1, h2, h3, h4⟩ := H
  have K2 : kq [1170, 1171, 1172] [73] s s' := kqt kq_refl K hA hF
  exact ⟨kqt h1 K hA hF, h2, by rw [kq_i K2 21 rfl]; exact h3, mv_E_kq h4 K2 (by decide)⟩
theorem mv_E_ar {s : ps_S} {b m : Nat} {g : tx_g} (H : mv_E s b g) : ∀ q, q ∈ md_sy m g → q.1 ≤ 2 := fun q hq => by
  unfold md_sy at hq
  rcases List.mem_append.mp hq with hq | hq
  · obtain ⟨p, hp, rfl⟩ := List.mem_map.mp hq
    obtain ⟨k, hk⟩ := List.mem_iff_getElem?.mp hp
    exact (H.2.2.2.2.1 k p.1 p.2 hk).2.1
  · obtain ⟨p, hp, rfl⟩ := List.mem_map.mp hq
    obtain ⟨k, hk⟩ := List.mem_iff_getElem?.mp hp
    exact (H.2.2.2.2.2 k p.1 p.2 hk).2.1
theorem fm_291_52 {n0 : Nat} {L : List Nat} {j0 : Nat} {x1 x3 : Int32} (hm : 1 ≤ m ∧ m ≤ 3) (hx1 : x1.toInt = m) (k : ∀ (s' : ps_S) (v : Int32), mv_Dg s' (L ++ List.replicate j0 2) → md_r (L ++ List.replicate j0 2) v.toInt → kq [1170] [73] s0 s' → pl_At n0 291 9 [(0, .ref 1131), (1, .int x1), (2, .int v), (3, .int (x3 + 1))] [] s' (ps_rI R)) : ∀ (n : Nat) {s : ps_S} {x2 x4 : Int32} {j : Nat}, n ≤ n0 → x4.toInt = (j0 : Int) - j → j ≤ j0 → j0 ≤ 9 → mv_Dg s (L ++ List.replicate j 2) → md_r (L ++ List.replicate j 2) x2.toInt → kq [1170] [73] s0 s → pl_At n 291 52 [(0, .ref 1131), (1, .int x1), (2, .int x2), (3, .int x3), (4, .int x4)] [] s (ps_rI R)
  | 0, _, _, _, _, _, _, _, _, _, _, _ => pl_At_0
  | n + 1, s, x2, x4, j, hn, hx4, hj, h9, D, r, K => by
    have cm : (Int32.ofInt (-1)).toInt = -1 := by decide
    refine pl_291_52 ?_
    refine ⟨fun h54 => ?_, fun h54 => ?_⟩
    · have h54 : x4.toInt ≤ (0 : Int) := xle h54
      have e : j = j0 := by omega
      subst e
      exact (k s x2 D r K).le (by omega)
    · have h54 : (0 : Int) < x4.toInt := xlt h54
      refine fm_292 (b := 2) D r (by decide) (by decide) (fun v60 s60 q60 => ?_)
      refine fm_291_52 hm hx1 k n (j := j + 1) (by omega) ?_ (by omega) h9 (by rw [List.replicate_succ', ← List.append_assoc]; exact q60.1) (by rw [List.replicate_succ', ← List.append_assoc]; exact q60.2.1) (kqt K q60.2.2 (by decide) (by decide))
      clear q60
      rw [xIa (by omega) (by omega), cm, hx4]
      omega

theorem fm_291_120 {n0 : Nat} {L : List Nat} {j0 : Nat} {x1 x3 : Int32} (hm : 1 ≤ m ∧ m ≤ 3) (hx1 : x1.toInt = m) (k : ∀ (s' : ps_S) (v : Int32), mv_Dg s' (L ++ List.replicate j0 m) → md_r (L ++ List.replicate j0 m) v.toInt → kq [1170] [73] s0 s' → pl_At n0 291 78 [(0, .ref 1131), (1, .int x1), (2, .int v), (3, .int (x3 + 1))] [] s' (ps_rI R)) : ∀ (n : Nat) {s : ps_S} {x2 x4 : Int32} {j : Nat}, n ≤ n0 → x4.toInt = (j0 : Int) - j → j ≤ j0 → j0 ≤ 9 → mv_Dg s (L ++ List.replicate j m) → md_r (L ++ List.replicate j m) x2.toInt → kq [1170] [73] s0 s → pl_At n 291 120 [(0, .ref 1131), (1, .int x1), (2, .int x2), (3, .int x3), (4, .int x4)] [] s (ps_rI R)
  | 0, _, _, _, _, _, _, _, _, _, _, _ => pl_At_0
  | n + 1, s, x2, x4, j, hn, hx4, hj, h9, D, r, K => by
    have cm : (Int32.ofInt (-1)).toInt = -1 := by decide
    refine pl_291_120 ?_
    refine ⟨fun h122 => ?_, fun h122 => ?_⟩
    · have h122 : x4.toInt ≤ (0 : Int) := xle h122
      have e : j = j0 := by omega
      subst e
      exact (k s x2 D r K).le (by omega)
    · have h122 : (0 : Int) < x4.toInt := xlt h122
      refine fm_292 (b := m) D r hx1 hm (fun v128 s128 q128 => ?_)
      refine fm_291_120 hm hx1 k n (j := j + 1) (by omega) ?_ (by omega) h9 (by rw [List.replicate_succ', ← List.append_assoc]; exact q128.1) (by rw [List.replicate_succ', ← List.append_assoc]; exact q128.2.1) (kqt K q128.2.2 (by decide) (by decide))
      clear q128
      rw [xIa (by omega) (by omega), cm, hx4]
      omega

theorem fm_291_78 (hm : 1 ≤ m ∧ m ≤ 3) (k : MK b m g s0 R) : ∀ (n : Nat) {s : ps_S} {x1 x2 x3 : Int32} {i : Nat}, x1.toInt = m → x3.toInt = i → i ≤ g.2.length → mv_Dg s (md_B m ((md_sy m g).take (g.1.length + i))) → md_r (md_B m ((md_sy m g).take (g.1.length + i))) x2.toInt → (∀ k, k < g.1.length → (ps_a s 1171 k).toInt = md_o m g k) → (∀ k, k < i → (ps_a s 1172 k).toInt = md_o m g (g.1.length + k)) → MH b m g s0 s → pl_At n 291 78 [(0, .ref 1131), (1, .int x1), (2, .int x2), (3, .int x3)] [] s (ps_rI R)
  | 0, _, _, _, _, _, _, _, _, _, _, _, _, _ => pl_At_0
  | n + 1, s, x1, x2, x3, i, hx1, hx, hi, D, r, h7, h8, HH => by
    obtain ⟨K, hb, h21, H⟩ := id HH
    have hsl : (md_sy m g).length = g.1.length + g.2.length := md_sy_len
    have h9 := md_o_le hm.2 (mv_E_ar (m := m) H)
    have g1 := H.2.2.1
    have g2 := H.2.2.2.1
    have f1 := H.2.1
    have cw : (4 : Int32).toInt = 4 := by decide
    refine pl_291_78 ?_
    rw [xtn h21]
    intro bb
    refine ⟨fun z => ?_, fun z => ?_⟩
    · have z := xle z
      have e : g.1.length + i = (md_sy m g).length := by omega
      have ei : i = g.2.length := by omega
      rw [e, List.take_length] at D r
      rw [ei] at h8
      exact k _ _ ⟨D, h7, h8⟩ r K
    · have z := xlt z
      have hi2 : i < g.2.length := by omega
      obtain ⟨q, e⟩ : ∃ q, g.2[i]? = some q := ⟨_, List.getElem?_eq_getElem hi2⟩
      have hq := H.2.2.2.2.2 i q.1 q.2 e
      have es := md_sy_2 (m := m) e
      intro b1 b2
      rw [xtn hx] at *
      have K1 : kq [1172] [] s (ps_ua s 1172 i (ps_i s 1131 73)) := kqa kq_refl rfl
      have ex : (((4 : Int32) * (ps_i (ps_ua s 1172 i (ps_i s 1131 73)) 1131 21)) + x3).toInt = (4 * b + i : Nat) := by
        show (((4 : Int32) * (ps_i s 1131 21)) + x3).toInt = _
        have e1 : ((4 : Int32) * (ps_i s 1131 21)).toInt = 4 * b := by rw [xIm (by rw [cw, h21]; omega) (by rw [cw, h21]; omega), cw, h21]
        rw [xIa (by omega) (by omega), e1, hx]
        omega
      rw [xtn ex]
      refine fm_290 (m := m) (a := q.2) hx1 (by rw [ps_a_ua, if_neg (by omega)]; exact hq.2.2.2) hm.2 (by omega) (fun v ev => ?_)
      have h9a := md_pow9 hm.2 hq.2.1
      have D1 : mv_Dg (ps_ua s 1172 i (ps_i s 1131 73)) (md_B m ((md_sy m g).take (g.1.length + i))) := by
        unfold mv_Dg ar_L at *
        rw [kq_i K1 73 rfl, kq_a K1 1170 (by decide)]
        exact D
      refine fm_291_120 (n0 := n) (s0 := ps_ua s 1172 i (ps_i s 1131 73)) (L := md_B m ((md_sy m g).take (g.1.length + i))) (j0 := m ^ q.2) hm hx1 (fun s' v' D' r' K' => ?_) n (j := 0) (Nat.le_refl _) (by omega) (Nat.zero_le _) h9a (by rw [List.replicate_zero, List.append_nil]; exact D1) (by rw [List.replicate_zero, List.append_nil]; exact r) kq_refl
      refine fm_291_78 hm k n hx1 (xj1 hx (by omega)) (by omega) (by rw [← Nat.add_assoc, md_take es, md_B_snoc]; exact D') (by rw [← Nat.add_assoc, md_take es, md_B_snoc]; exact r') (fun k hk => ?_) (fun k hk => ?_) (MH_k (MH_k HH K1 (by decide) (by decide)) K' (by decide) (by decide))
      · rw [kq_a K' 1171 (by decide), ps_a_ua, if_neg (fun z => absurd z.1 (by decide))]
        exact h7 k hk
      · rw [kq_a K' 1172 (by decide), ps_a_ua]
        by_cases ek : k = i
        · rw [if_pos ⟨rfl, ek⟩, ek, D.1]
          rfl
        · rw [if_neg (fun z => ek z.2)]
          exact h8 k (by omega)

theorem fm_291_9 (hm : 1 ≤ m ∧ m ≤ 3) (k : MK b m g s0 R) : ∀ (n : Nat) {s : ps_S} {x1 x2 x3 : Int32} {i : Nat}, x1.toInt = m → x3.toInt = i → i ≤ g.1.length → mv_Dg s (md_B m ((md_sy m g).take (i))) → md_r (md_B m ((md_sy m g).take (i))) x2.toInt → (∀ k, k < i → (ps_a s 1171 k).toInt = md_o m g k) → MH b m g s0 s → pl_At n 291 9 [(0, .ref 1131), (1, .int x1), (2, .int x2), (3, .int x3)] [] s (ps_rI R)
  | 0, _, _, _, _, _, _, _, _, _, _, _, _ => pl_At_0
  | n + 1, s, x1, x2, x3, i, hx1, hx, hi, D, r, h7, HH => by
    obtain ⟨K, hb, h21, H⟩ := id HH
    have hsl : (md_sy m g).length = g.1.length + g.2.length := md_sy_len
    have h9 := md_o_le hm.2 (mv_E_ar (m := m) H)
    have g1 := H.2.2.1
    have g2 := H.2.2.2.1
    have f1 := H.1
    have cw : (6 : Int32).toInt = 6 := by decide
    refine pl_291_9 ?_
    rw [xtn h21]
    intro bb
    refine ⟨fun z => ?_, fun z => ?_⟩
    · have z := xle z
      have e : i = g.1.length := by omega
      rw [e] at D r h7
      exact fm_291_78 hm k n hx1 (i := 0) rfl (Nat.zero_le _) D r h7 (fun k hk => absurd hk (Nat.not_lt_zero _)) HH
    · have z := xlt z
      have hi2 : i < g.1.length := by omega
      obtain ⟨q, e⟩ : ∃ q, g.1[i]? = some q := ⟨_, List.getElem?_eq_getElem hi2⟩
      have hq := H.2.2.2.2.1 i q.1 q.2 e
      have es := md_sy_1 (m := m) e
      intro b1 b2
      rw [xtn hx] at *
      have K1 : kq [1171] [] s (ps_ua s 1171 i (ps_i s 1131 73)) := kqa kq_refl rfl
      have ex : (((6 : Int32) * (ps_i (ps_ua s 1171 i (ps_i s 1131 73)) 1131 21)) + x3).toInt = (6 * b + i : Nat) := by
        show (((6 : Int32) * (ps_i s 1131 21)) + x3).toInt = _
        have e1 : ((6 : Int32) * (ps_i s 1131 21)).toInt = 6 * b := by rw [xIm (by rw [cw, h21]; omega) (by rw [cw, h21]; omega), cw, h21]
        rw [xIa (by omega) (by omega), e1, hx]
        omega
      rw [xtn ex]
      refine fm_290 (m := m) (a := q.2) hx1 (by rw [ps_a_ua, if_neg (by omega)]; exact hq.2.2.2) hm.2 (by omega) (fun v ev => ?_)
      have h9a := md_pow9 hm.2 hq.2.1
      have D1 : mv_Dg (ps_ua s 1171 i (ps_i s 1131 73)) (md_B m ((md_sy m g).take (i))) := by
        unfold mv_Dg ar_L at *
        rw [kq_i K1 73 rfl, kq_a K1 1170 (by decide)]
        exact D
      refine fm_291_52 (n0 := n) (s0 := ps_ua s 1171 i (ps_i s 1131 73)) (L := md_B m ((md_sy m g).take (i))) (j0 := m ^ q.2) hm hx1 (fun s' v' D' r' K' => ?_) n (j := 0) (Nat.le_refl _) (by omega) (Nat.zero_le _) h9a (by rw [List.replicate_zero, List.append_nil]; exact D1) (by rw [List.replicate_zero, List.append_nil]; exact r) kq_refl
      refine fm_291_9 hm k n hx1 (xj1 hx (by omega)) (by omega) (by rw [md_take es, md_B_snoc]; exact D') (by rw [md_take es, md_B_snoc]; exact r') (fun k hk => ?_) (MH_k (MH_k HH K1 (by decide) (by decide)) K' (by decide) (by decide))
      · rw [kq_a K' 1171 (by decide), ps_a_ua]
        by_cases ek : k = i
        · rw [if_pos ⟨rfl, ek⟩, ek, D.1]
          rfl
        · rw [if_neg (fun z => ek z.2)]
          exact h7 k (by omega)

end M291

theorem fm_291 {n b m : Nat} {g : tx_g} {s : ps_S} {x1 : Int32} {R : Int32 → ps_S → Prop} (hm : 1 ≤ m ∧ m ≤ 3) (hb : b < 2) (h21 : (ps_i s 1131 21).toInt = b) (H : mv_E s b g) (hx : x1.toInt = m) (k : ∀ (v : Int32) s', ML s' m g → md_r (md_B m (md_sy m g)) v.toInt → kq [1170, 1171, 1172] [73] s s' → R v s') : pl_Cl n 291 [.ref 1131, .int x1] s (ps_rI R) := by
  cases n with
  | zero => exact pl_At_0
  | succ n =>
  show pl_At (n + 1) 291 0 [(0, .ref 1131), (1, .int x1)] [] s (ps_rI R)
  refine pl_291_0 ?_
  have K : kq [] [73] s (ps_ui s 1131 73 0) := kqi kq_refl rfl
  exact fm_291_9 (b := b) (m := m) (g := g) (s0 := s) hm (fun v s' a b c => k v s' a b c) n hx (i := 0) rfl (Nat.zero_le _) ⟨rfl, fun k c hk => by cases hk⟩ (Or.inl ⟨by decide, rfl⟩) (fun k hk => absurd hk (Nat.not_lt_zero _)) ⟨kqt kq_refl K (by decide) (by decide), hb, h21, mv_E_kq H K (by decide)⟩
/-- models() of the reference: what it leaves, what it answers -/
theorem fm_301 {n b : Nat} {g : tx_g} {s : ps_S} {x1 : Int32} {R : Int32 → ps_S → Prop} (hb : b < 2) (h21 : (ps_i s 1131 21).toInt = b) (H : mv_E s b g) (k1 : ∀ (v : Int32) s', 1 ≤ x1.toInt → x1.toInt ≤ 3 → v.toInt = md_v (md_p (md_B x1.toInt.toNat (md_sy x1.toInt.toNat g))) → ML s' x1.toInt.toNat g → kq [1170, 1171, 1172] [73] s s' → R v s') (k0 : ¬ (1 ≤ x1.toInt ∧ x1.toInt ≤ 3) → R (-1) s) : pl_Cl n 301 [.ref 1131, .int x1] s (ps_rI R) := by
  cases n with
  | zero => exact pl_At_0
  | succ n =>
  show pl_At (n + 1) 301 0 [(0, .ref 1131), (1, .int x1)] [] s (ps_rI R)
  refine pl_301_0 ?_
  have c3 : (3 : Int32).toInt = 3 := by decide
  have c1 : (1 : Int32).toInt = 1 := by decide
  have c4 : (4096 : Int32).toInt = 4096 := by decide
  refine fm_200 (fun h1 h2 => ⟨fun _ => ?_, fun z => absurd z (by decide)⟩) (fun h => ⟨fun z => absurd rfl z, fun _ => k0 (by omega)⟩)
  refine fm_291 (m := x1.toInt.toNat) (by omega) hb h21 H (by omega) (fun v s' L r K => ⟨fun z => ?_, fun z => ?_⟩)
  · have z := xle z
    refine k1 _ _ (by omega) (by omega) ?_ L K
    rcases r with ⟨r1, r2⟩ | ⟨r1, r2, r3⟩
    · unfold md_v
      rw [if_pos (by omega)]
      exact r2
    · omega
  · have z := xlt z
    refine k1 _ _ (by omega) (by omega) ?_ L K
    rcases r with ⟨r1, r2⟩ | ⟨r1, r2, r3⟩
    · omega
    · unfold md_v
      rw [if_neg (by omega)]
      rfl
theorem fm_301a {n : Nat} {s : ps_S} {h : tx_H} {l : List Nat} {x1 : Int32} (m : TRm s h l) : pl_Cl n 301 [.ref 1131, .int x1] s (ps_rI (fun v _ => md_A h.1 x1 v)) := by
  obtain ⟨b, m1, m2, m3, -⟩ := m
  exact fm_301 m1 m2 m3.1 (fun v s' a b e _ _ => ⟨fun _ => e, fun z => absurd ⟨a, b⟩ z⟩) (fun z => ⟨fun y => absurd y z, fun _ => by decide⟩)
end
section
set_option maxRecDepth 100000
/-! rows: where parts end, how deep they lie; the class's shapes, the reference's endOf -/
/-- what w parts take of a list, by arities -/
def en (ar : Nat → Nat) : List Nat → Nat → Nat
  | [], _ => 0
  | _ :: _, 0 => 0
  | c :: l, w + 1 => 1 + en ar l (w + ar c)
theorem en_0 {ar : Nat → Nat} {l : List Nat} : en ar l 0 = 0 := by cases l <;> rfl
theorem en_c {ar : Nat → Nat} {c w : Nat} {l : List Nat} : en ar (c :: l) (w + 1) = 1 + en ar l (w + ar c) := rfl
theorem en_add {ar : Nat → Nat} : ∀ {l : List Nat} {a b : Nat}, en ar l (a + b) = en ar l a + en ar (l.drop (en ar l a)) b
  | [], a, b => rfl
  | c :: l, 0, b => by
    rw [Nat.zero_add, en_0, List.drop_zero, Nat.zero_add]
  | c :: l, a + 1, b => by
    rw [show a + 1 + b = (a + b) + 1 from by omega, en_c, en_c, show a + b + ar c = (a + ar c) + b from by omega, en_add, Nat.add_comm 1 (en ar l (a + ar c)), List.drop_succ_cons]
    omega
def ArW (σ : mSig) (ar : Nat → Nat) : Prop := ∀ (b : Bool) (p : Nat) (ks : List Bool), kS σ b p = some ks → ar p = ks.length
theorem en_ws {σ : mSig} {ar : Nat → Nat} (hA : ArW σ ar) : ∀ {m r : List Nat} {W : List Bool} {k : Nat}, ws σ m W → en ar (m ++ r) (W.length + k) = m.length + en ar r k
  | [], r, W, k, h => by
    have h : W = [] := h
    rw [h]
    show en ar ([] ++ r) (0 + k) = 0 + en ar r k
    rw [List.nil_append, Nat.zero_add, Nat.zero_add]
  | c :: m, r, W, k, h => by
    obtain ⟨b, W', ks, rfl, hk, h⟩ := ws_cons.mp h
    have ih := en_ws hA (r := r) (k := k) h
    rw [List.length_append] at ih
    rw [List.cons_append, List.length_cons, show W'.length + 1 + k = (W'.length + k) + 1 from by omega, en_c, hA b c ks hk, show W'.length + k + ks.length = ks.length + W'.length + k from by omega, ih, List.length_cons]
    omega
theorem en_ws1 {σ : mSig} {ar : Nat → Nat} (hA : ArW σ ar) {m : List Nat} {W : List Bool} (h : ws σ m W) : en ar m W.length = m.length := by
  have := en_ws hA (r := []) (k := 0) h
  rw [List.append_nil, en_0] at this
  exact this
theorem en_p1 {σ : mSig} {ar : Nat → Nat} (hA : ArW σ ar) {m r : List Nat} {b : Bool} (h : ws σ m [b]) : en ar (m ++ r) 1 = m.length := by
  have := en_ws hA (r := r) (k := 0) h
  rw [en_0] at this
  exact this
theorem ws_drop {σ : mSig} : ∀ {l : List Nat} {W : List Bool} (i : Nat), ws σ l W → ∃ W', ws σ (l.drop i) W'
  | l, W, 0, h => ⟨W, by rw [List.drop_zero]; exact h⟩
  | [], W, i + 1, h => ⟨W, h⟩
  | c :: l, W, i + 1, h => by
    obtain ⟨b, W', ks, rfl, hk, h⟩ := ws_cons.mp h
    rw [List.drop_succ_cons]
    exact ws_drop i h
theorem en_lt {σ : mSig} {ar : Nat → Nat} (hA : ArW σ ar) {l : List Nat} {W : List Bool} {k : Nat} (h : ws σ l W) (hk : k < W.length) : en ar l k < l.length := by
  rw [← List.take_append_drop k W] at h
  obtain ⟨l1, l2, rfl, h1, h2⟩ := ws_split h
  have e := en_ws hA (r := l2) (k := 0) h1
  rw [en_0, List.length_take, Nat.min_eq_left (by omega)] at e
  rw [Nat.add_zero] at e
  rw [e, List.length_append]
  have : l2 ≠ [] := fun z => by
    rw [z] at h2
    have h2 : W.drop k = [] := h2
    have := congrArg List.length h2
    rw [List.length_drop, List.length_nil] at this
    omega
  have := Nat.pos_of_ne_zero (fun z => this (List.eq_nil_of_length_eq_zero z))
  omega
theorem en_le {σ : mSig} {ar : Nat → Nat} (hA : ArW σ ar) {l : List Nat} {W : List Bool} {k : Nat} (h : ws σ l W) (hk : k ≤ W.length) : en ar l k ≤ l.length := by
  rcases Nat.lt_or_ge k W.length with z | z
  · exact Nat.le_of_lt (en_lt hA h z)
  · rw [show k = W.length from by omega, en_ws1 hA h]
    exact Nat.le_refl _
/-- the rest behind k parts is well formed too -/
theorem en_rest {σ : mSig} {ar : Nat → Nat} (hA : ArW σ ar) {l : List Nat} {W : List Bool} {k : Nat} (h : ws σ l W) (hk : k ≤ W.length) : ws σ (l.drop (en ar l k)) (W.drop k) ∧ ws σ (l.take (en ar l k)) (W.take k) := by
  have h' := h
  rw [← List.take_append_drop k W] at h
  obtain ⟨l1, l2, rfl, h1, h2⟩ := ws_split h
  have e := en_ws hA (r := l2) (k := 0) h1
  rw [en_0, List.length_take, Nat.min_eq_left (by omega), Nat.add_zero] at e
  rw [e, Nat.add_zero, List.drop_left, List.take_left]
  exact ⟨h2, h1⟩
/-- relations and functions, as sorts know them -/
def sg (g : tx_g) : mSig := ((g.1.length, g.2.length), (fun r => (g.1.getD r ([], 0)).2, fun f => (g.2.getD f ([], 0)).2))
def arh (g : tx_g) (c : Nat) : Nat := if c = 0 then 0 else if c < 4 then 2 else if c < 6 then 1 else if c = 6 then 2 else if c < 10 then 0 else if c < 20 then (g.1.getD (c - 10) ([], 0)).2 else if c < 40 then (g.2.getD (c - 20) ([], 0)).2 else 0
theorem arh_k {g : tx_g} (h1 : g.1.length ≤ 6) (h2 : g.2.length ≤ 4) : ArW (sg g) (arh g) := fun b p ks hk => by
  unfold arh
  rcases kS_num hk with ⟨a, e⟩ | ⟨a, a2, e⟩ | ⟨a, e⟩ | ⟨a, e⟩ | ⟨a, a2, e⟩ | ⟨a, a2, e⟩ | ⟨a, a2, e⟩
  · rw [if_pos a, e]
  · rw [if_neg (by omega), if_pos (by omega), e]
  · rw [if_neg (by omega), if_neg (by omega), if_pos (by omega), e]
  · rw [if_neg (by omega), if_neg (by omega), if_neg (by omega), if_pos (by omega), e]
  · have a2 : p < 10 + g.1.length := a2
    have e : ks.length = (g.1.getD (p - 10) ([], 0)).2 := e
    rw [if_neg (by omega), if_neg (by omega), if_neg (by omega), if_neg (by omega), if_neg (by omega), if_pos (by omega), e]
  · have a2 : p < 20 + g.2.length := a2
    have e : ks.length = (g.2.getD (p - 20) ([], 0)).2 := e
    rw [if_neg (by omega), if_neg (by omega), if_neg (by omega), if_neg (by omega), if_neg (by omega), if_neg (by omega), if_pos (by omega), e]
  · rw [if_neg (by omega), if_neg (by omega), if_neg (by omega), if_neg (by omega), if_neg (by omega), if_neg (by omega), if_neg (by omega), e]
theorem getD_2 {α : Type} {l : List (List Nat × Nat)} {k : Nat} (h : k < l.length) : ∃ w, l[k]? = some (w, (l.getD k ([], 0)).2) := by
  refine ⟨(l.getD k ([], 0)).1, ?_⟩
  rw [List.getD_eq_getElem?_getD, List.getElem?_eq_getElem h]
  rfl
/-- the class's arities of pieces that can stand -/
theorem cv_arh {s : ps_S} {th : Nat} {g : tx_g} (H : cv_E s th g) {b : Bool} {p : Nat} {ks : List Bool} (hk : kS (sg g) b p = some ks) : (if p < 40 then (ps_a s (th + 4) p).toInt else 0) = (arh g p : Nat) := by
  have hA := arh_k H.2.2.1 H.2.2.2.1 b p ks hk
  have h1 := H.2.2.1
  have h2 := H.2.2.2.1
  obtain ⟨b0, b1, b2, b3, b4, b5, b6⟩ := H.2.2.2.2.2.2.1
  rw [hA]
  rcases kS_num hk with ⟨a, e⟩ | ⟨a, a2, e⟩ | ⟨a, e⟩ | ⟨a, e⟩ | ⟨a, a2, e⟩ | ⟨a, a2, e⟩ | ⟨a, a2, e⟩
  · subst a
    rw [if_pos (by decide), b0, e]; rfl
  · rcases (show p = 1 ∨ p = 2 ∨ p = 3 from by omega) with rfl | rfl | rfl
    · rw [if_pos (by decide), b1, e]; rfl
    · rw [if_pos (by decide), b2, e]; rfl
    · rw [if_pos (by decide), b3, e]; rfl
  · rcases a with rfl | rfl
    · rw [if_pos (by decide), b4, e]; rfl
    · rw [if_pos (by decide), b5, e]; rfl
  · subst a
    rw [if_pos (by decide), b6, e]; rfl
  · have a2 : p < 10 + g.1.length := a2
    have e : ks.length = (g.1.getD (p - 10) ([], 0)).2 := e
    obtain ⟨w, hw⟩ := getD_2 (α := Nat) (l := g.1) (k := p - 10) (by omega)
    have z := (H.2.2.2.2.1 _ _ _ hw).2.2.2
    rw [show 10 + (p - 10) = p from by omega] at z
    rw [if_pos (by omega), z, e]
  · have a2 : p < 20 + g.2.length := a2
    have e : ks.length = (g.2.getD (p - 20) ([], 0)).2 := e
    obtain ⟨w, hw⟩ := getD_2 (α := Nat) (l := g.2) (k := p - 20) (by omega)
    have z := (H.2.2.2.2.2.1 _ _ _ hw).2.2.2
    rw [show 20 + (p - 20) = p from by omega] at z
    rw [if_pos (by omega), z, e]
  · rw [if_neg (by omega), e]; rfl
theorem xmin1n {x : Int32} {a : Nat} (h : x.toInt = a) (ha : 1 ≤ a) : (x + (-1)).toInt = (a - 1 : Nat) := by
  have h2 := xmin1 h
  generalize (x + (-1)).toInt = q at h2 ⊢
  omega
/-- depth and quantifiers around, piece by piece; a stack of the parts that are wanted -/
def qb (c : Nat) : Nat := if c = 4 ∨ c = 5 then 1 else 0
def ly (ar : Nat → Nat) : List (Nat × Nat) → List Nat → List (Nat × Nat)
  | [], _ => []
  | _ :: _, [] => []
  | d :: S, c :: l => d :: ly ar (List.replicate (ar c) (d.1 + 1, d.2 + qb c) ++ S) l
/-- a shape's rows -/
def shb (r : Nat) : Bool := !ps_is r 6 || ((Nat.beq (ps_c0 r 0) (r + 1) && Nat.beq (ps_c0 r 1) (r + 2) && Nat.beq (ps_c0 r 2) (r + 3)) && (Nat.beq (ps_ln (r + 1)) 40 && Nat.beq (ps_ln (r + 2)) 40 && Nat.beq (ps_ln (r + 3)) 40) && Nat.ble 50 r)
def sha (a : Nat) : Nat → Bool
  | 0 => true
  | n + 1 => shb (a + n) && sha a n
theorem sha_ok {a : Nat} : ∀ {n : Nat}, sha a n = true → ∀ r, a ≤ r → r < a + n → shb r = true
  | 0, _, r, h1, h2 => by omega
  | n + 1, h, r, h1, h2 => by
    unfold sha at h
    rw [Bool.and_eq_true] at h
    by_cases e : r = a + n
    · rw [e]; exact h.1
    · exact sha_ok h.2 r h1 (by omega)
set_option maxRecDepth 1000000
theorem sha_0 : sha 0 200 = true := by decide +kernel
theorem sha_1 : sha 200 200 = true := by decide +kernel
theorem sha_2 : sha 400 200 = true := by decide +kernel
theorem sha_3 : sha 600 200 = true := by decide +kernel
theorem sha_4 : sha 800 200 = true := by decide +kernel
theorem sha_5 : sha 1000 131 = true := by decide +kernel
set_option maxRecDepth 100000
theorem shr {r : Nat} (h : ps_is r 6 = true) : (ps_c0 r 0 = r + 1 ∧ ps_c0 r 1 = r + 2 ∧ ps_c0 r 2 = r + 3) ∧ (ps_ln (r + 1) = 40 ∧ ps_ln (r + 2) = 40 ∧ ps_ln (r + 3) = 40) ∧ 50 ≤ r := by
  have hr := xis_lt (by decide) h
  have k : shb r = true := by
    by_cases h0 : r < 200
    · exact sha_ok sha_0 r (by omega) (by omega)
    by_cases h1 : r < 400
    · exact sha_ok sha_1 r (by omega) (by omega)
    by_cases h2 : r < 600
    · exact sha_ok sha_2 r (by omega) (by omega)
    by_cases h3 : r < 800
    · exact sha_ok sha_3 r (by omega) (by omega)
    by_cases h4 : r < 1000
    · exact sha_ok sha_4 r (by omega) (by omega)
    exact sha_ok sha_5 r (by omega) (by omega)
  unfold shb at k
  rw [h] at k
  simp only [Bool.not_true, Bool.false_or, Bool.and_eq_true] at k
  obtain ⟨⟨⟨⟨k1, k2⟩, k3⟩, ⟨k4, k5⟩, k6⟩, k7⟩ := k
  exact ⟨⟨Nat.eq_of_beq_eq_true k1, Nat.eq_of_beq_eq_true k2, Nat.eq_of_beq_eq_true k3⟩, ⟨Nat.eq_of_beq_eq_true k4, Nat.eq_of_beq_eq_true k5, Nat.eq_of_beq_eq_true k6⟩, Nat.le_of_ble_eq_true k7⟩
/-- the ends are laid from the place i on -/
def shE (s : ps_S) (r : Nat) (ar : Nat → Nat) (l : List Nat) (i : Nat) : Prop := ∀ j, i ≤ j → j < l.length → (ps_a s (r + 1) j).toInt = (j + en ar (l.drop j) 1 : Nat)
/-- depths and quantifiers around of the parts that are wanted from p on -/
def shB (s : ps_S) (r : Nat) (ar : Nat → Nat) : Nat → List (Nat × Nat) → List Nat → Prop
  | _, [], _ => True
  | p, d :: S, t => (ps_a s (r + 2) p).toInt = d.1 ∧ (ps_a s (r + 3) p).toInt = d.2 ∧ shB s r ar (p + en ar t 1) S (t.drop (en ar t 1))
theorem shB_ext {s s' : ps_S} {r : Nat} {ar : Nat → Nat} : ∀ {S : List (Nat × Nat)} {p : Nat} {t : List Nat}, shB s r ar p S t → (∀ q, p ≤ q → ps_a s' (r + 2) q = ps_a s (r + 2) q ∧ ps_a s' (r + 3) q = ps_a s (r + 3) q) → shB s' r ar p S t
  | [], _, _, _, _ => trivial
  | d :: S, p, t, h, k => by
    obtain ⟨h1, h2, h3⟩ := h
    exact ⟨by rw [(k p (Nat.le_refl _)).1]; exact h1, by rw [(k p (Nat.le_refl _)).2]; exact h2, shB_ext h3 (fun q hq => k q (by omega))⟩
/-- a piece's parts are told, those behind stand -/
theorem shB_rep {s : ps_S} {r : Nat} {ar : Nat → Nat} {x : Nat × Nat} {S : List (Nat × Nat)} : ∀ {a : Nat} {p : Nat} {t : List Nat}, (∀ k, k < a → (ps_a s (r + 2) (p + en ar t k)).toInt = x.1 ∧ (ps_a s (r + 3) (p + en ar t k)).toInt = x.2) → shB s r ar (p + en ar t a) S (t.drop (en ar t a)) → shB s r ar p (List.replicate a x ++ S) t
  | 0, p, t, _, h => by
    rw [en_0, Nat.add_zero, List.drop_zero] at h
    exact h
  | a + 1, p, t, hk, h => by
    have e : ∀ k, en ar t (k + 1) = en ar t 1 + en ar (t.drop (en ar t 1)) k := fun k => by rw [Nat.add_comm k 1, en_add]
    have h0 := hk 0 (by omega)
    rw [en_0, Nat.add_zero] at h0
    refine ⟨h0.1, h0.2, shB_rep (a := a) (fun k hk2 => ?_) ?_⟩
    · have := hk (k + 1) (by omega)
      rw [e k, ← Nat.add_assoc] at this
      exact this
    · rw [e a, ← Nat.add_assoc] at h
      rw [List.drop_drop]
      exact h
/-- what a shape holds of a row: done so far D, then the stack S and the rest t -/
def shM (s : ps_S) (r : Nat) (c : List Nat) (D : List (Nat × Nat)) : Prop := D.length = c.length ∧ (∀ (i : Nat) (d : Nat × Nat), D[i]? = some d → (ps_a s (r + 2) i).toInt = d.1 ∧ (ps_a s (r + 3) i).toInt = d.2) ∧ (∀ m : Nat, (ps_i s r 3).toInt ≤ m ↔ ∀ d, d ∈ D → d.1 ≤ m) ∧ (∀ m : Nat, (ps_i s r 4).toInt ≤ m ↔ ∀ (i : Nat) (d : Nat × Nat) (x : Nat), D[i]? = some d → c[i]? = some x → d.2 + qb x ≤ m)
/-- a row is measured -/
def SH (s : ps_S) (r : Nat) (ar : Nat → Nat) (l : List Nat) : Prop := shE s r ar l 0 ∧ shM s r l (ly ar [(0, 0)] l)
theorem ly_len {σ : mSig} {ar : Nat → Nat} (hA : ArW σ ar) : ∀ {l : List Nat} {W : List Bool} {S : List (Nat × Nat)}, ws σ l W → S.length = W.length → (ly ar S l).length = l.length
  | [], W, S, h, hS => by
    have h : W = [] := h
    rw [h] at hS
    rw [List.eq_nil_of_length_eq_zero hS]
    rfl
  | c :: l, W, S, h, hS => by
    obtain ⟨b, W', ks, rfl, hk, h⟩ := ws_cons.mp h
    cases S with
    | nil => cases hS
    | cons d S =>
      show (ly ar _ l).length + 1 = l.length + 1
      rw [ly_len hA h (by rw [List.length_append, List.length_replicate, List.length_append, hA b c ks hk]; rw [List.length_cons, List.length_cons] at hS; omega)]
theorem ly_dep {ar : Nat → Nat} : ∀ {l : List Nat} {S : List (Nat × Nat)} {m : Nat}, (∀ d, d ∈ S → d.1 ≤ m ∧ d.2 ≤ m) → ∀ d, d ∈ ly ar S l → d.1 ≤ m + l.length ∧ d.2 ≤ m + l.length
  | [], [], _, _, d, h => by cases h
  | [], _ :: _, _, _, d, h => by cases h
  | _ :: _, [], _, _, d, h => by cases h
  | c :: l, x :: S, m, hS, d, h => by
    have hx := hS x List.mem_cons_self
    rcases List.mem_cons.mp h with h | h
    · rw [h, List.length_cons]
      omega
    · have := ly_dep (m := m + 1) (fun y hy => ?_) d h
      · rw [List.length_cons]
        omega
      · rcases List.mem_append.mp hy with hy | hy
        · have e := (List.mem_replicate.mp hy).2
          rw [e]
          have : qb c ≤ 1 := by unfold qb; split <;> omega
          exact ⟨by show x.1 + 1 ≤ m + 1; omega, by show x.2 + qb c ≤ m + 1; omega⟩
        · have := hS y (List.mem_cons_of_mem _ hy)
          omega
theorem drop_c {l : List Nat} {i c : Nat} (h : l[i]? = some c) : l.drop i = c :: l.drop (i + 1) := by
  have hl := (List.getElem?_eq_some_iff.mp h)
  obtain ⟨h1, h2⟩ := hl
  rw [List.drop_eq_getElem_cons h1, h2]
/-- cells of a shape -/
def CSh (r q : Nat) : Prop := r ≤ q ∧ q ≤ r + 3

-- ProofBench$Shape.endAt(I)I
theorem pl_104_0 {n : Nat} {r0 : Nat} {x1 : Int32} {s : ps_S} {Q : Option Value → ps_S → Prop} (h :
  (x1 < 0 →
    Q (some (.int (-1))) s) ∧
  (0 ≤ x1 →
    pl_nk (ps_is r0 6) (pl_nk (Nat.beq (ps_K (ps_c0 r0 0)).1 0) (((nI (ps_ln (ps_c0 r0 0))) ≤ x1 →
      Q (some (.int (-1))) s) ∧
    (x1 < (nI (ps_ln (ps_c0 r0 0))) →
      pl_nk (ps_is r0 6) (pl_nk (ps_ar (ps_c0 r0 0) 0) ((pm_in x1 (ps_ln (ps_c0 r0 0)) = true →
        Q (some (.int (ps_a s (ps_c0 r0 0) (Int32.toNatClampNeg x1)))) s)))))))) : pl_At (n + 1) 104 0 [(0, .ref r0), (1, .int x1)] [] s Q :=
  pl_wp_at (stops := []) (f := 19) h rfl

-- ProofBench$Shape.nestedAt(I)I
theorem pl_105_0 {n : Nat} {r0 : Nat} {x1 : Int32} {s : ps_S} {Q : Option Value → ps_S → Prop} (h :
  (x1 < 0 →
    Q (some (.int 0)) s) ∧
  (0 ≤ x1 →
    pl_nk (ps_is r0 6) (pl_nk (Nat.beq (ps_K (ps_c0 r0 2)).1 0) (((nI (ps_ln (ps_c0 r0 2))) ≤ x1 →
      Q (some (.int 0)) s) ∧
    (x1 < (nI (ps_ln (ps_c0 r0 2))) →
      pl_nk (ps_is r0 6) (pl_nk (ps_ar (ps_c0 r0 2) 0) ((pm_in x1 (ps_ln (ps_c0 r0 2)) = true →
        Q (some (.int (ps_a s (ps_c0 r0 2) (Int32.toNatClampNeg x1)))) s)))))))) : pl_At (n + 1) 105 0 [(0, .ref r0), (1, .int x1)] [] s Q :=
  pl_wp_at (stops := []) (f := 19) h rfl

-- ProofBench$Shape.measure(LProofBench$Row;LProofBench$Theory;)V
theorem pl_103_0 {n : Nat} {r0 : Nat} {r1 : Nat} {r2 : Nat} {s : ps_S} {Q : Option Value → ps_S → Prop} (h :
  pl_nk (ps_is r0 6) (pl_nk (ps_is r0 6) (pl_nk (ps_is r0 6) (pl_Cl n 183 [.ref (ps_c0 r0 1), .int 0, .int 0] (ps_ui (ps_ui s r0 3 0) r0 4 0) (ps_rV (fun s1 =>
    pl_nk (ps_is r0 6) (pl_Cl n 183 [.ref (ps_c0 r0 2), .int 0, .int 0] s1 (ps_rV (fun s2 =>
      pl_nk (ps_is r1 5) (pl_At n 103 35 [(0, .ref r0), (1, .ref r1), (2, .ref r2), (3, .int ((ps_i s2 r1 1) - 1))] [] s2 Q)))))))))) : pl_At (n + 1) 103 0 [(0, .ref r0), (1, .ref r1), (2, .ref r2)] [] s Q :=
  pl_wp_at (stops := [(35, [0, 1, 2, 3]), (55, [0, 1, 2, 3, 4, 5]), (92, [0, 1, 2, 3]), (176, [0, 1, 2, 3, 4, 5, 6, 7])]) (f := 23) h rfl

theorem pl_103_35 {n : Nat} {r0 : Nat} {r1 : Nat} {r2 : Nat} {x3 : Int32} {s : ps_S} {Q : Option Value → ps_S → Prop} (h :
  (x3 < 0 →
    pl_At n 103 92 [(0, .ref r0), (1, .ref r1), (2, .ref r2), (3, .int 0)] [] s Q) ∧
  (0 ≤ x3 →
    pl_Cl n 92 [.ref r1, .int x3] s (ps_rI (fun v1 s1 =>
      pl_Cl n 136 [.ref r2, .int v1] s1 (ps_rI (fun v2 s2 =>
        pl_At n 103 55 [(0, .ref r0), (1, .ref r1), (2, .ref r2), (3, .int x3), (4, .int (x3 + 1)), (5, .int v2)] [] s2 Q)))))) : pl_At (n + 1) 103 35 [(0, .ref r0), (1, .ref r1), (2, .ref r2), (3, .int x3)] [] s Q :=
  pl_wp_at (stops := [(35, [0, 1, 2, 3]), (55, [0, 1, 2, 3, 4, 5]), (92, [0, 1, 2, 3]), (176, [0, 1, 2, 3, 4, 5, 6, 7])]) (f := 16) h rfl

theorem pl_103_55 {n : Nat} {r0 : Nat} {r1 : Nat} {r2 : Nat} {x3 : Int32} {x4 : Int32} {x5 : Int32} {s : ps_S} {Q : Option Value → ps_S → Prop} (h :
  (x5 ≤ 0 →
    pl_nk (ps_is r0 6) (pl_Cl n 183 [.ref (ps_c0 r0 0), .int x3, .int x4] s (ps_rV (fun s1 =>
      pl_At n 103 35 [(0, .ref r0), (1, .ref r1), (2, .ref r2), (3, .int (x3 + (-1)))] [] s1 Q)))) ∧
  (0 < x5 →
    pl_Cl n 104 [.ref r0, .int x4] s (ps_rI (fun v2 s2 =>
      pl_At n 103 55 [(0, .ref r0), (1, .ref r1), (2, .ref r2), (3, .int x3), (4, .int v2), (5, .int (x5 + (-1)))] [] s2 Q)))) : pl_At (n + 1) 103 55 [(0, .ref r0), (1, .ref r1), (2, .ref r2), (3, .int x3), (4, .int x4), (5, .int x5)] [] s Q :=
  pl_wp_at (stops := [(35, [0, 1, 2, 3]), (55, [0, 1, 2, 3, 4, 5]), (92, [0, 1, 2, 3]), (176, [0, 1, 2, 3, 4, 5, 6, 7])]) (f := 17) h rfl

theorem pl_103_92 {n : Nat} {r0 : Nat} {r1 : Nat} {r2 : Nat} {x3 : Int32} {s : ps_S} {Q : Option Value → ps_S → Prop} (h :
  pl_nk (ps_is r1 5) (((ps_i s r1 1) ≤ x3 →
    Q none s) ∧
  (x3 < (ps_i s r1 1) →
    pl_nk (ps_is r0 6) (pl_Cl n 182 [.ref (ps_c0 r0 1), .int x3] s (ps_rI (fun v1 s1 =>
      pl_Cl n 105 [.ref r0, .int x3] s1 (ps_rI (fun v2 s2 =>
        pl_Cl n 92 [.ref r1, .int x3] s2 (ps_rI (fun v3 s3 =>
          pl_Cl n 184 [.int v3] s3 (ps_rI (fun v4 s4 =>
            (v4 = 0 →
              pl_nk (ps_is r0 6) (pl_nk (ps_is r0 6) (pl_nk (ps_is r0 6) (pl_nk (ps_is r0 6) (pl_Cl n 92 [.ref r1, .int x3] (ps_ui (ps_ui s4 r0 3 (if (ps_i s4 r0 3) < v1 then v1 else (ps_i s4 r0 3))) r0 4 (if (ps_i (ps_ui s4 r0 3 (if (ps_i s4 r0 3) < v1 then v1 else (ps_i s4 r0 3))) r0 4) < (v2 + 0) then (v2 + 0) else (ps_i (ps_ui s4 r0 3 (if (ps_i s4 r0 3) < v1 then v1 else (ps_i s4 r0 3))) r0 4))) (ps_rI (fun v5 s5 =>
                pl_Cl n 136 [.ref r2, .int v5] s5 (ps_rI (fun v6 s6 =>
                  pl_At n 103 176 [(0, .ref r0), (1, .ref r1), (2, .ref r2), (3, .int x3), (4, .int v1), (5, .int (v2 + 0)), (6, .int (x3 + 1)), (7, .int v6)] [] s6 Q))))))))) ∧
            (v4 ≠ 0 →
              pl_nk (ps_is r0 6) (pl_nk (ps_is r0 6) (pl_nk (ps_is r0 6) (pl_nk (ps_is r0 6) (pl_Cl n 92 [.ref r1, .int x3] (ps_ui (ps_ui s4 r0 3 (if (ps_i s4 r0 3) < v1 then v1 else (ps_i s4 r0 3))) r0 4 (if (ps_i (ps_ui s4 r0 3 (if (ps_i s4 r0 3) < v1 then v1 else (ps_i s4 r0 3))) r0 4) < (v2 + 1) then (v2 + 1) else (ps_i (ps_ui s4 r0 3 (if (ps_i s4 r0 3) < v1 then v1 else (ps_i s4 r0 3))) r0 4))) (ps_rI (fun v7 s7 =>
                pl_Cl n 136 [.ref r2, .int v7] s7 (ps_rI (fun v8 s8 =>
                  pl_At n 103 176 [(0, .ref r0), (1, .ref r1), (2, .ref r2), (3, .int x3), (4, .int v1), (5, .int (v2 + 1)), (6, .int (x3 + 1)), (7, .int v8)] [] s8 Q))))))))))))))))))))) : pl_At (n + 1) 103 92 [(0, .ref r0), (1, .ref r1), (2, .ref r2), (3, .int x3)] [] s Q :=
  pl_wp_at (stops := [(35, [0, 1, 2, 3]), (55, [0, 1, 2, 3, 4, 5]), (92, [0, 1, 2, 3]), (176, [0, 1, 2, 3, 4, 5, 6, 7])]) (f := 71) h rfl

theorem pl_103_176 {n : Nat} {r0 : Nat} {r1 : Nat} {r2 : Nat} {x3 : Int32} {x4 : Int32} {x5 : Int32} {x6 : Int32} {x7 : Int32} {s : ps_S} {Q : Option Value → ps_S → Prop} (h :
  (x7 ≤ 0 →
    pl_At n 103 92 [(0, .ref r0), (1, .ref r1), (2, .ref r2), (3, .int (x3 + 1))] [] s Q) ∧
  (0 < x7 →
    pl_nk (ps_is r0 6) (pl_Cl n 183 [.ref (ps_c0 r0 1), .int x6, .int (x4 + 1)] s (ps_rV (fun s1 =>
      pl_nk (ps_is r0 6) (pl_Cl n 183 [.ref (ps_c0 r0 2), .int x6, .int x5] s1 (ps_rV (fun s2 =>
        pl_Cl n 104 [.ref r0, .int x6] s2 (ps_rI (fun v3 s3 =>
          pl_At n 103 176 [(0, .ref r0), (1, .ref r1), (2, .ref r2), (3, .int x3), (4, .int x4), (5, .int x5), (6, .int v3), (7, .int (x7 + (-1)))] [] s3 Q)))))))))) : pl_At (n + 1) 103 176 [(0, .ref r0), (1, .ref r1), (2, .ref r2), (3, .int x3), (4, .int x4), (5, .int x5), (6, .int x6), (7, .int x7)] [] s Q :=
  pl_wp_at (stops := [(35, [0, 1, 2, 3]), (55, [0, 1, 2, 3, 4, 5]), (92, [0, 1, 2, 3]), (176, [0, 1, 2, 3, 4, 5, 6, 7])]) (f := 24) h rfl

-- ProofBenchModel.takes(I)I
theorem pl_218_0 {n : Nat} {x1 : Int32} {s : ps_S} {Q : Option Value → ps_S → Prop} (h :
  (x1 = 0 →
    Q (some (.int 0)) s) ∧
  (x1 ≠ 0 →
    (x1 < 40 →
      (x1 < 4 →
        Q (some (.int 2)) s) ∧
      (4 ≤ x1 →
        (x1 ≠ 6 →
          (6 ≤ x1 →
            (20 ≤ x1 →
              (pm_in ((((4 : Int32) * (ps_i s 1131 21)) + x1) - 20) 8 = true →
                Q (some (.int (ps_a s 1139 (Int32.toNatClampNeg ((((4 : Int32) * (ps_i s 1131 21)) + x1) - 20))))) s)) ∧
            (x1 < 20 →
              (pm_in ((((6 : Int32) * (ps_i s 1131 21)) + x1) - 10) 12 = true →
                Q (some (.int (ps_a s 1138 (Int32.toNatClampNeg ((((6 : Int32) * (ps_i s 1131 21)) + x1) - 10))))) s))) ∧
          (x1 < 6 →
            Q (some (.int 1)) s)) ∧
        (x1 = 6 →
          Q (some (.int 2)) s))) ∧
    (40 ≤ x1 →
      Q (some (.int 0)) s))) : pl_At (n + 1) 218 0 [(0, .ref 1131), (1, .int x1)] [] s Q :=
  pl_wp_at (stops := []) (f := 54) h rfl

-- ProofBenchModel.endOf(II)I
theorem pl_221_0 {n : Nat} {x1 : Int32} {x2 : Int32} {s : ps_S} {Q : Option Value → ps_S → Prop} (h :
  pl_At n 221 5 [(0, .ref 1131), (1, .int x1), (3, .int x2), (4, .int 1)] [] s Q) : pl_At (n + 1) 221 0 [(0, .ref 1131), (1, .int x1), (2, .int x2)] [] s Q :=
  pl_wp_at (stops := [(5, [0, 1, 3, 4])]) (f := 6) h rfl

theorem pl_221_5 {n : Nat} {x1 : Int32} {x3 : Int32} {x4 : Int32} {s : ps_S} {Q : Option Value → ps_S → Prop} (h :
  (x4 ≤ 0 →
    Q (some (.int x3)) s) ∧
  (0 < x4 →
    pl_Cl n 220 [.ref 1131, .int x1, .int x3] s (ps_rI (fun v1 s1 =>
      pl_Cl n 218 [.ref 1131, .int v1] s1 (ps_rI (fun v2 s2 =>
        pl_At n 221 5 [(0, .ref 1131), (1, .int x1), (3, .int (x3 + 1)), (4, .int (x4 + (v2 - 1)))] [] s2 Q)))))) : pl_At (n + 1) 221 5 [(0, .ref 1131), (1, .int x1), (3, .int x3), (4, .int x4)] [] s Q :=
  pl_wp_at (stops := [(5, [0, 1, 3, 4])]) (f := 19) h rfl

theorem en_pos {ar : Nat → Nat} {t : List Nat} {p : Nat} (h : 0 < t.length) (hp : 0 < p) : 0 < en ar t p := by
  cases t with
  | nil => rw [List.length_nil] at h; omega
  | cons c t =>
    obtain ⟨k, rfl⟩ : ∃ k, p = k + 1 := ⟨p - 1, by omega⟩
    rw [en_c]
    omega
theorem mx_if {a b : Int32} {m : Int} : ((if a < b then b else a) : Int32).toInt ≤ m ↔ a.toInt ≤ m ∧ b.toInt ≤ m := by
  by_cases h : a < b
  · have := xlt h
    rw [if_pos h]
    omega
  · have : ¬ a.toInt < b.toInt := fun z => h (Int32.lt_iff_toInt_lt.mpr z)
    rw [if_neg h]
    omega
theorem fs_182v {n r0 a : Nat} {x1 : Int32} {s : ps_S} {R : Int32 → ps_S → Prop} (hx : x1.toInt = a) (ha : a < ps_ln r0) (hl : ps_ln r0 ≤ 20000) (k : ∀ v : Int32, v = ps_a s r0 a → R v s) : pl_Cl n 182 [.ref r0, .int x1] s (ps_rI R) := fs_182 hx ha hl (k _ rfl)
theorem fs_92c {n r i c : Nat} {x1 : Int32} {s : ps_S} {l : List Nat} {R : Int32 → ps_S → Prop} (hr : ps_is r 5 = true) (W : cv_W s r l) (hx : x1.toInt = i) (hc : l[i]? = some c) (k : ∀ v : Int32, v.toInt = c → R v s) : pl_Cl n 92 [.ref r, .int x1] s (ps_rI R) := by
  obtain ⟨t1, t2, t3, -⟩ := cv_row hr
  have hl := (List.getElem?_eq_some_iff.mp hc).1
  exact fs_92 hr t1 (by rw [t1]; exact t2) W (fun v z => k v (z.1 ⟨by omega, by omega⟩ c (by rw [hx]; exact hc)))
theorem fs_136c {n th : Nat} {b : Bool} {p : Nat} {ks : List Bool} {g : tx_g} {x1 : Int32} {s : ps_S} {R : Int32 → ps_S → Prop} (hth : th = 2 ∨ th = 26) (H : cv_E s th g) (hk : kS (sg g) b p = some ks) (hx : x1.toInt = p) (k : ∀ v : Int32, v.toInt = (arh g p : Nat) → R v s) : pl_Cl n 136 [.ref th, .int x1] s (ps_rI R) := fs_136 hth hx (fun v z => k v (by rw [z]; exact cv_arh H hk))
theorem fs_104 {n r i : Nat} {x1 : Int32} {s : ps_S} {R : Int32 → ps_S → Prop} (hr : ps_is r 6 = true) (hx : x1.toInt = i) (hi : i < 40) (k : ∀ v : Int32, v = ps_a s (r + 1) i → R v s) : pl_Cl n 104 [.ref r, .int x1] s (ps_rI R) := by
  cases n with
  | zero => exact pl_At_0
  | succ n =>
  show pl_At (n + 1) 104 0 [(0, .ref r), (1, .int x1)] [] s (ps_rI R)
  obtain ⟨⟨e0, e1, e2⟩, ⟨l0, l1, l2⟩, -⟩ := shr hr
  have t40 : (nI (ps_ln (r + 1))).toInt = 40 := by rw [l0]; decide
  refine pl_104_0 ?_
  rw [e0]
  refine ⟨fun h1 => ?_, fun h1 => ?_⟩
  · have h1 : x1.toInt < (0 : Int) := xlt h1
    exfalso; omega
  · have h1 : (0 : Int) ≤ x1.toInt := xle h1
    refine pl_nk_i (fun nk6 => ?_)
    refine pl_nk_i (fun nk9 => ?_)
    refine ⟨fun h10 => ?_, fun h10 => ?_⟩
    · have h10 : (nI (ps_ln (r + 1))).toInt ≤ x1.toInt := xle h10
      exfalso; omega
    · have h10 : x1.toInt < (nI (ps_ln (r + 1))).toInt := xlt h10
      refine pl_nk_i (fun nk14 => ?_)
      refine pl_nk_i (fun nk18 => ?_)
      intro b18
      obtain ⟨b18, c18⟩ := pl_in b18
      rw [xtn hx]
      exact k _ rfl
theorem fs_105 {n r i : Nat} {x1 : Int32} {s : ps_S} {R : Int32 → ps_S → Prop} (hr : ps_is r 6 = true) (hx : x1.toInt = i) (hi : i < 40) (k : ∀ v : Int32, v = ps_a s (r + 3) i → R v s) : pl_Cl n 105 [.ref r, .int x1] s (ps_rI R) := by
  cases n with
  | zero => exact pl_At_0
  | succ n =>
  show pl_At (n + 1) 105 0 [(0, .ref r), (1, .int x1)] [] s (ps_rI R)
  obtain ⟨⟨e0, e1, e2⟩, ⟨l0, l1, l2⟩, -⟩ := shr hr
  have t40 : (nI (ps_ln (r + 3))).toInt = 40 := by rw [l2]; decide
  refine pl_105_0 ?_
  rw [e2]
  refine ⟨fun h1 => ?_, fun h1 => ?_⟩
  · have h1 : x1.toInt < (0 : Int) := xlt h1
    exfalso; omega
  · have h1 : (0 : Int) ≤ x1.toInt := xle h1
    refine pl_nk_i (fun nk6 => ?_)
    refine pl_nk_i (fun nk9 => ?_)
    refine ⟨fun h10 => ?_, fun h10 => ?_⟩
    · have h10 : (nI (ps_ln (r + 3))).toInt ≤ x1.toInt := xle h10
      exfalso; omega
    · have h10 : x1.toInt < (nI (ps_ln (r + 3))).toInt := xlt h10
      refine pl_nk_i (fun nk14 => ?_)
      refine pl_nk_i (fun nk18 => ?_)
      intro b18
      obtain ⟨b18, c18⟩ := pl_in b18
      rw [xtn hx]
      exact k _ rfl
section MEA
variable {r r1 th : Nat} {g : tx_g} {l : List Nat} {W : List Bool} {s0 : ps_S} {R : ps_S → Prop}
theorem fs_103_55 {n0 i c : Nat} {x3 : Int32} (hr : ps_is r 6 = true) (hA : ArW (sg g) (arh g)) (hw : ws (sg g) l W) (h40 : l.length ≤ 40) (hx : x3.toInt = i) (hc : l[i]? = some c) (kk : ∀ s', cfr (fun q => q = r + 1) s0 s' → shE s' r (arh g) l i → pl_At n0 103 35 [(0, .ref r), (1, .ref r1), (2, .ref th), (3, .int (x3 + (-1)))] [] s' (ps_rV R)) : ∀ (n : Nat) {s : ps_S} {x4 x5 : Int32} {p : Nat}, n ≤ n0 → x5.toInt = p → p ≤ arh g c → x4.toInt = (i + 1 + en (arh g) (l.drop (i + 1)) (arh g c - p) : Nat) → cfr (fun q => q = r + 1) s0 s → shE s r (arh g) l (i + 1) → pl_At n 103 55 [(0, .ref r), (1, .ref r1), (2, .ref th), (3, .int x3), (4, .int x4), (5, .int x5)] [] s (ps_rV R)
  | 0, _, _, _, _, _, _, _, _, _, _ => pl_At_0
  | n + 1, s, x4, x5, p, hn, h5, hp, h4, F, E => by
    obtain ⟨⟨e0, e1, e2⟩, ⟨l0, l1, l2⟩, -⟩ := shr hr
    have hil := (List.getElem?_eq_some_iff.mp hc).1
    obtain ⟨Wi, hWi⟩ := ws_drop i hw
    rw [drop_c hc] at hWi
    obtain ⟨b0, W', ks, -, hk, hws⟩ := ws_cons.mp hWi
    have ha := hA b0 c ks hk
    have hle := en_le hA (k := arh g c - p) hws (by rw [List.length_append]; omega)
    rw [List.length_drop] at hle
    refine pl_103_55 ?_
    rw [e0]
    refine ⟨fun h57 => ?_, fun h57 => ?_⟩
    · have h57 : x5.toInt ≤ (0 : Int) := xle h57
      refine pl_nk_i (fun nk75 => ?_)
      refine fs_183 (a := i) hx (by rw [l0]; omega) (by rw [l0]; decide) ?_
      have e : p = 0 := by omega
      subst e
      rw [Nat.sub_zero] at h4
      refine (kk _ (cfr_a F rfl) (fun j hj hjl => ?_)).le (by omega)
      rw [ps_a_ua]
      by_cases ej : j = i
      · rw [if_pos ⟨rfl, ej⟩, h4, ej, drop_c hc, en_c, Nat.zero_add]
        omega
      · rw [if_neg (fun z => ej z.2)]
        exact E j (by omega) hjl
    · have h57 : (0 : Int) < x5.toInt := xlt h57
      refine fs_104 hr h4 (by have hlt := en_lt hA (k := arh g c - p) hws (by rw [List.length_append]; omega); rw [List.length_drop] at hlt; omega) (fun v63 q89 => ?_)
      have hlt := en_lt hA (k := arh g c - p) hws (by rw [List.length_append]; omega)
      rw [List.length_drop] at hlt
      refine fs_103_55 hr hA hw h40 hx hc kk n (p := p - 1) (by omega) (xmin1n h5 (by omega)) (by omega) ?_ F E
      rw [q89, E _ (by omega) (by omega), show arh g c - (p - 1) = (arh g c - p) + 1 from by omega, en_add, List.drop_drop]
      omega
theorem fs_103_35 (hr : ps_is r 6 = true) (hr1 : ps_is r1 5 = true) (hth : th = 2 ∨ th = 26) (hd : r1 ≠ r + 1 ∧ r1 + 1 ≠ r + 1) (hw : ws (sg g) l W) (W0 : cv_W s0 r1 l) (H0 : cv_E s0 th g) (kk : ∀ n s', cfr (fun q => q = r + 1) s0 s' → shE s' r (arh g) l 0 → pl_At n 103 92 [(0, .ref r), (1, .ref r1), (2, .ref th), (3, .int 0)] [] s' (ps_rV R)) : ∀ (n : Nat) {s : ps_S} {x3 : Int32} {i : Nat}, x3.toInt = (i : Int) - 1 → i ≤ l.length → cfr (fun q => q = r + 1) s0 s → shE s r (arh g) l i → pl_At n 103 35 [(0, .ref r), (1, .ref r1), (2, .ref th), (3, .int x3)] [] s (ps_rV R)
  | 0, _, _, _, _, _, _, _ => pl_At_0
  | n + 1, s, x3, i, hx, hi, F, E => by
    have h50 := (shr hr).2.2
    have hA := arh_k H0.2.2.1 H0.2.2.2.1
    have W1 := cv_W_cfr W0 F hd.1 hd.2
    have H1 := cv_E_cfr H0 F (by omega) (by omega) (by omega) (by omega)
    refine pl_103_35 ?_
    refine ⟨fun h36 => ?_, fun h36 => ?_⟩
    · have h36 : x3.toInt < (0 : Int) := xlt h36
      have e : i = 0 := by omega
      subst e
      exact kk n s F E
    · have h36 : (0 : Int) ≤ x3.toInt := xle h36
      obtain ⟨c, hc⟩ : ∃ c, l[i - 1]? = some c := ⟨_, List.getElem?_eq_getElem (by omega)⟩
      have hx' : x3.toInt = (i - 1 : Nat) := by omega
      have h40 := W0.2.2.1
      obtain ⟨Wi, hWi⟩ := ws_drop (i - 1) hw
      rw [drop_c hc] at hWi
      obtain ⟨b0, W', ks, -, hk, hws⟩ := ws_cons.mp hWi
      refine fs_92c hr1 W1 hx' hc (fun v47 q47 => ?_)
      refine fs_136c hth H1 hk q47 (fun v50 q50 => ?_)
      refine fs_103_55 hr hA hw W0.2.2.1 hx' hc (fun s' F' E' => fs_103_35 hr hr1 hth hd hw W0 H0 kk n (xmin1 hx') (by omega) F' E') n (p := arh g c) (Nat.le_refl _) q50 (Nat.le_refl _) ?_ F ?_
      · rw [Nat.sub_self, en_0, xj1 hx' (by omega)]
      · rw [show i - 1 + 1 = i from by omega]
        exact E
/-- what holds at the second pass's head -/
def shK (s : ps_S) (r : Nat) (ar : Nat → Nat) (l : List Nat) (i : Nat) (S D : List (Nat × Nat)) : Prop := ly ar [(0, 0)] l = D ++ ly ar S (l.drop i) ∧ shB s r ar i S (l.drop i) ∧ shM s r (l.take i) D
theorem fs_103_176 {n0 i c : Nat} {d : Nat × Nat} {S D : List (Nat × Nat)} {W' ks : List Bool} {b0 : Bool} {x3 x4 x5 : Int32} (hr : ps_is r 6 = true) (hA : ArW (sg g) (arh g)) (hk : kS (sg g) b0 c = some ks) (hws : ws (sg g) (l.drop (i + 1)) (ks ++ W')) (h40 : l.length ≤ 40) (hil : i < l.length) (h4 : x4.toInt = d.1) (h5 : x5.toInt = (d.2 + qb c : Nat)) (h4b : d.1 ≤ 100) (hE : ∀ s', cfr (fun q => q = r ∨ q = r + 2 ∨ q = r + 3) s0 s' → shE s' r (arh g) l 0) (kk : ∀ s', cfr (fun q => q = r ∨ q = r + 2 ∨ q = r + 3) s0 s' → shB s' r (arh g) (i + 1) (List.replicate (arh g c) (d.1 + 1, d.2 + qb c) ++ S) (l.drop (i + 1)) → shM s' r (l.take (i + 1)) (D ++ [d]) → pl_At n0 103 92 [(0, .ref r), (1, .ref r1), (2, .ref th), (3, .int (x3 + 1))] [] s' (ps_rV R)) : ∀ (n : Nat) {s : ps_S} {x6 x7 : Int32} {p : Nat}, n ≤ n0 → x7.toInt = p → p ≤ arh g c → x6.toInt = (i + 1 + en (arh g) (l.drop (i + 1)) (arh g c - p) : Nat) → cfr (fun q => q = r ∨ q = r + 2 ∨ q = r + 3) s0 s → (∀ k, k < arh g c - p → (ps_a s (r + 2) (i + 1 + en (arh g) (l.drop (i + 1)) k)).toInt = (d.1 + 1 : Nat) ∧ (ps_a s (r + 3) (i + 1 + en (arh g) (l.drop (i + 1)) k)).toInt = (d.2 + qb c : Nat)) → shB s r (arh g) (i + 1 + en (arh g) (l.drop (i + 1)) (arh g c)) S ((l.drop (i + 1)).drop (en (arh g) (l.drop (i + 1)) (arh g c))) → shM s r (l.take (i + 1)) (D ++ [d]) → pl_At n 103 176 [(0, .ref r), (1, .ref r1), (2, .ref th), (3, .int x3), (4, .int x4), (5, .int x5), (6, .int x6), (7, .int x7)] [] s (ps_rV R)
  | 0, _, _, _, _, _, _, _, _, _, _, _, _ => pl_At_0
  | n + 1, s, x6, x7, p, hn, h7, hp, h6, F, hT, hB, hM => by
    obtain ⟨⟨e0, e1, e2⟩, ⟨l0, l1, l2⟩, -⟩ := shr hr
    have ha := hA b0 c ks hk
    have hD : (D ++ [d]).length = i + 1 := by rw [hM.1, List.length_take, Nat.min_eq_left (by omega)]
    refine pl_103_176 ?_
    rw [e1, e2]
    refine ⟨fun h178 => ?_, fun h178 => ?_⟩
    · have h178 : x7.toInt ≤ (0 : Int) := xle h178
      have e : p = 0 := by omega
      subst e
      rw [Nat.sub_zero] at hT
      exact (kk s F (shB_rep hT hB) hM).le (by omega)
    · have h178 : (0 : Int) < x7.toInt := xlt h178
      refine pl_nk_i (fun nk182 => ?_)
      have hlt := en_lt hA (k := arh g c - p) hws (by rw [List.length_append]; omega)
      rw [List.length_drop] at hlt
      refine fs_183 (a := i + 1 + en (arh g) (l.drop (i + 1)) (arh g c - p)) h6 (by rw [l1]; omega) (by rw [l1]; decide) ?_
      refine pl_nk_i (fun nk195 => ?_)
      refine fs_183 (a := i + 1 + en (arh g) (l.drop (i + 1)) (arh g c - p)) h6 (by rw [l2]; omega) (by rw [l2]; decide) ?_
      refine fs_104 hr h6 (by omega) (fun v208 q208 => ?_)
      have F2 : cfr (fun q => q = r ∨ q = r + 2 ∨ q = r + 3) s0 (ps_ua (ps_ua s (r + 2) (i + 1 + en (arh g) (l.drop (i + 1)) (arh g c - p)) (x4 + 1)) (r + 3) (i + 1 + en (arh g) (l.drop (i + 1)) (arh g c - p)) x5) := cfr_a (cfr_a F (Or.inr (Or.inl rfl))) (Or.inr (Or.inr rfl))
      refine fs_103_176 hr hA hk hws h40 hil h4 h5 h4b hE kk n (p := p - 1) (by omega) (xmin1n h7 (by omega)) (by omega) ?_ F2 (fun k hk2 => ?_) (shB_ext hB (fun q hq => ?_)) ?_
      · rw [q208, hE _ F2 _ (Nat.zero_le _) (by omega), show arh g c - (p - 1) = (arh g c - p) + 1 from by omega, en_add, List.drop_drop]
        omega
      · rw [ps_a_ua, if_neg (by omega), ps_a_ua, ps_a_ua]
        by_cases ek : i + 1 + en (arh g) (l.drop (i + 1)) k = i + 1 + en (arh g) (l.drop (i + 1)) (arh g c - p)
        · rw [if_pos ⟨rfl, ek⟩, if_pos ⟨rfl, ek⟩, xj1 h4 (by omega)]
          exact ⟨rfl, h5⟩
        · rw [if_neg (fun z => ek z.2), if_neg (fun z => ek z.2), ps_a_ua, if_neg (by omega)]
          refine hT k ?_
          rcases Nat.lt_or_ge k (arh g c - p) with z | z
          · exact z
          · exact absurd (by rw [show k = arh g c - p from by omega]) ek
      · have ep : en (arh g) (l.drop (i + 1)) (arh g c) = en (arh g) (l.drop (i + 1)) (arh g c - p) + en (arh g) ((l.drop (i + 1)).drop (en (arh g) (l.drop (i + 1)) (arh g c - p))) p := by rw [← en_add, show arh g c - p + p = arh g c from by omega]
        have hpos := en_pos (ar := arh g) (t := (l.drop (i + 1)).drop (en (arh g) (l.drop (i + 1)) (arh g c - p))) (p := p) (by rw [List.length_drop, List.length_drop]; omega) (by omega)
        rw [ps_a_ua, if_neg (by omega), ps_a_ua, if_neg (by omega), ps_a_ua, if_neg (by omega), ps_a_ua, if_neg (by omega)]
        exact ⟨rfl, rfl⟩
      · obtain ⟨m1, m2, m3, m4⟩ := hM
        refine ⟨m1, fun k y hk2 => ?_, m3, m4⟩
        have hkl := (List.getElem?_eq_some_iff.mp hk2).1
        rw [ps_a_ua, if_neg (by omega), ps_a_ua, if_neg (by omega), ps_a_ua, if_neg (by omega), ps_a_ua, if_neg (by omega)]
        exact m2 k y hk2
theorem shM_ext {s s' : ps_S} {r : Nat} {c : List Nat} {D : List (Nat × Nat)} (h : shM s r c D) (h1 : ∀ q, q < D.length → ps_a s' (r + 2) q = ps_a s (r + 2) q ∧ ps_a s' (r + 3) q = ps_a s (r + 3) q) (h3 : ps_i s' r 3 = ps_i s r 3) (h4 : ps_i s' r 4 = ps_i s r 4) : shM s' r c D := by
  obtain ⟨m1, m2, m3, m4⟩ := h
  refine ⟨m1, fun i d hd => ?_, by rw [h3]; exact m3, by rw [h4]; exact m4⟩
  have hl := (List.getElem?_eq_some_iff.mp hd).1
  rw [(h1 i hl).1, (h1 i hl).2]
  exact m2 i d hd
/-- one piece more -/
theorem shM_snoc {s : ps_S} {r i c : Nat} {l : List Nat} {D : List (Nat × Nat)} {d : Nat × Nat} {v1 v2 : Int32} (hc : l[i]? = some c) (h : shM s r (l.take i) D) (hi : i ≤ l.length) (h2 : (ps_a s (r + 2) i).toInt = d.1) (h3 : (ps_a s (r + 3) i).toInt = d.2) (e1 : v1.toInt = d.1) (e2 : v2.toInt = (d.2 + qb c : Nat)) : shM (ps_ui (ps_ui s r 3 (if (ps_i s r 3) < v1 then v1 else (ps_i s r 3))) r 4 (if (ps_i (ps_ui s r 3 (if (ps_i s r 3) < v1 then v1 else (ps_i s r 3))) r 4) < v2 then v2 else (ps_i (ps_ui s r 3 (if (ps_i s r 3) < v1 then v1 else (ps_i s r 3))) r 4))) r (l.take (i + 1)) (D ++ [d]) := by
  obtain ⟨m1, m2, m3, m4⟩ := h
  have hD : D.length = i := by rw [m1, List.length_take, Nat.min_eq_left hi]
  have hl := (List.getElem?_eq_some_iff.mp hc).1
  refine ⟨?_, fun k y hk => ?_, fun m => ?_, fun m => ?_⟩
  · rw [List.length_append, hD, List.length_singleton, List.length_take, Nat.min_eq_left (by omega)]
  · show (ps_a s (r + 2) k).toInt = y.1 ∧ (ps_a s (r + 3) k).toInt = y.2
    rcases Nat.lt_or_ge k D.length with z | z
    · rw [List.getElem?_append_left z] at hk
      exact m2 k y hk
    · have hkl := (List.getElem?_eq_some_iff.mp hk).1
      rw [List.length_append, List.length_singleton] at hkl
      rw [show k = D.length from by omega, List.getElem?_append_right (Nat.le_refl _), Nat.sub_self] at hk
      cases hk
      rw [show k = i from by omega]
      exact ⟨h2, h3⟩
  · rw [ps_i_ui, if_neg (by omega), ps_i_ui, if_pos ⟨rfl, rfl⟩, mx_if, m3, e1]
    constructor
    · rintro ⟨a, b⟩ y hy
      rcases List.mem_append.mp hy with hy | hy
      · exact a y hy
      · rw [List.mem_singleton] at hy
        rw [hy]
        omega
    · intro a
      have := a d (List.mem_append_right _ (List.mem_singleton.mpr rfl))
      exact ⟨fun y hy => a y (List.mem_append_left _ hy), by omega⟩
  · rw [ps_i_ui, if_pos ⟨rfl, rfl⟩, mx_if, ps_i_ui, if_neg (by omega), m4, e2]
    constructor
    · rintro ⟨a, b⟩ k y x hk hx
      rcases Nat.lt_or_ge k D.length with z | z
      · rw [List.getElem?_append_left z] at hk
        rw [List.getElem?_take, if_pos (by omega)] at hx
        exact a k y x hk (by rw [List.getElem?_take, if_pos (by omega)]; exact hx)
      · have hkl := (List.getElem?_eq_some_iff.mp hk).1
        rw [List.length_append, List.length_singleton] at hkl
        have ek : k = i := by omega
        rw [show k = D.length from by omega, List.getElem?_append_right (Nat.le_refl _), Nat.sub_self] at hk
        cases hk
        rw [List.getElem?_take, if_pos (by omega), ek, hc] at hx
        cases hx
        omega
    · intro a
      refine ⟨fun k y x hk hx => ?_, ?_⟩
      · have hkl := (List.getElem?_eq_some_iff.mp hk).1
        refine a k y x (by rw [List.getElem?_append_left hkl]; exact hk) ?_
        rw [List.getElem?_take, if_pos (by omega)] at hx ⊢
        exact hx
      · have := a i d c (by rw [List.getElem?_append_right (by omega), hD, Nat.sub_self]; rfl) (by rw [List.getElem?_take, if_pos (by omega)]; exact hc)
        omega
theorem fs_103_92 (hr : ps_is r 6 = true) (hr1 : ps_is r1 5 = true) (hth : th = 2 ∨ th = 26) (hd : (r1 < r ∨ r + 3 < r1) ∧ (r1 + 1 < r ∨ r + 3 < r1 + 1)) (hw : ws (sg g) l W) (W0 : cv_W s0 r1 l) (H0 : cv_E s0 th g) (E0 : shE s0 r (arh g) l 0) (k : ∀ s', cfr (fun q => q = r ∨ q = r + 2 ∨ q = r + 3) s0 s' → SH s' r (arh g) l → R s') : ∀ (n : Nat) {s : ps_S} {x3 : Int32} {i : Nat} {S D : List (Nat × Nat)} {Wi : List Bool}, x3.toInt = i → i ≤ l.length → cfr (fun q => q = r ∨ q = r + 2 ∨ q = r + 3) s0 s → ws (sg g) (l.drop i) Wi → S.length = Wi.length → shK s r (arh g) l i S D → pl_At n 103 92 [(0, .ref r), (1, .ref r1), (2, .ref th), (3, .int x3)] [] s (ps_rV R)
  | 0, _, _, _, _, _, _, _, _, _, _, _, _ => pl_At_0
  | n + 1, s, x3, i, S, D, Wi, hx, hi, F, hwi, hS, hK => by
    obtain ⟨⟨e0, e1, e2⟩, ⟨l0, l1, l2⟩, h50⟩ := shr hr
    have hA := arh_k H0.2.2.1 H0.2.2.2.1
    have W1 := cv_W_cfr W0 F (by omega) (by omega)
    have H1 := cv_E_cfr H0 F (by omega) (by omega) (by omega) (by omega)
    have h40 := W0.2.2.1
    have hsz := W1.1
    have hE : ∀ s', cfr (fun q => q = r ∨ q = r + 2 ∨ q = r + 3) s0 s' → shE s' r (arh g) l 0 := fun s' F' j a b => by
      rw [(F' (r + 1) (by omega)).2.2.2.1]
      exact E0 j a b
    refine pl_103_92 ?_
    rw [e1]
    refine pl_nk_i (fun nk94 => ?_)
    refine ⟨fun h97 => ?_, fun h97 => ?_⟩
    · have h97 : (ps_i s r1 1).toInt ≤ x3.toInt := xle h97
      have e : i = l.length := by omega
      subst e
      obtain ⟨k1, k2, k3⟩ := hK
      rw [List.drop_length] at k1
      rw [List.take_length] at k3
      refine k s F ⟨hE s F, ?_⟩
      have e2 : ly (arh g) S [] = [] := by cases S <;> rfl
      rw [k1, e2, List.append_nil]
      exact k3
    · have h97 : x3.toInt < (ps_i s r1 1).toInt := xlt h97
      refine pl_nk_i (fun nk101 => ?_)
      obtain ⟨c, hc⟩ : ∃ c, l[i]? = some c := ⟨_, List.getElem?_eq_getElem (by omega)⟩
      obtain ⟨k1, k2, k3⟩ := hK
      rw [drop_c hc] at hwi k1 k2
      obtain ⟨b0, W', ks, rfl, hk, hws⟩ := ws_cons.mp hwi
      obtain ⟨d, S, rfl⟩ : ∃ d S', S = d :: S' := by
        cases S with
        | nil => cases hS
        | cons d S' => exact ⟨d, S', rfl⟩
      obtain ⟨b1, b2, b3⟩ := k2
      have hdd := ly_dep (ar := arh g) (l := l) (S := [(0, 0)]) (m := 0) (fun y hy => by rw [List.mem_singleton] at hy; rw [hy]; omega) d (by rw [k1]; exact List.mem_append_right _ List.mem_cons_self)
      have ha := hA b0 c ks hk
      refine fs_182v (a := i) hx (by rw [l1]; omega) (by rw [l1]; decide) (fun v105 q105 => ?_)
      refine fs_105 hr hx (by omega) (fun v112 q112 => ?_)
      refine fs_92c hr1 W1 hx hc (fun v117 q117 => ?_)
      refine fs_184 (fun q120 => ?_) (fun q120 => ?_)
      · refine ⟨fun h123 => ?_, fun h123 => ?_⟩
        · exact absurd h123 (by decide)
        · refine pl_nk_i (fun nk136 => ?_)
          refine pl_nk_i (fun nk144 => ?_)
          refine pl_nk_i (fun nk149 => ?_)
          refine pl_nk_i (fun nk157 => ?_)
          refine fs_92c hr1 (cv_W_cfr W1 (cfr_i (cfr_i cfr_refl rfl) rfl : cfr (fun q => q = r) s _) (by omega) (by omega)) hx hc (fun v168 q168 => ?_)
          refine fs_136c hth (cv_E_cfr H1 (cfr_i (cfr_i cfr_refl rfl) rfl : cfr (fun q => q = r) s _) (by omega) (by omega) (by omega) (by omega)) hk q168 (fun v171 q171 => ?_)
          have ew : (v112 + 1).toInt = (d.2 + qb c : Nat) := by
            have e2 : v112.toInt = d.2 := by rw [q112]; exact b2
            have ez : qb c = 1 := by unfold qb; rw [if_pos (by omega)]
            have c1 : (1 : Int32).toInt = 1 := by decide
            have c0 : (0 : Int32).toInt = 0 := by decide
            rw [xIa (by rw [e2, c1]; omega) (by rw [e2, c1]; omega), e2, ez]
            rfl
          have e1' : v105.toInt = d.1 := by rw [q105]; exact b1
          have F2 := cfr_i (cfr_i F (Or.inl rfl) : cfr (fun q => q = r ∨ q = r + 2 ∨ q = r + 3) s0 (ps_ui s r 3 (if (ps_i s r 3) < v105 then v105 else (ps_i s r 3)))) (r := r) (f := 4) (v := (if (ps_i (ps_ui s r 3 (if (ps_i s r 3) < v105 then v105 else (ps_i s r 3))) r 4) < (v112 + 1) then (v112 + 1) else (ps_i (ps_ui s r 3 (if (ps_i s r 3) < v105 then v105 else (ps_i s r 3))) r 4))) (Or.inl rfl)
          have M2 := shM_snoc hc k3 hi b1 b2 e1' ew
          refine fs_103_176 (S := S) (D := D) hr hA hk hws h40 (by omega) e1' ew (by omega) hE (fun s' F' B' M' => fs_103_92 hr hr1 hth hd hw W0 H0 E0 k n (xj1 hx (by omega)) (by omega) F' hws (by rw [List.length_append, List.length_replicate, List.length_append, ha]; rw [List.length_cons, List.length_cons] at hS; omega) ⟨by rw [k1]; show D ++ d :: ly (arh g) _ (l.drop (i + 1)) = _; rw [List.append_assoc]; rfl, B', M'⟩) n (p := arh g c) (Nat.le_refl _) q171 (Nat.le_refl _) ?_ F2 (fun k2 hk2 => absurd hk2 (by omega)) ?_ M2
          · rw [Nat.sub_self, en_0, xj1 hx (by omega)]
          · rw [en_c, Nat.zero_add, Nat.add_comm 1 (en (arh g) (l.drop (i + 1)) (arh g c)), List.drop_succ_cons, Nat.add_comm (en (arh g) (l.drop (i + 1)) (arh g c)) 1] at b3
            exact shB_ext (s := s) (by rw [show i + 1 + en (arh g) (l.drop (i + 1)) (arh g c) = i + (1 + en (arh g) (l.drop (i + 1)) (arh g c)) from by omega]; exact b3) (fun q hq => ⟨rfl, rfl⟩)
      · refine ⟨fun h123 => ?_, fun h123 => ?_⟩
        · refine pl_nk_i (fun nk136 => ?_)
          refine pl_nk_i (fun nk144 => ?_)
          refine pl_nk_i (fun nk149 => ?_)
          refine pl_nk_i (fun nk157 => ?_)
          refine fs_92c hr1 (cv_W_cfr W1 (cfr_i (cfr_i cfr_refl rfl) rfl : cfr (fun q => q = r) s _) (by omega) (by omega)) hx hc (fun v168 q168 => ?_)
          refine fs_136c hth (cv_E_cfr H1 (cfr_i (cfr_i cfr_refl rfl) rfl : cfr (fun q => q = r) s _) (by omega) (by omega) (by omega) (by omega)) hk q168 (fun v171 q171 => ?_)
          have ew : (v112 + 0).toInt = (d.2 + qb c : Nat) := by
            have e2 : v112.toInt = d.2 := by rw [q112]; exact b2
            have ez : qb c = 0 := by unfold qb; rw [if_neg (by omega)]
            have c1 : (1 : Int32).toInt = 1 := by decide
            have c0 : (0 : Int32).toInt = 0 := by decide
            rw [xIa (by rw [e2, c0]; omega) (by rw [e2, c0]; omega), e2, ez]
            rfl
          have e1' : v105.toInt = d.1 := by rw [q105]; exact b1
          have F2 := cfr_i (cfr_i F (Or.inl rfl) : cfr (fun q => q = r ∨ q = r + 2 ∨ q = r + 3) s0 (ps_ui s r 3 (if (ps_i s r 3) < v105 then v105 else (ps_i s r 3)))) (r := r) (f := 4) (v := (if (ps_i (ps_ui s r 3 (if (ps_i s r 3) < v105 then v105 else (ps_i s r 3))) r 4) < (v112 + 0) then (v112 + 0) else (ps_i (ps_ui s r 3 (if (ps_i s r 3) < v105 then v105 else (ps_i s r 3))) r 4))) (Or.inl rfl)
          have M2 := shM_snoc hc k3 hi b1 b2 e1' ew
          refine fs_103_176 (S := S) (D := D) hr hA hk hws h40 (by omega) e1' ew (by omega) hE (fun s' F' B' M' => fs_103_92 hr hr1 hth hd hw W0 H0 E0 k n (xj1 hx (by omega)) (by omega) F' hws (by rw [List.length_append, List.length_replicate, List.length_append, ha]; rw [List.length_cons, List.length_cons] at hS; omega) ⟨by rw [k1]; show D ++ d :: ly (arh g) _ (l.drop (i + 1)) = _; rw [List.append_assoc]; rfl, B', M'⟩) n (p := arh g c) (Nat.le_refl _) q171 (Nat.le_refl _) ?_ F2 (fun k2 hk2 => absurd hk2 (by omega)) ?_ M2
          · rw [Nat.sub_self, en_0, xj1 hx (by omega)]
          · rw [en_c, Nat.zero_add, Nat.add_comm 1 (en (arh g) (l.drop (i + 1)) (arh g c)), List.drop_succ_cons, Nat.add_comm (en (arh g) (l.drop (i + 1)) (arh g c)) 1] at b3
            exact shB_ext (s := s) (by rw [show i + 1 + en (arh g) (l.drop (i + 1)) (arh g c) = i + (1 + en (arh g) (l.drop (i + 1)) (arh g c)) from by omega]; exact b3) (fun q hq => ⟨rfl, rfl⟩)
        · exact absurd h123 (by decide)
theorem fs_103 {n : Nat} {s : ps_S} (hr : ps_is r 6 = true) (hr1 : ps_is r1 5 = true) (hth : th = 2 ∨ th = 26) (hd : (r1 < r ∨ r + 3 < r1) ∧ (r1 + 1 < r ∨ r + 3 < r1 + 1)) (hw : ws (sg g) l W) (hW1 : W.length = 1 ∨ l = []) (W0 : cv_W s r1 l) (H0 : cv_E s th g) (k : ∀ s', SH s' r (arh g) l → cfr (CSh r) s s' → R s') : pl_Cl n 103 [.ref r, .ref r1, .ref th] s (ps_rV R) := by
  cases n with
  | zero => exact pl_At_0
  | succ n =>
  show pl_At (n + 1) 103 0 [(0, .ref r), (1, .ref r1), (2, .ref th)] [] s (ps_rV R)
  obtain ⟨⟨e0, e1, e2⟩, ⟨l0, l1, l2⟩, h50⟩ := shr hr
  have h40 := W0.2.2.1
  refine pl_103_0 ?_
  rw [e1, e2]
  refine pl_nk_i (fun nk2 => ?_)
  refine pl_nk_i (fun nk7 => ?_)
  refine pl_nk_i (fun nk11 => ?_)
  refine fs_183 (a := 0) rfl (by rw [l1]; decide) (by rw [l1]; decide) ?_
  refine pl_nk_i (fun nk20 => ?_)
  refine fs_183 (a := 0) rfl (by rw [l2]; decide) (by rw [l2]; decide) ?_
  refine pl_nk_i (fun nk29 => ?_)
  have F1 : cfr (CSh r) s (ps_ua (ps_ua (ps_ui (ps_ui s r 3 0) r 4 0) (r + 2) 0 0) (r + 3) 0 0) := cfr_a (cfr_a (cfr_i (cfr_i cfr_refl (by unfold CSh; omega)) (by unfold CSh; omega)) (by unfold CSh; omega)) (by unfold CSh; omega)
  have W1 := cv_W_cfr W0 F1 (by unfold CSh; omega) (by unfold CSh; omega)
  have H1 := cv_E_cfr H0 F1 (by unfold CSh; omega) (by unfold CSh; omega) (by unfold CSh; omega) (by unfold CSh; omega)
  generalize hq : (ps_ua (ps_ua (ps_ui (ps_ui s r 3 0) r 4 0) (r + 2) 0 0) (r + 3) 0 0) = s1 at F1 W1 H1 ⊢
  have i3 : (ps_i s1 r 3).toInt = 0 := by rw [← hq]; show (ps_i (ps_ui (ps_ui s r 3 0) r 4 0) r 3).toInt = 0; rw [ps_i_ui, if_neg (by omega), ps_i_ui, if_pos ⟨rfl, rfl⟩]; rfl
  have i4 : (ps_i s1 r 4).toInt = 0 := by rw [← hq]; show (ps_i (ps_ui (ps_ui s r 3 0) r 4 0) r 4).toInt = 0; rw [ps_i_ui, if_pos ⟨rfl, rfl⟩]; rfl
  have a2 : (ps_a s1 (r + 2) 0).toInt = 0 := by rw [← hq, ps_a_ua, if_neg (by omega), ps_a_ua, if_pos ⟨rfl, rfl⟩]; rfl
  have a3 : (ps_a s1 (r + 3) 0).toInt = 0 := by rw [← hq, ps_a_ua, if_pos ⟨rfl, rfl⟩]; rfl
  have hsz : (ps_i s1 r1 1).toInt = l.length := W1.1
  refine fs_103_35 hr hr1 hth ⟨by omega, by omega⟩ hw W1 H1 (fun n s2 F2 E2 => ?_) n (i := l.length) (by rw [xIs (by rw [hsz]; show -2147483648 ≤ ((l.length : Nat) : Int) - 1; omega) (by rw [hsz]; show ((l.length : Nat) : Int) - 1 < 2147483648; omega), hsz]; rfl) (Nat.le_refl _) cfr_refl (fun j a b => by omega)
  have F3 : cfr (CSh r) s1 s2 := cfr_mono F2 (fun q z => by unfold CSh; omega)
  have W2 := cv_W_cfr W1 F2 (by omega) (by omega)
  have H2 := cv_E_cfr H1 F2 (by omega) (by omega) (by omega) (by omega)
  have z0 := (F2 r (by omega)).1
  have z2 := (F2 (r + 2) (by omega)).2.2.2.1
  have z3 := (F2 (r + 3) (by omega)).2.2.2.1
  have M0 : shM s2 r (l.take 0) [] := ⟨rfl, (fun i d hd => by cases hd), (fun m => by rw [z0, i3]; exact ⟨fun _ d hd => (List.not_mem_nil hd).elim, fun _ => by omega⟩), (fun m => by rw [z0, i4]; exact ⟨fun _ i d x hd => (by cases hd), fun _ => by omega⟩)⟩
  rcases hW1 with hW1 | hW1
  · exact fs_103_92 hr hr1 hth hd hw W2 H2 E2 (fun s3 F4 Z => k s3 Z (cfr_tr (cfr_tr F1 F3) (cfr_mono F4 (fun q z => by unfold CSh; omega)))) n (i := 0) (S := [(0, 0)]) (D := []) (Wi := W) rfl (Nat.zero_le _) cfr_refl hw hW1.symm ⟨rfl, ⟨by rw [z2]; exact a2, by rw [z3]; exact a3, trivial⟩, M0⟩
  · subst hW1
    exact fs_103_92 hr hr1 hth hd hw W2 H2 E2 (fun s3 F4 Z => k s3 Z (cfr_tr (cfr_tr F1 F3) (cfr_mono F4 (fun q z => by unfold CSh; omega)))) n (i := 0) (S := []) (D := []) (Wi := []) rfl (Nat.zero_le _) cfr_refl rfl rfl ⟨rfl, trivial, M0⟩
end MEA
end
section
set_option maxRecDepth 100000
/-! ends and like parts: both sides -/
-- ProofBenchModel.takes(I)I
-- ProofBenchModel.endOf(II)I
-- ProofBenchModel.haveSame(IIIII)Z
theorem pl_259_0 {n : Nat} {x1 : Int32} {x2 : Int32} {x3 : Int32} {x4 : Int32} {x5 : Int32} {s : ps_S} {Q : Option Value → ps_S → Prop} (h :
  pl_Cl n 219 [.ref 1131, .int x4] s (ps_rI (fun v1 s1 =>
    ((x5 + x3) ≤ v1 →
      pl_At n 259 18 [(0, .ref 1131), (1, .int x1), (2, .int x2), (3, .int x3), (4, .int x4), (5, .int x5), (6, .int 0)] [] s1 Q) ∧
    (v1 < (x5 + x3) →
      Q (some (.int 0)) s1)))) : pl_At (n + 1) 259 0 [(0, .ref 1131), (1, .int x1), (2, .int x2), (3, .int x3), (4, .int x4), (5, .int x5)] [] s Q :=
  pl_wp_at (stops := [(18, [0, 1, 2, 3, 4, 5, 6])]) (f := 13) h rfl

theorem pl_259_18 {n : Nat} {x1 : Int32} {x2 : Int32} {x3 : Int32} {x4 : Int32} {x5 : Int32} {x6 : Int32} {s : ps_S} {Q : Option Value → ps_S → Prop} (h :
  (x3 ≤ x6 →
    Q (some (.int 1)) s) ∧
  (x6 < x3 →
    pl_Cl n 220 [.ref 1131, .int x1, .int (x2 + x6)] s (ps_rI (fun v1 s1 =>
      pl_Cl n 220 [.ref 1131, .int x4, .int (x5 + x6)] s1 (ps_rI (fun v2 s2 =>
        (v1 = v2 →
          pl_At n 259 18 [(0, .ref 1131), (1, .int x1), (2, .int x2), (3, .int x3), (4, .int x4), (5, .int x5), (6, .int (x6 + 1))] [] s2 Q) ∧
        (v1 ≠ v2 →
          Q (some (.int 0)) s2))))))) : pl_At (n + 1) 259 18 [(0, .ref 1131), (1, .int x1), (2, .int x2), (3, .int x3), (4, .int x4), (5, .int x5), (6, .int x6)] [] s Q :=
  pl_wp_at (stops := [(18, [0, 1, 2, 3, 4, 5, 6])]) (f := 24) h rfl

-- ProofBench$Row.isPartAt(IILProofBench$Row;I)Z
theorem pl_99_0 {n : Nat} {r0 : Nat} {x1 : Int32} {x2 : Int32} {r3 : Nat} {x4 : Int32} {s : ps_S} {Q : Option Value → ps_S → Prop} (h :
  pl_At n 99 3 [(0, .ref r0), (1, .int x1), (2, .int x2), (3, .ref r3), (4, .int x4), (5, .int x1)] [] s Q) : pl_At (n + 1) 99 0 [(0, .ref r0), (1, .int x1), (2, .int x2), (3, .ref r3), (4, .int x4)] [] s Q :=
  pl_wp_at (stops := [(3, [0, 1, 2, 3, 4, 5])]) (f := 4) h rfl

theorem pl_99_3 {n : Nat} {r0 : Nat} {x1 : Int32} {x2 : Int32} {r3 : Nat} {x4 : Int32} {x5 : Int32} {s : ps_S} {Q : Option Value → ps_S → Prop} (h :
  (x2 ≤ x5 →
    Q (some (.int 1)) s) ∧
  (x5 < x2 →
    pl_Cl n 92 [.ref r0, .int x5] s (ps_rI (fun v1 s1 =>
      pl_Cl n 92 [.ref r3, .int ((x4 + x5) - x1)] s1 (ps_rI (fun v2 s2 =>
        (v1 = v2 →
          pl_At n 99 3 [(0, .ref r0), (1, .int x1), (2, .int x2), (3, .ref r3), (4, .int x4), (5, .int (x5 + 1))] [] s2 Q) ∧
        (v1 ≠ v2 →
          Q (some (.int 0)) s2))))))) : pl_At (n + 1) 99 3 [(0, .ref r0), (1, .int x1), (2, .int x2), (3, .ref r3), (4, .int x4), (5, .int x5)] [] s Q :=
  pl_wp_at (stops := [(3, [0, 1, 2, 3, 4, 5])]) (f := 22) h rfl

theorem kS_mv {s : ps_S} {b : Nat} {g : tx_g} (H : mv_E s b g) {bb : Bool} {p : Nat} {ks : List Bool} (hk : kS (sg g) bb p = some ks) : (10 ≤ p → p < 20 → p < 16 ∧ (ps_a s 1138 (6 * b + (p - 10))).toInt = (arh g p : Nat)) ∧ (20 ≤ p → p < 40 → p < 24 ∧ (ps_a s 1139 (4 * b + (p - 20))).toInt = (arh g p : Nat)) := by
  have hA := arh_k H.2.2.1 H.2.2.2.1 bb p ks hk
  have h1 := H.2.2.1
  have h2 := H.2.2.2.1
  rw [hA]
  rcases kS_num hk with ⟨a, e⟩ | ⟨a, a2, e⟩ | ⟨a, e⟩ | ⟨a, e⟩ | ⟨a, a2, e⟩ | ⟨a, a2, e⟩ | ⟨a, a2, e⟩
  · exact ⟨fun _ _ => by omega, fun _ _ => by omega⟩
  · exact ⟨fun _ _ => by omega, fun _ _ => by omega⟩
  · exact ⟨fun _ _ => by omega, fun _ _ => by omega⟩
  · exact ⟨fun _ _ => by omega, fun _ _ => by omega⟩
  · have a2 : p < 10 + g.1.length := a2
    have e : ks.length = (g.1.getD (p - 10) ([], 0)).2 := e
    refine ⟨fun _ _ => ⟨by omega, ?_⟩, fun _ _ => by omega⟩
    obtain ⟨w, hw⟩ := getD_2 (α := Nat) (l := g.1) (k := p - 10) (by omega)
    rw [(H.2.2.2.2.1 _ _ _ hw).2.2.2, e]
  · have a2 : p < 20 + g.2.length := a2
    have e : ks.length = (g.2.getD (p - 20) ([], 0)).2 := e
    refine ⟨fun _ _ => by omega, fun _ _ => ⟨by omega, ?_⟩⟩
    obtain ⟨w, hw⟩ := getD_2 (α := Nat) (l := g.2) (k := p - 20) (by omega)
    rw [(H.2.2.2.2.2 _ _ _ hw).2.2.2, e]
  · exact ⟨fun _ _ => by omega, fun _ _ => by omega⟩
theorem arh_lo {g : tx_g} {c : Nat} : (c = 0 → arh g c = 0) ∧ (1 ≤ c → c < 4 → arh g c = 2) ∧ (c = 4 ∨ c = 5 → arh g c = 1) ∧ (c = 6 → arh g c = 2) ∧ (40 ≤ c → arh g c = 0) := by
  unfold arh
  refine ⟨fun h => by rw [if_pos h], fun h h' => by rw [if_neg (by omega), if_pos h'], fun h => by rw [if_neg (by omega), if_neg (by omega), if_pos (by omega)], fun h => by rw [if_neg (by omega), if_neg (by omega), if_neg (by omega), if_pos h], fun h => by rw [if_neg (by omega), if_neg (by omega), if_neg (by omega), if_neg (by omega), if_neg (by omega), if_neg (by omega), if_neg (by omega)]⟩
theorem kS_gap {σ : mSig} {b : Bool} {p : Nat} {ks : List Bool} (h : kS σ b p = some ks) : ¬ (7 ≤ p ∧ p < 10) := by
  rcases kS_num h with ⟨a, e⟩ | ⟨a, a2, e⟩ | ⟨a, e⟩ | ⟨a, e⟩ | ⟨a, a2, e⟩ | ⟨a, a2, e⟩ | ⟨a, a2, e⟩ <;> omega
theorem fm_218 {n b c : Nat} {bb : Bool} {ks : List Bool} {g : tx_g} {x1 : Int32} {s : ps_S} {R : Int32 → ps_S → Prop} (hb : b < 2) (h21 : (ps_i s 1131 21).toInt = b) (H : mv_E s b g) (hk : kS (sg g) bb c = some ks) (hx : x1.toInt = c) (k : ∀ v : Int32, v.toInt = (arh g c : Nat) → R v s) : pl_Cl n 218 [.ref 1131, .int x1] s (ps_rI R) := by
  cases n with
  | zero => exact pl_At_0
  | succ n =>
  show pl_At (n + 1) 218 0 [(0, .ref 1131), (1, .int x1)] [] s (ps_rI R)
  obtain ⟨z0, z2, z1, z6, z4⟩ := arh_lo (g := g) (c := c)
  obtain ⟨y1, y2⟩ := kS_mv H hk
  have hg := kS_gap hk
  have c4 : (4 : Int32).toInt = 4 := by decide
  have c6 : (6 : Int32).toInt = 6 := by decide
  have c10 : (10 : Int32).toInt = 10 := by decide
  have c20 : (20 : Int32).toInt = 20 := by decide
  have c40 : (40 : Int32).toInt = 40 := by decide
  have m4 : ((4 : Int32) * (ps_i s 1131 21)).toInt = 4 * b := by rw [xIm (by rw [c4, h21]; omega) (by rw [c4, h21]; omega), c4, h21]
  have m6 : ((6 : Int32) * (ps_i s 1131 21)).toInt = 6 * b := by rw [xIm (by rw [c6, h21]; omega) (by rw [c6, h21]; omega), c6, h21]
  refine pl_218_0 ?_
  refine ⟨fun h1 => ?_, fun h1 => ?_⟩
  · have h1 : x1.toInt = (0 : Int) := xeq h1
    exact k _ (by rw [z0 (by omega)]; rfl)
  · have h1 : x1.toInt ≠ (0 : Int) := xne h1
    refine ⟨fun h7 => ?_, fun h7 => ?_⟩
    · have h7 : x1.toInt < (40 : Int) := xlt h7
      refine ⟨fun h14 => ?_, fun h14 => ?_⟩
      · have h14 : x1.toInt < (4 : Int) := xlt h14
        exact k _ (by rw [z2 (by omega) (by omega)]; rfl)
      · have h14 : (4 : Int) ≤ x1.toInt := xle h14
        refine ⟨fun h20 => ?_, fun h20 => ?_⟩
        · have h20 : x1.toInt ≠ (6 : Int) := xne h20
          refine ⟨fun h28 => ?_, fun h28 => ?_⟩
          · have h28 : (6 : Int) ≤ x1.toInt := xle h28
            refine ⟨fun h36 => ?_, fun h36 => ?_⟩
            · have h36 : (20 : Int) ≤ x1.toInt := xle h36
              intro b74
              obtain ⟨b74, c74⟩ := pl_in b74
              have y := y2 (by omega) (by omega)
              have a1 : ((((4 : Int32) * (ps_i s 1131 21)) + x1)).toInt = 4 * b + c := by rw [xIa (by omega) (by omega), m4, hx]
              rw [xtn (a := 4 * b + (c - 20)) (by rw [xIs (by omega) (by omega), a1, c20]; omega)]
              exact k _ y.2
            · have h36 : x1.toInt < (20 : Int) := xlt h36
              intro b55
              obtain ⟨b55, c55⟩ := pl_in b55
              have y := y1 (by omega) (by omega)
              have a1 : ((((6 : Int32) * (ps_i s 1131 21)) + x1)).toInt = 6 * b + c := by rw [xIa (by omega) (by omega), m6, hx]
              rw [xtn (a := 6 * b + (c - 10)) (by rw [xIs (by omega) (by omega), a1, c10]; omega)]
              exact k _ y.2
          · have h28 : x1.toInt < (6 : Int) := xlt h28
            exact k _ (by rw [z1 (by omega)]; rfl)
        · have h20 : x1.toInt = (6 : Int) := xeq h20
          exact k _ (by rw [z6 (by omega)]; rfl)
    · have h7 : (40 : Int) ≤ x1.toInt := xle h7
      exact k _ (by rw [z4 (by omega)]; rfl)
theorem fm_220c {n to j c : Nat} {x1 x2 : Int32} {s : ps_S} {l : List Nat} {R : Int32 → ps_S → Prop} (hx : x1.toInt = to) (ht : to < 27400) (W : mv_W s to l) (hj : x2.toInt = j) (hc : l[j]? = some c) (k : ∀ v : Int32, v.toInt = c → R v s) : pl_Cl n 220 [.ref 1131, .int x1, .int x2] s (ps_rI R) := by
  have hl := (List.getElem?_eq_some_iff.mp hc).1
  have h40 := W.2.1
  have c1 : (1 : Int32).toInt = 1 := by decide
  have e : (x1 + 1).toInt = to + 1 := by rw [xIa (by omega) (by omega), hx, c1]
  refine fm_220 (j := to + 1 + j) (by rw [xIa (by omega) (by omega), e, hj]; omega) ?_
  exact k _ (W.2.2 j c hc)
theorem fm_219c {n to : Nat} {x1 : Int32} {s : ps_S} {l : List Nat} {R : Int32 → ps_S → Prop} (hx : x1.toInt = to) (W : mv_W s to l) (k : ∀ v : Int32, v.toInt = l.length → R v s) : pl_Cl n 219 [.ref 1131, .int x1] s (ps_rI R) := fm_219 hx (k _ W.1)
theorem ar2 {s : ps_S} {b c : Nat} {g : tx_g} (H : mv_E s b g) {b0 : Bool} {ks : List Bool} (hk : kS (sg g) b0 c = some ks) : ks.length ≤ 2 := by
  rcases kS_num hk with ⟨a, e⟩ | ⟨a, a2, e⟩ | ⟨a, e⟩ | ⟨a, e⟩ | ⟨a, a2, e⟩ | ⟨a, a2, e⟩ | ⟨a, a2, e⟩
  · omega
  · omega
  · omega
  · omega
  · have a2 : c < 10 + g.1.length := a2
    have e : ks.length = (g.1.getD (c - 10) ([], 0)).2 := e
    obtain ⟨w, hw⟩ := getD_2 (α := Nat) (l := g.1) (k := c - 10) (by omega)
    have := (H.2.2.2.2.1 _ _ _ hw).2.1
    omega
  · have a2 : c < 20 + g.2.length := a2
    have e : ks.length = (g.2.getD (c - 20) ([], 0)).2 := e
    obtain ⟨w, hw⟩ := getD_2 (α := Nat) (l := g.2) (k := c - 20) (by omega)
    have := (H.2.2.2.2.2 _ _ _ hw).2.1
    omega
  · omega
theorem fm_221_5 {b to e : Nat} {g : tx_g} {l : List Nat} {x1 : Int32} {s : ps_S} {R : Int32 → ps_S → Prop} (hb : b < 2) (h21 : (ps_i s 1131 21).toInt = b) (H : mv_E s b g) (hx : x1.toInt = to) (ht : to < 27400) (W : mv_W s to l) (k : ∀ v : Int32, v.toInt = e → R v s) : ∀ (n : Nat) {x3 x4 : Int32} {j w : Nat} {Wj : List Bool}, x3.toInt = j → x4.toInt = w → ws (sg g) (l.drop j) Wj → w ≤ Wj.length → j + en (arh g) (l.drop j) w = e → j ≤ l.length → pl_At n 221 5 [(0, .ref 1131), (1, .int x1), (3, .int x3), (4, .int x4)] [] s (ps_rI R)
  | 0, _, _, _, _, _, _, _, _, _, _, _ => pl_At_0
  | n + 1, x3, x4, j, w, Wj, h3, h4, hw, hwl, he, hj => by
    have h40 := W.2.1
    have hA := arh_k H.2.2.1 H.2.2.2.1
    refine pl_221_5 ?_
    refine ⟨fun h7 => ?_, fun h7 => ?_⟩
    · have h7 : x4.toInt ≤ (0 : Int) := xle h7
      have e0 : w = 0 := by omega
      subst e0
      rw [en_0] at he
      exact k _ (by omega)
    · have h7 : (0 : Int) < x4.toInt := xlt h7
      obtain ⟨b0, W', rfl⟩ : ∃ b0 W', Wj = b0 :: W' := by
        cases Wj with
        | nil => rw [List.length_nil] at hwl; omega
        | cons b0 W' => exact ⟨b0, W', rfl⟩
      have hjl : j < l.length := by
        rcases Nat.lt_or_ge j l.length with z | z
        · exact z
        · rw [List.drop_eq_nil_of_le z] at hw
          cases hw
      obtain ⟨c, hc⟩ : ∃ c, l[j]? = some c := ⟨_, List.getElem?_eq_getElem hjl⟩
      rw [drop_c hc] at hw
      obtain ⟨ks, hk, hws⟩ := ws_hd hw
      have ha := hA b0 c ks hk
      refine fm_220c hx ht W h3 hc (fun v16 q16 => ?_)
      refine fm_218 hb h21 H hk q16 (fun v19 q19 => ?_)
      have a2 : ks.length ≤ 2 := ar2 H hk
      have c1 : (1 : Int32).toInt = 1 := by decide
      have hle := ws_le hws
      rw [List.length_append, List.length_drop] at hle
      have hwl2 := hwl
      rw [List.length_cons] at hwl2
      have e5 : (x4 + (v19 - 1)).toInt = (w - 1 + arh g c : Nat) := by
        have e6 : (v19 - 1).toInt = (arh g c : Int) - 1 := by rw [xIs (by omega) (by omega), q19, c1]
        rw [xIa (by omega) (by omega), e6, h4]
        omega
      refine fm_221_5 hb h21 H hx ht W k n (xj1 h3 (by omega)) e5 hws (by rw [List.length_append]; rw [List.length_cons] at hwl; omega) ?_ (by omega)
      rw [drop_c hc, show w = (w - 1) + 1 from by omega, en_c] at he
      omega
theorem fm_221 {n b to i : Nat} {g : tx_g} {l : List Nat} {b0 : Bool} {Wi : List Bool} {x1 x2 : Int32} {s : ps_S} {R : Int32 → ps_S → Prop} (hb : b < 2) (h21 : (ps_i s 1131 21).toInt = b) (H : mv_E s b g) (hx : x1.toInt = to) (ht : to < 27400) (W : mv_W s to l) (hi : x2.toInt = i) (hw : ws (sg g) (l.drop i) (b0 :: Wi)) (k : ∀ v : Int32, v.toInt = (i + en (arh g) (l.drop i) 1 : Nat) → R v s) : pl_Cl n 221 [.ref 1131, .int x1, .int x2] s (ps_rI R) := by
  cases n with
  | zero => exact pl_At_0
  | succ n =>
  show pl_At (n + 1) 221 0 [(0, .ref 1131), (1, .int x1), (2, .int x2)] [] s (ps_rI R)
  refine pl_221_0 ?_
  refine fm_221_5 hb h21 H hx ht W k n hi (w := 1) (by decide) hw (by rw [List.length_cons]; omega) rfl ?_
  rcases Nat.lt_or_ge i l.length with z | z
  · omega
  · rw [List.drop_eq_nil_of_le z] at hw
    cases hw
/-- parts that are the same -/
theorem sl_eq {l l2 : List Nat} {b p k : Nat} : (l.drop b).take k = (l2.drop p).take k ↔ ∀ j, j < k → l[b + j]? = l2[p + j]? := by
  constructor
  · intro h j hj
    have := congrArg (fun z => z[j]?) h
    rw [List.getElem?_take, List.getElem?_take, if_pos hj, if_pos hj, List.getElem?_drop, List.getElem?_drop] at this
    exact this
  · intro h
    refine List.ext_getElem? (fun j => ?_)
    rw [List.getElem?_take, List.getElem?_take]
    by_cases hj : j < k
    · rw [if_pos hj, if_pos hj, List.getElem?_drop, List.getElem?_drop]
      exact h j hj
    · rw [if_neg hj, if_neg hj]
theorem fs_92o {n r i : Nat} {x1 : Int32} {s : ps_S} {l : List Nat} {R : Int32 → ps_S → Prop} (hr : ps_is r 5 = true) (W : cv_W s r l) (hx : x1.toInt = i) (k : ∀ v : Int32, (∃ c : Nat, l[i]? = some c ∧ v.toInt = c) ∨ (l[i]? = none ∧ v.toInt = -1) → R v s) : pl_Cl n 92 [.ref r, .int x1] s (ps_rI R) := by
  obtain ⟨t1, t2, t3, -⟩ := cv_row hr
  refine fs_92 hr t1 (by rw [t1]; exact t2) W (fun v z => k v ?_)
  rcases Nat.lt_or_ge i l.length with y | y
  · obtain ⟨c, hc⟩ : ∃ c, l[i]? = some c := ⟨_, List.getElem?_eq_getElem y⟩
    exact Or.inl ⟨c, hc, z.1 ⟨by omega, by omega⟩ c (by rw [hx]; exact hc)⟩
  · exact Or.inr ⟨List.getElem?_eq_none y, z.2 (by omega)⟩
theorem fs_99_3 {r r3 b e p : Nat} {l l2 : List Nat} {x1 x2 x4 : Int32} {s : ps_S} {R : Int32 → ps_S → Prop} (hr : ps_is r 5 = true) (W : cv_W s r l) (hr3 : ps_is r3 5 = true) (W3 : cv_W s r3 l2) (h1 : x1.toInt = b) (h2 : x2.toInt = e) (he : e ≤ l.length) (h4 : x4.toInt = p) (hp : p ≤ 1000) (k1 : (l.drop b).take (e - b) = (l2.drop p).take (e - b) → R 1 s) (k0 : ¬ (l.drop b).take (e - b) = (l2.drop p).take (e - b) → R 0 s) : ∀ (n : Nat) {x5 : Int32} {i : Nat}, x5.toInt = i → b ≤ i → (∀ j, j < i - b → l[b + j]? = l2[p + j]?) → pl_At n 99 3 [(0, .ref r), (1, .int x1), (2, .int x2), (3, .ref r3), (4, .int x4), (5, .int x5)] [] s (ps_rI R)
  | 0, _, _, _, _, _ => pl_At_0
  | n + 1, x5, i, h5, hb, hj => by
    have h40 := W.2.2.1
    refine pl_99_3 ?_
    refine ⟨fun h6 => ?_, fun h6 => ?_⟩
    · have h6 : x2.toInt ≤ x5.toInt := xle h6
      exact k1 (sl_eq.mpr (fun j hj2 => hj j (by omega)))
    · have h6 : x5.toInt < x2.toInt := xlt h6
      obtain ⟨c, hc⟩ : ∃ c, l[i]? = some c := ⟨_, List.getElem?_eq_getElem (by omega)⟩
      have ei : ((x4 + x5) - x1).toInt = (p + (i - b) : Nat) := by
        have e1 : (x4 + x5).toInt = (p + i : Nat) := by rw [xIa (by omega) (by omega), h4, h5]; rfl
        rw [xIs (by omega) (by omega), e1, h1]
        omega
      refine fs_92c hr W h5 hc (fun v12 q12 => ?_)
      refine fs_92o hr3 W3 ei (fun v23 q23 => ?_)
      refine ⟨fun h26 => ?_, fun h26 => ?_⟩
      · have h26 : v12.toInt = v23.toInt := xeq h26
        refine fs_99_3 hr W hr3 W3 h1 h2 he h4 hp k1 k0 n (xj1 h5 (by omega)) (by omega) (fun j hj2 => ?_)
        rcases Nat.lt_or_ge j (i - b) with z | z
        · exact hj j z
        · rw [show b + j = i from by omega, show p + j = p + (i - b) from by omega, hc]
          rcases q23 with ⟨c2, e2, e3⟩ | ⟨e2, e3⟩
          · rw [e2, show c = c2 from by omega]
          · omega
      · have h26 : v12.toInt ≠ v23.toInt := xne h26
        refine k0 (fun z => ?_)
        rcases q23 with ⟨c2, e2, e3⟩ | ⟨e2, e3⟩
        · have y := sl_eq.mp z (i - b) (by omega)
          rw [show b + (i - b) = i from by omega, hc] at y
          rw [e2] at y
          cases y
          omega
        · have y := sl_eq.mp z (i - b) (by omega)
          rw [show b + (i - b) = i from by omega, hc] at y
          rw [e2] at y
          cases y
/-- isPartAt -/
theorem fs_99 {n r r3 b e p : Nat} {l l2 : List Nat} {x1 x2 x4 : Int32} {s : ps_S} {R : Int32 → ps_S → Prop} (hr : ps_is r 5 = true) (W : cv_W s r l) (hr3 : ps_is r3 5 = true) (W3 : cv_W s r3 l2) (h1 : x1.toInt = b) (h2 : x2.toInt = e) (he : e ≤ l.length) (h4 : x4.toInt = p) (hp : p ≤ 1000) (k1 : (l.drop b).take (e - b) = (l2.drop p).take (e - b) → R 1 s) (k0 : ¬ (l.drop b).take (e - b) = (l2.drop p).take (e - b) → R 0 s) : pl_Cl n 99 [.ref r, .int x1, .int x2, .ref r3, .int x4] s (ps_rI R) := by
  cases n with
  | zero => exact pl_At_0
  | succ n =>
  show pl_At (n + 1) 99 0 [(0, .ref r), (1, .int x1), (2, .int x2), (3, .ref r3), (4, .int x4)] [] s (ps_rI R)
  refine pl_99_0 ?_
  exact fs_99_3 hr W hr3 W3 h1 h2 he h4 hp k1 k0 n h1 (Nat.le_refl _) (fun j hj => absurd hj (by omega))
theorem fm_259_18 {ta tb f m p : Nat} {la lb : List Nat} {x1 x2 x3 x4 x5 : Int32} {s : ps_S} {R : Int32 → ps_S → Prop} (h1 : x1.toInt = ta) (hta : ta < 27400) (Wa : mv_W s ta la) (h4 : x4.toInt = tb) (htb : tb < 27400) (Wb : mv_W s tb lb) (h2 : x2.toInt = f) (h3 : x3.toInt = m) (h5 : x5.toInt = p) (hf : f + m ≤ la.length) (hp : p + m ≤ lb.length) (k1 : (la.drop f).take m = (lb.drop p).take m → R 1 s) (k0 : ¬ (la.drop f).take m = (lb.drop p).take m → R 0 s) : ∀ (n : Nat) {x6 : Int32} {i : Nat}, x6.toInt = i → (∀ j, j < i → la[f + j]? = lb[p + j]?) → pl_At n 259 18 [(0, .ref 1131), (1, .int x1), (2, .int x2), (3, .int x3), (4, .int x4), (5, .int x5), (6, .int x6)] [] s (ps_rI R)
  | 0, _, _, _, _ => pl_At_0
  | n + 1, x6, i, h6, hj => by
    have a40 := Wa.2.1
    have b40 := Wb.2.1
    refine pl_259_18 ?_
    refine ⟨fun h21 => ?_, fun h21 => ?_⟩
    · have h21 : x3.toInt ≤ x6.toInt := xle h21
      exact k1 (sl_eq.mpr (fun j hj2 => hj j (by omega)))
    · have h21 : x6.toInt < x3.toInt := xlt h21
      obtain ⟨c, ha⟩ : ∃ c, la[f + i]? = some c := ⟨_, List.getElem?_eq_getElem (by omega)⟩
      obtain ⟨c2, hb⟩ : ∃ c2, lb[p + i]? = some c2 := ⟨_, List.getElem?_eq_getElem (by omega)⟩
      refine fm_220c h1 hta Wa (j := f + i) (by rw [xIa (by omega) (by omega), h2, h6]; rfl) ha (fun v30 q30 => ?_)
      refine fm_220c h4 htb Wb (j := p + i) (by rw [xIa (by omega) (by omega), h5, h6]; rfl) hb (fun v41 q41 => ?_)
      refine ⟨fun h44 => ?_, fun h44 => ?_⟩
      · have h44 : v30.toInt = v41.toInt := xeq h44
        refine fm_259_18 h1 hta Wa h4 htb Wb h2 h3 h5 hf hp k1 k0 n (xj1 h6 (by omega)) (fun j hj2 => ?_)
        rcases Nat.lt_or_ge j i with z | z
        · exact hj j z
        · rw [show j = i from by omega, ha, hb, show c = c2 from by omega]
      · have h44 : v30.toInt ≠ v41.toInt := xne h44
        refine k0 (fun z => ?_)
        have y := sl_eq.mp z i (by omega)
        rw [ha, hb] at y
        cases y
        omega
/-- haveSame -/
theorem fm_259 {n ta tb f m p : Nat} {la lb : List Nat} {x1 x2 x3 x4 x5 : Int32} {s : ps_S} {R : Int32 → ps_S → Prop} (h1 : x1.toInt = ta) (hta : ta < 27400) (Wa : mv_W s ta la) (h4 : x4.toInt = tb) (htb : tb < 27400) (Wb : mv_W s tb lb) (h2 : x2.toInt = f) (h3 : x3.toInt = m) (h5 : x5.toInt = p) (hf : f + m ≤ la.length) (hp1 : p ≤ lb.length) (k1 : (la.drop f).take m = (lb.drop p).take m → R 1 s) (k0 : ¬ (la.drop f).take m = (lb.drop p).take m → R 0 s) : pl_Cl n 259 [.ref 1131, .int x1, .int x2, .int x3, .int x4, .int x5] s (ps_rI R) := by
  cases n with
  | zero => exact pl_At_0
  | succ n =>
  show pl_At (n + 1) 259 0 [(0, .ref 1131), (1, .int x1), (2, .int x2), (3, .int x3), (4, .int x4), (5, .int x5)] [] s (ps_rI R)
  have a40 := Wa.2.1
  have b40 := Wb.2.1
  have es : (x5 + x3).toInt = (p + m : Nat) := by rw [xIa (by omega) (by omega), h5, h3]; rfl
  refine pl_259_0 ?_
  refine fm_219c h4 Wb (fun v7 q7 => ?_)
  refine ⟨fun h10 => ?_, fun h10 => ?_⟩
  · have h10 : (x5 + x3).toInt ≤ v7.toInt := xle h10
    exact fm_259_18 h1 hta Wa h4 htb Wb h2 h3 h5 hf (by omega) k1 k0 n rfl (fun j hj => absurd hj (Nat.not_lt_zero _))
  · have h10 : v7.toInt < (x5 + x3).toInt := xlt h10
    refine k0 (fun z => ?_)
    have y := congrArg List.length z
    rw [List.length_take, List.length_take, List.length_drop, List.length_drop] at y
    omega
/-! what stands in the state is well formed -/
/-- of a theory and a formula -/
def WFt (h : tx_H) : Prop := h.1.1.length ≤ 6 ∧ h.1.2.length ≤ 4 ∧ ∀ (k : Nat) (w l : List Nat), h.2[k]? = some (w, l) → wf (sg h.1) 5 l [(true, 0)] ∧ l.length ≤ 40 ∧ ∀ p, p ∈ l → p < 60
def WFf (g : tx_g) (l : List Nat) : Prop := l = [] ∨ wf (sg g) 5 l [(true, 0)]
theorem kS_sg {s : ps_S} {b : Nat} {σ : mSig} {g : tx_g} (hS : Sg (ps_a s 1135) (ps_a s 1136) (ps_a s 1138) (ps_a s 1139) b σ) (H : mv_E s b g) (bb : Bool) (p : Nat) : kS σ bb p = kS (sg g) bb p := by
  obtain ⟨-, -, e1, -, e2, -, e3, e4⟩ := hS
  rw [show ((b : Int)).toNat = b from rfl] at e1 e2
  have n1 : σ.1.1 = g.1.length := by have := H.1; omega
  have n2 : σ.1.2 = g.2.length := by have := H.2.1; omega
  have f1 : ∀ r, r < g.1.length → σ.2.1 r = (g.1.getD r ([], 0)).2 := fun r hr => by
    obtain ⟨w, hw⟩ := getD_2 (α := Nat) (l := g.1) hr
    have y := (H.2.2.2.2.1 _ _ _ hw).2.2.2
    have z := (e3 r (by omega)).1
    rw [show ((b : Int)).toNat = b from rfl, y] at z
    omega
  have f2 : ∀ r, r < g.2.length → σ.2.2 r = (g.2.getD r ([], 0)).2 := fun r hr => by
    obtain ⟨w, hw⟩ := getD_2 (α := Nat) (l := g.2) hr
    have y := (H.2.2.2.2.2 _ _ _ hw).2.2.2
    have z := (e4 r (by omega)).1
    rw [show ((b : Int)).toNat = b from rfl, y] at z
    omega
  unfold kS
  rw [n1, n2]
  cases bb
  · rw [cond_false, cond_false]
    show (if 20 ≤ p ∧ p < 20 + g.2.length then _ else _) = (if 20 ≤ p ∧ p < 20 + g.2.length then _ else _)
    by_cases h : 20 ≤ p ∧ p < 20 + g.2.length
    · rw [if_pos h, if_pos h, f2 _ (by omega)]
      rfl
    · rw [if_neg h, if_neg h]
  · rw [cond_true, cond_true]
    show (if p = 0 then _ else if p < 4 then _ else if p < 6 then _ else if p = 6 then _ else if 10 ≤ p ∧ p < 10 + g.1.length then _ else _) = (if p = 0 then _ else if p < 4 then _ else if p < 6 then _ else if p = 6 then _ else if 10 ≤ p ∧ p < 10 + g.1.length then _ else _)
    by_cases h : 10 ≤ p ∧ p < 10 + g.1.length
    · rw [if_pos h, if_pos h, f1 _ (by omega)]
      rfl
    · rw [if_neg h, if_neg h]
theorem wf_sg {s : ps_S} {b c : Nat} {σ : mSig} {g : tx_g} (hS : Sg (ps_a s 1135) (ps_a s 1136) (ps_a s 1138) (ps_a s 1139) b σ) (H : mv_E s b g) : ∀ {l : List Nat} {W : List (Bool × Nat)}, wf σ c l W → wf (sg g) c l W
  | [], W, h => h
  | p :: l, W, h => by
    obtain ⟨bb, k, W', ks, e, hk, h2, h3⟩ := wf_cons.mp h
    rw [kS_sg hS H] at h2
    exact wf_cons.mpr ⟨bb, k, W', ks, e, hk, h2, wf_sg hS H h3⟩
/-- a row as both layers have it -/
theorem Rw_W {s : ps_S} {to : Nat} {l l' : List Nat} (R : Rw (ps_a s 1134) to l') (W : mv_W s to l) : l' = l := by
  obtain ⟨-, -, -, r4, r5, r6⟩ := R
  obtain ⟨w1, w2, w3⟩ := W
  rw [show ((to : Int)).toNat = to from rfl] at r5 r6
  have hl : l'.length = l.length := by omega
  refine List.ext_getElem? (fun i => ?_)
  rcases Nat.lt_or_ge i l.length with z | z
  · obtain ⟨c, hc⟩ : ∃ c, l[i]? = some c := ⟨_, List.getElem?_eq_getElem z⟩
    obtain ⟨c', hc'⟩ : ∃ c, l'[i]? = some c := ⟨_, List.getElem?_eq_getElem (by omega)⟩
    have e : l' = l'.take i ++ c' :: l'.drop (i + 1) := by rw [← drop_c hc', List.take_append_drop]
    have a := r6 _ _ _ e
    rw [List.length_take, Nat.min_eq_left (by omega)] at a
    have b := w3 i c hc
    rw [hc, hc', show c = c' from by omega]
  · rw [List.getElem?_eq_none z, List.getElem?_eq_none (by omega)]
theorem WF_of {s : ps_S} {t : Int32} {u : Int} {h : tx_H} {l : List Nat} (X : LX s t u) (m : TRm s h l) : WFt h ∧ WFf h.1 l := by
  obtain ⟨σ, hM⟩ := X.2.2.2.1
  obtain ⟨b, m1, m2, m3, m4⟩ := m
  rw [m2] at hM
  obtain ⟨hS, -, -, hAx, hF, -⟩ := hM
  have H := m3.1
  refine ⟨⟨H.2.2.1, H.2.2.2.1, fun k w ax hk => ?_⟩, ?_⟩
  · obtain ⟨y1, y2, y3⟩ := m3.2.2.2 k w ax hk
    have hl := (List.getElem?_eq_some_iff.mp hk).1
    have e7 := m3.2.1
    have h8 := m3.2.2.1
    obtain ⟨l', r, q, r60⟩ := hAx k (by rw [show ((b : Int)).toNat = b from rfl]; omega) (by omega)
    rw [show (21812 + 41 * (8 * (b : Int) + (k : Int)) : Int) = ((21812 + 41 * (8 * b + k) : Nat) : Int) from by omega] at r
    have e := Rw_W r y3
    subst e
    exact ⟨wf_sg hS H q, y3.2.1, r60⟩
  · rcases hF with hF | ⟨l', r, q⟩
    · left
      have := m4.1
      exact List.eq_nil_of_length_eq_zero (by omega)
    · right
      have e := Rw_W (to := 25748) r m4
      subst e
      exact wf_sg hS H q
end
section
set_option maxRecDepth 100000
/-! letters(), table(), row(): both sides -/
/-- a formula spelled: the rest, the letters so far, the signs so far -/
abbrev lt_C : Type := List Nat × (List (List Nat) × List Nat)
def lt_ix (L : List (List Nat)) (m : List Nat) : Nat × List (List Nat) := match tx_at L m with
  | some k => (k, L)
  | none => (L.length, L ++ [m])
def lt_st (ar : Nat → Nat) : lt_C → lt_C
  | ([], x) => ([], x)
  | (c :: t, L, S) => if c < 4 then (t, L, S ++ [c]) else ((c :: t).drop (en ar (c :: t) 1), (lt_ix L ((c :: t).take (en ar (c :: t) 1))).2, S ++ [4 + (lt_ix L ((c :: t).take (en ar (c :: t) 1))).1])
def lt_go (ar : Nat → Nat) (l : List Nat) (L : List (List Nat)) (S : List Nat) : Prop := gt_go (lt_st ar) (l, [], []) ([], L, S)
theorem lt_det {ar : Nat → Nat} {l : List Nat} {L L' : List (List Nat)} {S S' : List Nat} (h : lt_go ar l L S) (h' : lt_go ar l L' S') : L = L' ∧ S = S' := by
  have z := gt_det h h' rfl rfl
  cases z
  exact ⟨rfl, rfl⟩
/-- signs as a prefix code of n parts -/
def cw : List Nat → Nat → Prop
  | [], n => n = 0
  | c :: T, n => ∃ n', n = n' + 1 ∧ cw T ((if 1 ≤ c ∧ c ≤ 3 then 2 else 0) + n')
theorem lt_ix_le {L : List (List Nat)} {m : List Nat} : (lt_ix L m).2.length ≤ L.length + 1 ∧ (lt_ix L m).1 < (lt_ix L m).2.length := by
  unfold lt_ix
  cases e : tx_at L m with
  | none => exact ⟨by rw [List.length_append, List.length_singleton]; exact Nat.le_refl _, by rw [List.length_append, List.length_singleton]; show L.length < _; omega⟩
  | some k =>
    have := tx_ix_some e
    exact ⟨by show L.length ≤ _; omega, by show k < L.length; omega⟩
theorem tk_len {m t : List Nat} {q : Nat} (h : m = t.take q) : t.take m.length = m := by
  have e : m.length = min q t.length := by rw [h, List.length_take]
  rw [e, h, List.take_eq_take_iff]
  omega
/-- the k-th letter's part begins at b -/
def lt_bg (ar : Nat → Nat) (l : List Nat) (m : List Nat) (b : Nat) : Prop := b < l.length ∧ (l.drop b).take (en ar (l.drop b) 1) = m
/-- a letter is the part m, so far as m pieces tell -/
theorem lt_same {σ : mSig} {ar : Nat → Nat} (hA : ArW σ ar) {l m m' : List Nat} {b : Nat} {bb : Bool} (hm : ws σ m [bb]) (hb : lt_bg ar l m' b) : m = (l.drop b).take m.length ↔ m' = m := by
  obtain ⟨h1, h2⟩ := hb
  constructor
  · intro h
    have e : l.drop b = m ++ (l.drop b).drop m.length := by
      have := List.take_append_drop m.length (l.drop b)
      rw [← h] at this
      exact this.symm
    have e2 : en ar (l.drop b) 1 = m.length := by rw [e]; exact en_p1 hA hm
    rw [← h2, e2]
    exact h.symm
  · intro h
    rw [h] at h2
    exact (tk_len h2.symm).symm
theorem lt_at {L : List (List Nat)} {m : List Nat} {k : Nat} (h : L[k]? = some m) (hj : ∀ j, j < k → L[j]? ≠ some m) : lt_ix L m = (k, L) := by
  unfold lt_ix
  rw [tx_at_is h hj]
theorem lt_no {L : List (List Nat)} {m : List Nat} (h : ∀ j, j < L.length → L[j]? ≠ some m) : lt_ix L m = (L.length, L ++ [m]) := by
  unfold lt_ix
  rw [tx_at_no h]
/-- the signs so far make the whole, once the rest's parts come -/
def lt_W (σ : mSig) (t : List Nat) (S : List Nat) : Prop := ∃ W : List Bool, ws σ t W ∧ ∀ T, cw T W.length → cw (S ++ T) 1
theorem lt_W_0 {σ : mSig} {l : List Nat} {b : Bool} (h : ws σ l [b]) : lt_W σ l [] := ⟨[b], h, fun T z => z⟩
theorem lt_W_end {σ : mSig} {S : List Nat} (h : lt_W σ [] S) : cw S 1 := by
  obtain ⟨W, h1, h2⟩ := h
  have h1 : W = [] := h1
  have := h2 [] (by rw [h1]; rfl)
  rw [List.append_nil] at this
  exact this
theorem lt_W_c {σ : mSig} {c : Nat} {t S : List Nat} (h : lt_W σ (c :: t) S) (hc : c < 4) : lt_W σ t (S ++ [c]) := by
  obtain ⟨W, h1, h2⟩ := h
  obtain ⟨b, W', ks, rfl, hk, h3⟩ := ws_cons.mp h1
  refine ⟨ks ++ W', h3, fun T hT => ?_⟩
  rw [List.append_assoc]
  refine h2 _ ⟨W'.length, rfl, ?_⟩
  rw [List.length_append] at hT
  have e : ks.length = (if 1 ≤ c ∧ c ≤ 3 then 2 else 0) := by
    rcases kS_num hk with ⟨a, e⟩ | ⟨a, a2, e⟩ | ⟨a, e⟩ | ⟨a, e⟩ | ⟨a, a2, e⟩ | ⟨a, a2, e⟩ | ⟨a, a2, e⟩
    · rw [if_neg (by omega), e]
    · rw [if_pos (by omega), e]
    · omega
    · omega
    · omega
    · omega
    · omega
  rw [e] at hT
  exact hT
theorem lt_W_p {σ : mSig} {ar : Nat → Nat} (hA : ArW σ ar) {k : Nat} {t S : List Nat} (h : lt_W σ t S) (ht : t ≠ []) : lt_W σ (t.drop (en ar t 1)) (S ++ [4 + k]) ∧ ∃ b, ws σ (t.take (en ar t 1)) [b] := by
  obtain ⟨W, h1, h2⟩ := h
  cases W with
  | nil => exact absurd (ws_nil h1) ht
  | cons b W' =>
    obtain ⟨g1, g2⟩ := en_rest hA (k := 1) h1 (by rw [List.length_cons]; omega)
    refine ⟨⟨W', g1, fun T hT => ?_⟩, b, g2⟩
    rw [List.append_assoc]
    refine h2 _ ⟨W'.length, rfl, ?_⟩
    rw [if_neg (by omega), Nat.zero_add]
    exact hT
/-- the class's letters -/
def lt_c (s : ps_S) (ar : Nat → Nat) (l : List Nat) (L : List (List Nat)) (S : List Nat) : Prop := ((ps_i s 936 2).toInt = S.length ∧ ar_L s 941 S) ∧ (ps_i s 936 4).toInt = L.length ∧ ∀ (k : Nat) (m : List Nat), L[k]? = some m → ∃ b, (ps_a s 942 k).toInt = (b : Nat) ∧ lt_bg ar l m b

-- ProofBench$Letters.letterAt(LProofBench$Row;I)I
theorem pl_22_0 {n : Nat} {r1 : Nat} {x2 : Int32} {s : ps_S} {Q : Option Value → ps_S → Prop} (h :
  pl_At n 22 2 [(0, .ref 936), (1, .ref r1), (2, .int x2), (3, .int 0)] [] s Q) : pl_At (n + 1) 22 0 [(0, .ref 936), (1, .ref r1), (2, .int x2)] [] s Q :=
  pl_wp_at (stops := [(2, [0, 1, 2, 3])]) (f := 4) h rfl

theorem pl_22_2 {n : Nat} {r1 : Nat} {x2 : Int32} {x3 : Int32} {s : ps_S} {Q : Option Value → ps_S → Prop} (h :
  ((ps_i s 936 4) ≤ x3 →
    pl_Cl n 183 [.ref 942, .int (ps_i s 936 4), .int x2] s (ps_rV (fun s1 =>
      Q (some (.int ((ps_i (ps_ui s1 936 4 ((ps_i s1 936 4) + 1)) 936 4) - 1))) (ps_ui s1 936 4 ((ps_i s1 936 4) + 1))))) ∧
  (x3 < (ps_i s 936 4) →
    pl_Cl n 104 [.ref 937, .int x2] s (ps_rI (fun v2 s2 =>
      pl_Cl n 182 [.ref 942, .int x3] s2 (ps_rI (fun v3 s3 =>
        pl_Cl n 99 [.ref r1, .int x2, .int v2, .ref r1, .int v3] s3 (ps_rI (fun v4 s4 =>
          (v4 = 0 →
            pl_At n 22 2 [(0, .ref 936), (1, .ref r1), (2, .int x2), (3, .int (x3 + 1))] [] s4 Q) ∧
          (v4 ≠ 0 →
            Q (some (.int x3)) s4))))))))) : pl_At (n + 1) 22 2 [(0, .ref 936), (1, .ref r1), (2, .int x2), (3, .int x3)] [] s Q :=
  pl_wp_at (stops := [(2, [0, 1, 2, 3])]) (f := 40) h rfl

-- ProofBench$Letters.spell(LProofBench$Row;LProofBench$Theory;)V
theorem pl_21_0 {n : Nat} {r1 : Nat} {r2 : Nat} {s : ps_S} {Q : Option Value → ps_S → Prop} (h :
  pl_Cl n 103 [.ref 937, .ref r1, .ref r2] s (ps_rV (fun s1 =>
    pl_At n 21 21 [(0, .ref 936), (1, .ref r1), (3, .int 0)] [] (ps_ui (ps_ui s1 936 2 0) 936 4 0) Q))) : pl_At (n + 1) 21 0 [(0, .ref 936), (1, .ref r1), (2, .ref r2)] [] s Q :=
  pl_wp_at (stops := [(21, [0, 1, 3])]) (f := 15) h rfl

theorem pl_21_21 {n : Nat} {r1 : Nat} {x3 : Int32} {s : ps_S} {Q : Option Value → ps_S → Prop} (h :
  pl_nk (ps_is r1 5) (((ps_i s r1 1) ≤ x3 →
    Q none s) ∧
  (x3 < (ps_i s r1 1) →
    pl_Cl n 92 [.ref r1, .int x3] s (ps_rI (fun v1 s1 =>
      (v1 < 4 →
        ((0 : Int32) = 0 →
          pl_Cl n 92 [.ref r1, .int x3] s1 (ps_rI (fun v2 s2 =>
            pl_Cl n 183 [.ref 941, .int (ps_i s1 936 2), .int v2] s2 (ps_rV (fun s3 =>
              ((0 : Int32) = 0 →
                pl_At n 21 21 [(0, .ref 936), (1, .ref r1), (3, .int (x3 + 1))] [] (ps_ui s3 936 2 ((ps_i s3 936 2) + 1)) Q) ∧
              ((0 : Int32) ≠ 0 →
                pl_Cl n 104 [.ref 937, .int x3] (ps_ui s3 936 2 ((ps_i s3 936 2) + 1)) (ps_rI (fun v4 s4 =>
                  pl_At n 21 21 [(0, .ref 936), (1, .ref r1), (3, .int (if (x3 + 1) < v4 then v4 else (x3 + 1)))] [] s4 Q)))))))) ∧
        ((0 : Int32) ≠ 0 →
          pl_Cl n 22 [.ref 936, .ref r1, .int x3] s1 (ps_rI (fun v5 s5 =>
            pl_Cl n 183 [.ref 941, .int (ps_i s1 936 2), .int ((4 : Int32) + v5)] s5 (ps_rV (fun s6 =>
              ((0 : Int32) = 0 →
                pl_At n 21 21 [(0, .ref 936), (1, .ref r1), (3, .int (x3 + 1))] [] (ps_ui s6 936 2 ((ps_i s6 936 2) + 1)) Q) ∧
              ((0 : Int32) ≠ 0 →
                pl_Cl n 104 [.ref 937, .int x3] (ps_ui s6 936 2 ((ps_i s6 936 2) + 1)) (ps_rI (fun v7 s7 =>
                  pl_At n 21 21 [(0, .ref 936), (1, .ref r1), (3, .int (if (x3 + 1) < v7 then v7 else (x3 + 1)))] [] s7 Q))))))))) ∧
      (4 ≤ v1 →
        ((1 : Int32) = 0 →
          pl_Cl n 92 [.ref r1, .int x3] s1 (ps_rI (fun v8 s8 =>
            pl_Cl n 183 [.ref 941, .int (ps_i s1 936 2), .int v8] s8 (ps_rV (fun s9 =>
              ((1 : Int32) = 0 →
                pl_At n 21 21 [(0, .ref 936), (1, .ref r1), (3, .int (x3 + 1))] [] (ps_ui s9 936 2 ((ps_i s9 936 2) + 1)) Q) ∧
              ((1 : Int32) ≠ 0 →
                pl_Cl n 104 [.ref 937, .int x3] (ps_ui s9 936 2 ((ps_i s9 936 2) + 1)) (ps_rI (fun v10 s10 =>
                  pl_At n 21 21 [(0, .ref 936), (1, .ref r1), (3, .int (if (x3 + 1) < v10 then v10 else (x3 + 1)))] [] s10 Q)))))))) ∧
        ((1 : Int32) ≠ 0 →
          pl_Cl n 22 [.ref 936, .ref r1, .int x3] s1 (ps_rI (fun v11 s11 =>
            pl_Cl n 183 [.ref 941, .int (ps_i s1 936 2), .int ((4 : Int32) + v11)] s11 (ps_rV (fun s12 =>
              ((1 : Int32) = 0 →
                pl_At n 21 21 [(0, .ref 936), (1, .ref r1), (3, .int (x3 + 1))] [] (ps_ui s12 936 2 ((ps_i s12 936 2) + 1)) Q) ∧
              ((1 : Int32) ≠ 0 →
                pl_Cl n 104 [.ref 937, .int x3] (ps_ui s12 936 2 ((ps_i s12 936 2) + 1)) (ps_rI (fun v13 s13 =>
                  pl_At n 21 21 [(0, .ref 936), (1, .ref r1), (3, .int (if (x3 + 1) < v13 then v13 else (x3 + 1)))] [] s13 Q)))))))))))))) : pl_At (n + 1) 21 21 [(0, .ref 936), (1, .ref r1), (3, .int x3)] [] s Q :=
  pl_wp_at (stops := [(21, [0, 1, 3])]) (f := 149) h rfl

-- ProofBench$Letters.push(I)V
theorem pl_28_0 {n : Nat} {x1 : Int32} {s : ps_S} {Q : Option Value → ps_S → Prop} (h :
  pl_Cl n 183 [.ref 943, .int (ps_i s 936 6), .int x1] s (ps_rV (fun s1 =>
    Q none (ps_ui s1 936 6 ((ps_i s1 936 6) + 1))))) : pl_At (n + 1) 28 0 [(0, .ref 936), (1, .int x1)] [] s Q :=
  pl_wp_at (stops := []) (f := 15) h rfl

-- ProofBench$Letters.pop()I
theorem pl_29_0 {n : Nat} {s : ps_S} {Q : Option Value → ps_S → Prop} (h :
  pl_Cl n 182 [.ref 943, .int (ps_i (ps_ui s 936 6 ((ps_i s 936 6) - 1)) 936 6)] (ps_ui s 936 6 ((ps_i s 936 6) - 1)) (ps_rI (fun v1 s1 =>
    Q (some (.int v1)) s1))) : pl_At (n + 1) 29 0 [(0, .ref 936)] [] s Q :=
  pl_wp_at (stops := []) (f := 14) h rfl

-- ProofBench$Letters.join(III)I
theorem pl_27_0 {n : Nat} {x0 : Int32} {x1 : Int32} {x2 : Int32} {s : ps_S} {Q : Option Value → ps_S → Prop} (h :
  (x0 = 1 →
    Q (some (.int (x1 &&& x2))) s) ∧
  (x0 ≠ 1 →
    (x0 = 2 →
    Q (some (.int (x1 ||| x2))) s) ∧
  (x0 ≠ 2 →
    Q (some (.int (((1 : Int32) - x1) ||| x2))) s))) : pl_At (n + 1) 27 0 [(0, .int x0), (1, .int x1), (2, .int x2)] [] s Q :=
  pl_wp_at (stops := []) (f := 18) h rfl

-- ProofBench$Letters.rowCount()I
theorem pl_25_0 {n : Nat} {s : ps_S} {Q : Option Value → ps_S → Prop} (h :
  Q (some (.int ((1 : Int32) <<< ((if (12 : Int32) < (ps_i s 936 4) then (12 : Int32) else (ps_i s 936 4)) &&& 31)))) s) : pl_At (n + 1) 25 0 [(0, .ref 936)] [] s Q :=
  pl_wp_at (stops := []) (f := 9) h rfl

-- ProofBench$Letters.isSo(I)Z
theorem pl_26_0 {n : Nat} {x1 : Int32} {s : ps_S} {Q : Option Value → ps_S → Prop} (h :
  pl_At n 26 12 [(0, .ref 936), (1, .int x1), (2, .int ((ps_i (ps_ui s 936 6 0) 936 2) - 1))] [] (ps_ui s 936 6 0) Q) : pl_At (n + 1) 26 0 [(0, .ref 936), (1, .int x1)] [] s Q :=
  pl_wp_at (stops := [(12, [0, 1, 2])]) (f := 10) h rfl

theorem pl_26_12 {n : Nat} {x1 : Int32} {x2 : Int32} {s : ps_S} {Q : Option Value → ps_S → Prop} (h :
  (x2 < 0 →
    pl_Cl n 29 [.ref 936] s (ps_rI (fun v1 s1 =>
      (v1 ≠ 1 →
        Q (some (.int 0)) s1) ∧
      (v1 = 1 →
        Q (some (.int 1)) s1)))) ∧
  (0 ≤ x2 →
    pl_Cl n 182 [.ref 941, .int x2] s (ps_rI (fun v2 s2 =>
      (v2 < 4 →
        (v2 ≠ 0 →
          pl_Cl n 29 [.ref 936] s2 (ps_rI (fun v3 s3 =>
            pl_Cl n 29 [.ref 936] s3 (ps_rI (fun v4 s4 =>
              pl_Cl n 27 [.int v2, .int v3, .int v4] s4 (ps_rI (fun v5 s5 =>
                pl_Cl n 28 [.ref 936, .int v5] s5 (ps_rV (fun s6 =>
                  pl_At n 26 12 [(0, .ref 936), (1, .int x1), (2, .int (x2 + (-1)))] [] s6 Q))))))))) ∧
        (v2 = 0 →
          pl_Cl n 28 [.ref 936, .int 0] s2 (ps_rV (fun s7 =>
            pl_At n 26 12 [(0, .ref 936), (1, .int x1), (2, .int (x2 + (-1)))] [] s7 Q)))) ∧
      (4 ≤ v2 →
        pl_Cl n 28 [.ref 936, .int ((x1 >>> ((((ps_i s2 936 4) - 1) - (v2 - 4)) &&& 31)) &&& 1)] s2 (ps_rV (fun s8 =>
          pl_At n 26 12 [(0, .ref 936), (1, .int x1), (2, .int (x2 + (-1)))] [] s8 Q))))))) : pl_At (n + 1) 26 12 [(0, .ref 936), (1, .int x1), (2, .int x2)] [] s Q :=
  pl_wp_at (stops := [(12, [0, 1, 2])]) (f := 58) h rfl

-- ProofBench$Letters.rowsThatAreSo()I
theorem pl_23_0 {n : Nat} {s : ps_S} {Q : Option Value → ps_S → Prop} (h :
  pl_At n 23 4 [(0, .ref 936), (1, .int 0), (2, .int 0)] [] s Q) : pl_At (n + 1) 23 0 [(0, .ref 936)] [] s Q :=
  pl_wp_at (stops := [(4, [0, 1, 2])]) (f := 6) h rfl

theorem pl_23_4 {n : Nat} {x1 : Int32} {x2 : Int32} {s : ps_S} {Q : Option Value → ps_S → Prop} (h :
  pl_Cl n 25 [.ref 936] s (ps_rI (fun v1 s1 =>
    (v1 ≤ x2 →
      Q (some (.int x1)) s1) ∧
    (x2 < v1 →
      pl_Cl n 26 [.ref 936, .int x2] s1 (ps_rI (fun v2 s2 =>
        (v2 = 0 →
          pl_At n 23 4 [(0, .ref 936), (1, .int x1), (2, .int (x2 + 1))] [] s2 Q) ∧
        (v2 ≠ 0 →
          pl_At n 23 4 [(0, .ref 936), (1, .int (x1 + 1)), (2, .int (x2 + 1))] [] s2 Q))))))) : pl_At (n + 1) 23 4 [(0, .ref 936), (1, .int x1), (2, .int x2)] [] s Q :=
  pl_wp_at (stops := [(4, [0, 1, 2])]) (f := 17) h rfl

-- ProofBench$Letters.firstRowNotSo()I
theorem pl_24_0 {n : Nat} {s : ps_S} {Q : Option Value → ps_S → Prop} (h :
  pl_At n 24 2 [(0, .ref 936), (1, .int 0)] [] s Q) : pl_At (n + 1) 24 0 [(0, .ref 936)] [] s Q :=
  pl_wp_at (stops := [(2, [0, 1])]) (f := 4) h rfl

theorem pl_24_2 {n : Nat} {x1 : Int32} {s : ps_S} {Q : Option Value → ps_S → Prop} (h :
  pl_Cl n 25 [.ref 936] s (ps_rI (fun v1 s1 =>
    (v1 ≤ x1 →
      Q (some (.int (-1))) s1) ∧
    (x1 < v1 →
      pl_Cl n 26 [.ref 936, .int x1] s1 (ps_rI (fun v2 s2 =>
        (v2 ≠ 0 →
          pl_At n 24 2 [(0, .ref 936), (1, .int (x1 + 1))] [] s2 Q) ∧
        (v2 = 0 →
          Q (some (.int x1)) s2))))))) : pl_At (n + 1) 24 2 [(0, .ref 936), (1, .int x1)] [] s Q :=
  pl_wp_at (stops := [(2, [0, 1])]) (f := 16) h rfl

-- ProofBench.letters()I
theorem pl_166_0 {n : Nat} {s : ps_S} {Q : Option Value → ps_S → Prop} (h :
  ((ps_i s 934 1) ≠ 0 →
    pl_Cl n 21 [.ref 936, .ref 934, .ref (ps_r s 0 2)] s (ps_rV (fun s1 =>
      Q (some (.int (ps_i s1 936 4))) s1))) ∧
  ((ps_i s 934 1) = 0 →
    Q (some (.int (-1))) s)) : pl_At (n + 1) 166 0 [(0, .ref 0)] [] s Q :=
  pl_wp_at (stops := []) (f := 19) h rfl

-- ProofBench.table()I
theorem pl_167_0 {n : Nat} {s : ps_S} {Q : Option Value → ps_S → Prop} (h :
  ((ps_i s 934 1) ≠ 0 →
    pl_Cl n 21 [.ref 936, .ref 934, .ref (ps_r s 0 2)] s (ps_rV (fun s1 =>
      ((ps_i s1 936 4) ≤ 12 →
        pl_Cl n 23 [.ref 936] s1 (ps_rI (fun v2 s2 =>
          Q (some (.int v2)) s2))) ∧
      (12 < (ps_i s1 936 4) →
        Q (some (.int (-2))) s1)))) ∧
  ((ps_i s 934 1) = 0 →
    Q (some (.int (-1))) s)) : pl_At (n + 1) 167 0 [(0, .ref 0)] [] s Q :=
  pl_wp_at (stops := []) (f := 27) h rfl

-- ProofBench.row()I
theorem pl_168_0 {n : Nat} {s : ps_S} {Q : Option Value → ps_S → Prop} (h :
  ((ps_i s 934 1) ≠ 0 →
    pl_Cl n 21 [.ref 936, .ref 934, .ref (ps_r s 0 2)] s (ps_rV (fun s1 =>
      ((ps_i s1 936 4) ≤ 12 →
        pl_Cl n 24 [.ref 936] s1 (ps_rI (fun v2 s2 =>
          Q (some (.int v2)) s2))) ∧
      (12 < (ps_i s1 936 4) →
        Q (some (.int (-2))) s1)))) ∧
  ((ps_i s 934 1) = 0 →
    Q (some (.int (-1))) s)) : pl_At (n + 1) 168 0 [(0, .ref 0)] [] s Q :=
  pl_wp_at (stops := []) (f := 27) h rfl

def LCq (q : Nat) : Prop := q = 936 ∨ q = 941 ∨ q = 942 ∨ q = 943
theorem fs_22_2 {l m : List Nat} {L : List (List Nat)} {S : List Nat} {i : Nat} {bb : Bool} {σ : mSig} {ar : Nat → Nat} {x2 : Int32} {s : ps_S} {R : Int32 → ps_S → Prop} (hA : ArW σ ar) (W0 : cv_W s 934 l) (E0 : shE s 937 ar l 0) (hL : lt_c s ar l L S) (hLn : L.length ≤ i) (hx : x2.toInt = i) (hi : i < l.length) (hm : m = (l.drop i).take (en ar (l.drop i) 1)) (hw : ws σ m [bb]) (hml : i + en ar (l.drop i) 1 ≤ l.length) (k : ∀ (v : Int32) s', v.toInt = (lt_ix L m).1 → lt_c s' ar l (lt_ix L m).2 S → cfr (fun q => q = 936 ∨ q = 942) s s' → R v s') : ∀ (n : Nat) {x3 : Int32} {j : Nat}, x3.toInt = j → j ≤ L.length → (∀ j', j' < j → L[j']? ≠ some m) → pl_At n 22 2 [(0, .ref 936), (1, .ref 934), (2, .int x2), (3, .int x3)] [] s (ps_rI R)
  | 0, _, _, _, _, _ => pl_At_0
  | n + 1, x3, j, hj, hjl, hn => by
    have h40 := W0.2.2.1
    have hl4 := hL.2.1
    have em : m.length = en ar (l.drop i) 1 := by rw [hm, List.length_take, List.length_drop]; omega
    refine pl_22_2 ?_
    refine ⟨fun h7 => ?_, fun h7 => ?_⟩
    · have h7 : (ps_i s 936 4).toInt ≤ x3.toInt := xle h7
      refine fs_183 (a := L.length) hl4 (show L.length < 40 from by omega) (by decide) ?_
      have e : j = L.length := by omega
      subst e
      refine k _ _ ?_ ?_ (cfr_i (cfr_a cfr_refl (Or.inr rfl)) (Or.inl rfl))
      · rw [lt_no hn]
        show ((ps_i (ps_ua s 942 L.length x2) 936 4 + 1) - 1).toInt = _
        have e1 : (ps_i (ps_ua s 942 L.length x2) 936 4 + 1).toInt = (L.length + 1 : Nat) := xj1 hl4 (by omega)
        have c1 : (1 : Int32).toInt = 1 := by decide
        rw [xIs (by omega) (by omega), e1, c1]
        omega
      · rw [lt_no hn]
        obtain ⟨⟨a1, a2⟩, a3, a4⟩ := hL
        refine ⟨⟨a1, a2⟩, ?_, fun k2 m2 hk2 => ?_⟩
        · show (ps_i (ps_ua s 942 L.length x2) 936 4 + 1).toInt = ((L ++ [m]).length : Nat)
          rw [List.length_append, List.length_singleton]
          exact xj1 a3 (by omega)
        · show ∃ b, (ps_a (ps_ua s 942 L.length x2) 942 k2).toInt = _ ∧ _
          rcases Nat.lt_or_ge k2 L.length with z | z
          · rw [List.getElem?_append_left z] at hk2
            rw [ps_a_ua, if_neg (by omega)]
            exact a4 k2 m2 hk2
          · have hkl := (List.getElem?_eq_some_iff.mp hk2).1
            rw [List.length_append, List.length_singleton] at hkl
            rw [show k2 = L.length from by omega, List.getElem?_append_right (Nat.le_refl _), Nat.sub_self] at hk2
            cases hk2
            rw [show k2 = L.length from by omega, ps_a_ua, if_pos ⟨rfl, rfl⟩]
            exact ⟨i, hx, hi, hm.symm⟩
    · have h7 : x3.toInt < (ps_i s 936 4).toInt := xlt h7
      refine fs_104 (r := 937) rfl hx (by omega) (fun v17 q17 => ?_)
      obtain ⟨m', hmj⟩ : ∃ m', L[j]? = some m' := ⟨_, List.getElem?_eq_getElem (by omega)⟩
      obtain ⟨b, eb, hb⟩ := hL.2.2 j m' hmj
      have e17 : v17.toInt = (i + en ar (l.drop i) 1 : Nat) := by rw [q17, E0 i (Nat.zero_le _) hi]
      refine fs_182v (a := j) hj (show j < 40 from by omega) (by decide) (fun v26 q26 => ?_)
      refine fs_99 (l := l) (l2 := l) rfl W0 rfl W0 hx e17 hml (by rw [q26]; exact eb) (by have := hb.1; omega) (fun q29 => ?_) (fun q29 => ?_)
      · refine ⟨fun h32 => ?_, fun h32 => ?_⟩
        · exact absurd h32 (by decide)
        · have z := q29
          rw [Nat.add_sub_cancel_left, ← hm, ← em] at z
          have z2 := (lt_same hA hw hb).mp z
          rw [z2] at hmj
          have y := lt_at hmj hn
          exact k _ _ (by rw [y]; exact hj) (by rw [y]; exact hL) cfr_refl
      · refine ⟨fun h32 => ?_, fun h32 => ?_⟩
        · refine fs_22_2 hA W0 E0 hL hLn hx hi hm hw hml k n (xj1 hj (by omega)) (by omega) (fun j' hj' z => ?_)
          rcases Nat.lt_or_ge j' j with y | y
          · exact hn j' y z
          · rw [show j' = j from by omega, hmj] at z
            cases z
            refine q29 ?_
            rw [Nat.add_sub_cancel_left, ← hm, ← em]
            exact (lt_same hA hw hb).mpr rfl
        · exact absurd h32 (by decide)
theorem fs_22 {n : Nat} {l m : List Nat} {L : List (List Nat)} {S : List Nat} {i : Nat} {bb : Bool} {σ : mSig} {ar : Nat → Nat} {x2 : Int32} {s : ps_S} {R : Int32 → ps_S → Prop} (hA : ArW σ ar) (W0 : cv_W s 934 l) (E0 : shE s 937 ar l 0) (hL : lt_c s ar l L S) (hLn : L.length ≤ i) (hx : x2.toInt = i) (hi : i < l.length) (hm : m = (l.drop i).take (en ar (l.drop i) 1)) (hw : ws σ m [bb]) (hml : i + en ar (l.drop i) 1 ≤ l.length) (k : ∀ (v : Int32) s', (v.toInt = (lt_ix L m).1 ∧ lt_c s' ar l (lt_ix L m).2 S ∧ cfr (fun q => q = 936 ∨ q = 942) s s') → R v s') : pl_Cl n 22 [.ref 936, .ref 934, .int x2] s (ps_rI R) := by
  cases n with
  | zero => exact pl_At_0
  | succ n =>
  show pl_At (n + 1) 22 0 [(0, .ref 936), (1, .ref 934), (2, .int x2)] [] s (ps_rI R)
  refine pl_22_0 ?_
  exact fs_22_2 hA W0 E0 hL hLn hx hi hm hw hml (fun v s' a b c => k v s' ⟨a, b, c⟩) n rfl (Nat.zero_le _) (fun j hj => absurd hj (Nat.not_lt_zero _))
/-- the letters laid -/
def LTc (s : ps_S) (L : List (List Nat)) (S : List Nat) : Prop := (ps_i s 936 2).toInt = S.length ∧ ar_L s 941 S ∧ (ps_i s 936 4).toInt = L.length ∧ S.length ≤ 40 ∧ L.length ≤ 40 ∧ cw S 1 ∧ ∀ c, c ∈ S → c < 4 + L.length
theorem fs_21_21 {l : List Nat} {σ : mSig} {ar : Nat → Nat} {R : ps_S → Prop} (hA : ArW σ ar) (k : ∀ s' L S, lt_go ar l L S → LTc s' L S → R s') : ∀ (n : Nat) {s : ps_S} {x3 : Int32} {i : Nat} {L : List (List Nat)} {S : List Nat}, cv_W s 934 l → shE s 937 ar l 0 → lt_c s ar l L S → L.length ≤ i → S.length ≤ i → x3.toInt = i → i ≤ l.length → lt_W σ (l.drop i) S → (∀ c, c ∈ S → c < 4 + L.length) → gt_go (lt_st ar) (l, [], []) (l.drop i, L, S) → pl_At n 21 21 [(0, .ref 936), (1, .ref 934), (3, .int x3)] [] s (ps_rV R)
  | 0, _, _, _, _, _, _, _, _, _, _, _, _, _, _, _ => pl_At_0
  | n + 1, s, x3, i, L, S, W0, E0, hL, hLn, hSn, hx, hi, hW, hS4, hg => by
    have h40 := W0.2.2.1
    have hsz := W0.1
    obtain ⟨⟨a1, a2⟩, a3, a4⟩ := id hL
    refine pl_21_21 ?_
    refine pl_nk_i (fun nk23 => ?_)
    refine ⟨fun h26 => ?_, fun h26 => ?_⟩
    · have h26 : (ps_i s 934 1).toInt ≤ x3.toInt := xle h26
      have e : i = l.length := by omega
      subst e
      rw [List.drop_length] at hW hg
      exact k s L S hg ⟨a1, a2, a3, by omega, by omega, lt_W_end hW, hS4⟩
    · have h26 : x3.toInt < (ps_i s 934 1).toInt := xlt h26
      obtain ⟨c, hc⟩ : ∃ c, l[i]? = some c := ⟨_, List.getElem?_eq_getElem (by omega)⟩
      have hcd := drop_c hc
      refine fs_92c (r := 934) rfl W0 hx hc (fun v31 q31 => ?_)
      refine ⟨fun h35 => ?_, fun h35 => ?_⟩
      · have h35 : v31.toInt < (4 : Int) := xlt h35
        refine ⟨fun h55 => ?_, fun h55 => ?_⟩
        · refine fs_92c (r := 934) rfl W0 hx hc (fun v71 q71 => ?_)
          refine fs_183 (a := S.length) a1 (show S.length < 40 from by omega) (by decide) ?_
          have F : cfr (fun q => q = 936 ∨ q = 941) s (ps_ui (ps_ua s 941 S.length v71) 936 2 ((ps_i (ps_ua s 941 S.length v71) 936 2) + 1)) := cfr_i (cfr_a cfr_refl (Or.inr rfl)) (Or.inl rfl)
          refine ⟨fun h89 => ?_, fun h89 => ?_⟩
          · refine fs_21_21 hA k n (cv_W_cfr W0 F (by decide) (by decide)) (fun j a b => ?_) ⟨⟨?_, ar_snoc a2 q71⟩, a3, a4⟩ (by omega) (by rw [List.length_append, List.length_singleton]; omega) (xj1 hx (by omega)) (by omega) (lt_W_c (by rw [← hcd]; exact hW) (by omega)) (fun y hy => ?_) (gt_trans hg (gt_one ?_))
            · exact E0 j a b
            · rw [List.length_append, List.length_singleton]
              exact xj1 a1 (by omega)
            · rcases List.mem_append.mp hy with hy | hy
              · exact hS4 y hy
              · rw [List.mem_singleton] at hy
                omega
            · rw [hcd]
              show (if c < 4 then _ else _) = _
              rw [if_pos (by omega)]
          · exact absurd h89 (by decide)
        · exact absurd h55 (by decide)
      · have h35 : (4 : Int) ≤ v31.toInt := xle h35
        refine ⟨fun h55 => ?_, fun h55 => ?_⟩
        · exact absurd h55 (by decide)
        · obtain ⟨m, hm⟩ : ∃ m, m = (l.drop i).take (en ar (l.drop i) 1) := ⟨_, rfl⟩
          obtain ⟨-, bb, hwm⟩ := lt_W_p hA (k := 0) hW (by rw [hcd]; exact List.cons_ne_nil _ _)
          have hml0 : en ar (l.drop i) 1 ≤ (l.drop i).length := by
            obtain ⟨W, w1, -⟩ := hW
            cases W with
            | nil => rw [hcd] at w1; exact w1.elim
            | cons b W' => exact en_le hA w1 (by rw [List.length_cons]; omega)
          have em : m.length = en ar (l.drop i) 1 := by rw [hm, List.length_take]; omega
          rw [List.length_drop] at hml0
          refine fs_22 (m := m) hA W0 E0 hL hLn hx (by omega) hm (by rw [hm]; exact hwm) (by omega) (fun v62 s62 q62 => ?_)
          refine fs_183 (a := S.length) a1 (show S.length < 40 from by omega) (by decide) ?_
          have F3 : cfr LCq s (ps_ui (ps_ua s62 941 S.length ((4 : Int32) + v62)) 936 2 ((ps_i (ps_ua s62 941 S.length ((4 : Int32) + v62)) 936 2) + 1)) := cfr_i (cfr_a (cfr_mono q62.2.2 (fun q z => by unfold LCq; omega)) (Or.inr (Or.inl rfl))) (Or.inl rfl)
          have E2 : shE (ps_ui (ps_ua s62 941 S.length ((4 : Int32) + v62)) 936 2 ((ps_i (ps_ua s62 941 S.length ((4 : Int32) + v62)) 936 2) + 1)) 937 ar l 0 := fun j a b => by
            rw [(F3 938 (by unfold LCq; omega)).2.2.2.1]
            exact E0 j a b
          refine ⟨fun h89 => ?_, fun h89 => ?_⟩
          · exact absurd h89 (by decide)
          · refine fs_104 (r := 937) rfl hx (by omega) (fun v100 q100 => ?_)
            have hle : en ar (l.drop i) 1 ≤ (l.drop i).length := by rw [← em]; rw [hm, List.length_take]; omega
            have hpos := en_pos (ar := ar) (t := l.drop i) (p := 1) (by rw [List.length_drop]; omega) (by decide)
            rw [List.length_drop] at hle
            have e100 : v100.toInt = (i + en ar (l.drop i) 1 : Nat) := by rw [q100, E2 i (Nat.zero_le _) (by omega)]
            have ex : (if x3 + 1 < v100 then v100 else x3 + 1).toInt = (i + en ar (l.drop i) 1 : Nat) := by
              have e1 := xj1 hx (show i < 2147483647 by omega)
              by_cases z : x3 + 1 < v100
              · rw [if_pos z]; exact e100
              · have z2 : ¬ (x3 + 1).toInt < v100.toInt := fun y => z (Int32.lt_iff_toInt_lt.mpr y)
                rw [if_neg z]
                omega
            have hix := lt_ix_le (L := L) (m := m)
            have hl2 : (lt_ix L m).2.length ≤ i + en ar (l.drop i) 1 := by have := hix.1; omega
            have hl3 : S.length + 1 ≤ i + en ar (l.drop i) 1 := by omega
            refine fs_21_21 hA k n (i := i + en ar (l.drop i) 1) (L := (lt_ix L m).2) (S := S ++ [4 + (lt_ix L m).1]) (cv_W_cfr W0 F3 (by unfold LCq; omega) (by unfold LCq; omega)) E2 ⟨⟨?_, ?_⟩, ?_, ?_⟩ hl2 (by rw [List.length_append, List.length_singleton]; exact hl3) ex (by omega) ?_ (fun y hy => ?_) (gt_trans hg (gt_one ?_))
            · rw [List.length_append, List.length_singleton]
              exact xj1 q62.2.1.1.1 (by omega)
            · have e4 : ((4 : Int32) + v62).toInt = (4 + (lt_ix L m).1 : Nat) := by
                have c4 : (4 : Int32).toInt = 4 := by decide
                rw [xIa (by have := q62.1; omega) (by have := q62.1; omega), c4, q62.1]
                rfl
              exact ar_snoc q62.2.1.1.2 e4
            · exact q62.2.1.2.1
            · exact q62.2.1.2.2
            · rw [← List.drop_drop]
              exact (lt_W_p hA (k := (lt_ix L m).1) hW (by rw [hcd]; exact List.cons_ne_nil _ _)).1
            · rcases List.mem_append.mp hy with hy | hy
              · have := hS4 y hy
                have h2 : L.length ≤ (lt_ix L m).2.length := by
                  unfold lt_ix
                  cases tx_at L m with
                  | none => rw [List.length_append]; omega
                  | some k => exact Nat.le_refl _
                omega
              · rw [List.mem_singleton] at hy
                omega
            · rw [← List.drop_drop, hm, hcd]
              show (if c < 4 then _ else _) = _
              rw [if_neg (by omega)]
theorem fs_21 {n th : Nat} {l : List Nat} {g : tx_g} {s : ps_S} {b : Bool} {R : ps_S → Prop} (hth : th = 2 ∨ th = 26) (H : cv_E s th g) (W0 : cv_W s 934 l) (hw : ws (sg g) l [b]) (k : ∀ s' L S, lt_go (arh g) l L S → LTc s' L S → R s') : pl_Cl n 21 [.ref 936, .ref 934, .ref th] s (ps_rV R) := by
  cases n with
  | zero => exact pl_At_0
  | succ n =>
  show pl_At (n + 1) 21 0 [(0, .ref 936), (1, .ref 934), (2, .ref th)] [] s (ps_rV R)
  refine pl_21_0 ?_
  have hA := arh_k H.2.2.1 H.2.2.2.1
  refine fs_103 (r := 937) (r1 := 934) (l := l) rfl rfl hth ⟨by omega, by omega⟩ hw (Or.inl rfl) W0 H (fun s2 Z F => ?_)
  have W2 := cv_W_cfr W0 F (by unfold CSh; omega) (by unfold CSh; omega)
  exact fs_21_21 hA k n (i := 0) (L := []) (S := []) W2 Z.1 ⟨⟨rfl, fun k c hk => by cases hk⟩, rfl, fun k m hk => by cases hk⟩ (Nat.zero_le _) (Nat.zero_le _) rfl (Nat.zero_le _) (by rw [List.drop_zero]; exact lt_W_0 hw) (fun c hc => by cases hc) gt_refl
/-! the worth of signs -/
def lt_j (c : Nat) (a b : Int32) : Int32 := if c = 1 then a &&& b else if c = 2 then a ||| b else (1 - a) ||| b
def lt_ev (f : Nat → Int32) : List Nat → List Int32
  | [] => []
  | c :: T => if 4 ≤ c then f (c - 4) :: lt_ev f T else if c = 0 then 0 :: lt_ev f T else match lt_ev f T with
    | a :: b :: r => lt_j c a b :: r
    | x => x
/-- a letter's bit in a line -/
def lt_f (x : Int32) (n k : Nat) : Int32 := (x >>> (((nI n - 1) - nI k) &&& 31)) &&& 1
theorem lt_ev_len {f : Nat → Int32} : ∀ {T : List Nat} {n : Nat}, cw T n → (lt_ev f T).length = n
  | [], n, h => by
    have h : n = 0 := h
    rw [h]; rfl
  | c :: T, n, h => by
    obtain ⟨n', rfl, h⟩ := h
    have ih := lt_ev_len (f := f) h
    unfold lt_ev
    by_cases h4 : 4 ≤ c
    · rw [if_pos h4]
      rw [if_neg (by omega), Nat.zero_add] at ih
      rw [List.length_cons, ih]
    · rw [if_neg h4]
      by_cases h0 : c = 0
      · rw [if_pos h0]
        rw [if_neg (by omega), Nat.zero_add] at ih
        rw [List.length_cons, ih]
      · rw [if_neg h0]
        rw [if_pos (by omega)] at ih
        split
        · next a b r e =>
          rw [e, List.length_cons, List.length_cons] at ih
          rw [List.length_cons]
          omega
        · next hne =>
          exfalso
          match hq : lt_ev f T, ih with
          | [], ih => rw [List.length_nil] at ih; omega
          | [a], ih => rw [List.length_singleton] at ih; omega
          | a :: b :: r, ih => exact hne a b r hq
/-- a row of ints as a stack, its top the first -/
def stk (g : Nat → Int32) : List Int32 → Prop
  | [] => True
  | v :: r => g r.length = v ∧ stk g r
theorem stk_ext {g g' : Nat → Int32} : ∀ {l : List Int32}, stk g l → (∀ i, i < l.length → g' i = g i) → stk g' l
  | [], _, _ => trivial
  | v :: r, h, k => ⟨by rw [k r.length (by rw [List.length_cons]; omega)]; exact h.1, stk_ext h.2 (fun i hi => k i (by rw [List.length_cons]; omega))⟩
theorem stk_push {s : ps_S} {r : Nat} {l : List Int32} {v : Int32} (h : stk (ps_a s r) l) : stk (ps_a (ps_ua s r l.length v) r) (v :: l) := by
  refine ⟨by rw [ps_a_ua, if_pos ⟨rfl, rfl⟩], stk_ext h (fun i hi => ?_)⟩
  rw [ps_a_ua, if_neg (by omega)]
/-- the class's stack -/
def LTs (s : ps_S) (l : List Int32) : Prop := (ps_i s 936 6).toInt = l.length ∧ stk (ps_a s 943) l
theorem fs_28 {n : Nat} {x1 : Int32} {l : List Int32} {s : ps_S} {R : ps_S → Prop} (h : LTs s l) (hl : l.length < 40) (k : ∀ s', LTs s' (x1 :: l) ∧ jq 936 [943] [6] s s' → R s') : pl_Cl n 28 [.ref 936, .int x1] s (ps_rV R) := by
  cases n with
  | zero => exact pl_At_0
  | succ n =>
  show pl_At (n + 1) 28 0 [(0, .ref 936), (1, .int x1)] [] s (ps_rV R)
  refine pl_28_0 ?_
  refine fs_183 (a := l.length) h.1 (show l.length < 40 from hl) (by decide) ?_
  exact k _ ⟨⟨xj1 h.1 (by omega), stk_push h.2⟩, jqi (jqa jq_refl rfl) rfl⟩
theorem fs_29 {n : Nat} {v : Int32} {l : List Int32} {s : ps_S} {R : Int32 → ps_S → Prop} (h : LTs s (v :: l)) (hl : l.length < 40) (k : ∀ (w : Int32) s', w = v ∧ LTs s' l ∧ jq 936 [943] [6] s s' → R w s') : pl_Cl n 29 [.ref 936] s (ps_rI R) := by
  cases n with
  | zero => exact pl_At_0
  | succ n =>
  show pl_At (n + 1) 29 0 [(0, .ref 936)] [] s (ps_rI R)
  refine pl_29_0 ?_
  have c1 : (1 : Int32).toInt = 1 := by decide
  have e : (ps_i s 936 6 - 1).toInt = l.length := by
    have := h.1
    rw [List.length_cons] at this
    rw [xIs (by omega) (by omega), this, c1]
    omega
  refine fs_182 (a := l.length) e (show l.length < 40 from hl) (by decide) ?_
  exact k _ _ ⟨h.2.1, ⟨e, h.2.2⟩, jqi jq_refl rfl⟩
theorem fs_27 {n c : Nat} {x0 x1 x2 : Int32} {s : ps_S} {R : Int32 → ps_S → Prop} (hx : x0.toInt = c) (k : R (lt_j c x1 x2) s) : pl_Cl n 27 [.int x0, .int x1, .int x2] s (ps_rI R) := by
  cases n with
  | zero => exact pl_At_0
  | succ n =>
  show pl_At (n + 1) 27 0 [(0, .int x0), (1, .int x1), (2, .int x2)] [] s (ps_rI R)
  have c1 : (1 : Int32).toInt = 1 := by decide
  have c2 : (2 : Int32).toInt = 2 := by decide
  unfold lt_j at k
  refine pl_27_0 ⟨fun h => ?_, fun h => ⟨fun h2 => ?_, fun h2 => ?_⟩⟩
  · have h := xeq h
    rw [if_pos (by omega)] at k
    exact k
  · have h := xne h
    have h2 := xeq h2
    rw [if_neg (by omega), if_pos (by omega)] at k
    exact k
  · have h := xne h
    have h2 := xne h2
    rw [if_neg (by omega), if_neg (by omega)] at k
    exact k
theorem LTc_jq {s s' : ps_S} {L : List (List Nat)} {S : List Nat} (h : LTc s L S) (K : jq 936 [943] [6] s s') : LTc s' L S := by
  unfold LTc ar_L at *
  rw [jq_i K 2 rfl, jq_i K 4 rfl, jq_a K 941 (by decide)]
  exact h
theorem lt_evc {f : Nat → Int32} {c : Nat} {T : List Nat} (h1 : ¬ 4 ≤ c) (h0 : c ≠ 0) {a b : Int32} {r : List Int32} (e : lt_ev f T = a :: b :: r) : lt_ev f (c :: T) = lt_j c a b :: r := by
  show (if 4 ≤ c then _ else if c = 0 then _ else match lt_ev f T with
    | a :: b :: r => lt_j c a b :: r
    | x => x) = _
  rw [if_neg h1, if_neg h0, e]
theorem cw_drop : ∀ {S : List Nat} {n : Nat} (i : Nat), cw S n → ∃ n', cw (S.drop i) n'
  | S, n, 0, h => ⟨n, by rw [List.drop_zero]; exact h⟩
  | [], n, i + 1, h => ⟨n, h⟩
  | c :: S, n, i + 1, h => by
    obtain ⟨n', -, h⟩ := h
    rw [List.drop_succ_cons]
    exact cw_drop i h
theorem cw_le : ∀ {S : List Nat} {n : Nat}, cw S n → n ≤ S.length
  | [], n, h => by
    have h : n = 0 := h
    omega
  | c :: S, n, h => by
    obtain ⟨n', rfl, h⟩ := h
    have := cw_le h
    rw [List.length_cons]
    omega
/-- whether a line is so -/
def lt_so (L : List (List Nat)) (S : List Nat) (x : Int32) : Prop := (lt_ev (lt_f x L.length) S).head? = some 1
theorem fs_26_12 {L : List (List Nat)} {S : List Nat} {x1 : Int32} {R : Int32 → ps_S → Prop} (k1 : ∀ s', lt_so L S x1 → LTc s' L S → R 1 s') (k0 : ∀ s', ¬ lt_so L S x1 → LTc s' L S → R 0 s') : ∀ (n : Nat) {s : ps_S} {x2 : Int32} {i : Nat}, LTc s L S → i ≤ S.length → x2.toInt = (i : Int) - 1 → LTs s (lt_ev (lt_f x1 L.length) (S.drop i)) → pl_At n 26 12 [(0, .ref 936), (1, .int x1), (2, .int x2)] [] s (ps_rI R)
  | 0, _, _, _, _, _, _, _ => pl_At_0
  | n + 1, s, x2, i, hL, hi, hx, hs => by
    obtain ⟨l1, l2, l3, l4, l5, l6, l7⟩ := id hL
    refine pl_26_12 ?_
    refine ⟨fun h13 => ?_, fun h13 => ?_⟩
    · have h13 : x2.toInt < (0 : Int) := xlt h13
      have e0 : i = 0 := by omega
      subst e0
      rw [List.drop_zero] at hs
      obtain ⟨a, e0⟩ : ∃ a, lt_ev (lt_f x1 L.length) S = [a] := by
        have := lt_ev_len (f := lt_f x1 L.length) l6
        match hq : lt_ev (lt_f x1 L.length) S, this with
        | [a], _ => exact ⟨a, rfl⟩
        | [], h => rw [List.length_nil] at h; omega
        | a :: b :: r, h => rw [List.length_cons, List.length_cons] at h; omega
      rw [e0] at hs
      have c1' : (1 : Int32).toInt = 1 := by decide
      refine fs_29 hs (by decide) (fun v90 s90 q90 => ?_)
      refine ⟨fun h94 => ?_, fun h94 => ?_⟩
      · have h94 : v90.toInt ≠ (1 : Int) := xne h94
        refine k0 _ (fun z => ?_) (LTc_jq hL q90.2.2)
        unfold lt_so at z
        rw [e0] at z
        rw [q90.1] at h94
        exact h94 (congrArg Int32.toInt (Option.some.inj z))
      · have h94 : v90.toInt = (1 : Int) := xeq h94
        refine k1 _ ?_ (LTc_jq hL q90.2.2)
        unfold lt_so
        rw [e0]
        show some a = some 1
        rw [← q90.1, Int32.toInt_inj.mp (show v90.toInt = (1 : Int32).toInt from h94)]
    · have h13 : (0 : Int) ≤ x2.toInt := xle h13
      have hx2 : x2.toInt = (i - 1 : Nat) := by omega
      obtain ⟨c, hc⟩ : ∃ c, S[i - 1]? = some c := ⟨_, List.getElem?_eq_getElem (by omega)⟩
      obtain ⟨nn, hcw⟩ := cw_drop (i - 1) l6
      rw [drop_c hc] at hcw
      obtain ⟨n', rfl, hcw⟩ := hcw
      have hev := lt_ev_len (f := lt_f x1 L.length) hcw
      have hcl := cw_le hcw
      rw [List.length_drop] at hcl
      have hi1 : i - 1 + 1 = i := by omega
      rw [← hi1] at hs
      refine fs_182v (a := i - 1) hx2 (show i - 1 < 40 from by omega) (by decide) (fun v21 q21 => ?_)
      have q21' : v21.toInt = c := by rw [q21]; exact l2 _ _ hc
      have hr21 := xR v21
      refine ⟨fun h27 => ?_, fun h27 => ?_⟩
      · have h27 : v21.toInt < (4 : Int) := xlt h27
        refine ⟨fun h52 => ?_, fun h52 => ?_⟩
        · have h52 : v21.toInt ≠ (0 : Int) := xne h52
          rw [if_pos (by omega)] at hev hcl
          obtain ⟨a, b, r, er⟩ : ∃ a b r, lt_ev (lt_f x1 L.length) (S.drop (i - 1 + 1)) = a :: b :: r := by
            match hq : lt_ev (lt_f x1 L.length) (S.drop (i - 1 + 1)), hev with
            | [], h => rw [List.length_nil] at h; omega
            | [a], h => rw [List.length_singleton] at h; omega
            | a :: b :: r, h => exact ⟨a, b, r, rfl⟩
          rw [er] at hs hev
          rw [List.length_cons, List.length_cons] at hev
          refine fs_29 hs (by rw [List.length_cons]; omega) (fun v64 s64 q64 => ?_)
          refine fs_29 q64.2.1 (by omega) (fun v74 s74 q74 => ?_)
          refine fs_27 (c := c) q21' ?_
          refine fs_28 q74.2.1 (by omega) (fun s80 q80 => ?_)
          refine fs_26_12 k1 k0 n (LTc_jq (LTc_jq (LTc_jq hL q64.2.2) q74.2.2) q80.2) (i := i - 1) (by omega) (xmin1 hx2) ?_
          rw [drop_c hc, lt_evc (by omega) (by omega) er, ← q64.1, ← q74.1]
          exact q80.1
        · have h52 : v21.toInt = (0 : Int) := xeq h52
          refine fs_28 hs (by omega) (fun s57 q57 => ?_)
          refine fs_26_12 k1 k0 n (LTc_jq hL q57.2) (i := i - 1) (by omega) (xmin1 hx2) ?_
          have e : lt_ev (lt_f x1 L.length) (c :: S.drop (i - 1 + 1)) = 0 :: lt_ev (lt_f x1 L.length) (S.drop (i - 1 + 1)) := by
            show (if 4 ≤ c then _ else if c = 0 then _ else _) = _
            rw [if_neg (by omega), if_pos (by omega)]
          rw [drop_c hc, e]
          exact q57.1
      · have h27 : (4 : Int) ≤ v21.toInt := xle h27
        refine fs_28 hs (by omega) (fun s45 q45 => ?_)
        refine fs_26_12 k1 k0 n (LTc_jq hL q45.2) (i := i - 1) (by omega) (xmin1 hx2) ?_
        have e : lt_ev (lt_f x1 L.length) (c :: S.drop (i - 1 + 1)) = lt_f x1 L.length (c - 4) :: lt_ev (lt_f x1 L.length) (S.drop (i - 1 + 1)) := by
          show (if 4 ≤ c then _ else _) = _
          rw [if_pos (by omega)]
        have c4 : (4 : Int32).toInt = 4 := by decide
        have ef : (x1 >>> ((((ps_i s 936 4) - 1) - (v21 - 4)) &&& 31)) &&& 1 = lt_f x1 L.length (c - 4) := by
          unfold lt_f
          rw [xnI l3, xnI (x := v21 - 4) (n := c - 4) (by rw [xIs (by omega) (by omega), q21', c4]; omega)]
        rw [drop_c hc, e, ← ef]
        exact q45.1
theorem fs_26 {n : Nat} {L : List (List Nat)} {S : List Nat} {x1 : Int32} {s : ps_S} {R : Int32 → ps_S → Prop} (hL : LTc s L S) (k1 : ∀ s', lt_so L S x1 ∧ LTc s' L S → R 1 s') (k0 : ∀ s', ¬ lt_so L S x1 ∧ LTc s' L S → R 0 s') : pl_Cl n 26 [.ref 936, .int x1] s (ps_rI R) := by
  cases n with
  | zero => exact pl_At_0
  | succ n =>
  show pl_At (n + 1) 26 0 [(0, .ref 936), (1, .int x1)] [] s (ps_rI R)
  refine pl_26_0 ?_
  have K : jq 936 [943] [6] s (ps_ui s 936 6 0) := jqi jq_refl rfl
  have c1 : (1 : Int32).toInt = 1 := by decide
  have e : ((ps_i (ps_ui s 936 6 0) 936 2) - 1).toInt = (S.length : Int) - 1 := by
    show ((ps_i s 936 2) - 1).toInt = _
    have := hL.1
    have h40 := hL.2.2.2.1
    rw [xIs (by omega) (by omega), this, c1]
  refine fs_26_12 (fun s' a b => k1 s' ⟨a, b⟩) (fun s' a b => k0 s' ⟨a, b⟩) n (LTc_jq hL K) (Nat.le_refl _) e ?_
  rw [List.drop_length]
  exact ⟨rfl, trivial⟩
/-- how many lines -/
def lt_N (L : List (List Nat)) : Int32 := (1 : Int32) <<< ((nI L.length) &&& 31)
theorem fs_25 {n : Nat} {L : List (List Nat)} {S : List Nat} {s : ps_S} {R : Int32 → ps_S → Prop} (hL : LTc s L S) (h12 : L.length ≤ 12) (k : R (lt_N L) s) : pl_Cl n 25 [.ref 936] s (ps_rI R) := by
  cases n with
  | zero => exact pl_At_0
  | succ n =>
  show pl_At (n + 1) 25 0 [(0, .ref 936)] [] s (ps_rI R)
  refine pl_25_0 ?_
  have c12 : (12 : Int32).toInt = 12 := by decide
  have h4 := hL.2.2.1
  have e : (if (12 : Int32) < (ps_i s 936 4) then (12 : Int32) else (ps_i s 936 4)) = nI L.length := by
    rw [if_neg (fun z => by have := xlt z; omega)]
    exact xnI h4
  rw [e]
  exact k
/-- how many of the first lines are so -/
noncomputable def lt_n (P : Nat → Prop) : Nat → Nat
  | 0 => 0
  | k + 1 => lt_n P k + (@ite Nat (P k) (Classical.propDecidable _) 1 0)
theorem lt_n_1 {P : Nat → Prop} {k : Nat} (h : P k) : lt_n P (k + 1) = lt_n P k + 1 := by
  unfold lt_n
  rw [if_pos h]
  cases k <;> rfl
theorem lt_n_0 {P : Nat → Prop} {k : Nat} (h : ¬ P k) : lt_n P (k + 1) = lt_n P k := by
  show lt_n P k + (@ite Nat (P k) (Classical.propDecidable _) 1 0) = _
  rw [if_neg h]
  rfl
theorem lt_n_le {P : Nat → Prop} : ∀ {k : Nat}, lt_n P k ≤ k
  | 0 => Nat.le_refl _
  | k + 1 => by
    have ih := lt_n_le (P := P) (k := k)
    by_cases h : P k
    · rw [lt_n_1 h]; omega
    · rw [lt_n_0 h]; omega
theorem fs_23_4 {L : List (List Nat)} {S : List Nat} {R : Int32 → ps_S → Prop} (h12 : L.length ≤ 12) (k : ∀ (v : Int32) s', v.toInt = lt_n (fun i => lt_so L S (nI i)) (lt_N L).toInt.toNat → R v s') : ∀ (n : Nat) {s : ps_S} {x1 x2 : Int32} {i : Nat}, LTc s L S → x2.toInt = i → (i : Int) ≤ max 0 (lt_N L).toInt → x1.toInt = lt_n (fun i => lt_so L S (nI i)) i → pl_At n 23 4 [(0, .ref 936), (1, .int x1), (2, .int x2)] [] s (ps_rI R)
  | 0, _, _, _, _, _, _, _, _ => pl_At_0
  | n + 1, s, x1, x2, i, hL, hx, hi, h1 => by
    have hr := xR (lt_N L)
    have hle := lt_n_le (P := fun i => lt_so L S (nI i)) (k := i)
    refine pl_23_4 ?_
    refine fs_25 hL h12 ?_
    refine ⟨fun h9 => ?_, fun h9 => ?_⟩
    · have h9 : (lt_N L).toInt ≤ x2.toInt := xle h9
      have e : i = (lt_N L).toInt.toNat := by omega
      exact k _ _ (by rw [h1, e])
    · have h9 : x2.toInt < (lt_N L).toInt := xlt h9
      refine fs_26 hL (fun s14 q14 => ?_) (fun s14 q14 => ?_)
      · refine ⟨fun h17 => ?_, fun h17 => ?_⟩
        · exact absurd h17 (by decide)
        · refine fs_23_4 h12 k n q14.2 (xj1 hx (by omega)) (by omega) ?_
          rw [lt_n_1 (by rw [← xnI hx]; exact q14.1)]
          exact xj1 h1 (by omega)
      · refine ⟨fun h17 => ?_, fun h17 => ?_⟩
        · refine fs_23_4 h12 k n q14.2 (xj1 hx (by omega)) (by omega) ?_
          rw [lt_n_0 (fun z => by rw [← xnI hx] at z; exact q14.1 z)]
          exact h1
        · exact absurd h17 (by decide)
theorem fs_24_2 {L : List (List Nat)} {S : List Nat} {R : Int32 → ps_S → Prop} (h12 : L.length ≤ 12) (k : ∀ (v : Int32) s', ((∃ i : Nat, v.toInt = i ∧ (i : Int) < (lt_N L).toInt ∧ ¬ lt_so L S (nI i) ∧ ∀ j, j < i → lt_so L S (nI j)) ∨ (v.toInt = -1 ∧ ∀ j : Nat, (j : Int) < (lt_N L).toInt → lt_so L S (nI j))) → R v s') : ∀ (n : Nat) {s : ps_S} {x1 : Int32} {i : Nat}, LTc s L S → x1.toInt = i → (∀ j, j < i → lt_so L S (nI j)) → pl_At n 24 2 [(0, .ref 936), (1, .int x1)] [] s (ps_rI R)
  | 0, _, _, _, _, _, _ => pl_At_0
  | n + 1, s, x1, i, hL, hx, hj => by
    have hr := xR (lt_N L)
    refine pl_24_2 ?_
    refine fs_25 hL h12 ?_
    refine ⟨fun h7 => ?_, fun h7 => ?_⟩
    · have h7 : (lt_N L).toInt ≤ x1.toInt := xle h7
      exact k _ _ (Or.inr ⟨by decide, fun j h => hj j (by omega)⟩)
    · have h7 : x1.toInt < (lt_N L).toInt := xlt h7
      refine fs_26 hL (fun s12 q12 => ?_) (fun s12 q12 => ?_)
      · refine ⟨fun h15 => ?_, fun h15 => ?_⟩
        · refine fs_24_2 h12 k n q12.2 (xj1 hx (by omega)) (fun j h => ?_)
          rcases Nat.lt_or_ge j i with z | z
          · exact hj j z
          · rw [show j = i from by omega, ← xnI hx]
            exact q12.1
        · exact absurd h15 (by decide)
      · refine ⟨fun h15 => ?_, fun h15 => ?_⟩
        · exact absurd h15 (by decide)
        · exact k _ _ (Or.inl ⟨i, hx, by omega, by rw [← xnI hx]; exact q12.1, hj⟩)
/-! the answers -/
def lt_A (k : Nat) (g : tx_g) (l : List Nat) (v : Int32) : Prop := (l = [] ∧ v.toInt = -1) ∨ (l ≠ [] ∧ ∃ L S, lt_go (arh g) l L S ∧ ((k = 0 ∧ v.toInt = L.length) ∨ (k ≠ 0 ∧ 12 < L.length ∧ v.toInt = -2) ∨ (k = 1 ∧ L.length ≤ 12 ∧ v.toInt = lt_n (fun i => lt_so L S (nI i)) (lt_N L).toInt.toNat) ∨ (k = 2 ∧ L.length ≤ 12 ∧ ((∃ i : Nat, v.toInt = i ∧ (i : Int) < (lt_N L).toInt ∧ ¬ lt_so L S (nI i) ∧ ∀ j, j < i → lt_so L S (nI j)) ∨ (v.toInt = -1 ∧ ∀ j : Nat, (j : Int) < (lt_N L).toInt → lt_so L S (nI j))))))
theorem lt_A_eq {k : Nat} {g : tx_g} {l : List Nat} {v v' : Int32} (h : lt_A k g l v) (h' : lt_A k g l v') : v = v' := by
  apply Int32.toInt_inj.mp
  rcases h with ⟨h0, h⟩ | ⟨h0, L, S, hg, h⟩ <;> rcases h' with ⟨h0', h'⟩ | ⟨h0', L', S', hg', h'⟩
  · omega
  · exact absurd h0 h0'
  · exact absurd h0' h0
  · obtain ⟨rfl, rfl⟩ := lt_det hg hg'
    rcases h with ⟨a, b⟩ | ⟨a, b, c⟩ | ⟨a, b, c⟩ | ⟨a, b, c⟩ <;> rcases h' with ⟨a', b'⟩ | ⟨a', b', c'⟩ | ⟨a', b', c'⟩ | ⟨a', b', c'⟩ <;> try omega
    rcases c with ⟨i, e1, e2, e3, e4⟩ | ⟨e1, e2⟩ <;> rcases c' with ⟨j, f1, f2, f3, f4⟩ | ⟨f1, f2⟩
    · rcases Nat.lt_trichotomy i j with z | z | z
      · exact absurd (f4 i z) e3
      · omega
      · exact absurd (e4 j z) f3
    · exact absurd (f2 i e2) e3
    · exact absurd (e2 j f2) f3
    · omega

theorem fs_23 {n : Nat} {L : List (List Nat)} {S : List Nat} {s : ps_S} (hL : LTc s L S) (h12 : L.length ≤ 12) : pl_Cl n 23 [.ref 936] s (ps_rI (fun v _ => v.toInt = lt_n (fun i => lt_so L S (nI i)) (lt_N L).toInt.toNat)) := by
  cases n with
  | zero => exact pl_At_0
  | succ n =>
  show pl_At (n + 1) 23 0 [(0, .ref 936)] [] s _
  refine pl_23_0 ?_
  exact fs_23_4 h12 (fun v s' e => e) n (i := 0) hL rfl (by omega) rfl
theorem fs_24 {n : Nat} {L : List (List Nat)} {S : List Nat} {s : ps_S} (hL : LTc s L S) (h12 : L.length ≤ 12) : pl_Cl n 24 [.ref 936] s (ps_rI (fun v _ => (∃ i : Nat, v.toInt = i ∧ (i : Int) < (lt_N L).toInt ∧ ¬ lt_so L S (nI i) ∧ ∀ j, j < i → lt_so L S (nI j)) ∨ (v.toInt = -1 ∧ ∀ j : Nat, (j : Int) < (lt_N L).toInt → lt_so L S (nI j)))) := by
  cases n with
  | zero => exact pl_At_0
  | succ n =>
  show pl_At (n + 1) 24 0 [(0, .ref 936)] [] s _
  refine pl_24_0 ?_
  exact fs_24_2 h12 (fun v s' e => e) n (i := 0) hL rfl (fun j hj => absurd hj (Nat.not_lt_zero _))

theorem fs_166 {n : Nat} {s : ps_S} {h : tx_H} {l : List Nat} (c : TRc s h l) (hw : WFf h.1 l) : pl_Cl n 166 [.ref 0] s (ps_rI (fun v _ => lt_A 0 h.1 l v)) := by
  cases n with
  | zero => exact pl_At_0
  | succ n =>
  show pl_At (n + 1) 166 0 [(0, .ref 0)] [] s _
  refine pl_166_0 ?_
  have hsz := c.2.2.1
  have hth : ps_r s 0 2 = 2 ∨ ps_r s 0 2 = 26 := by have := c.2.1; omega
  refine ⟨fun z => ?_, fun z => ?_⟩
  · have z := xne z
    have z : (ps_i s 934 1).toInt ≠ 0 := z
    have hl : l ≠ [] := fun y => by rw [y] at hsz; exact z hsz
    rcases hw with hw | hw
    · exact absurd hw hl
    refine fs_21 hth c.1.1 c.2.2 (wf_ws hw) (fun s2 L S hg hL => ?_)
    have h4 := hL.2.2.1
    exact Or.inr ⟨hl, L, S, hg, Or.inl ⟨rfl, h4⟩⟩
  · have z := xeq z
    have z : (ps_i s 934 1).toInt = 0 := z
    exact Or.inl ⟨List.eq_nil_of_length_eq_zero (by omega), by decide⟩

theorem fs_167 {n : Nat} {s : ps_S} {h : tx_H} {l : List Nat} (c : TRc s h l) (hw : WFf h.1 l) : pl_Cl n 167 [.ref 0] s (ps_rI (fun v _ => lt_A 1 h.1 l v)) := by
  cases n with
  | zero => exact pl_At_0
  | succ n =>
  show pl_At (n + 1) 167 0 [(0, .ref 0)] [] s _
  refine pl_167_0 ?_
  have hsz := c.2.2.1
  have hth : ps_r s 0 2 = 2 ∨ ps_r s 0 2 = 26 := by have := c.2.1; omega
  refine ⟨fun z => ?_, fun z => ?_⟩
  · have z := xne z
    have z : (ps_i s 934 1).toInt ≠ 0 := z
    have hl : l ≠ [] := fun y => by rw [y] at hsz; exact z hsz
    rcases hw with hw | hw
    · exact absurd hw hl
    refine fs_21 hth c.1.1 c.2.2 (wf_ws hw) (fun s2 L S hg hL => ?_)
    have h4 := hL.2.2.1
    have c12 : (12 : Int32).toInt = 12 := by decide
    refine ⟨fun z2 => ?_, fun z2 => ?_⟩
    · have z2 := xle z2
      refine pl_At.mono (fs_23 (n := n) hL (by omega)) (fun o s3 z3 => rI_mono z3 (fun v e => Or.inr ⟨hl, L, S, hg, Or.inr (Or.inr (Or.inl ⟨rfl, by omega, e⟩))⟩))
    · have z2 := xlt z2
      exact Or.inr ⟨hl, L, S, hg, Or.inr (Or.inl ⟨by decide, by omega, by decide⟩)⟩
  · have z := xeq z
    have z : (ps_i s 934 1).toInt = 0 := z
    exact Or.inl ⟨List.eq_nil_of_length_eq_zero (by omega), by decide⟩

theorem fs_168 {n : Nat} {s : ps_S} {h : tx_H} {l : List Nat} (c : TRc s h l) (hw : WFf h.1 l) : pl_Cl n 168 [.ref 0] s (ps_rI (fun v _ => lt_A 2 h.1 l v)) := by
  cases n with
  | zero => exact pl_At_0
  | succ n =>
  show pl_At (n + 1) 168 0 [(0, .ref 0)] [] s _
  refine pl_168_0 ?_
  have hsz := c.2.2.1
  have hth : ps_r s 0 2 = 2 ∨ ps_r s 0 2 = 26 := by have := c.2.1; omega
  refine ⟨fun z => ?_, fun z => ?_⟩
  · have z := xne z
    have z : (ps_i s 934 1).toInt ≠ 0 := z
    have hl : l ≠ [] := fun y => by rw [y] at hsz; exact z hsz
    rcases hw with hw | hw
    · exact absurd hw hl
    refine fs_21 hth c.1.1 c.2.2 (wf_ws hw) (fun s2 L S hg hL => ?_)
    have h4 := hL.2.2.1
    have c12 : (12 : Int32).toInt = 12 := by decide
    refine ⟨fun z2 => ?_, fun z2 => ?_⟩
    · have z2 := xle z2
      refine pl_At.mono (fs_24 (n := n) hL (by omega)) (fun o s3 z3 => rI_mono z3 (fun v e => Or.inr ⟨hl, L, S, hg, Or.inr (Or.inr (Or.inr ⟨rfl, by omega, e⟩))⟩))
    · have z2 := xlt z2
      exact Or.inr ⟨hl, L, S, hg, Or.inr (Or.inl ⟨by decide, by omega, by decide⟩)⟩
  · have z := xeq z
    have z : (ps_i s 934 1).toInt = 0 := z
    exact Or.inl ⟨List.eq_nil_of_length_eq_zero (by omega), by decide⟩
end
section
set_option maxRecDepth 100000
/-! letters(), table(), row(): the reference -/
-- ProofBenchModel.letterOf(II)I
theorem pl_278_0 {n : Nat} {x1 : Int32} {x2 : Int32} {s : ps_S} {Q : Option Value → ps_S → Prop} (h :
  pl_At n 278 2 [(0, .ref 1131), (1, .int x1), (2, .int x2), (3, .int 0)] [] s Q) : pl_At (n + 1) 278 0 [(0, .ref 1131), (1, .int x1), (2, .int x2)] [] s Q :=
  pl_wp_at (stops := [(2, [0, 1, 2, 3])]) (f := 4) h rfl

theorem pl_278_2 {n : Nat} {x1 : Int32} {x2 : Int32} {x3 : Int32} {s : ps_S} {Q : Option Value → ps_S → Prop} (h :
  ((ps_i s 1131 60) ≤ x3 →
    (pm_in (ps_i s 1131 60) 41 = true →
      (pm_in (ps_i (ps_ua s 1164 (Int32.toNatClampNeg (ps_i s 1131 60)) x1) 1131 60) 41 = true →
        Q (some (.int ((ps_i (ps_ui (ps_ua (ps_ua s 1164 (Int32.toNatClampNeg (ps_i s 1131 60)) x1) 1165 (Int32.toNatClampNeg (ps_i (ps_ua s 1164 (Int32.toNatClampNeg (ps_i s 1131 60)) x1) 1131 60)) x2) 1131 60 ((ps_i (ps_ua (ps_ua s 1164 (Int32.toNatClampNeg (ps_i s 1131 60)) x1) 1165 (Int32.toNatClampNeg (ps_i (ps_ua s 1164 (Int32.toNatClampNeg (ps_i s 1131 60)) x1) 1131 60)) x2) 1131 60) + 1)) 1131 60) - 1))) (ps_ui (ps_ua (ps_ua s 1164 (Int32.toNatClampNeg (ps_i s 1131 60)) x1) 1165 (Int32.toNatClampNeg (ps_i (ps_ua s 1164 (Int32.toNatClampNeg (ps_i s 1131 60)) x1) 1131 60)) x2) 1131 60 ((ps_i (ps_ua (ps_ua s 1164 (Int32.toNatClampNeg (ps_i s 1131 60)) x1) 1165 (Int32.toNatClampNeg (ps_i (ps_ua s 1164 (Int32.toNatClampNeg (ps_i s 1131 60)) x1) 1131 60)) x2) 1131 60) + 1))))) ∧
  (x3 < (ps_i s 1131 60) →
    (pm_in x3 41 = true →
      (pm_in x3 41 = true →
        (((ps_a s 1165 (Int32.toNatClampNeg x3)) - (ps_a s 1164 (Int32.toNatClampNeg x3))) ≠ (x2 - x1) →
          pl_At n 278 2 [(0, .ref 1131), (1, .int x1), (2, .int x2), (3, .int (x3 + 1))] [] s Q) ∧
        (((ps_a s 1165 (Int32.toNatClampNeg x3)) - (ps_a s 1164 (Int32.toNatClampNeg x3))) = (x2 - x1) →
          (pm_in x3 41 = true →
            pl_Cl n 259 [.ref 1131, .int 25748, .int x1, .int (x2 - x1), .int 25748, .int (ps_a s 1164 (Int32.toNatClampNeg x3))] s (ps_rI (fun v1 s1 =>
              (v1 = 0 →
                pl_At n 278 2 [(0, .ref 1131), (1, .int x1), (2, .int x2), (3, .int (x3 + 1))] [] s1 Q) ∧
              (v1 ≠ 0 →
                Q (some (.int x3)) s1))))))))) : pl_At (n + 1) 278 2 [(0, .ref 1131), (1, .int x1), (2, .int x2), (3, .int x3)] [] s Q :=
  pl_wp_at (stops := [(2, [0, 1, 2, 3])]) (f := 61) h rfl

-- ProofBenchModel.layLetters()V
theorem pl_277_0 {n : Nat} {s : ps_S} {Q : Option Value → ps_S → Prop} (h :
  pl_At n 277 12 [(0, .ref 1131), (1, .int 0)] [] (ps_ui (ps_ui s 1131 59 0) 1131 60 0) Q) : pl_At (n + 1) 277 0 [(0, .ref 1131)] [] s Q :=
  pl_wp_at (stops := [(12, [0, 1])]) (f := 10) h rfl

theorem pl_277_12 {n : Nat} {x1 : Int32} {s : ps_S} {Q : Option Value → ps_S → Prop} (h :
  pl_Cl n 219 [.ref 1131, .int 25748] s (ps_rI (fun v1 s1 =>
    (v1 ≤ x1 →
      Q none s1) ∧
    (x1 < v1 →
      pl_Cl n 220 [.ref 1131, .int 25748, .int x1] s1 (ps_rI (fun v2 s2 =>
        (3 < v2 →
          pl_Cl n 221 [.ref 1131, .int 25748, .int x1] s2 (ps_rI (fun v3 s3 =>
            pl_Cl n 278 [.ref 1131, .int x1, .int v3] s3 (ps_rI (fun v4 s4 =>
              (pm_in (ps_i s3 1131 59) 41 = true →
                pl_At n 277 12 [(0, .ref 1131), (1, .int v3)] [] (ps_ui (ps_ua s4 1163 (Int32.toNatClampNeg (ps_i s3 1131 59)) ((100 : Int32) + v4)) 1131 59 ((ps_i (ps_ua s4 1163 (Int32.toNatClampNeg (ps_i s3 1131 59)) ((100 : Int32) + v4)) 1131 59) + 1)) Q)))))) ∧
        (v2 ≤ 3 →
          (pm_in (ps_i s2 1131 59) 41 = true →
            pl_At n 277 12 [(0, .ref 1131), (1, .int (x1 + 1))] [] (ps_ui (ps_ua s2 1163 (Int32.toNatClampNeg (ps_i s2 1131 59)) v2) 1131 59 ((ps_i (ps_ua s2 1163 (Int32.toNatClampNeg (ps_i s2 1131 59)) v2) 1131 59) + 1)) Q)))))))) : pl_At (n + 1) 277 12 [(0, .ref 1131), (1, .int x1)] [] s Q :=
  pl_wp_at (stops := [(12, [0, 1])]) (f := 56) h rfl

-- ProofBenchModel.isSoIn(I)Z
theorem pl_279_0 {n : Nat} {x1 : Int32} {s : ps_S} {Q : Option Value → ps_S → Prop} (h :
  pl_At n 279 9 [(0, .ref 1131), (1, .int x1), (2, .int 0), (3, .int ((ps_i s 1131 59) - 1))] [] s Q) : pl_At (n + 1) 279 0 [(0, .ref 1131), (1, .int x1)] [] s Q :=
  pl_wp_at (stops := [(9, [0, 1, 2, 3]), (77, [0, 1, 2, 3, 4]), (138, [0, 1, 2, 3])]) (f := 9) h rfl

theorem pl_279_9 {n : Nat} {x1 : Int32} {x2 : Int32} {x3 : Int32} {s : ps_S} {Q : Option Value → ps_S → Prop} (h :
  (x3 < 0 →
    (pm_in (0 : Int32) 41 = true →
      ((ps_a s 1166 (Int32.toNatClampNeg (0 : Int32))) ≠ 1 →
        Q (some (.int 0)) s) ∧
      ((ps_a s 1166 (Int32.toNatClampNeg (0 : Int32))) = 1 →
        Q (some (.int 1)) s))) ∧
  (0 ≤ x3 →
    (pm_in x3 41 = true →
      ((ps_a s 1163 (Int32.toNatClampNeg x3)) < 100 →
        ((ps_a s 1163 (Int32.toNatClampNeg x3)) ≠ 0 →
          pl_At n 279 77 [(0, .ref 1131), (1, .int x1), (2, .int (x2 + (Int32.ofInt (-1)))), (3, .int x3), (4, .int (ps_a s 1163 (Int32.toNatClampNeg x3)))] [] s Q) ∧
        ((ps_a s 1163 (Int32.toNatClampNeg x3)) = 0 →
          (pm_in x2 41 = true →
            pl_At n 279 138 [(0, .ref 1131), (1, .int x1), (2, .int (x2 + 1)), (3, .int x3)] [] (ps_ua s 1166 (Int32.toNatClampNeg x2) 0) Q))) ∧
      (100 ≤ (ps_a s 1163 (Int32.toNatClampNeg x3)) →
        (pm_in x2 41 = true →
          pl_At n 279 138 [(0, .ref 1131), (1, .int x1), (2, .int (x2 + 1)), (3, .int x3)] [] (ps_ua s 1166 (Int32.toNatClampNeg x2) ((x1 >>> ((((ps_i s 1131 60) - 1) - ((ps_a s 1163 (Int32.toNatClampNeg x3)) - 100)) &&& 31)) &&& 1)) Q))))) : pl_At (n + 1) 279 9 [(0, .ref 1131), (1, .int x1), (2, .int x2), (3, .int x3)] [] s Q :=
  pl_wp_at (stops := [(9, [0, 1, 2, 3]), (77, [0, 1, 2, 3, 4]), (138, [0, 1, 2, 3])]) (f := 51) h rfl

theorem pl_279_77 {n : Nat} {x1 : Int32} {x2 : Int32} {x3 : Int32} {x4 : Int32} {s : ps_S} {Q : Option Value → ps_S → Prop} (h :
  (pm_in x2 41 = true →
    (pm_in (x2 - 1) 41 = true →
      (x4 ≠ 1 →
        (x4 ≠ 2 →
          (pm_in (x2 - 1) 41 = true →
            pl_At n 279 138 [(0, .ref 1131), (1, .int x1), (2, .int x2), (3, .int x3)] [] (ps_ua s 1166 (Int32.toNatClampNeg (x2 - 1)) (((1 : Int32) - (ps_a s 1166 (Int32.toNatClampNeg x2))) ||| (ps_a s 1166 (Int32.toNatClampNeg (x2 - 1))))) Q)) ∧
        (x4 = 2 →
          (pm_in (x2 - 1) 41 = true →
            pl_At n 279 138 [(0, .ref 1131), (1, .int x1), (2, .int x2), (3, .int x3)] [] (ps_ua s 1166 (Int32.toNatClampNeg (x2 - 1)) ((ps_a s 1166 (Int32.toNatClampNeg x2)) ||| (ps_a s 1166 (Int32.toNatClampNeg (x2 - 1))))) Q))) ∧
      (x4 = 1 →
        (pm_in (x2 - 1) 41 = true →
          pl_At n 279 138 [(0, .ref 1131), (1, .int x1), (2, .int x2), (3, .int x3)] [] (ps_ua s 1166 (Int32.toNatClampNeg (x2 - 1)) ((ps_a s 1166 (Int32.toNatClampNeg x2)) &&& (ps_a s 1166 (Int32.toNatClampNeg (x2 - 1))))) Q))))) : pl_At (n + 1) 279 77 [(0, .ref 1131), (1, .int x1), (2, .int x2), (3, .int x3), (4, .int x4)] [] s Q :=
  pl_wp_at (stops := [(9, [0, 1, 2, 3]), (77, [0, 1, 2, 3, 4]), (138, [0, 1, 2, 3])]) (f := 41) h rfl

theorem pl_279_138 {n : Nat} {x1 : Int32} {x2 : Int32} {x3 : Int32} {s : ps_S} {Q : Option Value → ps_S → Prop} (h :
  pl_At n 279 9 [(0, .ref 1131), (1, .int x1), (2, .int x2), (3, .int (x3 + (Int32.ofInt (-1))))] [] s Q) : pl_At (n + 1) 279 138 [(0, .ref 1131), (1, .int x1), (2, .int x2), (3, .int x3)] [] s Q :=
  pl_wp_at (stops := [(9, [0, 1, 2, 3]), (77, [0, 1, 2, 3, 4]), (138, [0, 1, 2, 3])]) (f := 4) h rfl

-- ProofBenchModel.letters()I
theorem pl_280_0 {n : Nat} {s : ps_S} {Q : Option Value → ps_S → Prop} (h :
  pl_Cl n 219 [.ref 1131, .int 25748] s (ps_rI (fun v1 s1 =>
    (v1 ≠ 0 →
      pl_Cl n 277 [.ref 1131] s1 (ps_rV (fun s2 =>
        Q (some (.int (ps_i s2 1131 60))) s2))) ∧
    (v1 = 0 →
      Q (some (.int (-1))) s1)))) : pl_At (n + 1) 280 0 [(0, .ref 1131)] [] s Q :=
  pl_wp_at (stops := []) (f := 13) h rfl

-- ProofBenchModel.table()I
theorem pl_281_0 {n : Nat} {s : ps_S} {Q : Option Value → ps_S → Prop} (h :
  pl_Cl n 219 [.ref 1131, .int 25748] s (ps_rI (fun v1 s1 =>
    (v1 ≠ 0 →
      pl_Cl n 277 [.ref 1131] s1 (ps_rV (fun s2 =>
        ((ps_i s2 1131 60) ≤ 12 →
          pl_At n 281 32 [(0, .ref 1131), (1, .int 0), (2, .int 0)] [] s2 Q) ∧
        (12 < (ps_i s2 1131 60) →
          Q (some (.int (-2))) s2)))) ∧
    (v1 = 0 →
      Q (some (.int (-1))) s1)))) : pl_At (n + 1) 281 0 [(0, .ref 1131)] [] s Q :=
  pl_wp_at (stops := [(32, [0, 1, 2])]) (f := 20) h rfl

theorem pl_281_32 {n : Nat} {x1 : Int32} {x2 : Int32} {s : ps_S} {Q : Option Value → ps_S → Prop} (h :
  (((1 : Int32) <<< ((ps_i s 1131 60) &&& 31)) ≤ x2 →
    Q (some (.int x1)) s) ∧
  (x2 < ((1 : Int32) <<< ((ps_i s 1131 60) &&& 31)) →
    pl_Cl n 279 [.ref 1131, .int x2] s (ps_rI (fun v1 s1 =>
      (v1 = 0 →
        pl_At n 281 32 [(0, .ref 1131), (1, .int (x1 + 0)), (2, .int (x2 + 1))] [] s1 Q) ∧
      (v1 ≠ 0 →
        pl_At n 281 32 [(0, .ref 1131), (1, .int (x1 + 1)), (2, .int (x2 + 1))] [] s1 Q))))) : pl_At (n + 1) 281 32 [(0, .ref 1131), (1, .int x1), (2, .int x2)] [] s Q :=
  pl_wp_at (stops := [(32, [0, 1, 2])]) (f := 26) h rfl

-- ProofBenchModel.row()I
theorem pl_282_0 {n : Nat} {s : ps_S} {Q : Option Value → ps_S → Prop} (h :
  pl_Cl n 219 [.ref 1131, .int 25748] s (ps_rI (fun v1 s1 =>
    (v1 ≠ 0 →
      pl_Cl n 277 [.ref 1131] s1 (ps_rV (fun s2 =>
        ((ps_i s2 1131 60) ≤ 12 →
          pl_At n 282 30 [(0, .ref 1131), (1, .int 0)] [] s2 Q) ∧
        (12 < (ps_i s2 1131 60) →
          Q (some (.int (-2))) s2)))) ∧
    (v1 = 0 →
      Q (some (.int (-1))) s1)))) : pl_At (n + 1) 282 0 [(0, .ref 1131)] [] s Q :=
  pl_wp_at (stops := [(30, [0, 1])]) (f := 18) h rfl

theorem pl_282_30 {n : Nat} {x1 : Int32} {s : ps_S} {Q : Option Value → ps_S → Prop} (h :
  (((1 : Int32) <<< ((ps_i s 1131 60) &&& 31)) ≤ x1 →
    Q (some (.int (-1))) s) ∧
  (x1 < ((1 : Int32) <<< ((ps_i s 1131 60) &&& 31)) →
    pl_Cl n 279 [.ref 1131, .int x1] s (ps_rI (fun v1 s1 =>
      (v1 ≠ 0 →
        pl_At n 282 30 [(0, .ref 1131), (1, .int (x1 + 1))] [] s1 Q) ∧
      (v1 = 0 →
        Q (some (.int x1)) s1))))) : pl_At (n + 1) 282 30 [(0, .ref 1131), (1, .int x1)] [] s Q :=
  pl_wp_at (stops := [(30, [0, 1])]) (f := 18) h rfl

/-- the reference's signs: letters from 100 on -/
def lt_r (c : Nat) : Nat := if c < 4 then c else c + 96
def lt_m (s : ps_S) (ar : Nat → Nat) (l : List Nat) (L : List (List Nat)) (S : List Nat) : Prop := ((ps_i s 1131 59).toInt = S.length ∧ ar_L s 1163 (S.map lt_r)) ∧ (ps_i s 1131 60).toInt = L.length ∧ ∀ (k : Nat) (m : List Nat), L[k]? = some m → ∃ b, (ps_a s 1164 k).toInt = (b : Nat) ∧ (ps_a s 1165 k).toInt = (b + m.length : Nat) ∧ lt_bg ar l m b
def LMA : List Nat := [1163, 1164, 1165]
def LMF : List Nat := [59, 60]
theorem fm_278_2 {l m : List Nat} {L : List (List Nat)} {S : List Nat} {i : Nat} {bb : Bool} {σ : mSig} {ar : Nat → Nat} {x1 x2 : Int32} {s : ps_S} {R : Int32 → ps_S → Prop} (hA : ArW σ ar) (W0 : mv_W s 25748 l) (hL : lt_m s ar l L S) (hLn : L.length ≤ i) (hx : x1.toInt = i) (hx2 : x2.toInt = (i + m.length : Nat)) (hi : i < l.length) (hm : m = (l.drop i).take (en ar (l.drop i) 1)) (hw : ws σ m [bb]) (hml : i + m.length ≤ l.length) (k : ∀ (v : Int32) s', v.toInt = (lt_ix L m).1 → lt_m s' ar l (lt_ix L m).2 S → kq [1164, 1165] [60] s s' → R v s') : ∀ (n : Nat) {x3 : Int32} {j : Nat}, x3.toInt = j → j ≤ L.length → (∀ j', j' < j → L[j']? ≠ some m) → pl_At n 278 2 [(0, .ref 1131), (1, .int x1), (2, .int x2), (3, .int x3)] [] s (ps_rI R)
  | 0, _, _, _, _, _ => pl_At_0
  | n + 1, x3, j, hj, hjl, hn => by
    have h40 := W0.2.1
    have hl4 := hL.2.1
    have emm : (l.drop i).take m.length = m := tk_len hm
    have c25 : (25748 : Int32).toInt = (25748 : Nat) := by decide
    have e21 : (x2 - x1).toInt = (m.length : Nat) := by rw [xIs (by omega) (by omega), hx2, hx]; omega
    have nx : ∀ (m' : List Nat) (b : Nat), L[j]? = some m' → (m' = m → False) → pl_At n 278 2 [(0, .ref 1131), (1, .int x1), (2, .int x2), (3, .int (x3 + 1))] [] s (ps_rI R) := fun m' b hmj hne => by
      have hjl2 := (List.getElem?_eq_some_iff.mp hmj).1
      refine fm_278_2 hA W0 hL hLn hx hx2 hi hm hw hml k n (xj1 hj (by omega)) (by omega) (fun j' hj' z => ?_)
      rcases Nat.lt_or_ge j' j with y | y
      · exact hn j' y z
      · rw [show j' = j from by omega, hmj] at z
        exact hne (Option.some.inj z)
    refine pl_278_2 ⟨fun h7 => ?_, fun h7 => ?_⟩
    · have h7 := xle h7
      intro b1 b2
      have e : j = L.length := by omega
      subst e
      have e60 : (ps_i (ps_ua s 1164 (Int32.toNatClampNeg (ps_i s 1131 60)) x1) 1131 60) = ps_i s 1131 60 := rfl
      rw [e60, xtn hl4] at *
      refine k _ _ ?_ ?_ (kqi (kqa (kqa kq_refl rfl) rfl) rfl)
      · rw [lt_no hn]
        show ((ps_i s 1131 60 + 1) - 1).toInt = _
        have e1 : (ps_i s 1131 60 + 1).toInt = (L.length + 1 : Nat) := xj1 hl4 (by omega)
        have c1 : (1 : Int32).toInt = 1 := by decide
        rw [xIs (by omega) (by omega), e1, c1]
        omega
      · rw [lt_no hn]
        obtain ⟨⟨a1, a2⟩, a3, a4⟩ := hL
        refine ⟨⟨a1, a2⟩, ?_, fun k2 m2 hk2 => ?_⟩
        · show (ps_i s 1131 60 + 1).toInt = ((L ++ [m]).length : Nat)
          rw [List.length_append, List.length_singleton]
          exact xj1 a3 (by omega)
        · show ∃ b, (ps_a (ps_ua (ps_ua s 1164 L.length x1) 1165 L.length x2) 1164 k2).toInt = _ ∧ (ps_a (ps_ua (ps_ua s 1164 L.length x1) 1165 L.length x2) 1165 k2).toInt = _ ∧ _
          rcases Nat.lt_or_ge k2 L.length with z | z
          · rw [List.getElem?_append_left z] at hk2
            rw [ps_a_ua, if_neg (by omega), ps_a_ua, if_neg (by omega), ps_a_ua, if_neg (by omega), ps_a_ua, if_neg (by omega)]
            exact a4 k2 m2 hk2
          · have hkl := (List.getElem?_eq_some_iff.mp hk2).1
            rw [List.length_append, List.length_singleton] at hkl
            rw [show k2 = L.length from by omega, List.getElem?_append_right (Nat.le_refl _), Nat.sub_self] at hk2
            cases hk2
            rw [show k2 = L.length from by omega, ps_a_ua, if_neg (by omega), ps_a_ua, if_pos ⟨rfl, rfl⟩, ps_a_ua, if_pos ⟨rfl, rfl⟩]
            exact ⟨i, hx, hx2, hi, hm.symm⟩
    · have h7 := xlt h7
      obtain ⟨m', hmj⟩ : ∃ m', L[j]? = some m' := ⟨_, List.getElem?_eq_getElem (by omega)⟩
      obtain ⟨b, eb, ee, hb⟩ := hL.2.2 j m' hmj
      intro b1 b2
      rw [xtn hj]
      have hbl := hb.1
      have hme : m'.length ≤ l.length := by rw [← hb.2, List.length_take, List.length_drop]; omega
      have ed : ((ps_a s 1165 j) - (ps_a s 1164 j)).toInt = (m'.length : Nat) := by rw [xIs (by omega) (by omega), ee, eb]; omega
      refine ⟨fun h29 => ?_, fun h29 => ?_⟩
      · have h29 := xne h29
        exact nx m' b hmj (fun z => by rw [z] at ed; omega)
      · have h29 := xeq h29
        intro b3
        refine fm_259 c25 (by decide) W0 c25 (by decide) W0 hx e21 eb hml (by omega) (fun q => ⟨fun z => absurd z (by decide), fun _ => ?_⟩) (fun q => ⟨fun _ => ?_, fun z => absurd rfl z⟩)
        · rw [emm] at q
          have z2 := (lt_same hA hw hb).mp q
          rw [z2] at hmj
          have y := lt_at hmj hn
          exact k _ _ (by rw [y]; exact hj) (by rw [y]; exact hL) kq_refl
        · refine nx m' b hmj (fun z => q ?_)
          rw [emm]
          exact (lt_same hA hw hb).mpr z
theorem fm_278 {n : Nat} {l m : List Nat} {L : List (List Nat)} {S : List Nat} {i : Nat} {bb : Bool} {σ : mSig} {ar : Nat → Nat} {x1 x2 : Int32} {s : ps_S} {R : Int32 → ps_S → Prop} (hA : ArW σ ar) (W0 : mv_W s 25748 l) (hL : lt_m s ar l L S) (hLn : L.length ≤ i) (hx : x1.toInt = i) (hx2 : x2.toInt = (i + m.length : Nat)) (hi : i < l.length) (hm : m = (l.drop i).take (en ar (l.drop i) 1)) (hw : ws σ m [bb]) (hml : i + m.length ≤ l.length) (k : ∀ (v : Int32) s', (v.toInt = (lt_ix L m).1 ∧ lt_m s' ar l (lt_ix L m).2 S ∧ kq [1164, 1165] [60] s s') → R v s') : pl_Cl n 278 [.ref 1131, .int x1, .int x2] s (ps_rI R) := by
  cases n with
  | zero => exact pl_At_0
  | succ n =>
  show pl_At (n + 1) 278 0 [(0, .ref 1131), (1, .int x1), (2, .int x2)] [] s (ps_rI R)
  refine pl_278_0 ?_
  exact fm_278_2 hA W0 hL hLn hx hx2 hi hm hw hml (fun v s' a b c => k v s' ⟨a, b, c⟩) n rfl (Nat.zero_le _) (fun j hj => absurd hj (Nat.not_lt_zero _))
/-- the letters laid -/
def LTm (s : ps_S) (L : List (List Nat)) (S : List Nat) : Prop := (ps_i s 1131 59).toInt = S.length ∧ ar_L s 1163 (S.map lt_r) ∧ (ps_i s 1131 60).toInt = L.length ∧ S.length ≤ 40 ∧ L.length ≤ 40 ∧ cw S 1 ∧ ∀ c, c ∈ S → c < 4 + L.length
theorem ar_snocr {s : ps_S} {r c : Nat} {S : List Nat} {x : Int32} (h : ar_L s r (S.map lt_r)) (hx : x.toInt = (lt_r c : Nat)) : ar_L (ps_ua s r S.length x) r ((S ++ [c]).map lt_r) := by
  have := ar_snoc h hx
  rw [List.length_map] at this
  rw [List.map_append]
  exact this
theorem fm_277_12 {b : Nat} {l : List Nat} {g : tx_g} {s0 : ps_S} {R : ps_S → Prop} (hb : b < 2) (h21 : (ps_i s0 1131 21).toInt = b) (H : mv_E s0 b g) (W : mv_W s0 25748 l) (k : ∀ s' L S, lt_go (arh g) l L S → LTm s' L S → R s') : ∀ (n : Nat) {s : ps_S} {x1 : Int32} {i : Nat} {L : List (List Nat)} {S : List Nat}, kq LMA LMF s0 s → lt_m s (arh g) l L S → L.length ≤ i → S.length ≤ i → x1.toInt = i → i ≤ l.length → lt_W (sg g) (l.drop i) S → (∀ c, c ∈ S → c < 4 + L.length) → gt_go (lt_st (arh g)) (l, [], []) (l.drop i, L, S) → pl_At n 277 12 [(0, .ref 1131), (1, .int x1)] [] s (ps_rV R)
  | 0, _, _, _, _, _, _, _, _, _, _, _, _, _, _ => pl_At_0
  | n + 1, s, x1, i, L, S, K, hL, hLn, hSn, hx, hi, hW, hS4, hg => by
    have W0 : mv_W s 25748 l := by unfold mv_W at *; rw [kq_a K 1134 (by decide)]; exact W
    have h21' : (ps_i s 1131 21).toInt = b := by rw [kq_i K 21 (by decide)]; exact h21
    have H' := mv_E_kq H K (by decide)
    have h40 := W0.2.1
    have c25 : (25748 : Int32).toInt = (25748 : Nat) := by decide
    have c3 : (3 : Int32).toInt = 3 := by decide
    have hA := arh_k H.2.2.1 H.2.2.2.1
    obtain ⟨⟨a1, a2⟩, a3, a4⟩ := id hL
    refine pl_277_12 ?_
    refine fm_219c c25 W0 (fun v17 q17 => ⟨fun h20 => ?_, fun h20 => ?_⟩)
    · have h20 := xle h20
      have e : i = l.length := by omega
      subst e
      rw [List.drop_length] at hW hg
      exact k s L S hg ⟨a1, a2, a3, by omega, by omega, lt_W_end hW, hS4⟩
    · have h20 := xlt h20
      obtain ⟨c, hc⟩ : ∃ c, l[i]? = some c := ⟨_, List.getElem?_eq_getElem (by omega)⟩
      have hcd := drop_c hc
      refine fm_220c c25 (by decide) W0 hx hc (fun v28 q28 => ⟨fun h33 => ?_, fun h33 => ?_⟩)
      · have h33 := xlt h33
        obtain ⟨m, hm⟩ : ∃ m, m = (l.drop i).take (en (arh g) (l.drop i) 1) := ⟨_, rfl⟩
        obtain ⟨-, bb, hwm⟩ := lt_W_p hA (k := 0) hW (by rw [hcd]; exact List.cons_ne_nil _ _)
        obtain ⟨b0, Wi, hwi⟩ : ∃ b0 Wi, ws (sg g) (l.drop i) (b0 :: Wi) := by
          obtain ⟨W1, w1, -⟩ := hW
          cases W1 with
          | nil => rw [hcd] at w1; exact w1.elim
          | cons b0 W' => exact ⟨b0, W', w1⟩
        have hml0 : en (arh g) (l.drop i) 1 ≤ (l.drop i).length := en_le hA hwi (by rw [List.length_cons]; omega)
        have em : m.length = en (arh g) (l.drop i) 1 := by rw [hm, List.length_take]; omega
        rw [List.length_drop] at hml0
        refine fm_221 hb h21' H' c25 (by decide) W0 hx hwi (fun v58 q58 => ?_)
        refine fm_278 (m := m) hA W0 hL hLn hx (by rw [em]; exact q58) (by omega) hm (by rw [hm]; exact hwm) (by omega) (fun v75 s75 q75 => ?_)
        obtain ⟨ev, hL2, K2⟩ := q75
        intro b80
        have e59 : (ps_i s 1131 59) = (ps_i s75 1131 59) := (kq_i K2 59 (by decide)).symm
        rw [e59, xtn hL2.1.1]
        have hix := lt_ix_le (L := L) (m := m)
        have hpos := en_pos (ar := arh g) (t := l.drop i) (p := 1) (by rw [List.length_drop]; omega) (by decide)
        obtain ⟨⟨d1, d2⟩, d3, d4⟩ := hL2
        have c100 : (100 : Int32).toInt = 100 := by decide
        have e100 : ((100 : Int32) + v75).toInt = (lt_r (4 + (lt_ix L m).1) : Nat) := by
          unfold lt_r
          rw [if_neg (by omega), xIa (by omega) (by omega), c100, ev]
          omega
        refine fm_277_12 hb h21 H W k n (kqi (kqa (kqt K K2 (by decide) (by decide)) rfl) rfl) ⟨⟨?_, ar_snocr d2 e100⟩, d3, d4⟩ (by omega) (by rw [List.length_append, List.length_singleton]; omega) q58 (by omega) ?_ (fun y hy => ?_) (gt_trans hg (gt_one ?_))
        · rw [List.length_append, List.length_singleton]
          exact xj1 d1 (by omega)
        · rw [← List.drop_drop]
          exact (lt_W_p hA (k := (lt_ix L m).1) hW (by rw [hcd]; exact List.cons_ne_nil _ _)).1
        · rcases List.mem_append.mp hy with hy | hy
          · have := hS4 y hy
            have h2 : L.length ≤ (lt_ix L m).2.length := by
              unfold lt_ix
              cases tx_at L m with
              | none => rw [List.length_append]; omega
              | some k => exact Nat.le_refl _
            omega
          · rw [List.mem_singleton] at hy
            omega
        · rw [← List.drop_drop, hm, hcd]
          show (if c < 4 then _ else _) = _
          rw [if_neg (by omega)]
      · have h33 := xle h33
        intro b40
        rw [xtn a1]
        refine fm_277_12 hb h21 H W k n (L := L) (S := S ++ [c]) (kqi (kqa K rfl) rfl) ⟨⟨?_, ar_snocr a2 ?_⟩, a3, a4⟩ (by omega) (by rw [List.length_append, List.length_singleton]; omega) (xj1 hx (by omega)) (by omega) (lt_W_c (by rw [← hcd]; exact hW) (by omega)) (fun y hy => ?_) (gt_trans hg (gt_one ?_))
        · rw [List.length_append, List.length_singleton]
          exact xj1 a1 (by omega)
        · unfold lt_r
          rw [if_pos (by omega)]
          exact q28
        · rcases List.mem_append.mp hy with hy | hy
          · exact hS4 y hy
          · rw [List.mem_singleton] at hy
            omega
        · rw [hcd]
          show (if c < 4 then _ else _) = _
          rw [if_pos (by omega)]
theorem fm_277 {n b : Nat} {l : List Nat} {g : tx_g} {s : ps_S} {bb : Bool} {R : ps_S → Prop} (hb : b < 2) (h21 : (ps_i s 1131 21).toInt = b) (H : mv_E s b g) (W : mv_W s 25748 l) (hw : ws (sg g) l [bb]) (k : ∀ s' L S, lt_go (arh g) l L S → LTm s' L S → R s') : pl_Cl n 277 [.ref 1131] s (ps_rV R) := by
  cases n with
  | zero => exact pl_At_0
  | succ n =>
  show pl_At (n + 1) 277 0 [(0, .ref 1131)] [] s (ps_rV R)
  refine pl_277_0 ?_
  exact fm_277_12 hb h21 H W k n (i := 0) (L := []) (S := []) (kqi (kqi kq_refl rfl) rfl) ⟨⟨rfl, fun k c hk => by cases hk⟩, rfl, fun k m hk => by cases hk⟩ (Nat.zero_le _) (Nat.zero_le _) rfl (Nat.zero_le _) (by rw [List.drop_zero]; exact lt_W_0 hw) (fun c hc => by cases hc) gt_refl
/-! the worth of signs -/
theorem LTm_kq {s s' : ps_S} {L : List (List Nat)} {S : List Nat} (h : LTm s L S) (K : kq [1166] [] s s') : LTm s' L S := by
  unfold LTm ar_L at *
  rw [kq_i K 59 rfl, kq_i K 60 rfl, kq_a K 1163 (by decide)]
  exact h
section M279
variable {L : List (List Nat)} {S : List Nat} {x1 : Int32} {R : Int32 → ps_S → Prop}
theorem xof1 {x : Int32} {b : Nat} (h : x.toInt = b) (hb : 1 ≤ b) : (x + Int32.ofInt (-1)).toInt = (b : Int) - 1 := by
  have e : (Int32.ofInt (-1)).toInt = -1 := by decide
  have hr := xR x
  rw [xIa (by omega) (by omega), e, h]
  omega
theorem fm_279_end {s : ps_S} {i : Nat} (k1 : ∀ s', lt_so L S x1 → LTm s' L S → R 1 s') (k0 : ∀ s', ¬ lt_so L S x1 → LTm s' L S → R 0 s') (hL : LTm s L S) (hi : i ≤ S.length) (h0 : i = 0) (hs : stk (ps_a s 1166) (lt_ev (lt_f x1 L.length) (S.drop i))) : pm_in (0 : Int32) 41 = true → ((ps_a s 1166 (Int32.toNatClampNeg (0 : Int32))) ≠ 1 → ps_rI R (some (.int 0)) s) ∧ ((ps_a s 1166 (Int32.toNatClampNeg (0 : Int32))) = 1 → ps_rI R (some (.int 1)) s) := by
  intro _
  subst h0
  rw [List.drop_zero] at hs
  obtain ⟨a, e0⟩ : ∃ a, lt_ev (lt_f x1 L.length) S = [a] := by
    have := lt_ev_len (f := lt_f x1 L.length) hL.2.2.2.2.2.1
    match hq : lt_ev (lt_f x1 L.length) S, this with
    | [a], _ => exact ⟨a, rfl⟩
    | [], h => rw [List.length_nil] at h; omega
    | a :: b :: r, h => rw [List.length_cons, List.length_cons] at h; omega
  rw [e0] at hs
  have ea : ps_a s 1166 (Int32.toNatClampNeg (0 : Int32)) = a := hs.1
  rw [ea]
  refine ⟨fun h => k0 s (fun z => ?_) hL, fun h => k1 s ?_ hL⟩
  · unfold lt_so at z
    rw [e0] at z
    exact h (Option.some.inj z)
  · unfold lt_so
    rw [e0, h]
    rfl
theorem fm_279_9 (k1 : ∀ s', lt_so L S x1 → LTm s' L S → R 1 s') (k0 : ∀ s', ¬ lt_so L S x1 → LTm s' L S → R 0 s') : ∀ (n : Nat) {s : ps_S} {x2 x3 : Int32} {i : Nat}, LTm s L S → i ≤ S.length → x3.toInt = (i : Int) - 1 → x2.toInt = (lt_ev (lt_f x1 L.length) (S.drop i)).length → stk (ps_a s 1166) (lt_ev (lt_f x1 L.length) (S.drop i)) → pl_At n 279 9 [(0, .ref 1131), (1, .int x1), (2, .int x2), (3, .int x3)] [] s (ps_rI R)
  | 0, _, _, _, _, _, _, _, _, _ => pl_At_0
  | 1, s, x2, x3, i, hL, hi, hx, hx2, hs => by
    refine pl_279_9 ⟨fun h => ?_, fun h => ?_⟩
    · exact fm_279_end k1 k0 hL hi (by have := xlt h; have c0 : (0 : Int32).toInt = 0 := by decide
                                       omega) hs
    · intro b
      exact ⟨fun _ => ⟨fun _ => pl_At_0, fun _ _ => pl_At_0⟩, fun _ _ => pl_At_0⟩
  | n + 2, s, x2, x3, i, hL, hi, hx, hx2, hs => by
    obtain ⟨l1, l2, l3, l4, l5, l6, l7⟩ := id hL
    have c0 : (0 : Int32).toInt = 0 := by decide
    refine pl_279_9 ⟨fun h => ?_, fun h => ?_⟩
    · exact fm_279_end k1 k0 hL hi (by have := xlt h; omega) hs
    · have h := xle h
      have hx3 : x3.toInt = (i - 1 : Nat) := by omega
      obtain ⟨c, hc⟩ : ∃ c, S[i - 1]? = some c := ⟨_, List.getElem?_eq_getElem (by omega)⟩
      obtain ⟨nn, hcw⟩ := cw_drop (i - 1) l6
      rw [drop_c hc] at hcw
      obtain ⟨n', rfl, hcw⟩ := hcw
      have hev := lt_ev_len (f := lt_f x1 L.length) hcw
      have hcl := cw_le hcw
      rw [List.length_drop] at hcl
      have hi1 : i - 1 + 1 = i := by omega
      rw [← hi1] at hs hx2
      have hcS := l7 c (List.mem_of_getElem? hc)
      have er : (ps_a s 1163 (i - 1)).toInt = (lt_r c : Nat) := l2 _ _ (by rw [List.getElem?_map, hc]; rfl)
      have nx : ∀ {s' : ps_S} {y2 : Int32}, kq [1166] [] s s' → y2.toInt = (lt_ev (lt_f x1 L.length) (S.drop (i - 1))).length → stk (ps_a s' 1166) (lt_ev (lt_f x1 L.length) (S.drop (i - 1))) → pl_At (n + 1) 279 138 [(0, .ref 1131), (1, .int x1), (2, .int y2), (3, .int x3)] [] s' (ps_rI R) := fun K h2 h3 => by
        refine pl_279_138 ?_
        exact fm_279_9 k1 k0 n (LTm_kq hL K) (i := i - 1) (by omega) (xmin1 hx3) h2 h3
      intro b22
      rw [xtn hx3]
      have e100 : (100 : Int32).toInt = 100 := by decide
      refine ⟨fun h29 => ⟨fun h31 => ?_, fun h31 => ?_⟩, fun h29 => ?_⟩
      · -- two are taken
        have h29 := xlt h29
        have h31 := xne h31
        have hc4 : c < 4 := by unfold lt_r at er; split at er <;> omega
        have er2 : lt_r c = c := by unfold lt_r; rw [if_pos hc4]
        rw [er2] at er
        rw [if_pos (by omega)] at hev hcl
        obtain ⟨a, b, r, eq⟩ : ∃ a b r, lt_ev (lt_f x1 L.length) (S.drop (i - 1 + 1)) = a :: b :: r := by
          match hq : lt_ev (lt_f x1 L.length) (S.drop (i - 1 + 1)), hev with
          | [], h => rw [List.length_nil] at h; omega
          | [a], h => rw [List.length_singleton] at h; omega
          | a :: b :: r, h => exact ⟨a, b, r, rfl⟩
        rw [eq] at hs hx2 hev
        rw [List.length_cons, List.length_cons] at hx2 hev
        obtain ⟨s1, s2, s3⟩ := hs
        have y2 : (x2 + Int32.ofInt (-1)).toInt = (r.length + 1 : Nat) := by rw [xof1 (b := r.length + 2) hx2 (by omega)]; omega
        generalize hy2 : x2 + Int32.ofInt (-1) = z2 at y2 ⊢
        have c1 : (1 : Int32).toInt = 1 := by decide
        have c2 : (2 : Int32).toInt = 2 := by decide
        have y1 : (z2 - 1).toInt = (r.length : Nat) := by rw [xIs (by omega) (by omega), y2, c1]; omega
        have ew : lt_ev (lt_f x1 L.length) (S.drop (i - 1)) = lt_j c a b :: r := by rw [drop_c hc]; exact lt_evc (by omega) (by omega) eq
        have fin : ∀ {w : Int32}, w = lt_j c a b → pl_At (n + 1) 279 138 [(0, .ref 1131), (1, .int x1), (2, .int z2), (3, .int x3)] [] (ps_ua s 1166 r.length w) (ps_rI R) := fun hw => by
          refine nx (kqa kq_refl rfl) (by rw [ew, List.length_cons]; exact y2) ?_
          rw [ew, ← hw]
          exact stk_push s3
        rw [List.length_cons] at s1
        refine pl_279_77 (fun b84 b92 => ?_)
        rw [xtn y2, xtn y1, s1, s2]
        refine ⟨fun g1 => ⟨fun g2 => ?_, fun g2 => ?_⟩, fun g1 => ?_⟩
        · have g1 := xne g1
          have g2 := xne g2
          intro _
          refine (fin ?_).le (Nat.le_succ _)
          unfold lt_j
          rw [if_neg (by omega), if_neg (by omega)]
        · have g1 := xne g1
          have g2 := xeq g2
          intro _
          refine (fin ?_).le (Nat.le_succ _)
          unfold lt_j
          rw [if_neg (by omega), if_pos (by omega)]
        · have g1 := xeq g1
          intro _
          refine (fin ?_).le (Nat.le_succ _)
          unfold lt_j
          rw [if_pos (by omega)]
      · have h31 := xeq h31
        have hc0 : c = 0 := by unfold lt_r at er; split at er <;> omega
        intro b47
        rw [xtn hx2]
        have ew : lt_ev (lt_f x1 L.length) (S.drop (i - 1)) = 0 :: lt_ev (lt_f x1 L.length) (S.drop (i - 1 + 1)) := by
          rw [drop_c hc]
          show (if 4 ≤ c then _ else if c = 0 then _ else _) = _
          rw [if_neg (by omega), if_pos hc0]
        rw [if_neg (by omega)] at hcl hev
        refine nx (kqa kq_refl rfl) ?_ ?_
        · rw [ew, List.length_cons]
          exact xj1 hx2 (by omega)
        · rw [ew]
          exact stk_push hs
      · have h29 := xle h29
        have hc4 : 4 ≤ c := by unfold lt_r at er; split at er <;> omega
        intro b47
        rw [xtn hx2]
        have ew : lt_ev (lt_f x1 L.length) (S.drop (i - 1)) = lt_f x1 L.length (c - 4) :: lt_ev (lt_f x1 L.length) (S.drop (i - 1 + 1)) := by
          rw [drop_c hc]
          show (if 4 ≤ c then _ else _) = _
          rw [if_pos hc4]
        have ef : (x1 >>> ((((ps_i s 1131 60) - 1) - ((ps_a s 1163 (i - 1)) - 100)) &&& 31)) &&& 1 = lt_f x1 L.length (c - 4) := by
          unfold lt_f
          rw [xnI l3, xnI (x := (ps_a s 1163 (i - 1)) - 100) (n := c - 4) (by have hr9 := xR (ps_a s 1163 (i - 1)); rw [er] at hr9; unfold lt_r at hr9; rw [if_neg (by omega)] at hr9; rw [xIs (by rw [er, e100]; unfold lt_r; rw [if_neg (by omega)]; omega) (by rw [er, e100]; unfold lt_r; rw [if_neg (by omega)]; omega), er, e100]; unfold lt_r; rw [if_neg (by omega)]; omega)]
        rw [if_neg (by omega)] at hcl hev
        rw [ef]
        refine nx (kqa kq_refl rfl) ?_ ?_
        · rw [ew, List.length_cons]
          exact xj1 hx2 (by omega)
        · rw [ew]
          exact stk_push hs
end M279
theorem fm_279 {n : Nat} {L : List (List Nat)} {S : List Nat} {x1 : Int32} {s : ps_S} {R : Int32 → ps_S → Prop} (hL : LTm s L S) (k1 : ∀ s', lt_so L S x1 ∧ LTm s' L S → R 1 s') (k0 : ∀ s', ¬ lt_so L S x1 ∧ LTm s' L S → R 0 s') : pl_Cl n 279 [.ref 1131, .int x1] s (ps_rI R) := by
  cases n with
  | zero => exact pl_At_0
  | succ n =>
  show pl_At (n + 1) 279 0 [(0, .ref 1131), (1, .int x1)] [] s (ps_rI R)
  refine pl_279_0 ?_
  have c1 : (1 : Int32).toInt = 1 := by decide
  have e : ((ps_i s 1131 59) - 1).toInt = (S.length : Int) - 1 := by
    have := hL.1
    have := hL.2.2.2.1
    rw [xIs (by omega) (by omega), hL.1, c1]
  refine fm_279_9 (fun s' a b => k1 s' ⟨a, b⟩) (fun s' a b => k0 s' ⟨a, b⟩) n hL (Nat.le_refl _) e ?_ ?_
  · rw [List.drop_length]
    rfl
  · rw [List.drop_length]
    trivial
theorem fm_281_32 {L : List (List Nat)} {S : List Nat} {R : Int32 → ps_S → Prop} (k : ∀ (v : Int32) s', v.toInt = lt_n (fun i => lt_so L S (nI i)) (lt_N L).toInt.toNat → R v s') : ∀ (n : Nat) {s : ps_S} {x1 x2 : Int32} {i : Nat}, LTm s L S → x2.toInt = i → (i : Int) ≤ max 0 (lt_N L).toInt → x1.toInt = lt_n (fun i => lt_so L S (nI i)) i → pl_At n 281 32 [(0, .ref 1131), (1, .int x1), (2, .int x2)] [] s (ps_rI R)
  | 0, _, _, _, _, _, _, _, _ => pl_At_0
  | n + 1, s, x1, x2, i, hL, hx, hi, h1 => by
    have hr := xR (lt_N L)
    have hle := lt_n_le (P := fun i => lt_so L S (nI i)) (k := i)
    have c0 : (0 : Int32).toInt = 0 := by decide
    have eN : (1 : Int32) <<< ((ps_i s 1131 60) &&& 31) = lt_N L := by unfold lt_N; rw [xnI hL.2.2.1]
    refine pl_281_32 ?_
    rw [eN]
    refine ⟨fun h => ?_, fun h => ?_⟩
    · have h := xle h
      have e : i = (lt_N L).toInt.toNat := by omega
      exact k _ _ (by rw [h1, e])
    · have h := xlt h
      refine fm_279 hL (fun s3 q => ⟨fun z => absurd z (by decide), fun _ => ?_⟩) (fun s3 q => ⟨fun _ => ?_, fun z => absurd rfl z⟩)
      · refine fm_281_32 k n q.2 (xj1 hx (by omega)) (by omega) ?_
        rw [lt_n_1 (by rw [← xnI hx]; exact q.1)]
        exact xj1 h1 (by omega)
      · refine fm_281_32 k n q.2 (xj1 hx (by omega)) (by omega) ?_
        rw [lt_n_0 (fun z => by rw [← xnI hx] at z; exact q.1 z), xIa (by omega) (by omega), h1, c0]
        omega
theorem fm_282_30 {L : List (List Nat)} {S : List Nat} {R : Int32 → ps_S → Prop} (k : ∀ (v : Int32) s', ((∃ i : Nat, v.toInt = i ∧ (i : Int) < (lt_N L).toInt ∧ ¬ lt_so L S (nI i) ∧ ∀ j, j < i → lt_so L S (nI j)) ∨ (v.toInt = -1 ∧ ∀ j : Nat, (j : Int) < (lt_N L).toInt → lt_so L S (nI j))) → R v s') : ∀ (n : Nat) {s : ps_S} {x1 : Int32} {i : Nat}, LTm s L S → x1.toInt = i → (∀ j, j < i → lt_so L S (nI j)) → pl_At n 282 30 [(0, .ref 1131), (1, .int x1)] [] s (ps_rI R)
  | 0, _, _, _, _, _, _ => pl_At_0
  | n + 1, s, x1, i, hL, hx, hj => by
    have hr := xR (lt_N L)
    have eN : (1 : Int32) <<< ((ps_i s 1131 60) &&& 31) = lt_N L := by unfold lt_N; rw [xnI hL.2.2.1]
    refine pl_282_30 ?_
    rw [eN]
    refine ⟨fun h => ?_, fun h => ?_⟩
    · have h := xle h
      exact k _ _ (Or.inr ⟨by decide, fun j h => hj j (by omega)⟩)
    · have h := xlt h
      refine fm_279 hL (fun s3 q => ⟨fun _ => ?_, fun z => absurd z (by decide)⟩) (fun s3 q => ⟨fun z => absurd rfl z, fun _ => ?_⟩)
      · refine fm_282_30 k n q.2 (xj1 hx (by omega)) (fun j h => ?_)
        rcases Nat.lt_or_ge j i with z | z
        · exact hj j z
        · rw [show j = i from by omega, ← xnI hx]
          exact q.1
      · exact k _ _ (Or.inl ⟨i, hx, by omega, by rw [← xnI hx]; exact q.1, hj⟩)

theorem fm_280 {n : Nat} {s : ps_S} {h : tx_H} {l : List Nat} (m : TRm s h l) (hw : WFf h.1 l) : pl_Cl n 280 [.ref 1131] s (ps_rI (fun v _ => lt_A 0 h.1 l v)) := by
  cases n with
  | zero => exact pl_At_0
  | succ n =>
  show pl_At (n + 1) 280 0 [(0, .ref 1131)] [] s _
  refine pl_280_0 ?_
  obtain ⟨b, m1, m2, m3, m4⟩ := m
  have c25 : (25748 : Int32).toInt = (25748 : Nat) := by decide
  refine fm_219c c25 m4 (fun v1 q1 => ⟨fun z => ?_, fun z => ?_⟩)
  · have z := xne z
    have c0 : (0 : Int32).toInt = 0 := by decide
    have hl : l ≠ [] := fun y => by rw [y, List.length_nil] at q1; omega
    rcases hw with hw | hw
    · exact absurd hw hl
    refine fm_277 m1 m2 m3.1 m4 (wf_ws hw) (fun s2 L S hg hL => ?_)
    have h4 := hL.2.2.1
    exact Or.inr ⟨hl, L, S, hg, Or.inl ⟨rfl, h4⟩⟩
  · have z := xeq z
    have c0 : (0 : Int32).toInt = 0 := by decide
    exact Or.inl ⟨List.eq_nil_of_length_eq_zero (by omega), by decide⟩

theorem fm_281 {n : Nat} {s : ps_S} {h : tx_H} {l : List Nat} (m : TRm s h l) (hw : WFf h.1 l) : pl_Cl n 281 [.ref 1131] s (ps_rI (fun v _ => lt_A 1 h.1 l v)) := by
  cases n with
  | zero => exact pl_At_0
  | succ n =>
  show pl_At (n + 1) 281 0 [(0, .ref 1131)] [] s _
  refine pl_281_0 ?_
  obtain ⟨b, m1, m2, m3, m4⟩ := m
  have c25 : (25748 : Int32).toInt = (25748 : Nat) := by decide
  refine fm_219c c25 m4 (fun v1 q1 => ⟨fun z => ?_, fun z => ?_⟩)
  · have z := xne z
    have c0 : (0 : Int32).toInt = 0 := by decide
    have hl : l ≠ [] := fun y => by rw [y, List.length_nil] at q1; omega
    rcases hw with hw | hw
    · exact absurd hw hl
    refine fm_277 m1 m2 m3.1 m4 (wf_ws hw) (fun s2 L S hg hL => ?_)
    have h4 := hL.2.2.1
    have c12 : (12 : Int32).toInt = 12 := by decide
    refine ⟨fun z2 => ?_, fun z2 => ?_⟩
    · have z2 := xle z2
      exact fm_281_32 (fun v s3 e => Or.inr ⟨hl, L, S, hg, Or.inr (Or.inr (Or.inl ⟨rfl, by omega, e⟩))⟩) n (i := 0) hL rfl (by omega) rfl
    · have z2 := xlt z2
      exact Or.inr ⟨hl, L, S, hg, Or.inr (Or.inl ⟨by decide, by omega, by decide⟩)⟩
  · have z := xeq z
    have c0 : (0 : Int32).toInt = 0 := by decide
    exact Or.inl ⟨List.eq_nil_of_length_eq_zero (by omega), by decide⟩

theorem fm_282 {n : Nat} {s : ps_S} {h : tx_H} {l : List Nat} (m : TRm s h l) (hw : WFf h.1 l) : pl_Cl n 282 [.ref 1131] s (ps_rI (fun v _ => lt_A 2 h.1 l v)) := by
  cases n with
  | zero => exact pl_At_0
  | succ n =>
  show pl_At (n + 1) 282 0 [(0, .ref 1131)] [] s _
  refine pl_282_0 ?_
  obtain ⟨b, m1, m2, m3, m4⟩ := m
  have c25 : (25748 : Int32).toInt = (25748 : Nat) := by decide
  refine fm_219c c25 m4 (fun v1 q1 => ⟨fun z => ?_, fun z => ?_⟩)
  · have z := xne z
    have c0 : (0 : Int32).toInt = 0 := by decide
    have hl : l ≠ [] := fun y => by rw [y, List.length_nil] at q1; omega
    rcases hw with hw | hw
    · exact absurd hw hl
    refine fm_277 m1 m2 m3.1 m4 (wf_ws hw) (fun s2 L S hg hL => ?_)
    have h4 := hL.2.2.1
    have c12 : (12 : Int32).toInt = 12 := by decide
    refine ⟨fun z2 => ?_, fun z2 => ?_⟩
    · have z2 := xle z2
      exact fm_282_30 (fun v s3 e => Or.inr ⟨hl, L, S, hg, Or.inr (Or.inr (Or.inr ⟨rfl, by omega, e⟩))⟩) n (i := 0) hL rfl (fun j hj => absurd hj (Nat.not_lt_zero _))
    · have z2 := xlt z2
      exact Or.inr ⟨hl, L, S, hg, Or.inr (Or.inl ⟨by decide, by omega, by decide⟩)⟩
  · have z := xeq z
    have c0 : (0 : Int32).toInt = 0 := by decide
    exact Or.inl ⟨List.eq_nil_of_length_eq_zero (by omega), by decide⟩
end
section
set_option maxRecDepth 100000
/-! rules(): both sides -/
-- ProofBench.isBound(I)Z
theorem pl_185_0 {n : Nat} {x0 : Int32} {s : ps_S} {Q : Option Value → ps_S → Prop} (h :
  (x0 < 40 →
    Q (some (.int 0)) s) ∧
  (40 ≤ x0 →
    (60 ≤ x0 →
      Q (some (.int 0)) s) ∧
    (x0 < 60 →
      Q (some (.int 1)) s))) : pl_At (n + 1) 185 0 [(0, .int x0)] [] s Q :=
  pl_wp_at (stops := []) (f := 15) h rfl

-- ProofBench.isFun(I)Z
theorem pl_186_0 {n : Nat} {x0 : Int32} {s : ps_S} {Q : Option Value → ps_S → Prop} (h :
  (x0 < 20 →
    Q (some (.int 0)) s) ∧
  (20 ≤ x0 →
    (24 ≤ x0 →
      Q (some (.int 0)) s) ∧
    (x0 < 24 →
      Q (some (.int 1)) s))) : pl_At (n + 1) 186 0 [(0, .int x0)] [] s Q :=
  pl_wp_at (stops := []) (f := 15) h rfl

-- ProofBench$Rewriter.leftHasAll(LProofBench$Row;II)Z
theorem pl_84_0 {n : Nat} {r1 : Nat} {x2 : Int32} {x3 : Int32} {s : ps_S} {Q : Option Value → ps_S → Prop} (h :
  pl_At n 84 3 [(1, .ref r1), (2, .int x2), (3, .int x3), (4, .int x3)] [] s Q) : pl_At (n + 1) 84 0 [(0, .ref 1021), (1, .ref r1), (2, .int x2), (3, .int x3)] [] s Q :=
  pl_wp_at (stops := [(3, [1, 2, 3, 4]), (34, [1, 2, 3, 4, 5, 6]), (73, [1, 2, 3, 4, 5])]) (f := 4) h rfl

theorem pl_84_3 {n : Nat} {r1 : Nat} {x2 : Int32} {x3 : Int32} {x4 : Int32} {s : ps_S} {Q : Option Value → ps_S → Prop} (h :
  pl_nk (ps_is r1 5) (((ps_i s r1 1) ≤ x4 →
    Q (some (.int 1)) s) ∧
  (x4 < (ps_i s r1 1) →
    pl_Cl n 92 [.ref r1, .int x4] s (ps_rI (fun v1 s1 =>
      pl_Cl n 185 [.int v1] s1 (ps_rI (fun v2 s2 =>
        (v2 ≠ 0 →
          pl_At n 84 34 [(1, .ref r1), (2, .int x2), (3, .int x3), (4, .int x4), (5, .int 0), (6, .int x2)] [] s2 Q) ∧
        (v2 = 0 →
          pl_At n 84 34 [(1, .ref r1), (2, .int x2), (3, .int x3), (4, .int x4), (5, .int 1), (6, .int x2)] [] s2 Q)))))))) : pl_At (n + 1) 84 3 [(1, .ref r1), (2, .int x2), (3, .int x3), (4, .int x4)] [] s Q :=
  pl_wp_at (stops := [(3, [1, 2, 3, 4]), (34, [1, 2, 3, 4, 5, 6]), (73, [1, 2, 3, 4, 5])]) (f := 22) h rfl

theorem pl_84_34 {n : Nat} {r1 : Nat} {x2 : Int32} {x3 : Int32} {x4 : Int32} {x5 : Int32} {x6 : Int32} {s : ps_S} {Q : Option Value → ps_S → Prop} (h :
  (x3 ≤ x6 →
    pl_At n 84 73 [(1, .ref r1), (2, .int x2), (3, .int x3), (4, .int x4), (5, .int x5)] [] s Q) ∧
  (x6 < x3 →
    (x5 ≠ 0 →
      pl_At n 84 73 [(1, .ref r1), (2, .int x2), (3, .int x3), (4, .int x4), (5, .int x5)] [] s Q) ∧
    (x5 = 0 →
      pl_Cl n 92 [.ref r1, .int x6] s (ps_rI (fun v1 s1 =>
        pl_Cl n 92 [.ref r1, .int x4] s1 (ps_rI (fun v2 s2 =>
          (v1 ≠ v2 →
            pl_At n 84 34 [(1, .ref r1), (2, .int x2), (3, .int x3), (4, .int x4), (5, .int 0), (6, .int (x6 + 1))] [] s2 Q) ∧
          (v1 = v2 →
            pl_At n 84 34 [(1, .ref r1), (2, .int x2), (3, .int x3), (4, .int x4), (5, .int 1), (6, .int (x6 + 1))] [] s2 Q)))))))) : pl_At (n + 1) 84 34 [(1, .ref r1), (2, .int x2), (3, .int x3), (4, .int x4), (5, .int x5), (6, .int x6)] [] s Q :=
  pl_wp_at (stops := [(3, [1, 2, 3, 4]), (34, [1, 2, 3, 4, 5, 6]), (73, [1, 2, 3, 4, 5])]) (f := 23) h rfl

theorem pl_84_73 {n : Nat} {r1 : Nat} {x2 : Int32} {x3 : Int32} {x4 : Int32} {x5 : Int32} {s : ps_S} {Q : Option Value → ps_S → Prop} (h :
  (x5 ≠ 0 →
    pl_At n 84 3 [(1, .ref r1), (2, .int x2), (3, .int x3), (4, .int (x4 + 1))] [] s Q) ∧
  (x5 = 0 →
    Q (some (.int 0)) s)) : pl_At (n + 1) 84 73 [(1, .ref r1), (2, .int x2), (3, .int x3), (4, .int x4), (5, .int x5)] [] s Q :=
  pl_wp_at (stops := [(3, [1, 2, 3, 4]), (34, [1, 2, 3, 4, 5, 6]), (73, [1, 2, 3, 4, 5])]) (f := 8) h rfl

-- ProofBench$Rewriter.findRules(LProofBench$Theory;)V
theorem pl_83_0 {n : Nat} {r1 : Nat} {s : ps_S} {Q : Option Value → ps_S → Prop} (h :
  pl_At n 83 2 [(0, .ref 1021), (1, .ref r1), (2, .int 0)] [] s Q) : pl_At (n + 1) 83 0 [(0, .ref 1021), (1, .ref r1)] [] s Q :=
  pl_wp_at (stops := [(2, [0, 1, 2]), (19, [0, 1, 2, 3, 4]), (44, [0, 1, 2, 3, 4]), (109, [0, 1, 2, 5, 6])]) (f := 4) h rfl

theorem pl_83_2 {n : Nat} {r1 : Nat} {x2 : Int32} {s : ps_S} {Q : Option Value → ps_S → Prop} (h :
  pl_nk (ps_is r1 9) (((ps_i s r1 8) ≤ x2 →
    Q none s) ∧
  (x2 < (ps_i s r1 8) →
    pl_Cl n 135 [.ref r1, .int x2] s (ps_rA (fun v1 s1 =>
      pl_At n 83 19 [(0, .ref 1021), (1, .ref r1), (2, .int x2), (3, .ref v1), (4, .int 0)] [] s1 Q))))) : pl_At (n + 1) 83 2 [(0, .ref 1021), (1, .ref r1), (2, .int x2)] [] s Q :=
  pl_wp_at (stops := [(2, [0, 1, 2]), (19, [0, 1, 2, 3, 4]), (44, [0, 1, 2, 3, 4]), (109, [0, 1, 2, 5, 6])]) (f := 13) h rfl

theorem pl_83_19 {n : Nat} {r1 : Nat} {x2 : Int32} {r3 : Nat} {x4 : Int32} {s : ps_S} {Q : Option Value → ps_S → Prop} (h :
  pl_nk (ps_is r3 5) (((ps_i s r3 1) ≤ x4 →
    pl_At n 83 44 [(0, .ref 1021), (1, .ref r1), (2, .int x2), (3, .ref r3), (4, .int x4)] [] s Q) ∧
  (x4 < (ps_i s r3 1) →
    pl_Cl n 92 [.ref r3, .int x4] s (ps_rI (fun v1 s1 =>
      (v1 ≠ 4 →
        pl_At n 83 44 [(0, .ref 1021), (1, .ref r1), (2, .int x2), (3, .ref r3), (4, .int x4)] [] s1 Q) ∧
      (v1 = 4 →
        pl_At n 83 19 [(0, .ref 1021), (1, .ref r1), (2, .int x2), (3, .ref r3), (4, .int (x4 + 1))] [] s1 Q)))))) : pl_At (n + 1) 83 19 [(0, .ref 1021), (1, .ref r1), (2, .int x2), (3, .ref r3), (4, .int x4)] [] s Q :=
  pl_wp_at (stops := [(2, [0, 1, 2]), (19, [0, 1, 2, 3, 4]), (44, [0, 1, 2, 3, 4]), (109, [0, 1, 2, 5, 6])]) (f := 13) h rfl

theorem pl_83_44 {n : Nat} {r1 : Nat} {x2 : Int32} {r3 : Nat} {x4 : Int32} {s : ps_S} {Q : Option Value → ps_S → Prop} (h :
  pl_Cl n 103 [.ref 1030, .ref r3, .ref r1] s (ps_rV (fun s1 =>
    pl_Cl n 104 [.ref 1030, .int (x4 + 1)] s1 (ps_rI (fun v2 s2 =>
      pl_Cl n 92 [.ref r3, .int x4] s2 (ps_rI (fun v3 s3 =>
        (v3 ≠ 6 →
          pl_At n 83 109 [(0, .ref 1021), (1, .ref r1), (2, .int x2), (5, .int (x4 + 1)), (6, .int v2)] [] s3 Q) ∧
        (v3 = 6 →
          pl_Cl n 92 [.ref r3, .int (x4 + 1)] s3 (ps_rI (fun v4 s4 =>
            pl_Cl n 186 [.int v4] s4 (ps_rI (fun v5 s5 =>
              (v5 = 0 →
                pl_At n 83 109 [(0, .ref 1021), (1, .ref r1), (2, .int x2), (5, .int (x4 + 1)), (6, .int v2)] [] s5 Q) ∧
              (v5 ≠ 0 →
                pl_Cl n 84 [.ref 1021, .ref r3, .int (x4 + 1), .int v2] s5 (ps_rI (fun v6 s6 =>
                  (v6 = 0 →
                    pl_At n 83 109 [(0, .ref 1021), (1, .ref r1), (2, .int x2), (5, .int (x4 + 1)), (6, .int v2)] [] s6 Q) ∧
                  (v6 ≠ 0 →
                    pl_Cl n 183 [.ref 1036, .int x2, .int (x4 + 1)] s6 (ps_rV (fun s7 =>
                      ((1 : Int32) = 0 →
                        pl_Cl n 183 [.ref 1037, .int x2, .int (-1)] s7 (ps_rV (fun s8 =>
                          pl_At n 83 2 [(0, .ref 1021), (1, .ref r1), (2, .int (x2 + 1))] [] s8 Q))) ∧
                      ((1 : Int32) ≠ 0 →
                        pl_Cl n 183 [.ref 1037, .int x2, .int v2] s7 (ps_rV (fun s9 =>
                          pl_At n 83 2 [(0, .ref 1021), (1, .ref r1), (2, .int (x2 + 1))] [] s9 Q))))))))))))))))))))) : pl_At (n + 1) 83 44 [(0, .ref 1021), (1, .ref r1), (2, .int x2), (3, .ref r3), (4, .int x4)] [] s Q :=
  pl_wp_at (stops := [(2, [0, 1, 2]), (19, [0, 1, 2, 3, 4]), (44, [0, 1, 2, 3, 4]), (109, [0, 1, 2, 5, 6])]) (f := 54) h rfl

theorem pl_83_109 {n : Nat} {r1 : Nat} {x2 : Int32} {x5 : Int32} {x6 : Int32} {s : ps_S} {Q : Option Value → ps_S → Prop} (h :
  pl_Cl n 183 [.ref 1036, .int x2, .int x5] s (ps_rV (fun s1 =>
    ((0 : Int32) = 0 →
      pl_Cl n 183 [.ref 1037, .int x2, .int (-1)] s1 (ps_rV (fun s2 =>
        pl_At n 83 2 [(0, .ref 1021), (1, .ref r1), (2, .int (x2 + 1))] [] s2 Q))) ∧
    ((0 : Int32) ≠ 0 →
      pl_Cl n 183 [.ref 1037, .int x2, .int x6] s1 (ps_rV (fun s3 =>
        pl_At n 83 2 [(0, .ref 1021), (1, .ref r1), (2, .int (x2 + 1))] [] s3 Q)))))) : pl_At (n + 1) 83 109 [(0, .ref 1021), (1, .ref r1), (2, .int x2), (5, .int x5), (6, .int x6)] [] s Q :=
  pl_wp_at (stops := [(2, [0, 1, 2]), (19, [0, 1, 2, 3, 4]), (44, [0, 1, 2, 3, 4]), (109, [0, 1, 2, 5, 6])]) (f := 23) h rfl

-- ProofBench$Rewriter.ruleBits(LProofBench$Theory;)I
theorem pl_82_0 {n : Nat} {r1 : Nat} {s : ps_S} {Q : Option Value → ps_S → Prop} (h :
  pl_Cl n 83 [.ref 1021, .ref r1] s (ps_rV (fun s1 =>
    pl_At n 82 9 [(0, .ref 1021), (1, .ref r1), (2, .int 0), (3, .int 0)] [] s1 Q))) : pl_At (n + 1) 82 0 [(0, .ref 1021), (1, .ref r1)] [] s Q :=
  pl_wp_at (stops := [(9, [0, 1, 2, 3])]) (f := 9) h rfl

theorem pl_82_9 {n : Nat} {r1 : Nat} {x2 : Int32} {x3 : Int32} {s : ps_S} {Q : Option Value → ps_S → Prop} (h :
  pl_nk (ps_is r1 9) (((ps_i s r1 8) ≤ x3 →
    Q (some (.int x2)) s) ∧
  (x3 < (ps_i s r1 8) →
    pl_Cl n 182 [.ref 1037, .int x3] s (ps_rI (fun v1 s1 =>
      (v1 = (-1) →
        pl_At n 82 9 [(0, .ref 1021), (1, .ref r1), (2, .int x2), (3, .int (x3 + 1))] [] s1 Q) ∧
      (v1 ≠ (-1) →
        pl_At n 82 9 [(0, .ref 1021), (1, .ref r1), (2, .int (x2 ||| ((1 : Int32) <<< (x3 &&& 31)))), (3, .int (x3 + 1))] [] s1 Q)))))) : pl_At (n + 1) 82 9 [(0, .ref 1021), (1, .ref r1), (2, .int x2), (3, .int x3)] [] s Q :=
  pl_wp_at (stops := [(9, [0, 1, 2, 3])]) (f := 24) h rfl

-- ProofBench.rules()I
theorem pl_171_0 {n : Nat} {s : ps_S} {Q : Option Value → ps_S → Prop} (h :
  pl_Cl n 82 [.ref 1021, .ref (ps_r s 0 2)] s (ps_rI (fun v1 s1 =>
    Q (some (.int v1)) s1))) : pl_At (n + 1) 171 0 [(0, .ref 0)] [] s Q :=
  pl_wp_at (stops := []) (f := 8) h rfl

-- ProofBenchModel.axiomRow(II)I
theorem pl_283_0 {n : Nat} {x0 : Int32} {x1 : Int32} {s : ps_S} {Q : Option Value → ps_S → Prop} (h :
  Q (some (.int ((21812 : Int32) + ((41 : Int32) * (((8 : Int32) * x0) + x1))))) s) : pl_At (n + 1) 283 0 [(0, .int x0), (1, .int x1)] [] s Q :=
  pl_wp_at (stops := []) (f := 12) h rfl

-- ProofBenchModel.isRule(I)Z
theorem pl_284_0 {n : Nat} {x1 : Int32} {s : ps_S} {Q : Option Value → ps_S → Prop} (h :
  pl_Cl n 283 [.int (ps_i s 1131 21), .int x1] s (ps_rI (fun v1 s1 =>
    pl_At n 284 11 [(0, .ref 1131), (2, .int v1), (3, .int 0)] [] s1 Q))) : pl_At (n + 1) 284 0 [(0, .ref 1131), (1, .int x1)] [] s Q :=
  pl_wp_at (stops := [(11, [0, 2, 3]), (91, [0, 2, 4]), (126, [0, 2, 4, 5, 6]), (170, [0, 2, 4, 5])]) (f := 9) h rfl

theorem pl_284_11 {n : Nat} {x2 : Int32} {x3 : Int32} {s : ps_S} {Q : Option Value → ps_S → Prop} (h :
  pl_Cl n 220 [.ref 1131, .int x2, .int x3] s (ps_rI (fun v1 s1 =>
    (v1 ≠ 4 →
      pl_Cl n 220 [.ref 1131, .int x2, .int x3] s1 (ps_rI (fun v2 s2 =>
        (v2 ≠ 6 →
          Q (some (.int 0)) s2) ∧
        (v2 = 6 →
          pl_Cl n 220 [.ref 1131, .int x2, .int (x3 + 1)] s2 (ps_rI (fun v3 s3 =>
            (v3 < 20 →
              Q (some (.int 0)) s3) ∧
            (20 ≤ v3 →
              pl_Cl n 220 [.ref 1131, .int x2, .int (x3 + 1)] s3 (ps_rI (fun v4 s4 =>
                (v4 < 40 →
                  pl_Cl n 221 [.ref 1131, .int x2, .int (x3 + 1)] (ps_ui s4 1131 63 (x3 + 1)) (ps_rI (fun v5 s5 =>
                    pl_At n 284 91 [(0, .ref 1131), (2, .int x2), (4, .int (ps_i (ps_ui s5 1131 64 v5) 1131 64))] [] (ps_ui s5 1131 64 v5) Q))) ∧
                (40 ≤ v4 →
                  Q (some (.int 0)) s4)))))))))) ∧
    (v1 = 4 →
      pl_At n 284 11 [(0, .ref 1131), (2, .int x2), (3, .int (x3 + 1))] [] s1 Q)))) : pl_At (n + 1) 284 11 [(0, .ref 1131), (2, .int x2), (3, .int x3)] [] s Q :=
  pl_wp_at (stops := [(11, [0, 2, 3]), (91, [0, 2, 4]), (126, [0, 2, 4, 5, 6]), (170, [0, 2, 4, 5])]) (f := 54) h rfl

theorem pl_284_91 {n : Nat} {x2 : Int32} {x4 : Int32} {s : ps_S} {Q : Option Value → ps_S → Prop} (h :
  pl_Cl n 219 [.ref 1131, .int x2] s (ps_rI (fun v1 s1 =>
    (v1 ≤ x4 →
      Q (some (.int 1)) s1) ∧
    (x4 < v1 →
      pl_Cl n 220 [.ref 1131, .int x2, .int x4] s1 (ps_rI (fun v2 s2 =>
        (40 ≤ v2 →
          pl_At n 284 126 [(0, .ref 1131), (2, .int x2), (4, .int x4), (5, .int 0), (6, .int (ps_i s2 1131 63))] [] s2 Q) ∧
        (v2 < 40 →
          pl_At n 284 126 [(0, .ref 1131), (2, .int x2), (4, .int x4), (5, .int 1), (6, .int (ps_i s2 1131 63))] [] s2 Q))))))) : pl_At (n + 1) 284 91 [(0, .ref 1131), (2, .int x2), (4, .int x4)] [] s Q :=
  pl_wp_at (stops := [(11, [0, 2, 3]), (91, [0, 2, 4]), (126, [0, 2, 4, 5, 6]), (170, [0, 2, 4, 5])]) (f := 26) h rfl

theorem pl_284_126 {n : Nat} {x2 : Int32} {x4 : Int32} {x5 : Int32} {x6 : Int32} {s : ps_S} {Q : Option Value → ps_S → Prop} (h :
  ((ps_i s 1131 64) ≤ x6 →
    pl_At n 284 170 [(0, .ref 1131), (2, .int x2), (4, .int x4), (5, .int x5)] [] s Q) ∧
  (x6 < (ps_i s 1131 64) →
    (x5 ≠ 0 →
      pl_At n 284 170 [(0, .ref 1131), (2, .int x2), (4, .int x4), (5, .int x5)] [] s Q) ∧
    (x5 = 0 →
      pl_Cl n 220 [.ref 1131, .int x2, .int x6] s (ps_rI (fun v1 s1 =>
        pl_Cl n 220 [.ref 1131, .int x2, .int x4] s1 (ps_rI (fun v2 s2 =>
          (v1 ≠ v2 →
            pl_At n 284 126 [(0, .ref 1131), (2, .int x2), (4, .int x4), (5, .int 0), (6, .int (x6 + 1))] [] s2 Q) ∧
          (v1 = v2 →
            pl_At n 284 126 [(0, .ref 1131), (2, .int x2), (4, .int x4), (5, .int 1), (6, .int (x6 + 1))] [] s2 Q)))))))) : pl_At (n + 1) 284 126 [(0, .ref 1131), (2, .int x2), (4, .int x4), (5, .int x5), (6, .int x6)] [] s Q :=
  pl_wp_at (stops := [(11, [0, 2, 3]), (91, [0, 2, 4]), (126, [0, 2, 4, 5, 6]), (170, [0, 2, 4, 5])]) (f := 26) h rfl

theorem pl_284_170 {n : Nat} {x2 : Int32} {x4 : Int32} {x5 : Int32} {s : ps_S} {Q : Option Value → ps_S → Prop} (h :
  (x5 ≠ 0 →
    pl_At n 284 91 [(0, .ref 1131), (2, .int x2), (4, .int (x4 + 1))] [] s Q) ∧
  (x5 = 0 →
    Q (some (.int 0)) s)) : pl_At (n + 1) 284 170 [(0, .ref 1131), (2, .int x2), (4, .int x4), (5, .int x5)] [] s Q :=
  pl_wp_at (stops := [(11, [0, 2, 3]), (91, [0, 2, 4]), (126, [0, 2, 4, 5, 6]), (170, [0, 2, 4, 5])]) (f := 8) h rfl

-- ProofBenchModel.rules()I
theorem pl_285_0 {n : Nat} {s : ps_S} {Q : Option Value → ps_S → Prop} (h :
  pl_At n 285 4 [(0, .ref 1131), (1, .int 0), (2, .int 0)] [] s Q) : pl_At (n + 1) 285 0 [(0, .ref 1131)] [] s Q :=
  pl_wp_at (stops := [(4, [0, 1, 2])]) (f := 6) h rfl

theorem pl_285_4 {n : Nat} {x1 : Int32} {x2 : Int32} {s : ps_S} {Q : Option Value → ps_S → Prop} (h :
  (pm_in (ps_i s 1131 21) 2 = true →
    ((ps_a s 1137 (Int32.toNatClampNeg (ps_i s 1131 21))) ≤ x2 →
      Q (some (.int x1)) s) ∧
    (x2 < (ps_a s 1137 (Int32.toNatClampNeg (ps_i s 1131 21))) →
      pl_Cl n 284 [.ref 1131, .int x2] s (ps_rI (fun v1 s1 =>
        (v1 = 0 →
          pl_At n 285 4 [(0, .ref 1131), (1, .int (x1 ||| 0)), (2, .int (x2 + 1))] [] s1 Q) ∧
        (v1 ≠ 0 →
          pl_At n 285 4 [(0, .ref 1131), (1, .int (x1 ||| ((1 : Int32) <<< (x2 &&& 31)))), (2, .int (x2 + 1))] [] s1 Q)))))) : pl_At (n + 1) 285 4 [(0, .ref 1131), (1, .int x1), (2, .int x2)] [] s Q :=
  pl_wp_at (stops := [(4, [0, 1, 2])]) (f := 29) h rfl

/-- how many alls an axiom begins with -/
def rl_n : List Nat → Nat
  | [] => 0
  | c :: l => if c = 4 then rl_n l + 1 else 0
theorem rl_n_c {l : List Nat} : rl_n (4 :: l) = rl_n l + 1 := rfl
theorem rl_n_is : ∀ {l : List Nat} {j : Nat}, (∀ i, i < j → l[i]? = some 4) → l[j]? ≠ some 4 → rl_n l = j
  | [], 0, _, _ => rfl
  | [], j + 1, h, _ => by have := h 0 (by omega); cases this
  | c :: l, 0, _, h => by
    show (if c = 4 then _ else _) = 0
    rw [if_neg (fun z => h (by rw [z]; rfl))]
  | c :: l, j + 1, h, h' => by
    have h0 := h 0 (by omega)
    rw [List.getElem?_cons_zero] at h0
    cases h0
    rw [rl_n_c, rl_n_is (j := j) (fun i hi => by have := h (i + 1) (by omega); rw [List.getElem?_cons_succ] at this; exact this) (by rw [List.getElem?_cons_succ] at h'; exact h')]
theorem rl_n_ws {σ : mSig} : ∀ {l : List Nat} {b : Bool} {W : List Bool}, ws σ l (b :: W) → (∀ i, i < rl_n l → l[i]? = some 4) ∧ rl_n l < l.length ∧ l[rl_n l]? ≠ some 4 ∧ ∃ b' W', ws σ (l.drop (rl_n l)) (b' :: W')
  | [], b, W, h => by cases h
  | c :: l, b, W, h => by
    by_cases hc : c = 4
    · subst hc
      have h' := h
      obtain ⟨b', W', ks, e, hk, h2⟩ := ws_cons.mp h
      have hks : ∃ b2 ks', ks = b2 :: ks' := by
        rcases kS_cases hk with z | z | z | z | z | z | z
        · omega
        · omega
        · exact ⟨true, [], z.2.2⟩
        · omega
        · omega
        · omega
        · omega
      obtain ⟨b2, ks', rfl⟩ := hks
      obtain ⟨g1, g2, g3, g4⟩ := rl_n_ws (b := b2) h2
      rw [rl_n_c]
      refine ⟨fun i hi => ?_, by rw [List.length_cons]; omega, by rw [List.getElem?_cons_succ]; exact g3, by rw [List.drop_succ_cons]; exact g4⟩
      cases i with
      | zero => rfl
      | succ i =>
        rw [List.getElem?_cons_succ]
        exact g1 i (by omega)
    · have e : rl_n (c :: l) = 0 := by
        show (if c = 4 then _ else _) = 0
        rw [if_neg hc]
      rw [e]
      refine ⟨fun i hi => absurd hi (Nat.not_lt_zero _), by rw [List.length_cons]; omega, ?_, b, W, by rw [List.drop_zero]; exact h⟩
      rw [List.getElem?_cons_zero]
      exact fun z => hc (Option.some.inj z)
def rl_l (l : List Nat) : Nat := rl_n l + 1
def rl_r (ar : Nat → Nat) (l : List Nat) : Nat := rl_l l + en ar (l.drop (rl_l l)) 1
def rl_h (ar : Nat → Nat) (l : List Nat) : Prop := ∀ x, x ∈ l.drop (rl_r ar l) → 40 ≤ x → x ∈ (l.drop (rl_l l)).take (rl_r ar l - rl_l l)
/-- an axiom that is a rule -/
def rl_is (ar : Nat → Nat) (l : List Nat) : Prop := l[rl_n l]? = some 6 ∧ (∃ c, l[rl_l l]? = some c ∧ 20 ≤ c ∧ c < 40) ∧ rl_h ar l
theorem sl_mem {l : List Nat} {a b c : Nat} : c ∈ (l.drop a).take (b - a) ↔ ∃ q, a ≤ q ∧ q < b ∧ l[q]? = some c := by
  constructor
  · intro h
    obtain ⟨k, hk⟩ := List.mem_iff_getElem?.mp h
    rw [List.getElem?_take] at hk
    split at hk
    · next z =>
      rw [List.getElem?_drop] at hk
      exact ⟨a + k, by omega, by omega, hk⟩
    · cases hk
  · rintro ⟨q, h1, h2, h3⟩
    refine List.mem_iff_getElem?.mpr ⟨q - a, ?_⟩
    rw [List.getElem?_take, if_pos (by omega), List.getElem?_drop, show a + (q - a) = q from by omega]
    exact h3
theorem fs_185 {n : Nat} {x0 : Int32} {s : ps_S} {R : Int32 → ps_S → Prop} (k1 : 40 ≤ x0.toInt ∧ x0.toInt < 60 → R 1 s) (k0 : ¬ (40 ≤ x0.toInt ∧ x0.toInt < 60) → R 0 s) : pl_Cl n 185 [.int x0] s (ps_rI R) := by
  cases n with
  | zero => exact pl_At_0
  | succ n =>
  show pl_At (n + 1) 185 0 [(0, .int x0)] [] s (ps_rI R)
  refine pl_185_0 ?_
  refine ⟨fun h3 => ?_, fun h3 => ?_⟩
  · have h3 : x0.toInt < (40 : Int) := xlt h3
    exact k0 (by omega)
  · have h3 : (40 : Int) ≤ x0.toInt := xle h3
    refine ⟨fun h9 => ?_, fun h9 => ?_⟩
    · have h9 : (60 : Int) ≤ x0.toInt := xle h9
      exact k0 (by omega)
    · have h9 : x0.toInt < (60 : Int) := xlt h9
      exact k1 (by omega)
theorem fs_186 {n : Nat} {x0 : Int32} {s : ps_S} {R : Int32 → ps_S → Prop} (k1 : 20 ≤ x0.toInt ∧ x0.toInt < 24 → R 1 s) (k0 : ¬ (20 ≤ x0.toInt ∧ x0.toInt < 24) → R 0 s) : pl_Cl n 186 [.int x0] s (ps_rI R) := by
  cases n with
  | zero => exact pl_At_0
  | succ n =>
  show pl_At (n + 1) 186 0 [(0, .int x0)] [] s (ps_rI R)
  refine pl_186_0 ?_
  refine ⟨fun h3 => ?_, fun h3 => ?_⟩
  · have h3 : x0.toInt < (20 : Int) := xlt h3
    exact k0 (by omega)
  · have h3 : (20 : Int) ≤ x0.toInt := xle h3
    refine ⟨fun h9 => ?_, fun h9 => ?_⟩
    · have h9 : (24 : Int) ≤ x0.toInt := xle h9
      exact k0 (by omega)
    · have h9 : x0.toInt < (24 : Int) := xlt h9
      exact k1 (by omega)
theorem fs_104o {n r i : Nat} {x1 : Int32} {s : ps_S} {R : Int32 → ps_S → Prop} (hr : ps_is r 6 = true) (hx : x1.toInt = i) (k : ∀ v : Int32, (i < 40 → v = ps_a s (r + 1) i) → R v s) : pl_Cl n 104 [.ref r, .int x1] s (ps_rI R) := by
  cases n with
  | zero => exact pl_At_0
  | succ n =>
  show pl_At (n + 1) 104 0 [(0, .ref r), (1, .int x1)] [] s (ps_rI R)
  obtain ⟨⟨e0, e1, e2⟩, ⟨l0, l1, l2⟩, -⟩ := shr hr
  have t40 : (nI (ps_ln (r + 1))).toInt = 40 := by rw [l0]; decide
  refine pl_104_0 ?_
  rw [e0]
  refine ⟨fun h => ?_, fun h => ?_⟩
  · have h := xlt h
    have c0 : (0 : Int32).toInt = 0 := by decide
    omega
  · refine pl_nk_i (fun _ => pl_nk_i (fun _ => ⟨fun h2 => ?_, fun h2 => ?_⟩))
    · have h2 := xle h2
      exact k _ (fun z => by omega)
    · refine pl_nk_i (fun _ => pl_nk_i (fun _ => ?_))
      intro b
      rw [xtn hx]
      exact k _ (fun _ => rfl)
section R84
variable {r lf rt : Nat} {l : List Nat} {x2 x3 : Int32} {s : ps_S} {R : Int32 → ps_S → Prop}
theorem fs_84_34 {n0 i c : Nat} {x4 : Int32} (hr : ps_is r 5 = true) (W : cv_W s r l) (h2 : x2.toInt = lf) (h3 : x3.toInt = rt) (hrt : rt ≤ l.length) (h4 : x4.toInt = i) (hc : l[i]? = some c) (k3 : (40 ≤ c → c ∈ (l.drop lf).take (rt - lf)) → pl_At n0 84 3 [(1, .ref r), (2, .int x2), (3, .int x3), (4, .int (x4 + 1))] [] s (ps_rI R)) (k0 : ¬ (40 ≤ c → c ∈ (l.drop lf).take (rt - lf)) → R 0 s) : ∀ (n : Nat) {x5 x6 : Int32} {j : Nat}, n ≤ n0 → x6.toInt = j → lf ≤ j → (x5 ≠ 0 → 40 ≤ c → c ∈ (l.drop lf).take (rt - lf)) → (x5 = 0 → 40 ≤ c ∧ ∀ q, lf ≤ q → q < j → l[q]? ≠ some c) → pl_At n 84 34 [(1, .ref r), (2, .int x2), (3, .int x3), (4, .int x4), (5, .int x5), (6, .int x6)] [] s (ps_rI R)
  | 0, _, _, _, _, _, _, _, _ => pl_At_0
  | n + 1, x5, x6, j, hn, h6, hj, y1, y0 => by
    have h40 := W.2.2.1
    have e73 : (x5 = 0 → rt ≤ j) → pl_At n 84 73 [(1, .ref r), (2, .int x2), (3, .int x3), (4, .int x4), (5, .int x5)] [] s (ps_rI R) := fun hz => by
      cases n with
      | zero => exact pl_At_0
      | succ n =>
      refine pl_84_73 ⟨fun z => (k3 (y1 z)).le (by omega), fun z => k0 (fun w => ?_)⟩
      obtain ⟨g1, g2⟩ := y0 z
      obtain ⟨q, q1, q2, q3⟩ := sl_mem.mp (w g1)
      exact g2 q q1 (by have := hz z; omega) q3
    refine pl_84_34 ⟨fun h => ?_, fun h => ⟨fun h5 => ?_, fun h5 => ?_⟩⟩
    · have h := xle h
      exact e73 (fun _ => by omega)
    · exact e73 (fun z => absurd z h5)
    · have h := xlt h
      obtain ⟨c2, hc2⟩ : ∃ c2, l[j]? = some c2 := ⟨_, List.getElem?_eq_getElem (by omega)⟩
      obtain ⟨g1, g2⟩ := y0 h5
      refine fs_92c hr W h6 hc2 (fun v q => ?_)
      refine fs_92c hr W h4 hc (fun v' q' => ⟨fun z => ?_, fun z => ?_⟩)
      · have z := xne z
        refine fs_84_34 hr W h2 h3 hrt h4 hc k3 k0 n (by omega) (xj1 h6 (by omega)) (by omega) (fun w => absurd rfl w) (fun _ => ⟨g1, fun q q1 q2 q3 => ?_⟩)
        rcases Nat.lt_or_ge q j with y | y
        · exact g2 q q1 y q3
        · rw [show q = j from by omega, hc2] at q3
          cases q3
          omega
      · have z := xeq z
        exact fs_84_34 hr W h2 h3 hrt h4 hc k3 k0 n (by omega) (xj1 h6 (by omega)) (by omega) (fun _ _ => (sl_mem (b := rt)).mpr ⟨j, hj, by omega, by rw [hc2, show c2 = c from by omega]⟩) (fun w => absurd w (by decide))
theorem fs_84_3 (hr : ps_is r 5 = true) (W : cv_W s r l) (h2 : x2.toInt = lf) (h3 : x3.toInt = rt) (hrt : rt ≤ l.length) (h60 : ∀ x, x ∈ l → x < 60) (k1 : (∀ x, x ∈ l.drop rt → 40 ≤ x → x ∈ (l.drop lf).take (rt - lf)) → R 1 s) (k0 : ¬ (∀ x, x ∈ l.drop rt → 40 ≤ x → x ∈ (l.drop lf).take (rt - lf)) → R 0 s) : ∀ (n : Nat) {x4 : Int32} {i : Nat}, x4.toInt = i → rt ≤ i → (∀ q c, rt ≤ q → q < i → l[q]? = some c → 40 ≤ c → c ∈ (l.drop lf).take (rt - lf)) → pl_At n 84 3 [(1, .ref r), (2, .int x2), (3, .int x3), (4, .int x4)] [] s (ps_rI R)
  | 0, _, _, _, _, _ => pl_At_0
  | n + 1, x4, i, h4, hi, hq => by
    have hsz := W.1
    have h40 := W.2.2.1
    refine pl_84_3 (pl_nk_i (fun _ => ⟨fun h => ?_, fun h => ?_⟩))
    · have h := xle h
      refine k1 (fun x hx hx40 => ?_)
      obtain ⟨k, hk⟩ := List.mem_iff_getElem?.mp hx
      rw [List.getElem?_drop] at hk
      have hkl := (List.getElem?_eq_some_iff.mp hk).1
      exact hq (rt + k) x (by omega) (by omega) hk hx40
    · have h := xlt h
      obtain ⟨c, hc⟩ : ∃ c, l[i]? = some c := ⟨_, List.getElem?_eq_getElem (by omega)⟩
      have hc60 := h60 c (List.mem_of_getElem? hc)
      have g3 : (40 ≤ c → c ∈ (l.drop lf).take (rt - lf)) → pl_At n 84 3 [(1, .ref r), (2, .int x2), (3, .int x3), (4, .int (x4 + 1))] [] s (ps_rI R) := fun w => by
        refine fs_84_3 hr W h2 h3 hrt h60 k1 k0 n (xj1 h4 (by omega)) (by omega) (fun q c2 q1 q2 q3 q4 => ?_)
        rcases Nat.lt_or_ge q i with y | y
        · exact hq q c2 q1 y q3 q4
        · rw [show q = i from by omega, hc] at q3
          cases q3
          exact w q4
      have g0 : ¬ (40 ≤ c → c ∈ (l.drop lf).take (rt - lf)) → R 0 s := fun w => k0 (fun y => w (fun z => y c (List.mem_iff_getElem?.mpr ⟨i - rt, by rw [List.getElem?_drop, show rt + (i - rt) = i from by omega]; exact hc⟩) z))
      refine fs_92c hr W h4 hc (fun v q => ?_)
      refine fs_185 (fun z => ⟨fun _ => ?_, fun y => absurd y (by decide)⟩) (fun z => ⟨fun y => absurd rfl y, fun _ => ?_⟩)
      · exact fs_84_34 hr W h2 h3 hrt h4 hc g3 g0 n (Nat.le_refl _) h2 (Nat.le_refl _) (fun w => absurd rfl w) (fun _ => ⟨by omega, fun q a b => absurd a (by omega)⟩)
      · exact fs_84_34 hr W h2 h3 hrt h4 hc g3 g0 n (Nat.le_refl _) h2 (Nat.le_refl _) (fun _ w => absurd w (by omega)) (fun w => absurd w (by decide))
theorem fs_84 {n : Nat} (hr : ps_is r 5 = true) (W : cv_W s r l) (h2 : x2.toInt = lf) (h3 : x3.toInt = rt) (hrt : rt ≤ l.length) (h60 : ∀ x, x ∈ l → x < 60) (k1 : (∀ x, x ∈ l.drop rt → 40 ≤ x → x ∈ (l.drop lf).take (rt - lf)) → R 1 s) (k0 : ¬ (∀ x, x ∈ l.drop rt → 40 ≤ x → x ∈ (l.drop lf).take (rt - lf)) → R 0 s) : pl_Cl n 84 [.ref 1021, .ref r, .int x2, .int x3] s (ps_rI R) := by
  cases n with
  | zero => exact pl_At_0
  | succ n =>
  show pl_At (n + 1) 84 0 [(0, .ref 1021), (1, .ref r), (2, .int x2), (3, .int x3)] [] s (ps_rI R)
  exact pl_84_0 (fs_84_3 hr W h2 h3 hrt h60 k1 k0 n h3 (Nat.le_refl _) (fun q c a b => absurd a (by omega)))
end R84
/-- the class's rules of the first m axioms -/
def RLc (s : ps_S) (ar : Nat → Nat) (ax : List (List Nat × List Nat)) (m : Nat) : Prop := ∀ (k : Nat) (w l : List Nat), k < m → ax[k]? = some (w, l) → (rl_is ar l → (ps_a s 1036 k).toInt = rl_l l ∧ (ps_a s 1037 k).toInt = rl_r ar l) ∧ (¬ rl_is ar l → (ps_a s 1037 k).toInt = -1)
def RLq (q : Nat) : Prop := (1030 ≤ q ∧ q ≤ 1033) ∨ q = 1036 ∨ q = 1037
theorem ps_is5 {r : Nat} (h : ps_K r = (1, 5, 0)) : ps_is r 5 = true := by
  unfold ps_is
  rw [h]
  rfl
theorem RLc_put {s : ps_S} {ar : Nat → Nat} {ax : List (List Nat × List Nat)} {i : Nat} {w l : List Nat} {x5 x6 : Int32} (h : RLc s ar ax i) (hi : ax[i]? = some (w, l)) (h1 : rl_is ar l → x5.toInt = rl_l l ∧ x6.toInt = rl_r ar l) (h0 : ¬ rl_is ar l → x6.toInt = -1) : RLc (ps_ua (ps_ua s 1036 i x5) 1037 i x6) ar ax (i + 1) := fun k w2 l2 hk hk2 => by
  rcases Nat.lt_or_ge k i with z | z
  · rw [ps_a_ua, if_neg (by omega), ps_a_ua, if_neg (by omega), ps_a_ua, if_neg (by omega)]
    exact h k w2 l2 z hk2
  · have e : k = i := by omega
    subst e
    rw [hi] at hk2
    cases hk2
    rw [ps_a_ua, if_neg (by omega), ps_a_ua, if_pos ⟨rfl, rfl⟩, ps_a_ua, if_pos ⟨rfl, rfl⟩]
    exact ⟨h1, h0⟩
section R83
variable {th : Nat} {h : tx_H} {s0 : ps_S} {R : ps_S → Prop}
theorem fs_83_19 {n0 i r : Nat} {l : List Nat} {x2 : Int32} {s : ps_S} (hr : ps_is r 5 = true) (W : cv_W s r l) (kk : ∀ v4 : Int32, v4.toInt = rl_n l → pl_At n0 83 44 [(0, .ref 1021), (1, .ref th), (2, .int x2), (3, .ref r), (4, .int v4)] [] s (ps_rV R)) : ∀ (n : Nat) {x4 : Int32} {j : Nat}, n ≤ n0 → x4.toInt = j → j ≤ l.length → (∀ i, i < j → l[i]? = some 4) → pl_At n 83 19 [(0, .ref 1021), (1, .ref th), (2, .int x2), (3, .ref r), (4, .int x4)] [] s (ps_rV R)
  | 0, _, _, _, _, _, _ => pl_At_0
  | n + 1, x4, j, hn, h4, hj, ha => by
    have hsz := W.1
    have h40 := W.2.2.1
    have c4 : (4 : Int32).toInt = 4 := by decide
    refine pl_83_19 (pl_nk_i (fun _ => ⟨fun z => ?_, fun z => ?_⟩))
    · have z := xle z
      refine (kk x4 ?_).le (by omega)
      rw [rl_n_is ha (by rw [List.getElem?_eq_none (by omega)]; exact fun y => by cases y)]
      exact h4
    · have z := xlt z
      obtain ⟨c, hc⟩ : ∃ c, l[j]? = some c := ⟨_, List.getElem?_eq_getElem (by omega)⟩
      refine fs_92c hr W h4 hc (fun v q => ⟨fun y => ?_, fun y => ?_⟩)
      · have y := xne y
        refine (kk x4 ?_).le (by omega)
        rw [rl_n_is ha (by rw [hc]; exact fun y2 => by have := Option.some.inj y2; omega)]
        exact h4
      · have y := xeq y
        refine fs_83_19 (i := i) hr W kk n (by omega) (xj1 h4 (by omega)) (by omega) (fun i hi => ?_)
        rcases Nat.lt_or_ge i j with w | w
        · exact ha i w
        · rw [show i = j from by omega, hc, show c = 4 from by omega]
theorem fs_83_2 (hth : th = 2 ∨ th = 26) (H0 : cv_H s0 th h) (hw : WFt h) (k : ∀ s', RLc s' (arh h.1) h.2 h.2.length → cfr RLq s0 s' → R s') : ∀ (n : Nat) {s : ps_S} {x2 : Int32} {i : Nat}, x2.toInt = i → i ≤ h.2.length → RLc s (arh h.1) h.2 i → cfr RLq s0 s → pl_At n 83 2 [(0, .ref 1021), (1, .ref th), (2, .int x2)] [] s (ps_rV R)
  | 0, _, _, _, _, _, _, _ => pl_At_0
  | n + 1, s, x2, i, h2, hi, hR, F => by
    have h8 := H0.2.2.1
    have H := cv_H_cfr H0 F (fun q a b => by unfold RLq; omega)
    have esz := H.2.1
    refine pl_83_2 (pl_nk_i (fun _ => ⟨fun z => ?_, fun z => ?_⟩))
    · have z := xle z
      have e : i = h.2.length := by omega
      subst e
      exact k s hR F
    · have z := xlt z
      obtain ⟨⟨w, l⟩, hk⟩ : ∃ p, h.2[i]? = some p := ⟨_, List.getElem?_eq_getElem (by omega)⟩
      obtain ⟨y1, y2, W⟩ := H.2.2.2 i w l hk
      obtain ⟨hf, hl40, h60⟩ := hw.2.2 i w l hk
      have Kk := th_K hth (k := i) (by omega)
      have hr : ps_is (th + 8 + 2 * i) 5 = true := ps_is5 Kk.2.2.2.2.2.1
      have hws := wf_ws hf
      obtain ⟨n1, n2, n3, b', W', n4⟩ := rl_n_ws (b := true) (W := []) hws
      have hA := arh_k H.1.2.2.1 H.1.2.2.2.1
      have c0 : (0 : Int32).toInt = 0 := by decide
      have c6 : (6 : Int32).toInt = 6 := by decide
      refine fs_135 hth h2 (by omega) ?_
      refine fs_83_19 (th := th) (i := i) hr W (fun v4 e4 => ?_) n (j := 0) (Nat.le_refl _) rfl (Nat.zero_le _) (fun i hi => absurd hi (Nat.not_lt_zero _))
      cases n with
      | zero => exact pl_At_0
      | succ n =>
      refine pl_83_44 ?_
      refine fs_103 (r := 1030) (r1 := th + 8 + 2 * i) (l := l) rfl hr hth ⟨by omega, by omega⟩ (wf_ws hf) (Or.inl rfl) W H.1 (fun s1 Z F1 => ?_)
      have F1' : cfr RLq s s1 := cfr_mono F1 (fun q z => by unfold CSh at z; unfold RLq; omega)
      have W1 := cv_W_cfr W F1' (by unfold RLq; omega) (by unfold RLq; omega)
      have R1 : RLc s1 (arh h.1) h.2 i := fun k w2 l2 hk1 hk2 => by
        rw [(F1 1036 (by unfold CSh; omega)).2.2.2.1, (F1 1037 (by unfold CSh; omega)).2.2.2.1]
        exact hR k w2 l2 hk1 hk2
      have e41 : (v4 + 1).toInt = (rl_l l : Nat) := xj1 e4 (by omega)
      have put : ∀ (x6 : Int32), (rl_is (arh h.1) l → x6.toInt = rl_r (arh h.1) l) → (¬ rl_is (arh h.1) l → x6.toInt = -1) → pl_At n 83 2 [(0, .ref 1021), (1, .ref th), (2, .int (x2 + 1))] [] (ps_ua (ps_ua s1 1036 i (v4 + 1)) 1037 i x6) (ps_rV R) := fun x6 p1 p0 =>
        fs_83_2 hth H0 hw k n (xj1 h2 (by omega)) (by omega) (RLc_put R1 hk (fun z => ⟨e41, p1 z⟩) p0) (cfr_a (cfr_a (cfr_tr F F1') (Or.inr (Or.inl rfl))) (Or.inr (Or.inr rfl)))
      have no : ¬ rl_is (arh h.1) l → ∀ v2 : Int32, pl_At n 83 109 [(0, .ref 1021), (1, .ref th), (2, .int x2), (5, .int (v4 + 1)), (6, .int v2)] [] s1 (ps_rV R) := fun hn v2 => by
        cases n with
        | zero => exact pl_At_0
        | succ n =>
        refine pl_83_109 ?_
        refine fs_183 (a := i) h2 (show i < 8 from by omega) (by decide) ⟨fun _ => ?_, fun z => absurd rfl z⟩
        refine fs_183 (a := i) h2 (show i < 8 from by omega) (by decide) ?_
        exact (put (-1) (fun z => absurd z hn) (fun _ => by decide)).le (Nat.le_succ _)
      obtain ⟨c, hc⟩ : ∃ c, l[rl_n l]? = some c := ⟨_, List.getElem?_eq_getElem n2⟩
      refine fs_104o (r := 1030) rfl e41 (fun v2 q2 => ?_)
      refine fs_92c hr W1 e4 hc (fun v3 q3 => ⟨fun z => ?_, fun z => ?_⟩)
      · have z := xne z
        exact no (fun y => by have y1 := y.1; rw [hc] at y1; have := Option.some.inj y1; omega) v2
      · have z := xeq z
        have hc6 : c = 6 := by omega
        subst hc6
        rw [drop_c hc] at n4
        obtain ⟨ks, hks, hw2⟩ := ws_hd n4
        have hks2 : ks = [false, false] := by
          rcases kS_cases hks with z | z | z | z | z | z | z
          · omega
          · omega
          · omega
          · exact z.2.2
          · omega
          · omega
          · omega
        subst hks2
        have hlt := en_lt hA (k := 0) hw2 (by simp)
        rw [en_0, List.length_drop] at hlt
        obtain ⟨c2, hc2⟩ : ∃ c2, l[rl_l l]? = some c2 := ⟨_, List.getElem?_eq_getElem (by unfold rl_l; omega)⟩
        have hcl := (List.getElem?_eq_some_iff.mp hc2).1
        have hle := en_le hA (k := 1) hw2 (by simp)
        rw [List.length_drop] at hle
        have er : v2.toInt = (rl_r (arh h.1) l : Nat) := by
          rw [q2 (by omega), Z.1 (rl_l l) (Nat.zero_le _) hcl]
          rfl
        have hrle : rl_r (arh h.1) l ≤ l.length := by unfold rl_r rl_l; omega
        refine fs_92c hr W1 e41 hc2 (fun v4' q4 => ?_)
        refine fs_186 (fun y => ⟨fun w => absurd w (by decide), fun _ => ?_⟩) (fun y => ⟨fun _ => no (fun w => ?_) v2, fun w => absurd rfl w⟩)
        · refine fs_84 hr W1 e41 er hrle h60 (fun w => ⟨fun w2 => absurd w2 (by decide), fun _ => ?_⟩) (fun w => ⟨fun _ => no (fun w3 => w w3.2.2) v2, fun w3 => absurd rfl w3⟩)
          have his : rl_is (arh h.1) l := ⟨hc, ⟨c2, hc2, by omega, by omega⟩, w⟩
          refine fs_183 (a := i) h2 (show i < 8 from by omega) (by decide) ⟨fun w2 => absurd w2 (by decide), fun _ => ?_⟩
          refine fs_183 (a := i) h2 (show i < 8 from by omega) (by decide) ?_
          exact put v2 (fun _ => er) (fun z => absurd his z)
        · obtain ⟨-, ⟨c3, hc3, g1, g2⟩, -⟩ := w
          rw [hc2] at hc3
          cases hc3
          have hk2 := hw2
          have hd2 : l.drop (rl_n l + 1) = c2 :: l.drop (rl_n l + 1 + 1) := drop_c hc2
          rw [hd2] at hk2
          obtain ⟨ks2, hks2, -⟩ := ws_hd hk2
          have g24 := H.1.2.2.2.1
          rcases kS_num hks2 with ⟨a, e⟩ | ⟨a, a2, e⟩ | ⟨a, e⟩ | ⟨a, e⟩ | ⟨a, a2, e⟩ | ⟨a, a2, e⟩ | ⟨a, a2, e⟩
          · omega
          · omega
          · omega
          · omega
          · have a2 : c2 < 10 + h.1.1.length := a2
            have := H.1.2.2.1
            omega
          · have a2 : c2 < 20 + h.1.2.length := a2
            omega
          · omega
theorem fs_83 {n : Nat} (hth : th = 2 ∨ th = 26) (H0 : cv_H s0 th h) (hw : WFt h) (k : ∀ s', RLc s' (arh h.1) h.2 h.2.length → cfr RLq s0 s' → R s') : pl_Cl n 83 [.ref 1021, .ref th] s0 (ps_rV R) := by
  cases n with
  | zero => exact pl_At_0
  | succ n =>
  show pl_At (n + 1) 83 0 [(0, .ref 1021), (1, .ref th)] [] s0 (ps_rV R)
  exact pl_83_0 (fs_83_2 hth H0 hw k n (i := 0) rfl (Nat.zero_le _) (fun k w l hk => absurd hk (Nat.not_lt_zero _)) cfr_refl)
end R83
/-- bits of those of the first k that are so -/
noncomputable def rl_b (P : Nat → Prop) : Nat → Int32
  | 0 => 0
  | k + 1 => @ite Int32 (P k) (Classical.propDecidable _) (rl_b P k ||| ((1 : Int32) <<< (nI k &&& 31))) (rl_b P k)
theorem rl_b_1 {P : Nat → Prop} {k : Nat} (h : P k) : rl_b P (k + 1) = rl_b P k ||| ((1 : Int32) <<< (nI k &&& 31)) := by
  show @ite Int32 (P k) (Classical.propDecidable _) _ _ = _
  rw [if_pos h]
theorem rl_b_0 {P : Nat → Prop} {k : Nat} (h : ¬ P k) : rl_b P (k + 1) = rl_b P k := by
  show @ite Int32 (P k) (Classical.propDecidable _) _ _ = _
  rw [if_neg h]
def rl_P (h : tx_H) (k : Nat) : Prop := ∃ w l, h.2[k]? = some (w, l) ∧ rl_is (arh h.1) l
def rl_A (h : tx_H) (v : Int32) : Prop := v = rl_b (rl_P h) h.2.length
theorem rl_A_eq {h : tx_H} {v v' : Int32} (a : rl_A h v) (b : rl_A h v') : v = v' := a.trans b.symm
theorem fs_82_9 {th : Nat} {h : tx_H} {s : ps_S} (hth : th = 2 ∨ th = 26) (H : cv_H s th h) (hR : RLc s (arh h.1) h.2 h.2.length) : ∀ (n : Nat) {x2 x3 : Int32} {i : Nat}, x3.toInt = i → i ≤ h.2.length → x2 = rl_b (rl_P h) i → pl_At n 82 9 [(0, .ref 1021), (1, .ref th), (2, .int x2), (3, .int x3)] [] s (ps_rI (fun v _ => rl_A h v))
  | 0, _, _, _, _, _, _ => pl_At_0
  | n + 1, x2, x3, i, h3, hi, h2 => by
    have h8 := H.2.2.1
    have esz := H.2.1
    refine pl_82_9 (pl_nk_i (fun _ => ⟨fun z => ?_, fun z => ?_⟩))
    · have z := xle z
      have e : i = h.2.length := by omega
      subst e
      exact h2
    · have z := xlt z
      obtain ⟨⟨w, l⟩, hk⟩ : ∃ p, h.2[i]? = some p := ⟨_, List.getElem?_eq_getElem (by omega)⟩
      obtain ⟨r1, r0⟩ := hR i w l (by omega) hk
      refine fs_182 (a := i) h3 (show i < 8 from by omega) (by decide) ⟨fun y => ?_, fun y => ?_⟩
      · have y := xeq y
        have cm : (-1 : Int32).toInt = -1 := by decide
        refine fs_82_9 hth H hR n (xj1 h3 (by omega)) (by omega) ?_
        rw [rl_b_0 (fun q => ?_), h2]
        obtain ⟨w2, l2, hk2, q⟩ := q
        rw [hk] at hk2
        cases hk2
        have := (r1 q).2
        omega
      · have y := xne y
        have cm : (-1 : Int32).toInt = -1 := by decide
        refine fs_82_9 hth H hR n (xj1 h3 (by omega)) (by omega) ?_
        have hP : rl_P h i := by
          by_cases q : rl_is (arh h.1) l
          · exact ⟨w, l, hk, q⟩
          · exact absurd (r0 q) (by omega)
        rw [rl_b_1 hP, h2, xnI h3]
theorem fs_171 {n : Nat} {s : ps_S} {h : tx_H} {l : List Nat} (c : TRc s h l) (hw : WFt h) : pl_Cl n 171 [.ref 0] s (ps_rI (fun v _ => rl_A h v)) := by
  cases n with
  | zero => exact pl_At_0
  | succ n =>
  show pl_At (n + 1) 171 0 [(0, .ref 0)] [] s _
  have hth : ps_r s 0 2 = 2 ∨ ps_r s 0 2 = 26 := by have := c.2.1; omega
  refine pl_171_0 ?_
  cases n with
  | zero => exact pl_At_0
  | succ n =>
  show pl_At (n + 1) 82 0 [(0, .ref 1021), (1, .ref (ps_r s 0 2))] [] s _
  refine pl_82_0 ?_
  refine fs_83 hth c.1 hw (fun s1 hR F => ?_)
  have h8 := c.1.2.2.1
  exact pl_At.mono (fs_82_9 hth (cv_H_cfr c.1 F (fun q a b => by unfold RLq; omega)) hR n (i := 0) rfl (Nat.zero_le _) rfl) (fun o s2 z => rI_mono z (fun v y => y))
/-! the reference -/
theorem fm_283 {n b k : Nat} {x0 x1 : Int32} {s : ps_S} {R : Int32 → ps_S → Prop} (h0 : x0.toInt = b) (hb : b < 2) (h1 : x1.toInt = k) (hk : k < 8) (kk : ∀ v : Int32, v.toInt = (21812 + 41 * (8 * b + k) : Nat) → R v s) : pl_Cl n 283 [.int x0, .int x1] s (ps_rI R) := by
  cases n with
  | zero => exact pl_At_0
  | succ n =>
  show pl_At (n + 1) 283 0 [(0, .int x0), (1, .int x1)] [] s (ps_rI R)
  refine pl_283_0 (kk _ ?_)
  have c8 : (8 : Int32).toInt = 8 := by decide
  have c41 : (41 : Int32).toInt = 41 := by decide
  have cb : (21812 : Int32).toInt = 21812 := by decide
  have e1 : ((8 : Int32) * x0).toInt = 8 * b := by rw [xIm (by rw [c8, h0]; omega) (by rw [c8, h0]; omega), c8, h0]
  have e2 : (((8 : Int32) * x0) + x1).toInt = 8 * b + k := by rw [xIa (by omega) (by omega), e1, h1]
  have e3 : ((41 : Int32) * (((8 : Int32) * x0) + x1)).toInt = 41 * (8 * b + k) := by rw [xIm (by rw [c41, e2]; omega) (by rw [c41, e2]; omega), c41, e2]
  rw [xIa (by omega) (by omega), e3, cb]
  omega
section R284
variable {to : Nat} {ar : Nat → Nat} {l : List Nat} {x2 : Int32} {s : ps_S} {R : Int32 → ps_S → Prop}
theorem fm_284_126 {n0 i c : Nat} {x4 : Int32} (h2 : x2.toInt = to) (hto : to < 27400) (W : mv_W s to l) (h63 : (ps_i s 1131 63).toInt = (rl_l l : Nat)) (h64 : (ps_i s 1131 64).toInt = (rl_r ar l : Nat)) (hrt : rl_r ar l ≤ l.length) (h4 : x4.toInt = i) (hc : l[i]? = some c) (k3 : (40 ≤ c → c ∈ (l.drop (rl_l l)).take (rl_r ar l - rl_l l)) → pl_At n0 284 91 [(0, .ref 1131), (2, .int x2), (4, .int (x4 + 1))] [] s (ps_rI R)) (k0 : ¬ (40 ≤ c → c ∈ (l.drop (rl_l l)).take (rl_r ar l - rl_l l)) → R 0 s) : ∀ (n : Nat) {x5 x6 : Int32} {j : Nat}, n ≤ n0 → x6.toInt = j → rl_l l ≤ j → (x5 ≠ 0 → 40 ≤ c → c ∈ (l.drop (rl_l l)).take (rl_r ar l - rl_l l)) → (x5 = 0 → 40 ≤ c ∧ ∀ q, rl_l l ≤ q → q < j → l[q]? ≠ some c) → pl_At n 284 126 [(0, .ref 1131), (2, .int x2), (4, .int x4), (5, .int x5), (6, .int x6)] [] s (ps_rI R)
  | 0, _, _, _, _, _, _, _, _ => pl_At_0
  | n + 1, x5, x6, j, hn, h6, hj, y1, y0 => by
    have h40 := W.2.1
    have e73 : (x5 = 0 → rl_r ar l ≤ j) → pl_At n 284 170 [(0, .ref 1131), (2, .int x2), (4, .int x4), (5, .int x5)] [] s (ps_rI R) := fun hz => by
      cases n with
      | zero => exact pl_At_0
      | succ n =>
      refine pl_284_170 ⟨fun z => (k3 (y1 z)).le (by omega), fun z => k0 (fun w => ?_)⟩
      obtain ⟨g1, g2⟩ := y0 z
      obtain ⟨q, q1, q2, q3⟩ := sl_mem.mp (w g1)
      exact g2 q q1 (by have := hz z; omega) q3
    refine pl_284_126 ⟨fun h => ?_, fun h => ⟨fun h5 => ?_, fun h5 => ?_⟩⟩
    · have h := xle h
      exact e73 (fun _ => by omega)
    · exact e73 (fun z => absurd z h5)
    · have h := xlt h
      obtain ⟨c2, hc2⟩ : ∃ c2, l[j]? = some c2 := ⟨_, List.getElem?_eq_getElem (by omega)⟩
      obtain ⟨g1, g2⟩ := y0 h5
      refine fm_220c h2 hto W h6 hc2 (fun v q => ?_)
      refine fm_220c h2 hto W h4 hc (fun v' q' => ⟨fun z => ?_, fun z => ?_⟩)
      · have z := xne z
        refine fm_284_126 h2 hto W h63 h64 hrt h4 hc k3 k0 n (by omega) (xj1 h6 (by omega)) (by omega) (fun w => absurd rfl w) (fun _ => ⟨g1, fun q q1 q2 q3 => ?_⟩)
        rcases Nat.lt_or_ge q j with y | y
        · exact g2 q q1 y q3
        · rw [show q = j from by omega, hc2] at q3
          cases q3
          omega
      · have z := xeq z
        exact fm_284_126 h2 hto W h63 h64 hrt h4 hc k3 k0 n (by omega) (xj1 h6 (by omega)) (by omega) (fun _ _ => sl_mem.mpr ⟨j, hj, by omega, by rw [hc2, show c2 = c from by omega]⟩) (fun w => absurd w (by decide))
theorem fm_284_91 (h2 : x2.toInt = to) (hto : to < 27400) (W : mv_W s to l) (h63 : (ps_i s 1131 63).toInt = (rl_l l : Nat)) (h64 : (ps_i s 1131 64).toInt = (rl_r ar l : Nat)) (hrt : rl_r ar l ≤ l.length) (k1 : rl_h ar l → R 1 s) (k0 : ¬ rl_h ar l → R 0 s) : ∀ (n : Nat) {x4 : Int32} {i : Nat}, x4.toInt = i → rl_r ar l ≤ i → (∀ q c, rl_r ar l ≤ q → q < i → l[q]? = some c → 40 ≤ c → c ∈ (l.drop (rl_l l)).take (rl_r ar l - rl_l l)) → pl_At n 284 91 [(0, .ref 1131), (2, .int x2), (4, .int x4)] [] s (ps_rI R)
  | 0, _, _, _, _, _ => pl_At_0
  | n + 1, x4, i, h4, hi, hq => by
    have h40 := W.2.1
    have c40 : (40 : Int32).toInt = 40 := by decide
    refine pl_284_91 ?_
    refine fm_219c h2 W (fun v1 q1 => ⟨fun h => ?_, fun h => ?_⟩)
    · have h := xle h
      refine k1 (fun x hx hx40 => ?_)
      obtain ⟨k, hk⟩ := List.mem_iff_getElem?.mp hx
      rw [List.getElem?_drop] at hk
      have hkl := (List.getElem?_eq_some_iff.mp hk).1
      exact hq (rl_r ar l + k) x (by omega) (by omega) hk hx40
    · have h := xlt h
      obtain ⟨c, hc⟩ : ∃ c, l[i]? = some c := ⟨_, List.getElem?_eq_getElem (by omega)⟩
      have g3 : (40 ≤ c → c ∈ (l.drop (rl_l l)).take (rl_r ar l - rl_l l)) → pl_At n 284 91 [(0, .ref 1131), (2, .int x2), (4, .int (x4 + 1))] [] s (ps_rI R) := fun w => by
        refine fm_284_91 h2 hto W h63 h64 hrt k1 k0 n (xj1 h4 (by omega)) (by omega) (fun q c2 q1 q2 q3 q4 => ?_)
        rcases Nat.lt_or_ge q i with y | y
        · exact hq q c2 q1 y q3 q4
        · rw [show q = i from by omega, hc] at q3
          cases q3
          exact w q4
      have g0 : ¬ (40 ≤ c → c ∈ (l.drop (rl_l l)).take (rl_r ar l - rl_l l)) → R 0 s := fun w => k0 (fun y => w (fun z => y c (List.mem_iff_getElem?.mpr ⟨i - rl_r ar l, by rw [List.getElem?_drop, show rl_r ar l + (i - rl_r ar l) = i from by omega]; exact hc⟩) z))
      refine fm_220c h2 hto W h4 hc (fun v q => ⟨fun z => ?_, fun z => ?_⟩)
      · have z := xle z
        exact fm_284_126 h2 hto W h63 h64 hrt h4 hc g3 g0 n (Nat.le_refl _) h63 (Nat.le_refl _) (fun w => absurd rfl w) (fun _ => ⟨by omega, fun q a b => absurd a (by omega)⟩)
      · have z := xlt z
        exact fm_284_126 h2 hto W h63 h64 hrt h4 hc g3 g0 n (Nat.le_refl _) h63 (Nat.le_refl _) (fun _ w => absurd w (by omega)) (fun w => absurd w (by decide))
end R284
theorem fm_284 {n b i : Nat} {h : tx_H} {w l : List Nat} {x1 : Int32} {s : ps_S} {R : Int32 → ps_S → Prop} (hb : b < 2) (h21 : (ps_i s 1131 21).toInt = b) (H : mv_H s b h) (hw : WFt h) (hi : h.2[i]? = some (w, l)) (hx : x1.toInt = i) (k1 : ∀ s', rl_is (arh h.1) l ∧ (ps_i s' 1131 63).toInt = (rl_l l : Nat) ∧ (ps_i s' 1131 64).toInt = (rl_r (arh h.1) l : Nat) ∧ kq [] [63, 64] s s' → R 1 s') (k0 : ∀ s', ¬ rl_is (arh h.1) l ∧ kq [] [63, 64] s s' → R 0 s') : pl_Cl n 284 [.ref 1131, .int x1] s (ps_rI R) := by
  cases n with
  | zero => exact pl_At_0
  | succ n =>
  show pl_At (n + 1) 284 0 [(0, .ref 1131), (1, .int x1)] [] s (ps_rI R)
  have hil := (List.getElem?_eq_some_iff.mp hi).1
  have h8 := H.2.2.1
  obtain ⟨y1, y2, W⟩ := H.2.2.2 i w l hi
  obtain ⟨hf, hl40, h60⟩ := hw.2.2 i w l hi
  obtain ⟨n1, n2, n3, b', W', n4⟩ := rl_n_ws (b := true) (W := []) (wf_ws hf)
  have hA := arh_k H.1.2.2.1 H.1.2.2.2.1
  have c4 : (4 : Int32).toInt = 4 := by decide
  have c6 : (6 : Int32).toInt = 6 := by decide
  have c20 : (20 : Int32).toInt = 20 := by decide
  have c40 : (40 : Int32).toInt = 40 := by decide
  refine pl_284_0 ?_
  refine fm_283 h21 hb hx (by omega) (fun x2 h2 => ?_)
  have hto : 21812 + 41 * (8 * b + i) < 27400 := by omega
  have key : ∀ (n : Nat) {x3 : Int32} {j : Nat}, x3.toInt = j → j ≤ rl_n l → pl_At n 284 11 [(0, .ref 1131), (2, .int x2), (3, .int x3)] [] s (ps_rI R) := by
    intro n
    induction n with
    | zero => exact fun _ _ => pl_At_0
    | succ n ih =>
      intro x3 j h3 hj
      obtain ⟨c, hc⟩ : ∃ c, l[j]? = some c := ⟨_, List.getElem?_eq_getElem (by omega)⟩
      refine pl_284_11 ?_
      refine fm_220c h2 hto W h3 hc (fun v q => ⟨fun z => ?_, fun z => ?_⟩)
      · have z := xne z
        have ej : j = rl_n l := by
          rcases Nat.lt_or_ge j (rl_n l) with y | y
          · have := n1 j y
            rw [hc] at this
            have := Option.some.inj this
            omega
          · omega
        subst ej
        refine fm_220c h2 hto W h3 hc (fun v2 q2 => ⟨fun z2 => ?_, fun z2 => ?_⟩)
        · have z2 := xne z2
          exact k0 _ ⟨fun y => by have y1 := y.1; rw [hc] at y1; have := Option.some.inj y1; omega, kq_refl⟩
        · have z2 := xeq z2
          have hc6 : c = 6 := by omega
          subst hc6
          rw [drop_c hc] at n4
          obtain ⟨ks, hks, hw2⟩ := ws_hd n4
          have hks2 : ks = [false, false] := by
            rcases kS_cases hks with z | z | z | z | z | z | z
            · omega
            · omega
            · omega
            · exact z.2.2
            · omega
            · omega
            · omega
          subst hks2
          have hlt := en_lt hA (k := 0) hw2 (by simp)
          rw [en_0, List.length_drop] at hlt
          obtain ⟨c2, hc2⟩ : ∃ c2, l[rl_l l]? = some c2 := ⟨_, List.getElem?_eq_getElem (by unfold rl_l; omega)⟩
          have hle := en_le hA (k := 1) hw2 (by simp)
          rw [List.length_drop] at hle
          have e31 : (x3 + 1).toInt = (rl_l l : Nat) := xj1 h3 (by omega)
          have hrle : rl_r (arh h.1) l ≤ l.length := by unfold rl_r rl_l; omega
          refine fm_220c h2 hto W e31 hc2 (fun v3 q3 => ⟨fun z3 => ?_, fun z3 => ?_⟩)
          · have z3 := xlt z3
            refine k0 _ ⟨fun y => ?_, kq_refl⟩
            obtain ⟨-, ⟨c3, hc3, g1, g2⟩, -⟩ := y
            rw [hc2] at hc3
            cases hc3
            omega
          · have z3 := xle z3
            refine fm_220c h2 hto W e31 hc2 (fun v4 q4 => ⟨fun z4 => ?_, fun z4 => ?_⟩)
            · have z4 := xlt z4
              have K : kq [] [63, 64] s (ps_ui s 1131 63 (x3 + 1)) := kqi kq_refl rfl
              have W2 : mv_W (ps_ui s 1131 63 (x3 + 1)) (21812 + 41 * (8 * b + i)) l := W
              refine fm_221 hb (by rw [kq_i K 21 rfl]; exact h21) (mv_E_kq H.1 K (by decide)) h2 hto W2 e31 hw2 (fun v5 q5 => ?_)
              have q5' : v5.toInt = (rl_r (arh h.1) l : Nat) := q5
              have K2 : kq [] [63, 64] s (ps_ui (ps_ui s 1131 63 (x3 + 1)) 1131 64 v5) := kqi K rfl
              exact fm_284_91 (s := ps_ui (ps_ui s 1131 63 (x3 + 1)) 1131 64 v5) h2 hto W e31 q5' hrle (fun y => k1 _ ⟨⟨hc, ⟨c2, hc2, by omega, by omega⟩, y⟩, e31, q5', K2⟩) (fun y => k0 _ ⟨fun y2 => y y2.2.2, K2⟩) n q5' (Nat.le_refl _) (fun q c a b => absurd a (by omega))
            · have z4 := xle z4
              refine k0 _ ⟨fun y => ?_, kq_refl⟩
              obtain ⟨-, ⟨c3, hc3, g1, g2⟩, -⟩ := y
              rw [hc2] at hc3
              cases hc3
              omega
      · have z := xeq z
        have hj2 : j < rl_n l := by
          rcases Nat.lt_or_ge j (rl_n l) with y | y
          · exact y
          · rw [show j = rl_n l from by omega] at hc
            rw [hc] at n3
            exact absurd (by rw [show c = 4 from by omega]) n3
        exact ih (xj1 h3 (by omega)) (by omega)
  exact key n (j := 0) rfl (Nat.zero_le _)
theorem or_zero32 (x : Int32) : x ||| 0 = x := by
  apply Int32.toBitVec_inj.mp
  rw [Int32.toBitVec_or]
  simp
theorem fm_285_4 {b : Nat} {h : tx_H} {s0 : ps_S} (hb : b < 2) (h21 : (ps_i s0 1131 21).toInt = b) (H0 : mv_H s0 b h) (hw : WFt h) : ∀ (n : Nat) {s : ps_S} {x1 x2 : Int32} {i : Nat}, kq [] [63, 64] s0 s → x2.toInt = i → i ≤ h.2.length → x1 = rl_b (rl_P h) i → pl_At n 285 4 [(0, .ref 1131), (1, .int x1), (2, .int x2)] [] s (ps_rI (fun v _ => rl_A h v))
  | 0, _, _, _, _, _, _, _, _ => pl_At_0
  | n + 1, s, x1, x2, i, K, h2, hi, h1 => by
    have h21' : (ps_i s 1131 21).toInt = b := by rw [kq_i K 21 rfl]; exact h21
    have H := mv_H_kq H0 K (by decide)
    have h8 := H.2.2.1
    have esz := H.2.1
    refine pl_285_4 ?_
    rw [xtn h21']
    intro bb
    refine ⟨fun z => ?_, fun z => ?_⟩
    · have z := xle z
      have e : i = h.2.length := by omega
      subst e
      exact h1
    · have z := xlt z
      obtain ⟨⟨w, l⟩, hk⟩ : ∃ p, h.2[i]? = some p := ⟨_, List.getElem?_eq_getElem (by omega)⟩
      refine fm_284 hb h21' H hw hk h2 (fun s1 q => ⟨fun y => absurd y (by decide), fun _ => ?_⟩) (fun s1 q => ⟨fun _ => ?_, fun y => absurd rfl y⟩)
      · refine fm_285_4 hb h21 H0 hw n (kqt K q.2.2.2 (by decide) (by decide)) (xj1 h2 (by omega)) (by omega) ?_
        rw [rl_b_1 ⟨w, l, hk, q.1⟩, h1, xnI h2]
      · refine fm_285_4 hb h21 H0 hw n (kqt K q.2 (by decide) (by decide)) (xj1 h2 (by omega)) (by omega) ?_
        rw [or_zero32, h1, rl_b_0 (fun y => ?_)]
        obtain ⟨w2, l2, hk2, y⟩ := y
        rw [hk] at hk2
        cases hk2
        exact q.1 y
theorem fm_285 {n : Nat} {s : ps_S} {h : tx_H} {l : List Nat} (m : TRm s h l) (hw : WFt h) : pl_Cl n 285 [.ref 1131] s (ps_rI (fun v _ => rl_A h v)) := by
  cases n with
  | zero => exact pl_At_0
  | succ n =>
  show pl_At (n + 1) 285 0 [(0, .ref 1131)] [] s _
  obtain ⟨b, m1, m2, m3, m4⟩ := m
  refine pl_285_0 ?_
  exact fm_285_4 m1 m2 m3 hw n (i := 0) kq_refl rfl (Nat.zero_le _) rfl
end
section
set_option maxRecDepth 100000
/-! bound pieces stand below as many alls and somes as they count: what the reader of texts makes -/
def bc (ar : Nat → Nat) : List (Nat × Nat) → List Nat → Prop
  | [], l => l = []
  | _ :: _, [] => False
  | d :: S, c :: l => (d.1 ≤ 12 ∧ (40 ≤ c → c < 60 → c - 40 < d.2)) ∧ bc ar (List.replicate (ar c) (d.1 + 1, d.2 + qb c) ++ S) l
/-- a theory's pieces -/
def pv (g : tx_g) (c : Nat) : Prop := c ≤ 6 ∨ (10 ≤ c ∧ c < 10 + g.1.length) ∨ (20 ≤ c ∧ c < 20 + g.2.length) ∨ 40 ≤ c
theorem bc_ar {ar ar' : Nat → Nat} : ∀ {l : List Nat} {S : List (Nat × Nat)}, bc ar S l → (∀ c, c ∈ l → ar' c = ar c) → bc ar' S l
  | [], [], _, _ => rfl
  | [], _ :: _, h, _ => h.elim
  | c :: l, [], h, _ => by cases h
  | c :: l, k :: S, h, e => by
    refine ⟨h.1, ?_⟩
    rw [e c List.mem_cons_self]
    exact bc_ar h.2 (fun x hx => e x (List.mem_cons_of_mem _ hx))
theorem bc_1 {ar : Nat → Nat} {d : Nat × Nat} {c : Nat} {S : List (Nat × Nat)} {l : List Nat} (hd : d.1 ≤ 12) (hc : 40 ≤ c → c < 60 → c - 40 < d.2) (h : bc ar (List.replicate (ar c) (d.1 + 1, d.2 + qb c) ++ S) l) : bc ar (d :: S) (c :: l) := ⟨⟨hd, hc⟩, h⟩
/-- the levels of the parts that the frames want -/
def tx_sk : List tx_F → List (Nat × Nat)
  | [] => []
  | (k, _, nt, w) :: S => List.replicate (k + (if nt = true then 1 else 0)) (S.length + 1, (if w = none then 0 else 1) + (tx_bs S).length) ++ tx_sk S
theorem tx_bs_n {k : Nat} {b nt : Bool} {S : List tx_F} : tx_bs ((k, b, nt, none) :: S) = tx_bs S := rfl
theorem tx_bs_w {k : Nat} {b nt : Bool} {w : List Nat} {S : List tx_F} : tx_bs ((k, b, nt, some w) :: S) = w :: tx_bs S := rfl
theorem tx_bs_l {k : Nat} {b nt : Bool} {w : Option (List Nat)} {S : List tx_F} : (tx_bs ((k, b, nt, w) :: S)).length = (if w = none then 0 else 1) + (tx_bs S).length := by
  cases w with
  | none => rw [tx_bs_n, if_pos rfl, Nat.zero_add]
  | some w => rw [tx_bs_w, List.length_cons, if_neg (fun z => by cases z), Nat.add_comm]
/-- what is wanted at a place -/
def tx_sc : tx_C → List (Nat × Nat)
  | (0, S, _) => (S.length, (tx_bs S).length) :: tx_sk S
  | (1, S, _) => (S.length, (tx_bs S).length) :: tx_sk S
  | (2, S, _) => tx_sk S
  | _ => []
/-- the row so far makes the whole, once the rest comes; its pieces are the theory's -/
def tx_nt : List tx_F → Prop
  | [] => True
  | (_, _, nt, _) :: S => (nt = true → S.length + 1 ≤ 12) ∧ tx_nt S
def tx_Q (g : tx_g) (c : tx_C) : Prop := c.1 = 4 ∨ ((∀ T, bc (arh g) (tx_sc c) T → bc (arh g) [(0, 0)] (c.2.2.2.1 ++ T)) ∧ (∀ x, x ∈ c.2.2.2.1 → pv g x) ∧ tx_nt c.2.1)
theorem tx_at_lt {L : List (List Nat)} {w : List Nat} {k : Nat} (h : tx_at L w = some k) : k < L.length := by
  have := tx_ix_some h
  omega
theorem tx_ra_ar {g : tx_g} {b : Bool} {r : Nat} (h1 : g.1.length ≤ 6) (h : r < g.1.length) : arh g (10 + r) = tx_ra (g, b) r := by
  unfold arh tx_ra
  rw [if_neg (by omega), if_neg (by omega), if_neg (by omega), if_neg (by omega), if_neg (by omega), if_pos (by omega), show 10 + r - 10 = r from by omega]
theorem tx_fa_ar {g : tx_g} {b : Bool} {r : Nat} (h1 : g.2.length ≤ 4) (h : r < g.2.length) : arh g (20 + r) = tx_fa (g, b) r := by
  unfold arh tx_fa
  rw [if_neg (by omega), if_neg (by omega), if_neg (by omega), if_neg (by omega), if_neg (by omega), if_neg (by omega), if_pos (by omega), show 20 + r - 20 = r from by omega]
theorem tx_Rl {g : tx_g} {b : Bool} : (tx_R (g, b)).length = g.1.length := by
  unfold tx_R
  rw [List.length_map]
theorem tx_Gl {g : tx_g} {b : Bool} : (tx_G (g, b)).length = g.2.length := by
  unfold tx_G
  rw [List.length_map]
theorem qb_0 {c : Nat} (h : ¬ (c = 4 ∨ c = 5)) : qb c = 0 := by
  unfold qb
  rw [if_neg h]
theorem qb_1 {c : Nat} (h : c = 4 ∨ c = 5) : qb c = 1 := by
  unfold qb
  rw [if_pos h]
theorem tx_Q_add {g : tx_g} {l : List Nat} {S S' : List (Nat × Nat)} {c : Nat} {d : Nat × Nat} (h : ∀ T, bc (arh g) (d :: S) T → bc (arh g) [(0, 0)] (l ++ T)) (hd : d.1 ≤ 12) (hc : 40 ≤ c → c < 60 → c - 40 < d.2) (hS : S' = List.replicate (arh g c) (d.1 + 1, d.2 + qb c) ++ S) : ∀ T, bc (arh g) S' T → bc (arh g) [(0, 0)] ((l ++ [c]) ++ T) := fun T hT => by
  rw [List.append_assoc]
  exact h _ (bc_1 hd hc (by rw [← hS]; exact hT))
theorem pv_add {g : tx_g} {l : List Nat} {c : Nat} (h : ∀ x, x ∈ l → pv g x) (hc : pv g c) : ∀ x, x ∈ l ++ [c] → pv g x := fun x hx => by
  rcases List.mem_append.mp hx with hx | hx
  · exact h x hx
  · rw [List.mem_singleton] at hx
    rw [hx]
    exact hc
theorem tx_Q_bt {T : Nat → Nat} {n : Nat} {g : tx_g} {b : Bool} {S : List tx_F} {p : Nat} {l : List Nat} {fr : List (List Nat)} (h2 : g.2.length ≤ 4) (hq : tx_Q g (0, S, p, l, fr, 0)) : tx_Q g (tx_bt T n (g, b) S p l fr) := by
  rcases hq with hq | ⟨q1, q2, q3⟩
  · cases hq
  have q1 : ∀ T, bc (arh g) ((S.length, (tx_bs S).length) :: tx_sk S) T → bc (arh g) [(0, 0)] (l ++ T) := q1
  have q3 : tx_nt S := q3
  have q2 : ∀ x, x ∈ l → pv g x := q2
  unfold tx_bt
  dsimp only
  split
  · next hif =>
    split
    · next gg hg =>
      have hlt := tx_at_lt hg
      rw [tx_Gl] at hlt
      refine Or.inr ⟨tx_Q_add q1 hif.2.2.1 (fun a c => by omega) ?_, pv_add q2 (Or.inr (Or.inr (Or.inl ⟨by omega, by omega⟩))), (fun z => by cases z), q3⟩
      show List.replicate (tx_fa (g, b) gg + (if false = true then 1 else 0)) (S.length + 1, (if (none : Option (List Nat)) = none then 0 else 1) + (tx_bs S).length) ++ tx_sk S = _
      rw [tx_fa_ar (b := b) h2 hlt, qb_0 (by omega), if_neg (by decide), if_pos rfl, Nat.add_zero, Nat.zero_add, Nat.add_zero] <;> rfl
    · split
      · next c fr2 hm =>
        have hc : (40 ≤ c ∧ c < 60 → c - 40 < (tx_bs S).length) ∧ 40 ≤ c := by
          unfold tx_nm at hm
          split at hm
          · next i hi =>
            have := tx_at_lt hi
            cases hm
            omega
          · split at hm
            · cases hm
            · split at hm
              · cases hm; omega
              · split at hm
                · cases hm; omega
                · cases hm
        refine Or.inr ⟨tx_Q_add q1 hif.2.2.1 (fun a c => hc.1 ⟨a, c⟩) ?_, pv_add q2 (Or.inr (Or.inr (Or.inr hc.2))), (fun z => by cases z), q3⟩
        show List.replicate (0 + (if false = true then 1 else 0)) _ ++ tx_sk S = _
        rw [(arh_lo (g := g)).2.2.2.2 hc.2, if_neg (by decide)]
        rfl
      · exact Or.inl rfl
  · exact Or.inl rfl
theorem tx_Q_bf {T : Nat → Nat} {n : Nat} {g : tx_g} {b : Bool} {S : List tx_F} {p : Nat} {l : List Nat} {fr : List (List Nat)} (h1 : g.1.length ≤ 6) (hq : tx_Q g (1, S, p, l, fr, 0)) : tx_Q g (tx_bf T n (g, b) S p l fr) := by
  rcases hq with hq | ⟨q1, q2, q3⟩
  · cases hq
  have q1 : ∀ T, bc (arh g) ((S.length, (tx_bs S).length) :: tx_sk S) T → bc (arh g) [(0, 0)] (l ++ T) := q1
  have q3 : tx_nt S := q3
  have q2 : ∀ x, x ∈ l → pv g x := q2
  unfold tx_bf
  dsimp only
  split
  · split
    · next hif =>
      refine Or.inr ⟨tx_Q_add q1 (by show S.length ≤ 12; omega) (fun a c => by omega) ?_, pv_add q2 (Or.inl (by decide)), fun _ => hif.1, q3⟩
      show List.replicate (1 + (if true = true then 1 else 0)) (S.length + 1, (if (none : Option (List Nat)) = none then 0 else 1) + (tx_bs S).length) ++ tx_sk S = _
      rw [(arh_lo (g := g) (c := 3)).2.1 (by decide) (by decide), qb_0 (by omega), if_pos rfl, if_pos rfl, Nat.zero_add, Nat.add_zero] <;> rfl
    · exact Or.inl rfl
  · split
    · exact Or.inl rfl
    · next c hc =>
      have hcc : (c ≤ 6 ∨ ∃ r, c = 10 + r ∧ r < g.1.length) := by
        unfold tx_pc at hc
        split at hc
        · split at hc
          · cases hc; exact Or.inl (by assumption)
          · cases hc
        · split at hc
          · split at hc
            · next r hr =>
              have := tx_at_lt hr
              rw [tx_Rl] at this
              cases hc
              exact Or.inr ⟨r, rfl, this⟩
            · cases hc
          · cases hc
      have hpv : pv g c := by
        rcases hcc with z | ⟨r, rfl, z⟩
        · exact Or.inl z
        · exact Or.inr (Or.inl ⟨by omega, by omega⟩)
      have hb : 40 ≤ c → c < 60 → c - 40 < (tx_bs S).length := fun a _ => by
        rcases hcc with z | ⟨r, rfl, z⟩ <;> omega
      split
      · next hif =>
        split
        · next h45 =>
          split
          · refine Or.inr ⟨tx_Q_add q1 hif.1 hb ?_, pv_add q2 hpv, (fun z => by cases z), q3⟩
            show List.replicate (1 + (if false = true then 1 else 0)) (S.length + 1, (if (some _ : Option (List Nat)) = none then 0 else 1) + (tx_bs S).length) ++ tx_sk S = _
            rw [(arh_lo (g := g) (c := c)).2.2.1 h45, qb_1 h45, if_neg (by decide), if_neg (fun z => by cases z), Nat.add_zero, Nat.add_comm 1] <;> rfl
          · exact Or.inl rfl
        · next h45 =>
          refine Or.inr ⟨tx_Q_add q1 hif.1 hb ?_, pv_add q2 hpv, (fun z => by cases z), q3⟩
          show List.replicate (tx_ar (g, b) c + (if false = true then 1 else 0)) (S.length + 1, (if (none : Option (List Nat)) = none then 0 else 1) + (tx_bs S).length) ++ tx_sk S = _
          have e : arh g c = tx_ar (g, b) c := by
            rcases hcc with z | ⟨r, rfl, z⟩
            · unfold arh tx_ar
              by_cases c0 : c = 0
              · rw [if_pos c0, if_pos c0]
              rw [if_neg c0, if_neg c0]
              by_cases c4 : c < 4
              · rw [if_pos c4, if_pos c4]
              have c6 : c = 6 := by omega
              subst c6
              rfl
            · rw [tx_ra_ar (b := b) h1 z]
              unfold tx_ar
              rw [if_neg (by omega), if_neg (by omega), if_neg (by omega), if_neg (by omega), show 10 + r - 10 = r from by omega]
          rw [e, qb_0 h45, if_neg (by decide), if_pos rfl, Nat.add_zero, Nat.zero_add, Nat.add_zero] <;> rfl
      · exact Or.inl rfl
theorem tx_Q_st {T : Nat → Nat} {n : Nat} {g : tx_g} {b : Bool} (h1 : g.1.length ≤ 6) (h2 : g.2.length ≤ 4) {c : tx_C} (hq : tx_Q g c) : tx_Q g (tx_st T n (g, b) c) := by
  unfold tx_st
  split
  · exact tx_Q_bt h2 hq
  · exact tx_Q_bf h1 hq
  · rcases hq with hq | ⟨q1, q2, q3⟩
    · cases hq
    · exact Or.inr ⟨q1, q2, q3⟩
  · next b2 nt w S p l fr k =>
    rcases hq with hq | ⟨q1, q2, q3, q4⟩
    · cases hq
    · have q1 : ∀ T, bc (arh g) (List.replicate (0 + (if nt = true then 1 else 0)) (S.length + 1, (if w = none then 0 else 1) + (tx_bs S).length) ++ tx_sk S) T → bc (arh g) [(0, 0)] (l ++ T) := q1
      have q2 : ∀ x, x ∈ l → pv g x := q2
      cases nt
      · rw [if_neg (by decide)] at q1
        exact Or.inr ⟨q1, q2, q4⟩
      · rw [if_pos rfl] at q1
        refine Or.inr ⟨tx_Q_add (d := (S.length + 1, (if w = none then 0 else 1) + (tx_bs S).length)) (S := tx_sk S) q1 (q3 rfl) (fun a c => by omega) ?_, pv_add q2 (Or.inl (by decide)), q4⟩
        rw [(arh_lo (g := g) (c := 0)).1 rfl]
        rfl
  · next k b2 nt w S p l fr k2 =>
    rcases hq with hq | ⟨q1, q2, q3, q4⟩
    · cases hq
    · have q1 : ∀ T, bc (arh g) (List.replicate (k + 1 + (if nt = true then 1 else 0)) (S.length + 1, (if w = none then 0 else 1) + (tx_bs S).length) ++ tx_sk S) T → bc (arh g) [(0, 0)] (l ++ T) := q1
      have e : (((k, b2, nt, w) :: S).length, (tx_bs ((k, b2, nt, w) :: S)).length) :: tx_sk ((k, b2, nt, w) :: S) = List.replicate (k + 1 + (if nt = true then 1 else 0)) (S.length + 1, (if w = none then 0 else 1) + (tx_bs S).length) ++ tx_sk S := by
        rw [tx_bs_l, show k + 1 + (if nt = true then 1 else 0) = (k + (if nt = true then 1 else 0)) + 1 from by omega, List.replicate_succ]
        rfl
      refine Or.inr ⟨fun T hT => ?_, q2, q3, q4⟩
      refine q1 T ?_
      rw [← e]
      cases b2
      · exact hT
      · exact hT
  · exact hq
theorem tx_Q_go {T : Nat → Nat} {n : Nat} {g : tx_g} {b : Bool} (h1 : g.1.length ≤ 6) (h2 : g.2.length ≤ 4) {c c' : tx_C} (h : gt_go (tx_st T n (g, b)) c c') (hq : tx_Q g c) : tx_Q g c' := by
  obtain ⟨m, h⟩ := h
  induction m generalizing c with
  | zero =>
    have h : c = c' := h
    rw [← h]
    exact hq
  | succ m ih => exact ih (tx_Q_st h1 h2 hq) h
theorem tx_Q_0 {g : tx_g} {p : Nat} {fr : List (List Nat)} : tx_Q g (0, [], p, [], fr, 0) ∧ tx_Q g (1, [], p, [], fr, 0) := ⟨Or.inr ⟨fun _ h => h, (fun x hx => by cases hx), trivial⟩, Or.inr ⟨fun _ h => h, (fun x hx => by cases hx), trivial⟩⟩
/-- a whole row read -/
theorem tx_Q_end {T : Nat → Nat} {n ph p0 p : Nat} {g : tx_g} {b : Bool} {l : List Nat} {fr0 fr : List (List Nat)} (h1 : g.1.length ≤ 6) (h2 : g.2.length ≤ 4) (hph : ph = 0 ∨ ph = 1) (h : gt_go (tx_st T n (g, b)) (ph, [], p0, [], fr0, 0) (2, [], p, l, fr, 0)) : bc (arh g) [(0, 0)] l ∧ ∀ x, x ∈ l → pv g x := by
  have hq : tx_Q g (2, [], p, l, fr, 0) := by
    rcases hph with rfl | rfl
    · exact tx_Q_go h1 h2 h tx_Q_0.1
    · exact tx_Q_go h1 h2 h tx_Q_0.2
  rcases hq with hq | ⟨q1, q2, -⟩
  · cases hq
  · have := q1 [] rfl
    rw [List.append_nil] at this
    exact ⟨this, q2⟩
/-- a theory's axioms -/
def BTh (h : tx_H) : Prop := h.1.1.length ≤ 6 ∧ h.1.2.length ≤ 4 ∧ ∀ (k : Nat) (w l : List Nat), h.2[k]? = some (w, l) → bc (arh h.1) [(0, 0)] l ∧ ∀ x, x ∈ l → pv h.1 x
theorem arh_ext1 {g : tx_g} {x : List Nat × Nat} (h1 : g.1.length < 6) {c : Nat} (hc : pv g c) (h2 : g.2.length ≤ 4) : arh (g.1 ++ [x], g.2) c = arh g c ∧ pv (g.1 ++ [x], g.2) c := by
  refine ⟨?_, ?_⟩
  · unfold arh
    by_cases h : 10 ≤ c ∧ c < 20
    · rw [if_neg (by omega), if_neg (by omega), if_neg (by omega), if_neg (by omega), if_neg (by omega), if_pos (by omega), if_neg (by omega), if_neg (by omega), if_neg (by omega), if_neg (by omega), if_neg (by omega), if_pos (by omega)]
      have hl : c - 10 < g.1.length := by rcases hc with z | z | z | z <;> omega
      rw [List.getD_eq_getElem?_getD, List.getD_eq_getElem?_getD, List.getElem?_append_left hl]
    · by_cases h0 : c = 0
      · rw [if_pos h0, if_pos h0]
      rw [if_neg h0, if_neg h0]
      by_cases h4 : c < 4
      · rw [if_pos h4, if_pos h4]
      rw [if_neg h4, if_neg h4]
      by_cases h6 : c < 6
      · rw [if_pos h6, if_pos h6]
      rw [if_neg h6, if_neg h6]
      by_cases h7 : c = 6
      · rw [if_pos h7, if_pos h7]
      rw [if_neg h7, if_neg h7]
      by_cases h10 : c < 10
      · rw [if_pos h10, if_pos h10]
      have h20 : ¬ c < 20 := by omega
      rw [if_neg h10, if_neg h10, if_neg h20, if_neg h20]
  · rcases hc with z | z | z | z
    · exact Or.inl z
    · exact Or.inr (Or.inl ⟨z.1, by show c < 10 + (g.1 ++ [x]).length; rw [List.length_append]; omega⟩)
    · exact Or.inr (Or.inr (Or.inl z))
    · exact Or.inr (Or.inr (Or.inr z))
theorem arh_ext2 {g : tx_g} {x : List Nat × Nat} (h2 : g.2.length < 4) {c : Nat} (hc : pv g c) (h1 : g.1.length ≤ 6) : arh (g.1, g.2 ++ [x]) c = arh g c ∧ pv (g.1, g.2 ++ [x]) c := by
  refine ⟨?_, ?_⟩
  · unfold arh
    by_cases h : 20 ≤ c ∧ c < 40
    · rw [if_neg (by omega), if_neg (by omega), if_neg (by omega), if_neg (by omega), if_neg (by omega), if_neg (by omega), if_pos (by omega), if_neg (by omega), if_neg (by omega), if_neg (by omega), if_neg (by omega), if_neg (by omega), if_neg (by omega), if_pos (by omega)]
      have hl : c - 20 < g.2.length := by rcases hc with z | z | z | z <;> omega
      rw [List.getD_eq_getElem?_getD, List.getD_eq_getElem?_getD, List.getElem?_append_left hl]
    · by_cases h0 : c = 0
      · rw [if_pos h0, if_pos h0]
      rw [if_neg h0, if_neg h0]
      by_cases h4 : c < 4
      · rw [if_pos h4, if_pos h4]
      rw [if_neg h4, if_neg h4]
      by_cases h6 : c < 6
      · rw [if_pos h6, if_pos h6]
      rw [if_neg h6, if_neg h6]
      by_cases h7 : c = 6
      · rw [if_pos h7, if_pos h7]
      rw [if_neg h7, if_neg h7]
      by_cases h10 : c < 10
      · rw [if_pos h10, if_pos h10]
      rw [if_neg h10, if_neg h10]
      by_cases h20 : c < 20
      · rw [if_pos h20, if_pos h20]
      rw [if_neg h20, if_neg h20, if_neg (by omega), if_neg (by omega)]
  · rcases hc with z | z | z | z
    · exact Or.inl z
    · exact Or.inr (Or.inl z)
    · exact Or.inr (Or.inr (Or.inl ⟨z.1, by show c < 20 + (g.2 ++ [x]).length; rw [List.length_append]; omega⟩))
    · exact Or.inr (Or.inr (Or.inr z))
/-! the reader's machine always ends -/
theorem tx_tok_adv {T : Nat → Nat} {n p : Nat} (h : (tx_tok T n p).1 = 2 ∨ (tx_tok T n p).1 = 3) : p < n ∧ p < (tx_tok T n p).2.2.1 := by
  generalize e : tx_to tx_B T n p = a
  have hpa : p ≤ a := by rw [← e]; exact tx_to_ge
  by_cases h1 : n ≤ a
  · rw [tx_tok_end e h1] at h
    rcases h with h | h <;> cases h
  by_cases hL : tx_L (T a) = true
  · have hg : a + 1 ≤ tx_to tx_L T n a := by rw [tx_to_go (by omega) hL]; exact tx_to_ge
    rw [tx_tok_word e (by omega) hL] at h ⊢
    split at h
    · rcases h with h | h <;> cases h
    · next h8 =>
      rw [if_neg h8]
      split
      · exact ⟨by omega, by show p < tx_to tx_L T n a; omega⟩
      · exact ⟨by omega, by show p < tx_to tx_L T n a; omega⟩
  · by_cases hD : tx_D (T a) = true
    · rw [tx_tok_num e (by omega) hL hD] at h
      split at h
      · rcases h with h | h <;> cases h
      · rcases h with h | h <;> cases h
    · rw [tx_tok_sign e (by omega) hL hD] at h
      split at h
      · rcases h with h | h <;> cases h
      · rcases h with h | h <;> cases h
def tx_we : List tx_F → Nat
  | [] => 0
  | (k, _, _, _) :: S => 2 * k + 2 + tx_we S
theorem tx_bt_to {T : Nat → Nat} {n p : Nat} {E : tx_E} {S : List tx_F} {l : List Nat} {fr : List (List Nat)} : (tx_bt T n E S p l fr).1 = 4 ∨ ((tx_bt T n E S p l fr).1 = 2 ∧ p < n ∧ p < (tx_bt T n E S p l fr).2.2.1) := by
  unfold tx_bt
  dsimp only
  split
  · next h =>
    have := tx_tok_adv (Or.inl h.1)
    split
    · exact Or.inr ⟨rfl, this⟩
    · split
      · exact Or.inr ⟨rfl, this⟩
      · exact Or.inl rfl
  · exact Or.inl rfl
theorem tx_bf_to {T : Nat → Nat} {n p : Nat} {E : tx_E} {S : List tx_F} {l : List Nat} {fr : List (List Nat)} : (tx_bf T n E S p l fr).1 = 4 ∨ ((tx_bf T n E S p l fr).1 = 2 ∧ p < n ∧ p < (tx_bf T n E S p l fr).2.2.1) := by
  unfold tx_bf
  dsimp only
  split
  · next h =>
    have := tx_tok_adv (Or.inr h.1)
    split
    · exact Or.inr ⟨rfl, this⟩
    · exact Or.inl rfl
  · split
    · exact Or.inl rfl
    · next c hc =>
      have h23 : (tx_tok T n p).1 = 2 ∨ (tx_tok T n p).1 = 3 := by
        unfold tx_pc at hc
        split at hc
        · next z => exact Or.inr z
        · split at hc
          · next z => exact Or.inl z
          · cases hc
      have h1 := tx_tok_adv h23
      split
      · split
        · split
          · next h4 =>
            have h2 := tx_tok_adv (Or.inl h4.1)
            exact Or.inr ⟨rfl, h1.1, by show p < (tx_tok T n (tx_tok T n p).2.2.1).2.2.1; omega⟩
          · exact Or.inl rfl
        · exact Or.inr ⟨rfl, h1⟩
      · exact Or.inl rfl
theorem tx_halt {T : Nat → Nat} {n : Nat} {E : tx_E} : ∀ (N M : Nat) (c : tx_C), n - c.2.2.1 ≤ N → (c.1 = 2 → 2 * tx_we c.2.1 ≤ M) → (c.1 = 0 ∨ c.1 = 1 → 2 * tx_we c.2.1 + 1 ≤ M) → ∃ e, gt_go (tx_st T n E) c e ∧ tx_st T n E e = e := by
  have four : ∀ c : tx_C, c.1 = 4 → tx_st T n E c = c := fun c h => by
    obtain ⟨ph, S, p, l, fr, k⟩ := c
    have h : ph = 4 := h
    subst h
    rfl
  intro N
  induction N with
  | zero =>
    intro M
    induction M with
    | zero =>
      intro c hN h2 h01
      obtain ⟨ph, S, p, l, fr, k⟩ := c
      match ph, h2, h01 with
      | 0, _, h => exact absurd (h (Or.inl rfl)) (by omega)
      | 1, _, h => exact absurd (h (Or.inr rfl)) (by omega)
      | 2, h, _ =>
        cases S with
        | nil => exact ⟨(3, [], p, l, fr, 0), gt_one rfl, rfl⟩
        | cons f S =>
          obtain ⟨a, b, nt, w⟩ := f
          have := h rfl
          have : 2 * (2 * a + 2 + tx_we S) ≤ 0 := this
          omega
      | k + 3, _, _ => exact ⟨_, gt_refl, rfl⟩
    | succ M ih =>
      intro c hN h2 h01
      obtain ⟨ph, S, p, l, fr, k⟩ := c
      have hN : n - p ≤ 0 := hN
      match ph, h2, h01 with
      | 0, _, _ =>
        rcases tx_bt_to (T := T) (n := n) (p := p) (E := E) (S := S) (l := l) (fr := fr) with h | h
        · exact ⟨tx_bt T n E S p l fr, gt_one rfl, four _ h⟩
        · omega
      | 1, _, _ =>
        rcases tx_bf_to (T := T) (n := n) (p := p) (E := E) (S := S) (l := l) (fr := fr) with h | h
        · exact ⟨tx_bf T n E S p l fr, gt_one rfl, four _ h⟩
        · omega
      | 2, h, _ =>
        cases S with
        | nil => exact ⟨(3, [], p, l, fr, 0), gt_one rfl, rfl⟩
        | cons f S =>
          obtain ⟨a, b, nt, w⟩ := f
          have h3 := h rfl
          have h3 : 2 * (2 * a + 2 + tx_we S) ≤ M + 1 := h3
          cases a with
          | zero =>
            obtain ⟨e, g1, g2⟩ := ih (2, S, p, if nt then l ++ [0] else l, fr, 0) hN (fun _ => by show 2 * tx_we S ≤ M; omega) (fun z => by rcases z with z | z <;> cases z)
            exact ⟨e, gt_step rfl g1, g2⟩
          | succ a =>
            obtain ⟨e, g1, g2⟩ := ih (if b then 1 else 0, (a, b, nt, w) :: S, p, l, fr, 0) hN (fun z => by cases b <;> cases z) (fun _ => by show 2 * (2 * a + 2 + tx_we S) + 1 ≤ M; omega)
            exact ⟨e, gt_step rfl g1, g2⟩
      | k + 3, _, _ => exact ⟨_, gt_refl, rfl⟩
  | succ N ihN =>
    intro M
    induction M with
    | zero =>
      intro c hN h2 h01
      obtain ⟨ph, S, p, l, fr, k⟩ := c
      match ph, h2, h01 with
      | 0, _, h => exact absurd (h (Or.inl rfl)) (by omega)
      | 1, _, h => exact absurd (h (Or.inr rfl)) (by omega)
      | 2, h, _ =>
        cases S with
        | nil => exact ⟨(3, [], p, l, fr, 0), gt_one rfl, rfl⟩
        | cons f S =>
          obtain ⟨a, b, nt, w⟩ := f
          have := h rfl
          have : 2 * (2 * a + 2 + tx_we S) ≤ 0 := this
          omega
      | k + 3, _, _ => exact ⟨_, gt_refl, rfl⟩
    | succ M ih =>
      intro c hN h2 h01
      obtain ⟨ph, S, p, l, fr, k⟩ := c
      have hN : n - p ≤ N + 1 := hN
      have go : ∀ c2 : tx_C, c2.1 = 4 ∨ (c2.1 = 2 ∧ p < n ∧ p < c2.2.2.1) → ∃ e, gt_go (tx_st T n E) c2 e ∧ tx_st T n E e = e := fun c2 h => by
        rcases h with h | ⟨h, h1, h2⟩
        · exact ⟨c2, gt_refl, four _ h⟩
        · exact ihN (2 * tx_we c2.2.1) c2 (by omega) (fun _ => Nat.le_refl _) (fun z => by rcases z with z | z <;> (rw [h] at z; cases z))
      match ph, h2, h01 with
      | 0, _, _ =>
        obtain ⟨e, g1, g2⟩ := go _ (tx_bt_to (T := T) (n := n) (p := p) (E := E) (S := S) (l := l) (fr := fr))
        exact ⟨e, gt_step rfl g1, g2⟩
      | 1, _, _ =>
        obtain ⟨e, g1, g2⟩ := go _ (tx_bf_to (T := T) (n := n) (p := p) (E := E) (S := S) (l := l) (fr := fr))
        exact ⟨e, gt_step rfl g1, g2⟩
      | 2, h, _ =>
        cases S with
        | nil => exact ⟨(3, [], p, l, fr, 0), gt_one rfl, rfl⟩
        | cons f S =>
          obtain ⟨a, b, nt, w⟩ := f
          have h3 := h rfl
          have h3 : 2 * (2 * a + 2 + tx_we S) ≤ M + 1 := h3
          cases a with
          | zero =>
            obtain ⟨e, g1, g2⟩ := ih (2, S, p, if nt then l ++ [0] else l, fr, 0) hN (fun _ => by show 2 * tx_we S ≤ M; omega) (fun z => by rcases z with z | z <;> cases z)
            exact ⟨e, gt_step rfl g1, g2⟩
          | succ a =>
            obtain ⟨e, g1, g2⟩ := ih (if b then 1 else 0, (a, b, nt, w) :: S, p, l, fr, 0) hN (fun z => by cases b <;> cases z) (fun _ => by show 2 * (2 * a + 2 + tx_we S) + 1 ≤ M; omega)
            exact ⟨e, gt_step rfl g1, g2⟩
      | k + 3, _, _ => exact ⟨_, gt_refl, rfl⟩
theorem tx_fixph {T : Nat → Nat} {n : Nat} {E : tx_E} {c : tx_C} (h : tx_st T n E c = c) : c.1 ≠ 0 ∧ c.1 ≠ 1 ∧ c.1 ≠ 2 := by
  obtain ⟨ph, S, p, l, fr, k⟩ := c
  have hp := congrArg Prod.fst h
  refine ⟨fun z => ?_, fun z => ?_, fun z => ?_⟩
  · have z : ph = 0 := z
    subst z
    rcases tx_bt_to (T := T) (n := n) (p := p) (E := E) (S := S) (l := l) (fr := fr) with y | y
    · have hp : (tx_bt T n E S p l fr).1 = 0 := hp
      omega
    · have hp : (tx_bt T n E S p l fr).1 = 0 := hp
      omega
  · have z : ph = 1 := z
    subst z
    rcases tx_bf_to (T := T) (n := n) (p := p) (E := E) (S := S) (l := l) (fr := fr) with y | y
    · have hp : (tx_bf T n E S p l fr).1 = 1 := hp
      omega
    · have hp : (tx_bf T n E S p l fr).1 = 1 := hp
      omega
  · have z : ph = 2 := z
    subst z
    cases S with
    | nil => cases h
    | cons f S =>
      obtain ⟨a, b, nt, w⟩ := f
      cases a with
      | zero =>
        have h2 := congrArg (fun q : tx_C => q.2.1.length) h
        have h2 : S.length = ((0, b, nt, w) :: S).length := h2
        rw [List.length_cons] at h2
        omega
      | succ a =>
        cases b
        · cases hp
        · cases hp
def tx_QD (d : tx_D4) : Prop := BTh d.2.1
theorem tx_QD_semi {T : Nat → Nat} {n p : Nat} {h : tx_H} (hq : BTh h) : tx_QD (tx_semi T n h p) := by
  unfold tx_semi
  split
  · exact hq
  · exact hq
theorem tx_QD_lb {T : Nat → Nat} {n p : Nat} {h : tx_H} (hq : BTh h) : tx_QD (tx_lb T n h p) := by
  obtain ⟨q1, q2, q3⟩ := id hq
  unfold tx_lb
  split
  · exact hq
  · split
    · next hc =>
      unfold tx_sym
      dsimp only
      split
      · split
        · split
          · split
            · refine tx_QD_semi ?_
              rw [if_pos rfl]
              refine ⟨by show (h.1.1 ++ [_]).length ≤ 6; rw [List.length_append, List.length_singleton]; omega, q2, fun k w l hk => ?_⟩
              obtain ⟨z1, z2⟩ := q3 k w l hk
              exact ⟨bc_ar z1 (fun c hc2 => (arh_ext1 (by omega) (z2 c hc2) q2).1), fun x hx => (arh_ext1 (by omega) (z2 x hx) q2).2⟩
            · exact hq
          · exact hq
        · exact hq
      · exact hq
    · split
      · next hc =>
        unfold tx_sym
        dsimp only
        split
        · split
          · split
            · split
              · refine tx_QD_semi ?_
                rw [if_neg (by decide)]
                refine ⟨q1, by show (h.1.2 ++ [_]).length ≤ 4; rw [List.length_append, List.length_singleton]; omega, fun k w l hk => ?_⟩
                obtain ⟨z1, z2⟩ := q3 k w l hk
                exact ⟨bc_ar z1 (fun c hc2 => (arh_ext2 (by omega) (z2 c hc2) q1).1), fun x hx => (arh_ext2 (by omega) (z2 x hx) q1).2⟩
              · exact hq
            · exact hq
          · exact hq
        · exact hq
      · split
        · unfold tx_axm
          dsimp only
          split
          · split
            · split
              · exact hq
              · next ph S q l fr kk hne he =>
                refine tx_QD_semi ⟨q1, q2, fun k w l2 hk => ?_⟩
                rcases Nat.lt_or_ge k h.2.length with z | z
                · rw [List.getElem?_append_left z] at hk
                  exact q3 k w l2 hk
                · have hkl := (List.getElem?_eq_some_iff.mp hk).1
                  rw [List.length_append, List.length_singleton] at hkl
                  rw [show k = h.2.length from by omega, List.getElem?_append_right (Nat.le_refl _), Nat.sub_self] at hk
                  cases hk
                  obtain ⟨e, e1, e2⟩ := tx_halt (T := T) (n := n) (E := (h.1, true)) (n - (tx_tok T n p).2.2.1 + n) (2 * tx_we [] + 1) (1, [], (tx_tok T n (tx_tok T n p).2.2.1).2.2.1, [], [], 0) (by show n - _ ≤ _; omega) (fun z => by cases z) (fun _ => Nat.le_refl _)
                  have ee := gt_end_is e1 e2
                  rw [he] at ee
                  subst ee
                  have hq2 := tx_Q_go q1 q2 e1 tx_Q_0.2
                  have hf := tx_fixph e2
                  rcases hq2 with hq2 | ⟨y1, y2, -⟩
                  · exact (hne hq2).elim
                  · have y3 := y1 [] (by
                      obtain ⟨f0, f1, f2⟩ := hf
                      match ph, f0, f1, f2 with
                      | 0, f, _, _ => exact absurd rfl f
                      | 1, _, f, _ => exact absurd rfl f
                      | 2, _, _, f => exact absurd rfl f
                      | j + 3, _, _, _ => rfl)
                    have y3 : bc (arh h.1) [(0, 0)] (l ++ []) := y3
                    rw [List.append_nil] at y3
                    exact ⟨y3, y2⟩
            · exact hq
          · exact hq
        · exact hq
theorem tx_QD_go {T : Nat → Nat} {n : Nat} {d d' : tx_D4} (h : gt_go (tx_ln T n) d d') (hq : tx_QD d) : tx_QD d' := by
  obtain ⟨m, h⟩ := h
  induction m generalizing d with
  | zero =>
    have h : d = d' := h
    rw [← h]
    exact hq
  | succ m ih =>
    refine ih ?_ h
    unfold tx_ln
    split
    · exact tx_QD_lb hq
    · exact hq
theorem BTh_0 : BTh (([], []), []) := ⟨Nat.zero_le _, Nat.zero_le _, fun k w l hk => by cases hk⟩
/-- a theory read -/
theorem BTh_go {T : Nat → Nat} {n p k ph : Nat} {h : tx_H} (g : gt_go (tx_ln T n) (0, (([], []), []), 0, 0) (ph, h, p, k)) : BTh h := tx_QD_go g BTh_0
/-- a formula or a term read -/
theorem bc_rd {T : Nat → Nat} {N ph : Nat} {g : tx_g} {l : List Nat} (h1 : g.1.length ≤ 6) (h2 : g.2.length ≤ 4) (hph : ph = 0 ∨ ph = 1) (h : rd_ok T N (g, false) ph l) : bc (arh g) [(0, 0)] l ∧ ∀ x, x ∈ l → pv g x := by
  obtain ⟨p, fr, g1, -⟩ := h
  exact tx_Q_end h1 h2 hph g1
end
section
set_option maxRecDepth 100000
/-! sorts of the rows that are read: a formula or a term, whole -/
def tx_ss : List tx_F → List Bool
  | [] => []
  | (k, b, nt, _) :: S => List.replicate k b ++ ((if nt = true then [true] else []) ++ tx_ss S)
def tx_sw : tx_C → List Bool
  | (0, S, _) => false :: tx_ss S
  | (1, S, _) => true :: tx_ss S
  | (2, S, _) => tx_ss S
  | _ => []
def tx_WQ (g : tx_g) (b0 : Bool) (c : tx_C) : Prop := c.1 = 4 ∨ ((∀ T, ws (sg g) T (tx_sw c) → ws (sg g) (c.2.2.2.1 ++ T) [b0]) ∧ (tx_bs c.2.1).length ≤ 5 ∧ c.2.2.2.2.1.length ≤ 12)
theorem tx_WQ_add {g : tx_g} {b0 bb : Bool} {l : List Nat} {W : List Bool} {c : Nat} {ks : List Bool} (h : ∀ T, ws (sg g) T (bb :: W) → ws (sg g) (l ++ T) [b0]) (hk : kS (sg g) bb c = some ks) : ∀ T, ws (sg g) T (ks ++ W) → ws (sg g) ((l ++ [c]) ++ T) [b0] := fun T hT => by
  rw [List.append_assoc]
  exact h _ (ws_c hk hT)
theorem tx_WQ_bt {T : Nat → Nat} {n : Nat} {g : tx_g} {b b0 : Bool} {S : List tx_F} {p : Nat} {l : List Nat} {fr : List (List Nat)} (h2 : g.2.length ≤ 4) (hq : tx_WQ g b0 (0, S, p, l, fr, 0)) : tx_WQ g b0 (tx_bt T n (g, b) S p l fr) := by
  rcases hq with hq | ⟨q1, q2, q3⟩
  · cases hq
  have q1 : ∀ T, ws (sg g) T (false :: tx_ss S) → ws (sg g) (l ++ T) [b0] := q1
  have q2 : (tx_bs S).length ≤ 5 := q2
  have q3 : fr.length ≤ 12 := q3
  unfold tx_bt
  dsimp only
  split
  · next hif =>
    split
    · next gg hg =>
      have hlt := tx_at_lt hg
      rw [tx_Gl] at hlt
      have hk : kS (sg g) false (20 + gg) = some (List.replicate (tx_fa (g, b) gg) false) := by
        have := kS_tf (σ := sg g) (p := 20 + gg) (by omega) (by show 20 + gg < 20 + g.2.length; omega)
        rw [this]
        show some (List.replicate ((g.2.getD (20 + gg - 20) ([], 0)).2) false) = _
        rw [show 20 + gg - 20 = gg from by omega]
        rfl
      exact Or.inr ⟨tx_WQ_add q1 hk, q2, q3⟩
    · split
      · next c fr2 hm =>
        have hc : (40 ≤ c ∧ c < 72) ∧ fr2.length ≤ 12 := by
          unfold tx_nm at hm
          split at hm
          · next i hi =>
            have := tx_at_lt hi
            cases hm
            omega
          · split at hm
            · cases hm
            · split at hm
              · next i hi =>
                have := tx_at_lt hi
                cases hm
                omega
              · split at hm
                · cases hm
                  rw [List.length_append, List.length_singleton]
                  omega
                · cases hm
        exact Or.inr ⟨tx_WQ_add q1 (kS_tx (σ := sg g) h2 hc.1.1 hc.1.2), q2, hc.2⟩
      · exact Or.inl rfl
  · exact Or.inl rfl
theorem tx_WQ_bf {T : Nat → Nat} {n : Nat} {g : tx_g} {b b0 : Bool} {S : List tx_F} {p : Nat} {l : List Nat} {fr : List (List Nat)} (hq : tx_WQ g b0 (1, S, p, l, fr, 0)) : tx_WQ g b0 (tx_bf T n (g, b) S p l fr) := by
  rcases hq with hq | ⟨q1, q2, q3⟩
  · cases hq
  have q1 : ∀ T, ws (sg g) T (true :: tx_ss S) → ws (sg g) (l ++ T) [b0] := q1
  have q2 : (tx_bs S).length ≤ 5 := q2
  have q3 : fr.length ≤ 12 := q3
  unfold tx_bf
  dsimp only
  split
  · split
    · exact Or.inr ⟨tx_WQ_add (c := 3) (ks := [true, true]) q1 (kS_f2 (by decide) (by decide)), q2, q3⟩
    · exact Or.inl rfl
  · split
    · exact Or.inl rfl
    · next c hc =>
      have hcc : (c ≤ 6 ∨ ∃ r, c = 10 + r ∧ r < g.1.length) := by
        unfold tx_pc at hc
        split at hc
        · split at hc
          · cases hc; exact Or.inl (by assumption)
          · cases hc
        · split at hc
          · split at hc
            · next r hr =>
              have := tx_at_lt hr
              rw [tx_Rl] at this
              cases hc
              exact Or.inr ⟨r, rfl, this⟩
            · cases hc
          · cases hc
      split
      · next hif =>
        split
        · next h45 =>
          split
          · refine Or.inr ⟨tx_WQ_add q1 (kS_f1 h45), ?_, q3⟩
            have := hif.2.2 h45
            show (tx_bs S).length + 1 ≤ 5
            omega
          · exact Or.inl rfl
        · next h45 =>
          have hk : kS (sg g) true c = some (List.replicate (tx_ar (g, b) c) (decide (c < 6))) := by
            rcases hcc with z | ⟨r, rfl, z⟩
            · rcases (show c = 0 ∨ c = 1 ∨ c = 2 ∨ c = 3 ∨ c = 6 by omega) with rfl | rfl | rfl | rfl | rfl <;> rfl
            · rw [kS_fr (by omega) (by show 10 + r < 10 + g.1.length; omega), show decide (10 + r < 6) = false from decide_eq_false (by omega)]
              have e : tx_ar (g, b) (10 + r) = tx_ra (g, b) r := by
                unfold tx_ar
                rw [if_neg (by omega), if_neg (by omega), if_neg (by omega), if_neg (by omega), show 10 + r - 10 = r from by omega]
              rw [e]
              show some (List.replicate ((g.1.getD (10 + r - 10) ([], 0)).2) false) = _
              rw [show 10 + r - 10 = r from by omega]
              rfl
          exact Or.inr ⟨tx_WQ_add q1 hk, q2, q3⟩
      · exact Or.inl rfl
theorem tx_WQ_st {T : Nat → Nat} {n : Nat} {g : tx_g} {b b0 : Bool} (h2 : g.2.length ≤ 4) {c : tx_C} (hq : tx_WQ g b0 c) : tx_WQ g b0 (tx_st T n (g, b) c) := by
  unfold tx_st
  split
  · exact tx_WQ_bt h2 hq
  · exact tx_WQ_bf hq
  · rcases hq with hq | ⟨q1, q2, q3⟩
    · cases hq
    · exact Or.inr ⟨q1, q2, q3⟩
  · next b2 nt w S p l fr k =>
    rcases hq with hq | ⟨q1, q2, q3⟩
    · cases hq
    · have q1 : ∀ T, ws (sg g) T (List.replicate 0 b2 ++ ((if nt = true then [true] else []) ++ tx_ss S)) → ws (sg g) (l ++ T) [b0] := q1
      have q2 : (tx_bs ((0, b2, nt, w) :: S)).length ≤ 5 := q2
      have q3 : fr.length ≤ 12 := q3
      rw [tx_bs_l] at q2
      have q2' : (tx_bs S).length ≤ 5 := by omega
      cases nt
      · exact Or.inr ⟨q1, q2', q3⟩
      · exact Or.inr ⟨tx_WQ_add (bb := true) (W := tx_ss S) q1 kS_f0, q2', q3⟩
  · next k b2 nt w S p l fr k2 =>
    rcases hq with hq | ⟨q1, q2, q3⟩
    · cases hq
    · have q1 : ∀ T, ws (sg g) T (List.replicate (k + 1) b2 ++ ((if nt = true then [true] else []) ++ tx_ss S)) → ws (sg g) (l ++ T) [b0] := q1
      have q2 : (tx_bs ((k + 1, b2, nt, w) :: S)).length ≤ 5 := q2
      have e : (tx_bs ((k, b2, nt, w) :: S)).length ≤ 5 := by
        rw [tx_bs_l] at q2 ⊢
        exact q2
      cases b2
      · exact Or.inr ⟨q1, e, q3⟩
      · exact Or.inr ⟨q1, e, q3⟩
  · exact hq
theorem tx_WQ_go {T : Nat → Nat} {n : Nat} {g : tx_g} {b b0 : Bool} (h2 : g.2.length ≤ 4) {c c' : tx_C} (h : gt_go (tx_st T n (g, b)) c c') (hq : tx_WQ g b0 c) : tx_WQ g b0 c' := by
  obtain ⟨m, h⟩ := h
  induction m generalizing c with
  | zero =>
    have h : c = c' := h
    rw [← h]
    exact hq
  | succ m ih => exact ih (tx_WQ_st h2 hq) h
/-- a whole row read: its sorts; at most twelve names are free -/
theorem tx_WQ_end {T : Nat → Nat} {n ph p0 p : Nat} {g : tx_g} {b : Bool} {l : List Nat} {fr0 fr : List (List Nat)} (h2 : g.2.length ≤ 4) (hph : ph = 0 ∨ ph = 1) (h12 : fr0.length ≤ 12) (h : gt_go (tx_st T n (g, b)) (ph, [], p0, [], fr0, 0) (2, [], p, l, fr, 0)) : ws (sg g) l [Nat.beq ph 1] ∧ fr.length ≤ 12 := by
  have hq : tx_WQ g (Nat.beq ph 1) (2, [], p, l, fr, 0) := by
    rcases hph with rfl | rfl
    · exact tx_WQ_go h2 h (Or.inr ⟨fun _ hT => hT, Nat.zero_le _, h12⟩)
    · exact tx_WQ_go h2 h (Or.inr ⟨fun _ hT => hT, Nat.zero_le _, h12⟩)
  rcases hq with hq | ⟨q1, -, q3⟩
  · cases hq
  · have := q1 [] rfl
    rw [List.append_nil] at this
    exact ⟨this, q3⟩
theorem mp_cst {α : Type} {b : α} : ∀ {l : List Bool}, l.map (fun _ => b) = List.replicate l.length b
  | [] => rfl
  | x :: l => by
    rw [List.map_cons, mp_cst]
    rfl
/-- a bound piece of a row counts less than five -/
theorem bc_lo {σ : mSig} {ar : Nat → Nat} (hA : ArW σ ar) : ∀ {l : List Nat} {W : List (Bool × Nat)} {S : List (Nat × Nat)}, wf σ 5 l W → bc ar S l → W.map Prod.snd = S.map Prod.snd → ∀ c, c ∈ l → 40 ≤ c → c < 60 → c - 40 < 5
  | [], _, _, _, _, _, c, hc, _, _ => by cases hc
  | x :: l, _, [], _, h, _, c, hc, _, _ => by cases h
  | x :: l, W, d :: S, hw, h, e, c, hc, h40, h60 => by
    obtain ⟨b, k, W', ks, rfl, hk5, hk, hw⟩ := wf_cons.mp hw
    have ha := hA b x ks hk
    rw [List.map_cons, List.map_cons] at e
    have e1 : k = d.2 := (List.cons.inj e).1
    have e2 : W'.map Prod.snd = S.map Prod.snd := (List.cons.inj e).2
    rcases List.mem_cons.mp hc with hc | hc
    · subst hc
      have := h.1.2 h40 h60
      omega
    · refine bc_lo hA hw h.2 ?_ c hc h40 h60
      rw [List.map_append, List.map_append, e2]
      congr 1
      unfold kL
      rw [List.map_map, List.map_replicate, ha]
      have e3 : (if x = 4 ∨ x = 5 then k + 1 else k) = d.2 + qb x := by
        unfold qb
        by_cases z : x = 4 ∨ x = 5
        · rw [if_pos z, if_pos z, e1]
        · rw [if_neg z, if_neg z, e1, Nat.add_zero]
      show ks.map (fun _ => (if x = 4 ∨ x = 5 then k + 1 else k)) = List.replicate ks.length (d.2 + qb x)
      rw [e3]
      exact mp_cst
end
section
set_option maxRecDepth 100000
/-! what a formula is worth in a model: n things, digits D, tables ra fa, free things fr, bound things (the nearest first) -/
def sv_b (c a b : Nat) : Nat := if c = 1 then (if a = 1 ∧ b = 1 then 1 else 0) else if c = 2 then (if a = 1 ∨ b = 1 then 1 else 0) else if a = 1 ∧ ¬ b = 1 then 0 else 1
def sv_q (c : Nat) (vs : List Nat) : Nat := if c = 4 then (if vs.all (fun v => v == 1) = true then 1 else 0) else (if vs.any (fun v => v == 1) = true then 1 else 0)
def sv (n : Nat) (D ra fa ar fr : Nat → Nat) : Nat → List Nat → List Nat → Nat
  | 0, _, _ => 0
  | _ + 1, _, [] => 0
  | k + 1, env, c :: t =>
    if c = 0 then 0
    else if c < 4 then sv_b c (sv n D ra fa ar fr k env t) (sv n D ra fa ar fr k env (t.drop (en ar t 1)))
    else if c < 6 then sv_q c ((List.range n).map (fun x => sv n D ra fa ar fr k (x :: env) t))
    else if c = 6 then (if sv n D ra fa ar fr k env t = sv n D ra fa ar fr k env (t.drop (en ar t 1)) then 1 else 0)
    else if 60 ≤ c then fr (c - 60)
    else if 40 ≤ c then env.getD (c - 40) 0
    else D ((if c < 20 then ra (c - 10) else fa (c - 20)) + (if ar c = 0 then 0 else if ar c = 1 then sv n D ra fa ar fr k env t else sv n D ra fa ar fr k env t * n + sv n D ra fa ar fr k env (t.drop (en ar t 1))))
section SV
variable {n : Nat} {D ra fa ar fr : Nat → Nat} {k c : Nat} {env t : List Nat}
theorem sv_0 : sv n D ra fa ar fr (k + 1) env (0 :: t) = 0 := rfl
theorem sv_2 (h : 1 ≤ c) (h' : c < 4) : sv n D ra fa ar fr (k + 1) env (c :: t) = sv_b c (sv n D ra fa ar fr k env t) (sv n D ra fa ar fr k env (t.drop (en ar t 1))) := by
  show (if c = 0 then _ else _) = _
  rw [if_neg (by omega), if_pos h']
theorem sv_4 (h : c = 4 ∨ c = 5) : sv n D ra fa ar fr (k + 1) env (c :: t) = sv_q c ((List.range n).map (fun x => sv n D ra fa ar fr k (x :: env) t)) := by
  show (if c = 0 then _ else _) = _
  rw [if_neg (by omega), if_neg (by omega), if_pos (by omega)]
theorem sv_6 : sv n D ra fa ar fr (k + 1) env (6 :: t) = (if sv n D ra fa ar fr k env t = sv n D ra fa ar fr k env (t.drop (en ar t 1)) then 1 else 0) := rfl
theorem sv_x (h : 60 ≤ c) : sv n D ra fa ar fr (k + 1) env (c :: t) = fr (c - 60) := by
  show (if c = 0 then _ else _) = _
  rw [if_neg (by omega), if_neg (by omega), if_neg (by omega), if_neg (by omega), if_pos h]
theorem sv_y (h : 40 ≤ c) (h' : c < 60) : sv n D ra fa ar fr (k + 1) env (c :: t) = env.getD (c - 40) 0 := by
  show (if c = 0 then _ else _) = _
  rw [if_neg (by omega), if_neg (by omega), if_neg (by omega), if_neg (by omega), if_neg (by omega), if_pos h]
/-- where in its table -/
def sv_i (n : Nat) (D ra fa ar fr : Nat → Nat) (k : Nat) (env : List Nat) (c : Nat) (t : List Nat) : Nat := if ar c = 0 then 0 else if ar c = 1 then sv n D ra fa ar fr k env t else sv n D ra fa ar fr k env t * n + sv n D ra fa ar fr k env (t.drop (en ar t 1))
theorem sv_f (h : 10 ≤ c) (h' : c < 40) : sv n D ra fa ar fr (k + 1) env (c :: t) = D ((if c < 20 then ra (c - 10) else fa (c - 20)) + sv_i n D ra fa ar fr k env c t) := by
  show (if c = 0 then _ else _) = _
  rw [if_neg (by omega), if_neg (by omega), if_neg (by omega), if_neg (by omega), if_neg (by omega), if_neg (by omega)]
  rfl
end SV
theorem bc_tail {ar : Nat → Nat} : ∀ {t : List Nat} {S1 S2 : List (Nat × Nat)}, bc ar (S1 ++ S2) t → bc ar S2 (t.drop (en ar t S1.length))
  | [], [], S2, h => h
  | [], _ :: _, _, h => h.elim
  | c :: t, [], S2, h => by
    rw [List.length_nil, en_0, List.drop_zero]
    exact h
  | c :: t, d :: S1, S2, h => by
    have h2 : bc ar (List.replicate (ar c) (d.1 + 1, d.2 + qb c) ++ (S1 ++ S2)) t := h.2
    rw [← List.append_assoc] at h2
    have := bc_tail h2
    rw [List.length_append, List.length_replicate] at this
    rw [List.length_cons, en_c, Nat.add_comm 1, List.drop_succ_cons, Nat.add_comm S1.length]
    exact this
theorem wf_tail {σ : mSig} {ar : Nat → Nat} (hA : ArW σ ar) {c : Nat} {t : List Nat} {W1 W2 : List (Bool × Nat)} (h : wf σ c t (W1 ++ W2)) : wf σ c (t.drop (en ar t W1.length)) W2 := by
  obtain ⟨l1, l2, rfl, h1, h2⟩ := wf_split h
  have e := en_ws hA (r := l2) (k := 0) (wf_ws h1)
  rw [List.length_map, Nat.add_zero, en_0, Nat.add_zero] at e
  rw [e, List.drop_left]
  exact h2
/-- a part at a place: what stands there is right, depth p, level q -/
def pt (g : tx_g) (b : Bool) (p q : Nat) (t : List Nat) : Prop := ∃ S W, bc (arh g) ((p, q) :: S) t ∧ wf (sg g) 5 t ((b, q) :: W)
theorem pt_c {g : tx_g} {b : Bool} {p q c : Nat} {t : List Nat} (h : pt g b p q (c :: t)) : p ≤ 12 ∧ q ≤ 5 ∧ (40 ≤ c → c < 60 → c - 40 < q) ∧ ∃ ks, kS (sg g) b c = some ks := by
  obtain ⟨S, W, h1, h2⟩ := h
  obtain ⟨bb, k, W', ks, e, hk, h3, -⟩ := wf_cons.mp h2
  cases e
  exact ⟨h1.1.1, hk, h1.1.2, ks, h3⟩
/-- its first part -/
theorem pt_1 {g : tx_g} (hA : ArW (sg g) (arh g)) {b b1 : Bool} {p q c : Nat} {t : List Nat} {ks : List Bool} (h : pt g b p q (c :: t)) (hk : kS (sg g) b c = some (b1 :: ks)) : pt g b1 (p + 1) (q + qb c) t := by
  obtain ⟨S, W, h1, h2⟩ := h
  obtain ⟨bb, k, W', ks', e, hk', h3, h4⟩ := wf_cons.mp h2
  cases e
  rw [hk] at h3
  cases h3
  have ha := hA b c _ hk
  have h5 := h1.2
  rw [ha, List.length_cons, List.replicate_succ] at h5
  refine ⟨_, kL c q ks ++ W, h5, ?_⟩
  have e : kL c q (b1 :: ks) = (b1, q + qb c) :: kL c q ks := by
    unfold kL qb
    rw [List.map_cons]
    by_cases z : c = 4 ∨ c = 5
    · rw [if_pos z, if_pos z]
    · rw [if_neg z, if_neg z]
      rfl
  rw [e] at h4
  exact h4
/-- its second part -/
theorem pt_2 {g : tx_g} (hA : ArW (sg g) (arh g)) {b b1 b2 : Bool} {p q c : Nat} {t : List Nat} (h : pt g b p q (c :: t)) (hk : kS (sg g) b c = some [b1, b2]) (hc : qb c = 0) : pt g b2 (p + 1) q (t.drop (en (arh g) t 1)) := by
  obtain ⟨S, W, h1, h2⟩ := h
  obtain ⟨bb, k, W', ks', e, hk', h3, h4⟩ := wf_cons.mp h2
  cases e
  rw [hk] at h3
  cases h3
  have ha := hA b c _ hk
  have h5 := h1.2
  rw [ha, hc] at h5
  have h6 := bc_tail (S1 := [(p + 1, q)]) (S2 := [(p + 1, q)] ++ S) h5
  have e : kL c q [b1, b2] ++ W = [(b1, q)] ++ ((b2, q) :: W) := by
    unfold kL
    unfold qb at hc
    have hz : ¬ (c = 4 ∨ c = 5) := fun z => by rw [if_pos z] at hc; cases hc
    rw [List.map_cons, List.map_cons, List.map_nil, if_neg hz]
    rfl
  rw [e] at h4
  exact ⟨_, _, h6, wf_tail hA h4⟩
theorem md_at {m : Nat} {L : List (Nat × Nat)} {i q : Nat} {x : Nat × Nat} (h : L[i]? = some x) (hq : q < m ^ x.1) : (md_B m L)[(md_B m (L.take i)).length + q]? = some x.2 := by
  have e : L = L.take i ++ x :: L.drop (i + 1) := by
    have hl := (List.getElem?_eq_some_iff.mp h)
    obtain ⟨h1, h2⟩ := hl
    rw [← h2, List.getElem_cons_drop, List.take_append_drop]
  have e2 : md_B m L = md_B m (L.take i) ++ (List.replicate (m ^ x.1) x.2 ++ md_B m (L.drop (i + 1))) := by
    unfold md_B
    conv => lhs; rw [e]
    rw [List.map_append, List.flatten_append, List.map_cons, List.flatten_cons]
  rw [e2, List.getElem?_append_right (by omega), Nat.add_sub_cancel_left, List.getElem?_append_left (by rw [List.length_replicate]; exact hq), List.getElem?_replicate, if_pos hq]
/-- the digits' tables of a theory -/
def tra (m : Nat) (g : tx_g) (r : Nat) : Nat := md_o m g r
def tfa (m : Nat) (g : tx_g) (f : Nat) : Nat := md_o m g (g.1.length + f)
abbrev svg (m : Nat) (g : tx_g) (D fr : Nat → Nat) : Nat → List Nat → List Nat → Nat := sv m D (tra m g) (tfa m g) (arh g) fr
abbrev svi (m : Nat) (g : tx_g) (D fr : Nat → Nat) : Nat → List Nat → Nat → List Nat → Nat := sv_i m D (tra m g) (tfa m g) (arh g) fr
/-- digits below their bases -/
def dgo (m : Nat) (g : tx_g) (D : Nat → Nat) : Prop := ∀ (j b : Nat), (md_B m (md_sy m g))[j]? = some b → D j < b
theorem sv_b_le {c a b : Nat} : sv_b c a b ≤ 1 := by
  unfold sv_b
  split
  · split <;> omega
  · split
    · split <;> omega
    · split <;> omega
theorem sv_q_le {c : Nat} {vs : List Nat} : sv_q c vs ≤ 1 := by
  unfold sv_q
  split
  · split <;> omega
  · split <;> omega
/-- a symbol's place in its table -/
theorem tb_at {m : Nat} {g : tx_g} {c q : Nat} {b : Bool} {ks : List Bool} (h1 : g.1.length ≤ 6) (h2 : g.2.length ≤ 4) (hk : kS (sg g) b c = some ks) (hc : 10 ≤ c) (hc' : c < 40) (hq : q < m ^ arh g c) : (b = true ∧ c < 20 ∧ c - 10 < g.1.length ∧ (md_B m (md_sy m g))[tra m g (c - 10) + q]? = some 2) ∨ (b = false ∧ 20 ≤ c ∧ c - 20 < g.2.length ∧ (md_B m (md_sy m g))[tfa m g (c - 20) + q]? = some m) := by
  have hA := arh_k h1 h2 b c ks hk
  rcases kS_cases hk with ⟨z, a, e⟩ | ⟨z, a, a2, e⟩ | ⟨z, a, e⟩ | ⟨z, a, e⟩ | ⟨z, a, a2, e⟩ | ⟨z, a, a2, e⟩ | ⟨z, a, a2, e⟩
  · omega
  · omega
  · omega
  · omega
  · have a2 : c < 10 + g.1.length := a2
    left
    refine ⟨z, by omega, by omega, ?_⟩
    obtain ⟨w, hw⟩ := getD_2 (α := Nat) (l := g.1) (k := c - 10) (by omega)
    have e2 : arh g c = (g.1.getD (c - 10) ([], 0)).2 := by
      unfold arh
      rw [if_neg (by omega), if_neg (by omega), if_neg (by omega), if_neg (by omega), if_neg (by omega), if_pos (by omega)]
    exact md_at (md_sy_1 (m := m) hw) (by rw [← e2]; exact hq)
  · have a2 : c < 20 + g.2.length := a2
    right
    refine ⟨z, by omega, by omega, ?_⟩
    obtain ⟨w, hw⟩ := getD_2 (α := Nat) (l := g.2) (k := c - 20) (by omega)
    have e2 : arh g c = (g.2.getD (c - 20) ([], 0)).2 := by
      unfold arh
      rw [if_neg (by omega), if_neg (by omega), if_neg (by omega), if_neg (by omega), if_neg (by omega), if_neg (by omega), if_pos (by omega)]
    exact md_at (md_sy_2 (m := m) hw) (by rw [← e2]; exact hq)
  · omega
theorem pr_lt {a b m : Nat} (ha : a < m) (hb : b < m) : a * m + b < m * m := by
  have : (a + 1) * m ≤ m * m := Nat.mul_le_mul_right m ha
  rw [Nat.add_mul, Nat.one_mul] at this
  omega
theorem kS_rel {σ : mSig} {b : Bool} {c : Nat} {ks : List Bool} (hk : kS σ b c = some ks) (hc : 10 ≤ c) : ks = [] ∨ (∃ b1, ks = [b1]) ∨ ks.length ≠ 1 := by
  match ks with
  | [] => exact Or.inl rfl
  | [b1] => exact Or.inr (Or.inl ⟨b1, rfl⟩)
  | _ :: _ :: _ => exact Or.inr (Or.inr (by simp))
/-- a relation's or a function's parts are terms -/
theorem kS_tms {σ : mSig} {b : Bool} {c : Nat} {ks : List Bool} (hk : kS σ b c = some ks) (hc : 10 ≤ c) : ks = List.replicate ks.length false := by
  rcases kS_cases hk with ⟨z, a, e⟩ | ⟨z, a, a2, e⟩ | ⟨z, a, e⟩ | ⟨z, a, e⟩ | ⟨z, a, a2, e⟩ | ⟨z, a, a2, e⟩ | ⟨z, a, a2, e⟩
  · omega
  · omega
  · omega
  · omega
  · rw [e, List.length_replicate]
  · rw [e, List.length_replicate]
  · rw [e]; rfl
section SVL
variable {m : Nat} {g : tx_g} {D fr : Nat → Nat}
/-- values are small -/
theorem sv_lt (h1 : g.1.length ≤ 6) (h2 : g.2.length ≤ 4) (hm : 1 ≤ m) (hD : dgo m g D) (hr2 : ∀ p, p < g.1.length → (g.1.getD p ([], 0)).2 ≤ 2) (hf2 : ∀ p, p < g.2.length → (g.2.getD p ([], 0)).2 ≤ 2) : ∀ {k p : Nat} {env t : List Nat} {b : Bool}, pt g b p env.length t → (∀ v, 60 + v ∈ t → fr v < m) → (∀ x, x ∈ env → x < m) → (b = true → svg m g D fr k env t ≤ 1) ∧ (b = false → svg m g D fr k env t < m)
  | 0, p, env, t, b, h, hfr, he => ⟨fun _ => Nat.zero_le _, fun _ => hm⟩
  | k + 1, p, env, [], b, h, hfr, he => ⟨fun _ => Nat.zero_le _, fun _ => hm⟩
  | k + 1, p, env, c :: t, b, h, hfr, he => by
    have hA := arh_k h1 h2
    obtain ⟨hp, hq, hb, ks, hk⟩ := pt_c h
    have hfr' : ∀ v, 60 + v ∈ t → fr v < m := fun v hv => hfr v (List.mem_cons_of_mem _ hv)
    have hfd : ∀ v, 60 + v ∈ t.drop (en (arh g) t 1) → fr v < m := fun v hv => hfr' v (List.mem_of_mem_drop hv)
    by_cases c40 : 40 ≤ c
    · have hbf : b = false := by
        rcases kS_cases hk with ⟨z, a, e⟩ | ⟨z, a, a2, e⟩ | ⟨z, a, e⟩ | ⟨z, a, e⟩ | ⟨z, a, a2, e⟩ | ⟨z, a, a2, e⟩ | ⟨z, a, a2, e⟩
        · omega
        · omega
        · omega
        · omega
        · have a2 : c < 10 + g.1.length := a2
          omega
        · have a2 : c < 20 + g.2.length := a2
          omega
        · exact z
      subst hbf
      refine ⟨fun z => by (cases z), fun _ => ?_⟩
      by_cases c60 : 60 ≤ c
      · rw [svg, sv_x c60]
        exact hfr _ (by rw [show 60 + (c - 60) = c from by omega]; exact List.mem_cons_self)
      · rw [svg, sv_y c40 (by omega)]
        have hl := hb c40 (by omega)
        rw [List.getD_eq_getElem?_getD, List.getElem?_eq_getElem hl]
        exact he _ (List.getElem_mem hl)
    · by_cases c10 : 10 ≤ c
      · rw [svg, sv_f c10 (by omega)]
        have ha := hA b c ks hk
        have ht := kS_tms hk c10
        have hi : svi m g D fr k env c t < m ^ arh g c := by
          unfold svi sv_i
          rw [← ha] at ht
          have ha2 : arh g c ≤ 2 := by
            rcases kS_num hk with ⟨a, e⟩ | ⟨a, a2, e⟩ | ⟨a, e⟩ | ⟨a, e⟩ | ⟨a, a2, e⟩ | ⟨a, a2, e⟩ | ⟨a, a2, e⟩
            · omega
            · omega
            · omega
            · omega
            · have a2 : c < 10 + g.1.length := a2
              have e : ks.length = (g.1.getD (c - 10) ([], 0)).2 := e
              have := hr2 (c - 10) (by omega)
              omega
            · have a2 : c < 20 + g.2.length := a2
              have e : ks.length = (g.2.getD (c - 20) ([], 0)).2 := e
              have := hf2 (c - 20) (by omega)
              omega
            · omega
          rcases (show arh g c = 0 ∨ arh g c = 1 ∨ arh g c = 2 by omega) with e | e | e
          · rw [if_pos e, e, Nat.pow_zero]
            exact Nat.one_pos
          · rw [if_neg (by omega), if_pos e, e, Nat.pow_one]
            rw [e] at ht
            rw [ht] at hk
            have k1 := pt_1 hA h hk
            rw [qb_0 (by omega), Nat.add_zero] at k1
            exact (sv_lt h1 h2 hm hD hr2 hf2 k1 hfr' he).2 rfl
          · rw [if_neg (by omega), if_neg (by omega), e]
            rw [e] at ht
            rw [ht] at hk
            have k1 := pt_1 hA h hk
            rw [qb_0 (by omega), Nat.add_zero] at k1
            have k2 := pt_2 hA h hk (qb_0 (by omega))
            rw [Nat.pow_succ, Nat.pow_one]
            exact pr_lt ((sv_lt h1 h2 hm hD hr2 hf2 k1 hfr' he).2 rfl) ((sv_lt h1 h2 hm hD hr2 hf2 k2 hfd he).2 rfl)
        rcases tb_at h1 h2 hk c10 (by omega) hi with ⟨z, z2, z3, z4⟩ | ⟨z, z2, z3, z4⟩
        · rw [if_pos z2]
          have := hD _ _ z4
          refine ⟨fun _ => ?_, fun y => by (rw [z] at y; cases y)⟩
          show D (tra m g (c - 10) + svi m g D fr k env c t) ≤ 1
          omega
        · rw [if_neg (by omega)]
          have := hD _ _ z4
          exact ⟨fun y => by (rw [z] at y; cases y), fun _ => this⟩
      · have hbt : b = true := by
          rcases kS_cases hk with ⟨z, a, e⟩ | ⟨z, a, a2, e⟩ | ⟨z, a, e⟩ | ⟨z, a, e⟩ | ⟨z, a, a2, e⟩ | ⟨z, a, a2, e⟩ | ⟨z, a, a2, e⟩
          · exact z
          · exact z
          · exact z
          · exact z
          · exact z
          · omega
          · omega
        refine ⟨fun _ => ?_, fun z => by (rw [hbt] at z; cases z)⟩
        by_cases c0 : c = 0
        · subst c0
          exact Nat.zero_le _
        by_cases c4 : c < 4
        · rw [svg, sv_2 (by omega) c4]
          exact sv_b_le
        by_cases c6 : c < 6
        · rw [svg, sv_4 (by omega)]
          exact sv_q_le
        have hg := kS_gap hk
        have c6 : c = 6 := by omega
        subst c6
        rw [svg, sv_6]
        split <;> omega
end SVL
end
section
set_option maxRecDepth 100000
/-! rewriting, pure: a left side at a place, what it binds, the new row; steps and where they end -/
def rw_u (B : Nat → Option (List Nat)) (k : Nat) (T : List Nat) : Nat → Option (List Nat) := fun q => if q = k then some T else B q
def rw_m (ar : Nat → Nat) (l : List Nat) : List Nat → Nat → (Nat → Option (List Nat)) → Option (Nat × (Nat → Option (List Nat)))
  | [], p, B => some (p, B)
  | c :: t, p, B =>
    if 40 ≤ c then
      (match B (c - 40) with
      | none => rw_m ar l t (p + en ar (l.drop p) 1) (rw_u B (c - 40) ((l.drop p).take (en ar (l.drop p) 1)))
      | some U => if U = (l.drop p).take (en ar (l.drop p) 1) then rw_m ar l t (p + en ar (l.drop p) 1) B else none)
    else if l[p]? = some c then rw_m ar l t (p + 1) B else none
section RWM
variable {ar : Nat → Nat} {l t : List Nat} {c p : Nat} {B : Nat → Option (List Nat)}
theorem rw_m_n (h : 40 ≤ c) (hB : B (c - 40) = none) : rw_m ar l (c :: t) p B = rw_m ar l t (p + en ar (l.drop p) 1) (rw_u B (c - 40) ((l.drop p).take (en ar (l.drop p) 1))) := by
  show (if 40 ≤ c then _ else _) = _
  rw [if_pos h, hB]
theorem rw_m_s {U : List Nat} (h : 40 ≤ c) (hB : B (c - 40) = some U) : rw_m ar l (c :: t) p B = if U = (l.drop p).take (en ar (l.drop p) 1) then rw_m ar l t (p + en ar (l.drop p) 1) B else none := by
  show (if 40 ≤ c then _ else _) = _
  rw [if_pos h, hB]
theorem rw_m_c (h : ¬ 40 ≤ c) : rw_m ar l (c :: t) p B = if l[p]? = some c then rw_m ar l t (p + 1) B else none := by
  show (if 40 ≤ c then _ else _) = _
  rw [if_neg h]
end RWM
theorem en_1c {ar : Nat → Nat} {l : List Nat} {p c k : Nat} (h : l[p]? = some c) : en ar (l.drop p) (k + 1) = 1 + en ar (l.drop (p + 1)) (k + ar c) := by
  rw [drop_c h, en_c]
/-- where it ends -/
theorem rw_m_en {ar : Nat → Nat} {l : List Nat} {σ : mSig} (hA : ArW σ ar) : ∀ {t : List Nat} {W : List Bool} {p e : Nat} {B B' : Nat → Option (List Nat)}, ws σ t W → (∀ x, x ∈ t → 40 ≤ x → ar x = 0) → rw_m ar l t p B = some (e, B') → e = p + en ar (l.drop p) W.length
  | [], W, p, e, B, B', h, _, hm => by
    have h : W = [] := h
    rw [h, List.length_nil, en_0]
    cases hm
    rfl
  | c :: t, W, p, e, B, B', h, hv, hm => by
    obtain ⟨b, W', ks, rfl, hk, h⟩ := ws_cons.mp h
    have ha := hA b c ks hk
    have hv' : ∀ x, x ∈ t → 40 ≤ x → ar x = 0 := fun x hx => hv x (List.mem_cons_of_mem _ hx)
    by_cases h40 : 40 ≤ c
    · have h0 := hv c List.mem_cons_self h40
      have hks : ks = [] := List.eq_nil_of_length_eq_zero (by omega)
      rw [hks, List.nil_append] at h
      have key : ∀ B2, rw_m ar l t (p + en ar (l.drop p) 1) B2 = some (e, B') → e = p + en ar (l.drop p) (b :: W').length := fun B2 hm => by
        have ih := rw_m_en hA h hv' hm
        rw [List.length_cons, Nat.add_comm W'.length 1, en_add, List.drop_drop]
        omega
      cases hB : B (c - 40) with
      | none => rw [rw_m_n h40 hB] at hm; exact key _ hm
      | some U =>
        rw [rw_m_s h40 hB] at hm
        split at hm
        · exact key _ hm
        · cases hm
    · rw [rw_m_c h40] at hm
      split at hm
      · next hc =>
        have ih := rw_m_en hA h hv' hm
        rw [List.length_append, ← ha] at ih
        rw [List.length_cons, en_1c hc, Nat.add_comm W'.length (ar c)]
        omega
      · cases hm
/-- what is bound once stays -/
theorem rw_m_B {ar : Nat → Nat} {l : List Nat} : ∀ {t : List Nat} {p e : Nat} {B B' : Nat → Option (List Nat)}, rw_m ar l t p B = some (e, B') → (∀ k U, B k = some U → B' k = some U) ∧ ∀ x, x ∈ t → 40 ≤ x → ∃ U, B' (x - 40) = some U
  | [], p, e, B, B', hm => by
    cases hm
    exact ⟨fun _ _ h => h, fun x hx => by cases hx⟩
  | c :: t, p, e, B, B', hm => by
    by_cases h40 : 40 ≤ c
    · cases hB : B (c - 40) with
      | none =>
        rw [rw_m_n h40 hB] at hm
        obtain ⟨i1, i2⟩ := rw_m_B hm
        refine ⟨fun k U hk => i1 k U ?_, fun x hx h => ?_⟩
        · unfold rw_u
          by_cases e : k = c - 40
          · rw [e, hB] at hk; cases hk
          · rw [if_neg e]; exact hk
        · rcases List.mem_cons.mp hx with hx | hx
          · exact ⟨_, i1 _ _ (by unfold rw_u; rw [hx, if_pos rfl])⟩
          · exact i2 x hx h
      | some U =>
        rw [rw_m_s h40 hB] at hm
        split at hm
        · obtain ⟨i1, i2⟩ := rw_m_B hm
          refine ⟨i1, fun x hx h => ?_⟩
          rcases List.mem_cons.mp hx with hx | hx
          · exact ⟨_, i1 _ _ (by rw [hx]; exact hB)⟩
          · exact i2 x hx h
        · cases hm
    · rw [rw_m_c h40] at hm
      split at hm
      · obtain ⟨i1, i2⟩ := rw_m_B hm
        refine ⟨i1, fun x hx h => ?_⟩
        rcases List.mem_cons.mp hx with hx | hx
        · rw [hx] at h; exact absurd h h40
        · exact i2 x hx h
      · cases hm
/-- a right side with what is bound -/
def rw_r (B : Nat → Option (List Nat)) : List Nat → List Nat
  | [] => []
  | c :: t => (if 40 ≤ c then (B (c - 40)).getD [] else [c]) ++ rw_r B t
theorem rw_r_v {B : Nat → Option (List Nat)} {c : Nat} {t U : List Nat} (h : 40 ≤ c) (hB : B (c - 40) = some U) : rw_r B (c :: t) = U ++ rw_r B t := by
  show (if 40 ≤ c then (B (c - 40)).getD [] else [c]) ++ rw_r B t = _
  rw [if_pos h, hB]
  rfl
theorem rw_r_c {B : Nat → Option (List Nat)} {c : Nat} {t : List Nat} (h : ¬ 40 ≤ c) : rw_r B (c :: t) = c :: rw_r B t := by
  show (if 40 ≤ c then (B (c - 40)).getD [] else [c]) ++ rw_r B t = _
  rw [if_neg h]
  rfl
/-- a left side, a right side -/
def rw_L (ar : Nat → Nat) (r : List Nat) : List Nat := (r.drop (rl_l r)).take (rl_r ar r - rl_l r)
def rw_n (B : Nat → Option (List Nat)) (ar : Nat → Nat) (r l : List Nat) (p e : Nat) : List Nat := l.take p ++ rw_r B (r.drop (rl_r ar r)) ++ l.drop e
/-- the k-th axiom takes l at p to l' -/
def rw_ax (h : tx_H) (l : List Nat) (p k : Nat) (l' : List Nat) : Prop := ∃ (w r : List Nat) (e : Nat) (B : Nat → Option (List Nat)), h.2[k]? = some (w, r) ∧ rl_is (arh h.1) r ∧ rw_m (arh h.1) l (rw_L (arh h.1) r) p (fun _ => none) = some (e, B) ∧ l' = rw_n B (arh h.1) r l p e
theorem rw_ax_det {h : tx_H} {l l' l'' : List Nat} {p k : Nat} (a : rw_ax h l p k l') (b : rw_ax h l p k l'') : l' = l'' := by
  obtain ⟨w, r, e, B, a1, a2, a3, a4⟩ := a
  obtain ⟨w', r', e', B', b1, b2, b3, b4⟩ := b
  rw [a1] at b1
  cases b1
  rw [a3] at b3
  cases b3
  rw [a4, b4]
/-- no axiom does -/
def rw_z (h : tx_H) (l : List Nat) (p k : Nat) : Prop := ∀ l', ¬ rw_ax h l p k l'
/-- one step: the first place, the first axiom -/
def rw_s (h : tx_H) (l l' : List Nat) : Prop := ∃ p k : Nat, p < l.length ∧ rw_ax h l p k l' ∧ (∀ k', k' < k → rw_z h l p k') ∧ ∀ p', p' < p → ∀ k', rw_z h l p' k'
def rw_e (h : tx_H) (l : List Nat) : Prop := ∀ p', p' < l.length → ∀ k', rw_z h l p' k'
theorem rw_s_det {h : tx_H} {l l' l'' : List Nat} (a : rw_s h l l') (b : rw_s h l l'') : l' = l'' := by
  obtain ⟨p, k, a1, a2, a3, a4⟩ := a
  obtain ⟨q, j, b1, b2, b3, b4⟩ := b
  rcases Nat.lt_trichotomy p q with z | z | z
  · exact absurd a2 (b4 p z k l')
  · subst z
    rcases Nat.lt_trichotomy k j with z | z | z
    · exact absurd a2 (b3 k z l')
    · subst z
      exact rw_ax_det a2 b2
    · exact absurd b2 (a3 j z l'')
  · exact absurd b2 (a4 q z j l'')
theorem rw_s_e {h : tx_H} {l l' : List Nat} (a : rw_s h l l') (b : rw_e h l) : False := by
  obtain ⟨p, k, a1, a2, a3, a4⟩ := a
  exact b p a1 k l' a2
/-- a row that is kept -/
def rw_g (h : tx_H) (l : List Nat) : Prop := l.length ≤ 40 ∧ ∀ (i : Nat) (d : Nat × Nat) (x : Nat), (ly (arh h.1) [(0, 0)] l)[i]? = some d → l[i]? = some x → d.1 ≤ 12 ∧ d.2 + qb x ≤ 5
def rw_go (h : tx_H) : Nat → List Nat → List Nat → Prop
  | 0, l, l' => l = l'
  | n + 1, l, l' => ∃ m, rw_go h n l m ∧ rw_s h m l' ∧ rw_g h l'
theorem rw_go_det {h : tx_H} : ∀ {n : Nat} {l a b : List Nat}, rw_go h n l a → rw_go h n l b → a = b
  | 0, l, a, b, x, y => by
    have x : l = a := x
    have y : l = b := y
    rw [← x, ← y]
  | n + 1, l, a, b, ⟨m, x1, x2, x3⟩, ⟨m', y1, y2, y3⟩ => by
    have e := rw_go_det x1 y1
    subst e
    exact rw_s_det x2 y2
theorem rw_go_pre {h : tx_H} {l : List Nat} {n : Nat} : ∀ {k : Nat} {b : List Nat}, rw_go h (n + k + 1) l b → ∃ a c, rw_go h n l a ∧ rw_s h a c ∧ rw_g h c
  | 0, b, ⟨m, x1, x2, x3⟩ => ⟨m, b, x1, x2, x3⟩
  | k + 1, b, ⟨m, x1, x2, x3⟩ => rw_go_pre (k := k) x1
/-- the rewriting's end: how many steps and the row, or -2 and none -/
def rw_A (h : tx_H) (l : List Nat) (v : Int) (nl : List Nat) : Prop := (∃ n : Nat, n ≤ 60 ∧ rw_go h n l nl ∧ rw_e h nl ∧ v = n) ∨ (v = -2 ∧ nl = [] ∧ ∃ (n : Nat) (a b : List Nat), n ≤ 60 ∧ rw_go h n l a ∧ rw_s h a b ∧ (¬ rw_g h b ∨ n = 60))
theorem rw_A_aux {h : tx_H} {l a nl b : List Nat} {n k : Nat} (g : rw_go h n l nl) (e : rw_e h nl) (g' : rw_go h k l a) (s : rw_s h a b) (hb : ¬ rw_g h b ∨ k = 60) (hn : n ≤ 60) : False := by
  rcases Nat.lt_trichotomy n k with z | z | z
  · obtain ⟨j, rfl⟩ : ∃ j, k = n + j + 1 := ⟨k - n - 1, by omega⟩
    obtain ⟨a', c, x1, x2, x3⟩ := rw_go_pre g'
    have q := rw_go_det g x1
    subst q
    exact rw_s_e x2 e
  · subst z
    have q := rw_go_det g g'
    subst q
    exact rw_s_e s e
  · obtain ⟨j, rfl⟩ : ∃ j, n = k + j + 1 := ⟨n - k - 1, by omega⟩
    obtain ⟨a', c, x1, x2, x3⟩ := rw_go_pre g
    have q := rw_go_det g' x1
    subst q
    have q := rw_s_det s x2
    subst q
    rcases hb with hb | hb
    · exact hb x3
    · omega
theorem rw_A_det {h : tx_H} {l nl nl' : List Nat} {v v' : Int} (a : rw_A h l v nl) (b : rw_A h l v' nl') : v = v' ∧ nl = nl' := by
  rcases a with ⟨n, a1, a2, a3, a4⟩ | ⟨a1, a2, n, x, y, a3, a4, a5, a6⟩ <;> rcases b with ⟨k, b1, b2, b3, b4⟩ | ⟨b1, b2, k, x', y', b3, b4, b5, b6⟩
  · rcases Nat.lt_trichotomy n k with z | z | z
    · obtain ⟨j, rfl⟩ : ∃ j, k = n + j + 1 := ⟨k - n - 1, by omega⟩
      obtain ⟨a', c, x1, x2, x3⟩ := rw_go_pre b2
      have q := rw_go_det a2 x1
      subst q
      exact (rw_s_e x2 a3).elim
    · subst z
      exact ⟨a4.trans b4.symm, rw_go_det a2 b2⟩
    · obtain ⟨j, rfl⟩ : ∃ j, n = k + j + 1 := ⟨n - k - 1, by omega⟩
      obtain ⟨a', c, x1, x2, x3⟩ := rw_go_pre a2
      have q := rw_go_det b2 x1
      subst q
      exact (rw_s_e x2 b3).elim
  · exact (rw_A_aux a2 a3 b4 b5 b6 a1).elim
  · exact (rw_A_aux b2 b3 a4 a5 a6 b1).elim
  · exact ⟨a1.trans b1.symm, a2.trans b2.symm⟩
end
