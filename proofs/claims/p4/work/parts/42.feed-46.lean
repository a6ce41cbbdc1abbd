section
set_option maxRecDepth 100000
/-! feed: what it writes, on both sides -/
-- ProofBench.putNumber(I)V
theorem pl_179_0 {n : Nat} {x1 : Int32} {s : ps_S} {Q : Option Value → ps_S → Prop} (h :
  pl_At n 179 3 [(0, .ref 0), (1, .int x1), (2, .int 24)] [] s Q) : pl_At (n + 1) 179 0 [(0, .ref 0), (1, .int x1)] [] s Q :=
  pl_wp_at (stops := [(3, [0, 1, 2])]) (f := 4) h rfl

theorem pl_179_3 {n : Nat} {x1 : Int32} {x2 : Int32} {s : ps_S} {Q : Option Value → ps_S → Prop} (h :
  (x2 < 0 →
    Q none s) ∧
  (0 ≤ x2 →
    ((ps_i s 0 1) < 0 →
      pl_At n 179 3 [(0, .ref 0), (1, .int x1), (2, .int (x2 + (-8)))] [] s Q) ∧
    (0 ≤ (ps_i s 0 1) →
      ((nI 1600) ≤ (ps_i s 0 1) →
        pl_At n 179 3 [(0, .ref 0), (1, .int x1), (2, .int (x2 + (-8)))] [] s Q) ∧
      ((ps_i s 0 1) < (nI 1600) →
        (pm_in (ps_i s 0 1) 1600 = true →
          pl_At n 179 3 [(0, .ref 0), (1, .int x1), (2, .int (x2 + (-8)))] [] (ps_ui (ps_ua s 1 (Int32.toNatClampNeg (ps_i s 0 1)) (Int8.toInt32 (Int32.toInt8 (Int8.toInt32 (Int32.toInt8 (x1 >>> (x2 &&& 31))))))) 0 1 ((ps_i (ps_ua s 1 (Int32.toNatClampNeg (ps_i s 0 1)) (Int8.toInt32 (Int32.toInt8 (Int8.toInt32 (Int32.toInt8 (x1 >>> (x2 &&& 31))))))) 0 1) + 1)) Q))))) : pl_At (n + 1) 179 3 [(0, .ref 0), (1, .int x1), (2, .int x2)] [] s Q :=
  pl_wp_at (stops := [(3, [0, 1, 2])]) (f := 35) h rfl

-- ProofBench.feed(IIIII)I
theorem pl_149_0 {n : Nat} {x1 : Int32} {x2 : Int32} {x3 : Int32} {x4 : Int32} {x5 : Int32} {s : ps_S} {Q : Option Value → ps_S → Prop} (h :
  (((ps_i s 0 1) + 20) ≤ 1600 →
    pl_Cl n 179 [.ref 0, .int x1] s (ps_rV (fun s1 =>
      pl_Cl n 179 [.ref 0, .int x2] s1 (ps_rV (fun s2 =>
        pl_Cl n 179 [.ref 0, .int x3] s2 (ps_rV (fun s3 =>
          pl_Cl n 179 [.ref 0, .int x4] s3 (ps_rV (fun s4 =>
            pl_Cl n 179 [.ref 0, .int x5] s4 (ps_rV (fun s5 =>
              Q (some (.int (ps_i s5 0 1))) s5))))))))))) ∧
  (1600 < ((ps_i s 0 1) + 20) →
    Q (some (.int (-1))) s)) : pl_At (n + 1) 149 0 [(0, .ref 0), (1, .int x1), (2, .int x2), (3, .int x3), (4, .int x4), (5, .int x5)] [] s Q :=
  pl_wp_at (stops := []) (f := 28) h rfl

-- ProofBenchModel.feed(IIIII)I
theorem pl_308_0 {n : Nat} {x1 : Int32} {x2 : Int32} {x3 : Int32} {x4 : Int32} {x5 : Int32} {s : ps_S} {Q : Option Value → ps_S → Prop} (h :
  (((ps_i s 1131 3) + 20) ≤ 1600 →
    pl_At n 308 18 [(0, .ref 1131), (1, .int x1), (2, .int x2), (3, .int x3), (4, .int x4), (5, .int x5), (6, .int 0)] [] s Q) ∧
  (1600 < ((ps_i s 1131 3) + 20) →
    Q (some (.int (-1))) s)) : pl_At (n + 1) 308 0 [(0, .ref 1131), (1, .int x1), (2, .int x2), (3, .int x3), (4, .int x4), (5, .int x5)] [] s Q :=
  pl_wp_at (stops := [(18, [0, 1, 2, 3, 4, 5, 6])]) (f := 12) h rfl

theorem pl_308_18 {n : Nat} {x1 : Int32} {x2 : Int32} {x3 : Int32} {x4 : Int32} {x5 : Int32} {x6 : Int32} {s : ps_S} {Q : Option Value → ps_S → Prop} (h :
  (20 ≤ x6 →
    Q (some (.int (ps_i (ps_ui s 1131 3 ((ps_i s 1131 3) + 20)) 1131 3))) (ps_ui s 1131 3 ((ps_i s 1131 3) + 20))) ∧
  (x6 < 20 →
    (4 ≤ x6 →
      (8 ≤ x6 →
        (12 ≤ x6 →
          (16 ≤ x6 →
            (pm_in ((ps_i s 1131 3) + x6) 1620 = true →
              pl_At n 308 18 [(0, .ref 1131), (1, .int x1), (2, .int x2), (3, .int x3), (4, .int x4), (5, .int x5), (6, .int (x6 + 1))] [] (ps_ua s 1132 (Int32.toNatClampNeg ((ps_i s 1131 3) + x6)) (Int8.toInt32 (Int32.toInt8 (Int8.toInt32 (Int32.toInt8 (x5 >>> (((24 : Int32) - ((8 : Int32) * (x6 &&& 3))) &&& 31))))))) Q)) ∧
          (x6 < 16 →
            (pm_in ((ps_i s 1131 3) + x6) 1620 = true →
              pl_At n 308 18 [(0, .ref 1131), (1, .int x1), (2, .int x2), (3, .int x3), (4, .int x4), (5, .int x5), (6, .int (x6 + 1))] [] (ps_ua s 1132 (Int32.toNatClampNeg ((ps_i s 1131 3) + x6)) (Int8.toInt32 (Int32.toInt8 (Int8.toInt32 (Int32.toInt8 (x4 >>> (((24 : Int32) - ((8 : Int32) * (x6 &&& 3))) &&& 31))))))) Q))) ∧
        (x6 < 12 →
          (pm_in ((ps_i s 1131 3) + x6) 1620 = true →
            pl_At n 308 18 [(0, .ref 1131), (1, .int x1), (2, .int x2), (3, .int x3), (4, .int x4), (5, .int x5), (6, .int (x6 + 1))] [] (ps_ua s 1132 (Int32.toNatClampNeg ((ps_i s 1131 3) + x6)) (Int8.toInt32 (Int32.toInt8 (Int8.toInt32 (Int32.toInt8 (x3 >>> (((24 : Int32) - ((8 : Int32) * (x6 &&& 3))) &&& 31))))))) Q))) ∧
      (x6 < 8 →
        (pm_in ((ps_i s 1131 3) + x6) 1620 = true →
          pl_At n 308 18 [(0, .ref 1131), (1, .int x1), (2, .int x2), (3, .int x3), (4, .int x4), (5, .int x5), (6, .int (x6 + 1))] [] (ps_ua s 1132 (Int32.toNatClampNeg ((ps_i s 1131 3) + x6)) (Int8.toInt32 (Int32.toInt8 (Int8.toInt32 (Int32.toInt8 (x2 >>> (((24 : Int32) - ((8 : Int32) * (x6 &&& 3))) &&& 31))))))) Q))) ∧
    (x6 < 4 →
      (pm_in ((ps_i s 1131 3) + x6) 1620 = true →
        pl_At n 308 18 [(0, .ref 1131), (1, .int x1), (2, .int x2), (3, .int x3), (4, .int x4), (5, .int x5), (6, .int (x6 + 1))] [] (ps_ua s 1132 (Int32.toNatClampNeg ((ps_i s 1131 3) + x6)) (Int8.toInt32 (Int32.toInt8 (Int8.toInt32 (Int32.toInt8 (x1 >>> (((24 : Int32) - ((8 : Int32) * (x6 &&& 3))) &&& 31))))))) Q)))) : pl_At (n + 1) 308 18 [(0, .ref 1131), (1, .int x1), (2, .int x2), (3, .int x3), (4, .int x4), (5, .int x5), (6, .int x6)] [] s Q :=
  pl_wp_at (stops := [(18, [0, 1, 2, 3, 4, 5, 6])]) (f := 135) h rfl

def fb (x q : Int32) : Int32 := Int8.toInt32 (Int32.toInt8 (Int8.toInt32 (Int32.toInt8 (x >>> (q &&& 31)))))
def fsh (i : Nat) : Int32 := Int32.ofInt (24 - 8 * i)
def fx (x1 x2 x3 x4 x5 : Int32) : Nat → Int32
  | 0 => x1
  | 1 => x2
  | 2 => x3
  | 3 => x4
  | _ => x5
def fw (x1 x2 x3 x4 x5 : Int32) (j : Nat) : Int32 := fb (fx x1 x2 x3 x4 x5 (j / 4)) (fsh (j % 4))
theorem fsh_i {x : Int32} {i : Nat} (h : x.toInt = 24 - 8 * (i : Int)) (hi : i < 4) : x = fsh i := by
  apply Int32.toInt_inj.mp
  rw [h]
  exact (show ∀ i : Nat, i < 4 → 24 - 8 * (i : Int) = (fsh i).toInt by decide) i hi
theorem fsh_8 {x : Int32} {i : Nat} (h : x.toInt = 24 - 8 * (i : Int)) (hi : i < 4) : (x + (-8)).toInt = 24 - 8 * ((i + 1 : Nat) : Int) := by
  rw [xI_add (by rw [xm8]; omega) (by rw [xm8]; omega), xm8]
  omega
theorem fsh_m {x : Int32} {i : Nat} (h : x.toInt = (i : Int)) (hi : i < 20) : (24 : Int32) - (8 : Int32) * (x &&& 3) = fsh (i % 4) := by
  have e : x = Int32.ofNat i := by
    apply Int32.toInt_inj.mp
    rw [h]
    exact (show ∀ i : Nat, i < 20 → (i : Int) = (Int32.ofNat i).toInt by decide) i hi
  rw [e]
  exact (show ∀ i : Nat, i < 20 → (24 : Int32) - (8 : Int32) * (Int32.ofNat i &&& 3) = fsh (i % 4) by decide) i hi
def fq (t : Nat) (x : Int32) (s s' : ps_S) : Prop := (ps_i s' 0 1).toInt = (t + 4 : Nat) ∧ cfr (fun q => q = 0 ∨ q = 1) s s' ∧ ps_r s' = ps_r s ∧ (∀ k, k < t → ps_a s' 1 k = ps_a s 1 k) ∧ ∀ j, j < 4 → ps_a s' 1 (t + j) = fb x (fsh j)
theorem fs_179_3 {t : Nat} {x1 : Int32} {s0 : ps_S} {R : ps_S → Prop} (ht : t + 4 ≤ 1600) (k : ∀ s', fq t x1 s0 s' → R s') : ∀ (n : Nat) {s : ps_S} {x2 : Int32} {i : Nat}, x2.toInt = 24 - 8 * (i : Int) → i ≤ 4 → (ps_i s 0 1).toInt = (t + i : Nat) → cfr (fun q => q = 0 ∨ q = 1) s0 s → ps_r s = ps_r s0 → (∀ k, k < t → ps_a s 1 k = ps_a s0 1 k) → (∀ j, j < i → ps_a s 1 (t + j) = fb x1 (fsh j)) → pl_At n 179 3 [(0, .ref 0), (1, .int x1), (2, .int x2)] [] s (ps_rV R)
  | 0, _, _, _, _, _, _, _, _, _, _ => pl_At_0
  | n + 1, s, x2, i, hx, hi, h1, C, hr, ho, hw => by
    have e1600 : (nI 1600).toInt = 1600 := nI_toInt (by decide)
    refine pl_179_3 ?_
    refine ⟨fun h4 => ?_, fun h4 => ?_⟩
    · have h4 : x2.toInt < (0 : Int) := xlt h4
      have hi4 : i = 4 := by omega
      subst hi4
      exact k _ ⟨h1, C, hr, ho, hw⟩
    · have h4 : (0 : Int) ≤ x2.toInt := xle h4
      refine ⟨fun h11 => ?_, fun h11 => ?_⟩
      · have h11 : (ps_i s 0 1).toInt < (0 : Int) := xlt h11
        exfalso; omega
      · have h11 : (0 : Int) ≤ (ps_i s 0 1).toInt := xle h11
        refine ⟨fun h23 => ?_, fun h23 => ?_⟩
        · have h23 : (1600 : Int) ≤ (ps_i s 0 1).toInt := xle h23
          exfalso; omega
        · have h23 : (ps_i s 0 1).toInt < (1600 : Int) := xlt h23
          intro b38
          obtain ⟨b38, c38⟩ := pl_in b38
          have hi4 : i < 4 := by omega
          have e8 := fsh_8 hx hi4
          have ex := fsh_i hx hi4
          have ej := xj1 h1 (by omega)
          rw [xtn h1]
          refine fs_179_3 ht k n e8 (by omega) ?_ (cfr_i (cfr_a C (Or.inr rfl)) (Or.inl rfl)) hr (fun q hq => ?_) (fun j hj => ?_)
          · show (ps_i s 0 1 + 1).toInt = _
            exact ej
          · show ps_a (ps_ua s 1 (t + i) _) 1 q = _
            rw [ps_a_ua, if_neg (by omega)]
            exact ho q hq
          · show ps_a (ps_ua s 1 (t + i) _) 1 (t + j) = _
            rw [ps_a_ua]
            by_cases e : j = i
            · rw [if_pos ⟨rfl, by omega⟩, e, ex]
              rfl
            · rw [if_neg (by omega)]
              exact hw j (by omega)
theorem fs_179 {n t : Nat} {x1 : Int32} {s : ps_S} {R : ps_S → Prop} (ht : t + 4 ≤ 1600) (h1 : (ps_i s 0 1).toInt = t) (k : ∀ s', fq t x1 s s' → R s') : pl_Cl n 179 [.ref 0, .int x1] s (ps_rV R) := by
  cases n with
  | zero => exact pl_At_0
  | succ n =>
  show pl_At (n + 1) 179 0 [(0, .ref 0), (1, .int x1)] [] s (ps_rV R)
  refine pl_179_0 ?_
  exact fs_179_3 ht k n (i := 0) rfl (by omega) h1 cfr_refl rfl (fun _ _ => rfl) (fun j hj => absurd hj (Nat.not_lt_zero _))
def fg (t : Nat) (x1 x2 x3 x4 x5 : Int32) (s s' : ps_S) : Prop := (ps_i s' 0 1).toInt = (t + 20 : Nat) ∧ cfr (fun q => q = 0 ∨ q = 1) s s' ∧ ps_r s' = ps_r s ∧ (∀ k, k < t → ps_a s' 1 k = ps_a s 1 k) ∧ ∀ j, j < 20 → ps_a s' 1 (t + j) = fw x1 x2 x3 x4 x5 j
theorem fs_149 {n t : Nat} {x1 x2 x3 x4 x5 : Int32} {s : ps_S} {R : Int32 → ps_S → Prop} (ht : t ≤ 1600) (h1 : (ps_i s 0 1).toInt = t) (k1 : t ≤ 1580 → ∀ v s', fg t x1 x2 x3 x4 x5 s s' → R v s') (k0 : 1580 < t → R (-1) s) : pl_Cl n 149 [.ref 0, .int x1, .int x2, .int x3, .int x4, .int x5] s (ps_rI R) := by
  cases n with
  | zero => exact pl_At_0
  | succ n =>
  show pl_At (n + 1) 149 0 [(0, .ref 0), (1, .int x1), (2, .int x2), (3, .int x3), (4, .int x4), (5, .int x5)] [] s (ps_rI R)
  have c20 : (20 : Int32).toInt = 20 := by decide
  have e20 : ((ps_i s 0 1) + 20).toInt = t + 20 := by rw [xI_add (by omega) (by omega)]; omega
  refine pl_149_0 ?_
  refine ⟨fun h10 => ?_, fun h10 => ?_⟩
  · have h10 : ((ps_i s 0 1) + 20).toInt ≤ (1600 : Int) := xle h10
    refine fs_179 (t := t) (by omega) h1 (fun s17 q17 => ?_)
    refine fs_179 (t := t + 4) (by omega) q17.1 (fun s22 q22 => ?_)
    refine fs_179 (t := t + 8) (by omega) q22.1 (fun s27 q27 => ?_)
    refine fs_179 (t := t + 12) (by omega) q27.1 (fun s33 q33 => ?_)
    refine fs_179 (t := t + 16) (by omega) q33.1 (fun s39 q39 => ?_)
    obtain ⟨a1, a2, a3, a4, a5⟩ := q17
    obtain ⟨b1, b2, b3, b4, b5⟩ := q22
    obtain ⟨c1, c2, c3, c4, c5⟩ := q27
    obtain ⟨d1, d2, d3, d4, d5⟩ := q33
    obtain ⟨f1, f2, f3, f4, f5⟩ := q39
    refine k1 (by omega) _ _ ⟨f1, cfr_tr (cfr_tr (cfr_tr (cfr_tr a2 b2) c2) d2) f2, f3.trans (d3.trans (c3.trans (b3.trans a3))), fun q hq => ?_, fun j hj => ?_⟩
    · rw [f4 q (by omega), d4 q (by omega), c4 q (by omega), b4 q (by omega), a4 q hq]
    · have hd : j = 4 * (j / 4) + j % 4 := by omega
      have hm : j % 4 < 4 := Nat.mod_lt _ (by decide)
      unfold fw
      rcases (show j / 4 = 0 ∨ j / 4 = 1 ∨ j / 4 = 2 ∨ j / 4 = 3 ∨ j / 4 = 4 from by omega) with e | e | e | e | e
      · rw [e, f4 _ (by omega), d4 _ (by omega), c4 _ (by omega), b4 _ (by omega), show t + j = t + j % 4 from by omega, a5 _ hm]
        rfl
      · rw [e, f4 _ (by omega), d4 _ (by omega), c4 _ (by omega), show t + j = t + 4 + j % 4 from by omega, b5 _ hm]
        rfl
      · rw [e, f4 _ (by omega), d4 _ (by omega), show t + j = t + 8 + j % 4 from by omega, c5 _ hm]
        rfl
      · rw [e, f4 _ (by omega), show t + j = t + 12 + j % 4 from by omega, d5 _ hm]
        rfl
      · rw [e, show t + j = t + 16 + j % 4 from by omega, f5 _ hm]
        rfl
  · have h10 : (1600 : Int) < ((ps_i s 0 1) + 20).toInt := xlt h10
    exact k0 (by omega)
def fh (t : Nat) (x1 x2 x3 x4 x5 : Int32) (s s' : ps_S) : Prop := (ps_i s' 1131 3).toInt = (t + 20 : Nat) ∧ kq [1132] [3] s s' ∧ (∀ k, k < t → ps_a s' 1132 k = ps_a s 1132 k) ∧ ∀ j, j < 20 → ps_a s' 1132 (t + j) = fw x1 x2 x3 x4 x5 j
theorem fm_308_18 {t : Nat} {x1 x2 x3 x4 x5 : Int32} {s0 : ps_S} {R : Int32 → ps_S → Prop} (ht : t ≤ 1580) (k : ∀ v s', fh t x1 x2 x3 x4 x5 s0 s' → R v s') : ∀ (n : Nat) {s : ps_S} {x6 : Int32} {i : Nat}, x6.toInt = i → i ≤ 20 → (ps_i s 1131 3).toInt = t → kq [1132] [3] s0 s → (∀ k, k < t → ps_a s 1132 k = ps_a s0 1132 k) → (∀ j, j < i → ps_a s 1132 (t + j) = fw x1 x2 x3 x4 x5 j) → pl_At n 308 18 [(0, .ref 1131), (1, .int x1), (2, .int x2), (3, .int x3), (4, .int x4), (5, .int x5), (6, .int x6)] [] s (ps_rI R)
  | 0, _, _, _, _, _, _, _, _, _ => pl_At_0
  | n + 1, s, x6, i, hx, hi, h3, K, ho, hw => by
    have c20 : (20 : Int32).toInt = 20 := by decide
    have e20 : ((ps_i s 1131 3) + 20).toInt = (t + 20 : Nat) := by rw [xI_add (by omega) (by omega)]; omega
    have e6 : ((ps_i s 1131 3) + x6).toInt = (t + i : Nat) := by rw [xI_add (by omega) (by omega)]; omega
    refine pl_308_18 ?_
    refine ⟨fun h22 => ?_, fun h22 => ?_⟩
    · have h22 : (20 : Int) ≤ x6.toInt := xle h22
      have hi20 : i = 20 := by omega
      subst hi20
      exact k _ _ ⟨e20, kqi K rfl, ho, hw⟩
    · have h22 : x6.toInt < (20 : Int) := xlt h22
      refine ⟨fun h28 => ?_, fun h28 => ?_⟩
      · have h28 : (4 : Int) ≤ x6.toInt := xle h28
        refine ⟨fun h39 => ?_, fun h39 => ?_⟩
        · have h39 : (8 : Int) ≤ x6.toInt := xle h39
          refine ⟨fun h50 => ?_, fun h50 => ?_⟩
          · have h50 : (12 : Int) ≤ x6.toInt := xle h50
            refine ⟨fun h61 => ?_, fun h61 => ?_⟩
            · have h61 : (16 : Int) ≤ x6.toInt := xle h61
              intro b98
              obtain ⟨b98, c98⟩ := pl_in b98
              have hv : fb x5 ((24 : Int32) - (8 : Int32) * (x6 &&& 3)) = fw x1 x2 x3 x4 x5 i := by
                unfold fw
                rw [fsh_m hx (by omega), show i / 4 = 4 from by omega]
                rfl
              have ej := xj1 hx (by omega)
              rw [xtn e6]
              refine fm_308_18 ht k n ej (by omega) h3 (kqa K rfl) (fun q hq => ?_) (fun j hj => ?_)
              · rw [ps_a_ua, if_neg (by omega)]
                exact ho q hq
              · rw [ps_a_ua]
                by_cases e : j = i
                · rw [if_pos ⟨rfl, by omega⟩, e]
                  exact hv
                · rw [if_neg (by omega)]
                  exact hw j (by omega)
            · have h61 : x6.toInt < (16 : Int) := xlt h61
              intro b98
              obtain ⟨b98, c98⟩ := pl_in b98
              have hv : fb x4 ((24 : Int32) - (8 : Int32) * (x6 &&& 3)) = fw x1 x2 x3 x4 x5 i := by
                unfold fw
                rw [fsh_m hx (by omega), show i / 4 = 3 from by omega]
                rfl
              have ej := xj1 hx (by omega)
              rw [xtn e6]
              refine fm_308_18 ht k n ej (by omega) h3 (kqa K rfl) (fun q hq => ?_) (fun j hj => ?_)
              · rw [ps_a_ua, if_neg (by omega)]
                exact ho q hq
              · rw [ps_a_ua]
                by_cases e : j = i
                · rw [if_pos ⟨rfl, by omega⟩, e]
                  exact hv
                · rw [if_neg (by omega)]
                  exact hw j (by omega)
          · have h50 : x6.toInt < (12 : Int) := xlt h50
            intro b98
            obtain ⟨b98, c98⟩ := pl_in b98
            have hv : fb x3 ((24 : Int32) - (8 : Int32) * (x6 &&& 3)) = fw x1 x2 x3 x4 x5 i := by
              unfold fw
              rw [fsh_m hx (by omega), show i / 4 = 2 from by omega]
              rfl
            have ej := xj1 hx (by omega)
            rw [xtn e6]
            refine fm_308_18 ht k n ej (by omega) h3 (kqa K rfl) (fun q hq => ?_) (fun j hj => ?_)
            · rw [ps_a_ua, if_neg (by omega)]
              exact ho q hq
            · rw [ps_a_ua]
              by_cases e : j = i
              · rw [if_pos ⟨rfl, by omega⟩, e]
                exact hv
              · rw [if_neg (by omega)]
                exact hw j (by omega)
        · have h39 : x6.toInt < (8 : Int) := xlt h39
          intro b98
          obtain ⟨b98, c98⟩ := pl_in b98
          have hv : fb x2 ((24 : Int32) - (8 : Int32) * (x6 &&& 3)) = fw x1 x2 x3 x4 x5 i := by
            unfold fw
            rw [fsh_m hx (by omega), show i / 4 = 1 from by omega]
            rfl
          have ej := xj1 hx (by omega)
          rw [xtn e6]
          refine fm_308_18 ht k n ej (by omega) h3 (kqa K rfl) (fun q hq => ?_) (fun j hj => ?_)
          · rw [ps_a_ua, if_neg (by omega)]
            exact ho q hq
          · rw [ps_a_ua]
            by_cases e : j = i
            · rw [if_pos ⟨rfl, by omega⟩, e]
              exact hv
            · rw [if_neg (by omega)]
              exact hw j (by omega)
      · have h28 : x6.toInt < (4 : Int) := xlt h28
        intro b98
        obtain ⟨b98, c98⟩ := pl_in b98
        have hv : fb x1 ((24 : Int32) - (8 : Int32) * (x6 &&& 3)) = fw x1 x2 x3 x4 x5 i := by
          unfold fw
          rw [fsh_m hx (by omega), show i / 4 = 0 from by omega]
          rfl
        have ej := xj1 hx (by omega)
        rw [xtn e6]
        refine fm_308_18 ht k n ej (by omega) h3 (kqa K rfl) (fun q hq => ?_) (fun j hj => ?_)
        · rw [ps_a_ua, if_neg (by omega)]
          exact ho q hq
        · rw [ps_a_ua]
          by_cases e : j = i
          · rw [if_pos ⟨rfl, by omega⟩, e]
            exact hv
          · rw [if_neg (by omega)]
            exact hw j (by omega)
theorem fm_308 {n t : Nat} {x1 x2 x3 x4 x5 : Int32} {s : ps_S} {R : Int32 → ps_S → Prop} (ht : t ≤ 1600) (h3 : (ps_i s 1131 3).toInt = t) (k1 : t ≤ 1580 → ∀ v s', fh t x1 x2 x3 x4 x5 s s' → R v s') (k0 : 1580 < t → R (-1) s) : pl_Cl n 308 [.ref 1131, .int x1, .int x2, .int x3, .int x4, .int x5] s (ps_rI R) := by
  cases n with
  | zero => exact pl_At_0
  | succ n =>
  show pl_At (n + 1) 308 0 [(0, .ref 1131), (1, .int x1), (2, .int x2), (3, .int x3), (4, .int x4), (5, .int x5)] [] s (ps_rI R)
  have c20 : (20 : Int32).toInt = 20 := by decide
  have e20 : ((ps_i s 1131 3) + 20).toInt = (t + 20 : Nat) := by rw [xI_add (by omega) (by omega)]; omega
  refine pl_308_0 ?_
  refine ⟨fun h10 => ?_, fun h10 => ?_⟩
  · have h10 : ((ps_i s 1131 3) + 20).toInt ≤ (1600 : Int) := xle h10
    exact fm_308_18 (by omega) (k1 (by omega)) n (i := 0) rfl (by omega) h3 kq_refl (fun _ _ => rfl) (fun j hj => absurd hj (Nat.not_lt_zero _))
  · have h10 : (1600 : Int) < ((ps_i s 1131 3) + 20).toInt := xlt h10
    exact k0 (by omega)
end
section
set_option maxRecDepth 100000
/-! between two calls: both tapes hold the same bytes; the class's words and arities stand -/
theorem ps_det_a {w : pm_W} {s s' : ps_S} (h : ps_R w s) (h' : ps_R w s') {r n t i : Nat} (hr : r < 1179) (hk : ps_K r = (0, t, n)) (ht : t < 3) (hi : i < n) : ps_a s r i = ps_a s' r i := by
  obtain ⟨k1, e1⟩ := h.2 r hr
  obtain ⟨-, e2⟩ := h'.2 r hr
  rw [hk] at k1
  generalize w.1 r = e at k1 e1 e2
  match e, k1, e1, e2 with
  | .inl (t', n', .inl f), k1, e1, e2 =>
    have hn : n' = n := congrArg (fun z => z.2.2) k1
    subst hn
    exact (e1.2 i hi).symm.trans (e2.2 i hi)
  | .inl (t', n', .inr (.inl f)), k1, e1, e2 =>
    have hn : t' = t := congrArg (fun z => z.2.1) k1
    have := e1.1
    omega
  | .inl (t', n', .inr (.inr f)), k1, e1, e2 =>
    have hn : t' = t := congrArg (fun z => z.2.1) k1
    have := e1.1
    omega
  | .inr (c, fs), k1, e1, e2 => cases k1
theorem ps_det_b {w : pm_W} {s s' : ps_S} (h : ps_R w s) (h' : ps_R w s') {r n i : Nat} (hr : r < 1179) (hk : ps_K r = (0, 3, n)) (hi : i < n) : ps_b s r i = ps_b s' r i := by
  obtain ⟨k1, e1⟩ := h.2 r hr
  obtain ⟨-, e2⟩ := h'.2 r hr
  rw [hk] at k1
  generalize w.1 r = e at k1 e1 e2
  match e, k1, e1, e2 with
  | .inl (t', n', .inl f), k1, e1, e2 =>
    have hn : t' = 3 := congrArg (fun z => z.2.1) k1
    have := e1.1
    omega
  | .inl (t', n', .inr (.inl f)), k1, e1, e2 =>
    have hn : n' = n := congrArg (fun z => z.2.2) k1
    subst hn
    exact (e1.2 i hi).symm.trans (e2.2 i hi)
  | .inl (t', n', .inr (.inr f)), k1, e1, e2 =>
    have hn : t' = 3 := congrArg (fun z => z.2.1) k1
    have := e1.1
    omega
  | .inr (c, fs), k1, e1, e2 => cases k1
theorem ps_det_f {w : pm_W} {s s' : ps_S} (h : ps_R w s) (h' : ps_R w s') {r c n q : Nat} (hr : r < 1179) (hk : ps_K r = (1, c, n)) (hq : q < (pm_Ts c).length) : ps_fv s c r q = ps_fv s' c r q := by
  obtain ⟨k1, e1⟩ := h.2 r hr
  obtain ⟨-, e2⟩ := h'.2 r hr
  rw [hk] at k1
  generalize w.1 r = e at k1 e1 e2
  match e, k1, e1, e2 with
  | .inl (t', n', f), k1, e1, e2 => cases k1
  | .inr (c', fs), k1, e1, e2 =>
    have hc : c' = c := congrArg (fun z => z.2.1) k1
    subst hc
    exact Option.some.inj ((e1.2 q hq).symm.trans (e2.2 q hq))
/-- the class's own: words that stand for themselves, arities that stand, the theories in turn -/
def LB (s : ps_S) : Prop := (∀ (k : Nat) (w : List Nat), tx_keys[k]? = some w → ps_b s 904 k = tx_x w) ∧ cv_base s 2 ∧ cv_base s 26 ∧ (ps_r s 0 2 = 2 ∨ ps_r s 0 2 = 26) ∧ (ps_r s 0 3 = 2 ∨ ps_r s 0 3 = 26)
theorem LB_mk {s s' : ps_S} (h : LB s) (h9 : ∀ k, k < 28 → ps_b s' 904 k = ps_b s 904 k) (h6 : ∀ i, i < 10 → ps_a s' 6 i = ps_a s 6 i ∧ ps_a s' 30 i = ps_a s 30 i) (r2 : ps_r s' 0 2 = 2 ∨ ps_r s' 0 2 = 26) (r3 : ps_r s' 0 3 = 2 ∨ ps_r s' 0 3 = 26) : LB s' := by
  obtain ⟨a1, a2, a3, -, -⟩ := h
  refine ⟨fun k w hk => ?_, ?_, ?_, r2, r3⟩
  · have hl : k < 28 := (List.getElem?_eq_some_iff.mp hk).1
    rw [h9 k hl]
    exact a1 k w hk
  · unfold cv_base at *
    rw [(h6 0 (by decide)).1, (h6 1 (by decide)).1, (h6 2 (by decide)).1, (h6 3 (by decide)).1, (h6 4 (by decide)).1, (h6 5 (by decide)).1, (h6 6 (by decide)).1]
    exact a2
  · unfold cv_base at *
    rw [(h6 0 (by decide)).2, (h6 1 (by decide)).2, (h6 2 (by decide)).2, (h6 3 (by decide)).2, (h6 4 (by decide)).2, (h6 5 (by decide)).2, (h6 6 (by decide)).2]
    exact a3
theorem LB_det {w : pm_W} {s s' : ps_S} (h : ps_R w s) (h' : ps_R w s') (H : LB s) : LB s' := by
  have f2 : ps_r s 0 2 = ps_r s' 0 2 := by
    have := ps_det_f h h' (r := 0) (c := 11) (q := 2) (by decide) rfl (by decide)
    exact Value.ref.inj this
  have f3 : ps_r s 0 3 = ps_r s' 0 3 := by
    have := ps_det_f h h' (r := 0) (c := 11) (q := 3) (by decide) rfl (by decide)
    exact Value.ref.inj this
  exact LB_mk H (fun k hk => (ps_det_b h h' (r := 904) (by decide) rfl hk).symm) (fun i hi => ⟨(ps_det_a h h' (r := 6) (t := 0) (n := 40) (by decide) rfl (by decide) (by omega)).symm, (ps_det_a h h' (r := 30) (t := 0) (n := 40) (by decide) rfl (by decide) (by omega)).symm⟩) (by rw [← f2]; exact H.2.2.2.1) (by rw [← f3]; exact H.2.2.2.2)
/-- what holds between two calls besides: t is the class's count -/
def LF (s : ps_S) (t : Int32) : Prop := (∀ k : Nat, (k : Int) < t.toInt → ps_a s 1 k = ps_a s 1132 k) ∧ LB s
theorem LF_det {w : pm_W} {s s' : ps_S} {t : Int32} (ht : t.toInt ≤ 1600) (h : ps_R w s) (h' : ps_R w s') (H : LF s t) : LF s' t := by
  refine ⟨fun k hk => ?_, LB_det h h' H.2⟩
  rw [← ps_det_a h h' (r := 1) (t := 1) (n := 1600) (i := k) (by decide) rfl (by decide) (by omega), ← ps_det_a h h' (r := 1132) (t := 1) (n := 1620) (i := k) (by decide) rfl (by decide) (by omega)]
  exact H.1 k hk
theorem LB_y {m s s' : ps_S} {t' : Int32} (H : LB s) (J : yJ s t' s') : LB s' := by
  obtain ⟨-, -, p2, p3, p4, p5⟩ := J
  exact LB_mk H (fun k _ => by rw [p2]) p3 p4 p5
theorem LF_x {s s' : ps_S} {t t' : Int32} (H : LF s t) (J : yJ s t' s') (ht : t'.toInt ≤ t.toInt) : LF s' t' := by
  refine ⟨fun k hk => ?_, LB_y (m := s) H.2 J⟩
  rw [J.2.1, (J.1.2.2 1132 (by decide)).2.2.1]
  exact H.1 k (by omega)
theorem LF_J {s : ps_S} {t : Int32} (hI : LI s t) (hF : LF s t) : yJ s t s := ⟨LI_J hI, rfl, rfl, fun _ _ => ⟨rfl, rfl⟩, hF.2.2.2.2.1, hF.2.2.2.2.2⟩
theorem LB_m {s s' : ps_S} {t : Int32} {A F : List Nat} (H : LB s) (J : mJ s.1.2.2 t s') (K : kp A F s s') (a6 : A.contains 6 = false) (a30 : A.contains 30 = false) (a904 : A.contains 904 = false) : LB s' := by
  have hr : ps_r s' = ps_r s := J.1
  exact LB_mk H (fun k _ => by rw [(K.2 904 a904).2]) (fun i _ => ⟨by rw [(K.2 6 a6).1], by rw [(K.2 30 a30).1]⟩) (by rw [hr]; exact H.2.2.2.1) (by rw [hr]; exact H.2.2.2.2)
theorem LF_m {s s' : ps_S} {t : Int32} {A F : List Nat} (H : LF s t) (J : mJ s.1.2.2 t s') (K : kp A F s s') (a1 : A.contains 1 = false) (a1132 : A.contains 1132 = false) (a6 : A.contains 6 = false) (a30 : A.contains 30 = false) (a904 : A.contains 904 = false) : LF s' t := by
  refine ⟨fun k hk => ?_, LB_m H.2 J K a6 a30 a904⟩
  rw [(K.2 1 a1).1, (K.2 1132 a1132).1]
  exact H.1 k hk
theorem s1_keys : (List.range 28).all (fun k => decide (ps_b ps_s1 904 k = tx_x (tx_keys.getD k []))) = true := by decide +kernel
theorem s1_LF : LF ps_s1 0 := by
  refine ⟨fun k hk => by rw [Int32.toInt_zero] at hk; omega, fun k w hk => ?_, by unfold cv_base; decide +kernel, by unfold cv_base; decide +kernel, Or.inl (by decide +kernel), Or.inr (by decide +kernel)⟩
  have hl : k < 28 := (List.getElem?_eq_some_iff.mp hk).1
  have := of_decide_eq_true (List.all_eq_true.mp s1_keys k (List.mem_range.mpr hl))
  rw [this, List.getD_eq_getElem?_getD, hk]
  rfl
/-- a call of the law, with what holds should it end -/
theorem l2_call2 {X : Option (Nat × (Nat → Int32))} {y pc k kd j a mm pl nest c q : Nat} {Lc : pm_L} {st : List Value} {w : pm_W} {s : ps_S} {i : Instr} {P P2 : Option Value → ps_S → Prop} {Q : Option Value → pm_W → Prop} (hc : pm_code y pc = some (i, k)) (hR : pm_isR i = false) (hcal : pm_cal i = (kd, j)) (hkd : kd ≠ 0) (hl : pm_l4 (pm_ML (pm_own y)) j = some (a, mm, pl, nest)) (h6 : 5 < mm) (hw : ps_R w s) (h13 : c < 13) (hi : ps_is q c = true) (hh : (st.take (pm_na kd mm)).reverse.head? = some (.ref q)) (hb : (Nat.ble (pm_na kd mm) st.length && Nat.ble (pm_cats (st.drop (pm_na kd mm))) 8 && Nat.ble (lg_sl (st.take (pm_na kd mm)).reverse).length (pm_ml (mm - 6)) && (cond (Nat.beq kd 3) (pm_st (mm - 6)) (!pm_st (mm - 6) && Nat.beq c (pm_own (mm - 6)) && (cond (Nat.beq kd 2) (pm_ini (mm - 6)) (Nat.beq nest 0 && !pm_ini (mm - 6)))))) = true)
    (hC : ps_Cl 299 (mm - 6) (st.take (pm_na kd mm)).reverse s P) (hD : ∀ n, pl_Cl n (mm - 6) (st.take (pm_na kd mm)).reverse s P2) (K : ∀ (o : Option Value) (w' : pm_W) (s' s2 : ps_S), ps_R w' s' → P o s' → ps_R w' s2 → P2 o s2 → pm_H X 300 y (pc + 3) Lc (o.toList ++ st.drop (pm_na kd mm)) w' Q) : pm_H X 300 y pc Lc st w Q := by
  refine pm_H.call (d' := 299) (Q1 := fun o w' => (∃ s', ps_R w' s' ∧ P o s') ∧ ∃ s2, ps_R w' s2 ∧ P2 o s2) hc hR hcal hkd hl h6 rfl (l2_ckd (ps_cls hw h13 hi) hh hb) ?_ (fun o w' hh => ?_)
  · obtain ⟨o, w', ⟨n, h1⟩, h2⟩ := hC w _ hw (ps_le_refl _)
    exact ⟨o, w', pm_T.lift ⟨n, h1⟩, h2, hD (n + 1) n 299 w _ o w' (Nat.lt_succ_self n) hw (ps_le_refl _) h1⟩
  · obtain ⟨⟨s', h1, h2⟩, s2, h3, h4⟩ := hh
    exact K o w' s' s2 h1 h2 h3 h4
/-- theory()'s answer -/
def AW (T : Nat → Nat) (N : Nat) (v : Int32) : Prop := (∃ (h : tx_H) (p : Nat), gt_go (tx_ln T N) (0, (([], []), []), 0, 0) (3, h, p, 0) ∧ v.toInt = h.2.length) ∨ ∃ (h : tx_H) (pl k : Nat), gt_go (tx_ln T N) (0, (([], []), []), 0, 0) (4, h, pl, k) ∧ v.toInt = -1
theorem AW_eq {T : Nat → Nat} {N : Nat} {v v' : Int32} (a : AW T N v) (b : AW T N v') : v = v' := by
  apply Int32.toInt_inj.mp
  rcases a with ⟨h, p, g, e⟩ | ⟨h, p, k, g, e⟩ <;> rcases b with ⟨h2, p2, g2, e2⟩ | ⟨h2, p2, k2, g2, e2⟩
  · have z := gt_det g g2 rfl rfl
    cases z
    rw [e, e2]
  · have z := gt_det g g2 rfl rfl
    cases z
  · have z := gt_det g g2 rfl rfl
    cases z
  · rw [e, e2]
def TT (s : ps_S) (k : Nat) : Nat := (ps_a s 1 k &&& 255).toInt.toNat
theorem AW_x {s : ps_S} {t : Int32} (hI : LI s t) (hF : LF s t) (n : Nat) : pl_Cl n 151 [.ref 0] s (ps_rI (fun v _ => AW (TT s) t.toInt.toNat v)) := by
  have ht := LI_t hI
  have e : ps_i s 0 1 = t := hI.2.1.2.1
  rcases hF.2.2.2.2.2 with h3 | h3
  · exact fs_151 (Or.inl rfl) h3 hF.2.2.1 (by rw [e]; omega) (by omega) (fun k _ => bytes_T) hF.2.1 (fun v _ h p g hv => Or.inl ⟨h, p, g, hv⟩) (fun _ h p k g _ _ => Or.inr ⟨h, p, k, g, by decide⟩)
  · exact fs_151 (Or.inr rfl) h3 hF.2.2.2.1 (by rw [e]; omega) (by omega) (fun k _ => bytes_T) hF.2.1 (fun v _ h p g hv => Or.inl ⟨h, p, g, hv⟩) (fun _ h p k g _ _ => Or.inr ⟨h, p, k, g, by decide⟩)
theorem AW_m {s s1 : ps_S} {t t1 : Int32} (hI : LI s t) (hF : LF s t) (J : yJ s t1 s1) (hX : LX s1 t1 t.toInt) (n : Nat) : pl_Cl n 201 [.ref 1131] s1 (ps_rI (fun v _ => AW (TT s) t.toInt.toNat v)) := by
  have ht := LI_t hI
  have h21 := hX.2.1.2.2.1 21 0 1 rfl
  have h3 := hX.2.2.1
  refine fm_201 (b := (ps_i s1 1131 21).toInt.toNat) (T := TT s) (N := t.toInt.toNat) (by omega) (by omega) (by omega) (by omega) (fun k hk => ?_) (fun v _ z => ?_) (fun v _ z => ?_)
  · rw [(J.1.2.2 1132 (by decide)).2.2.1, ← hF.1 k (by omega)]
    exact bytes_T
  · obtain ⟨h, p, g, e, -⟩ := z
    exact Or.inl ⟨h, p, g, e⟩
  · obtain ⟨h, p, k, g, e, -⟩ := z
    exact Or.inr ⟨h, p, k, g, e⟩
/-- feed: between the two sides -/
def LM (s : ps_S) (t : Int32) (x1 x2 x3 x4 x5 : Int32) : Prop := (∀ k : Nat, (k : Int) < t.toInt → ps_a s 1 k = ps_a s 1132 k) ∧ LB s ∧ (t.toInt ≤ 1580 → ∀ j, j < 20 → ps_a s 1 (t.toInt.toNat + j) = fw x1 x2 x3 x4 x5 j)
theorem LM_det {w : pm_W} {s s' : ps_S} {t x1 x2 x3 x4 x5 : Int32} (h0 : 0 ≤ t.toInt) (ht : t.toInt ≤ 1600) (h : ps_R w s) (h' : ps_R w s') (H : LM s t x1 x2 x3 x4 x5) : LM s' t x1 x2 x3 x4 x5 := by
  obtain ⟨g1, g2⟩ := LF_det ht h h' (t := t) ⟨H.1, H.2.1⟩
  refine ⟨g1, g2, fun ht2 j hj => ?_⟩
  rw [← ps_det_a h h' (r := 1) (t := 1) (n := 1600) (i := t.toInt.toNat + j) (by decide) rfl (by decide) (by omega)]
  exact H.2.2 ht2 j hj
theorem LM_x {s : ps_S} {t x1 x2 x3 x4 x5 : Int32} (hI : LI s t) (hF : LF s t) (n : Nat) : pl_Cl n 149 [.ref 0, .int x1, .int x2, .int x3, .int x4, .int x5] s (ps_rI (fun _ s1 => LM s1 t x1 x2 x3 x4 x5)) := by
  have ht := LI_t hI
  have e : ps_i s 0 1 = t := hI.2.1.2.1
  refine fs_149 (t := t.toInt.toNat) (by omega) (by rw [e]; omega) (fun _ v s' g => ?_) (fun h => ⟨hF.1, hF.2, fun z => by omega⟩)
  obtain ⟨g1, g2, g3, g4, g5⟩ := g
  have K : ∀ q, q ≠ 0 → q ≠ 1 → ps_a s' q = ps_a s q ∧ ps_b s' q = ps_b s q := fun q h0 h1 => (g2 q (fun z => z.elim h0 h1)).2.2.2
  refine ⟨fun k hk => ?_, LB_mk hF.2 (fun k _ => by rw [(K 904 (by decide) (by decide)).2]) (fun i _ => ⟨by rw [(K 6 (by decide) (by decide)).1], by rw [(K 30 (by decide) (by decide)).1]⟩) (by rw [g3]; exact hF.2.2.2.2.1) (by rw [g3]; exact hF.2.2.2.2.2), fun _ j hj => g5 j hj⟩
  rw [g4 k (by omega), (K 1132 (by decide) (by decide)).1]
  exact hF.1 k hk
theorem LM_m {s1 : ps_S} {t x1 x2 x3 x4 x5 : Int32} (h0 : 0 ≤ t.toInt) (ht : t.toInt ≤ 1600) (h3 : (ps_i s1 1131 3).toInt = t.toInt) (H : LM s1 t x1 x2 x3 x4 x5) (n : Nat) : pl_Cl n 308 [.ref 1131, .int x1, .int x2, .int x3, .int x4, .int x5] s1 (ps_rI (fun _ s2 => ∀ t1 : Int32, ((t1 = t ∧ 1580 < t.toInt) ∨ (t1.toInt = t.toInt + 20 ∧ t.toInt ≤ 1580)) → LF s2 t1)) := by
  refine fm_308 (t := t.toInt.toNat) (by omega) (by omega) (fun h4 v s' g => ?_) (fun h4 => ?_)
  · intro t1 ht1
    obtain ⟨g1, g2, g3, g4⟩ := g
    refine ⟨fun k hk => ?_, LB_mk H.2.1 (fun k _ => by rw [kq_b g2 904 (by decide)]) (fun i _ => ⟨by rw [kq_a g2 6 (by decide)], by rw [kq_a g2 30 (by decide)]⟩) (by rw [g2.2]; exact H.2.1.2.2.2.1) (by rw [g2.2]; exact H.2.1.2.2.2.2)⟩
    rw [kq_a g2 1 (by decide)]
    by_cases hk2 : (k : Int) < t.toInt
    · rw [g3 k (by omega)]
      exact H.1 k hk2
    · have e : k = t.toInt.toNat + (k - t.toInt.toNat) := by omega
      rw [e, g4 _ (by omega), H.2.2 (by omega) _ (by omega)]
  · intro t1 ht1
    refine ⟨fun k hk => H.1 k ?_, H.2.1⟩
    rcases ht1 with ⟨e, -⟩ | ⟨-, e⟩
    · rw [← e]; exact hk
    · omega
theorem ys_150 {m s : ps_S} {t : Int32} {d : Nat} {x1 : Int32} {f : Int32 → ps_S → Prop} (J : yJ m t s) (k : ∀ (v : Int32) (s' : ps_S) (t' : Int32), yJ m t' s' → (v.toInt = -1 ∧ t' = t ∧ (x1.toInt < 0 ∨ t.toInt < x1.toInt)) ∨ (v = x1 ∧ t' = x1 ∧ 0 ≤ x1.toInt ∧ x1.toInt ≤ t.toInt) → f v s') : ps_Cl d 150 [.ref 0, .int x1] s (ps_rI f) := by
  have e : ps_i s 0 1 = t := J.1.2.1
  refine pg_150_0 (And.intro (fun h1 => ?_) (fun h1 => And.intro (fun h2 => ?_) (fun h2 => ?_)))
  · exact k (-1) s t J (Or.inl ⟨by decide, rfl, Or.inl (xlt h1)⟩)
  · rw [e] at h2
    exact k x1 _ x1 (yw_tape J) (Or.inr ⟨rfl, rfl, xle h1, xle h2⟩)
  · rw [e] at h2
    exact k (-1) s t J (Or.inl ⟨by decide, rfl, Or.inr (xlt h2)⟩)
end
section
set_option maxRecDepth 100000
theorem l4_op0 {L : Nat} {xs : Nat → Int32} {x3 t : Int32} {w : pm_W} {s : ps_S} {Q : Option Value → pm_W → Prop} (ha : ∀ (k : Int32) (_ : pm_in k 6 = true), pm_in (x3 + k) L = true) (hw : ps_R w s) (hI : LI s t) (hF : LF s t) (K : ∀ (w' : pm_W) (s' : ps_S) (t' : Int32), ps_R w' s' → LI s' t' → LF s' t' → pm_H (some (L, xs)) 300 310 858 [(3, .int x3), (2, .ref 1131), (1, .ref 0), (0, .ref pm_SC)] [] w' Q) : pm_H (some (L, xs)) 300 310 168 [(3, .int x3), (2, .ref 1131), (1, .ref 0), (0, .ref pm_SC)] [] w Q := by
  have hb := LI_t hI
  refine pm_H.go (pc' := 169) (st' := [.ref 0]) rfl rfl rfl rfl ?_
  refine pm_H.go (pc' := 170) (st' := [.ref pm_SC, .ref 0]) rfl rfl rfl rfl ?_
  refine pm_H.go (pc' := 171) (st' := [.int x3, .ref pm_SC, .ref 0]) rfl rfl rfl rfl ?_
  refine pm_H.go (pc' := 172) (st' := [.int 1, .int x3, .ref pm_SC, .ref 0]) rfl rfl rfl rfl ?_
  refine pm_H.go (pc' := 173) (st' := [.int (x3 + 1), .ref pm_SC, .ref 0]) rfl rfl rfl rfl ?_
  refine pm_H.sld (i := (x3 + 1)) rfl rfl (ha 1 rfl) ?_
  refine pm_H.go (pc' := 175) (st' := [.ref pm_SC, .int (xs (Int32.toNatClampNeg (x3 + 1))), .ref 0]) rfl rfl rfl rfl ?_
  refine pm_H.go (pc' := 176) (st' := [.int x3, .ref pm_SC, .int (xs (Int32.toNatClampNeg (x3 + 1))), .ref 0]) rfl rfl rfl rfl ?_
  refine pm_H.go (pc' := 177) (st' := [.int 2, .int x3, .ref pm_SC, .int (xs (Int32.toNatClampNeg (x3 + 1))), .ref 0]) rfl rfl rfl rfl ?_
  refine pm_H.go (pc' := 178) (st' := [.int (x3 + 2), .ref pm_SC, .int (xs (Int32.toNatClampNeg (x3 + 1))), .ref 0]) rfl rfl rfl rfl ?_
  refine pm_H.sld (i := (x3 + 2)) rfl rfl (ha 2 rfl) ?_
  refine pm_H.go (pc' := 180) (st' := [.ref pm_SC, .int (xs (Int32.toNatClampNeg (x3 + 2))), .int (xs (Int32.toNatClampNeg (x3 + 1))), .ref 0]) rfl rfl rfl rfl ?_
  refine pm_H.go (pc' := 181) (st' := [.int x3, .ref pm_SC, .int (xs (Int32.toNatClampNeg (x3 + 2))), .int (xs (Int32.toNatClampNeg (x3 + 1))), .ref 0]) rfl rfl rfl rfl ?_
  refine pm_H.go (pc' := 182) (st' := [.int 3, .int x3, .ref pm_SC, .int (xs (Int32.toNatClampNeg (x3 + 2))), .int (xs (Int32.toNatClampNeg (x3 + 1))), .ref 0]) rfl rfl rfl rfl ?_
  refine pm_H.go (pc' := 183) (st' := [.int (x3 + 3), .ref pm_SC, .int (xs (Int32.toNatClampNeg (x3 + 2))), .int (xs (Int32.toNatClampNeg (x3 + 1))), .ref 0]) rfl rfl rfl rfl ?_
  refine pm_H.sld (i := (x3 + 3)) rfl rfl (ha 3 rfl) ?_
  refine pm_H.go (pc' := 185) (st' := [.ref pm_SC, .int (xs (Int32.toNatClampNeg (x3 + 3))), .int (xs (Int32.toNatClampNeg (x3 + 2))), .int (xs (Int32.toNatClampNeg (x3 + 1))), .ref 0]) rfl rfl rfl rfl ?_
  refine pm_H.go (pc' := 186) (st' := [.int x3, .ref pm_SC, .int (xs (Int32.toNatClampNeg (x3 + 3))), .int (xs (Int32.toNatClampNeg (x3 + 2))), .int (xs (Int32.toNatClampNeg (x3 + 1))), .ref 0]) rfl rfl rfl rfl ?_
  refine pm_H.go (pc' := 187) (st' := [.int 4, .int x3, .ref pm_SC, .int (xs (Int32.toNatClampNeg (x3 + 3))), .int (xs (Int32.toNatClampNeg (x3 + 2))), .int (xs (Int32.toNatClampNeg (x3 + 1))), .ref 0]) rfl rfl rfl rfl ?_
  refine pm_H.go (pc' := 188) (st' := [.int (x3 + 4), .ref pm_SC, .int (xs (Int32.toNatClampNeg (x3 + 3))), .int (xs (Int32.toNatClampNeg (x3 + 2))), .int (xs (Int32.toNatClampNeg (x3 + 1))), .ref 0]) rfl rfl rfl rfl ?_
  refine pm_H.sld (i := (x3 + 4)) rfl rfl (ha 4 rfl) ?_
  refine pm_H.go (pc' := 190) (st' := [.ref pm_SC, .int (xs (Int32.toNatClampNeg (x3 + 4))), .int (xs (Int32.toNatClampNeg (x3 + 3))), .int (xs (Int32.toNatClampNeg (x3 + 2))), .int (xs (Int32.toNatClampNeg (x3 + 1))), .ref 0]) rfl rfl rfl rfl ?_
  refine pm_H.go (pc' := 191) (st' := [.int x3, .ref pm_SC, .int (xs (Int32.toNatClampNeg (x3 + 4))), .int (xs (Int32.toNatClampNeg (x3 + 3))), .int (xs (Int32.toNatClampNeg (x3 + 2))), .int (xs (Int32.toNatClampNeg (x3 + 1))), .ref 0]) rfl rfl rfl rfl ?_
  refine pm_H.go (pc' := 192) (st' := [.int 5, .int x3, .ref pm_SC, .int (xs (Int32.toNatClampNeg (x3 + 4))), .int (xs (Int32.toNatClampNeg (x3 + 3))), .int (xs (Int32.toNatClampNeg (x3 + 2))), .int (xs (Int32.toNatClampNeg (x3 + 1))), .ref 0]) rfl rfl rfl rfl ?_
  refine pm_H.go (pc' := 193) (st' := [.int (x3 + 5), .ref pm_SC, .int (xs (Int32.toNatClampNeg (x3 + 4))), .int (xs (Int32.toNatClampNeg (x3 + 3))), .int (xs (Int32.toNatClampNeg (x3 + 2))), .int (xs (Int32.toNatClampNeg (x3 + 1))), .ref 0]) rfl rfl rfl rfl ?_
  refine pm_H.sld (i := (x3 + 5)) rfl rfl (ha 5 rfl) ?_
  refine l2_call2 (c := 11) (q := 0) (P := ps_rI (fun v s1 => ∃ t1, xJ s t1 s1 ∧ ((v.toInt = -1 ∧ t1 = t ∧ 1580 < t.toInt) ∨ (v = t1 ∧ t1.toInt = t.toInt + 20 ∧ t.toInt ≤ 1580)))) (P2 := ps_rI (fun _ s1 => LM s1 t ((xs (Int32.toNatClampNeg (x3 + 1)))) ((xs (Int32.toNatClampNeg (x3 + 2)))) ((xs (Int32.toNatClampNeg (x3 + 3)))) ((xs (Int32.toNatClampNeg (x3 + 4)))) ((xs (Int32.toNatClampNeg (x3 + 5)))))) rfl rfl rfl (by decide) rfl (by decide) hw (by decide) rfl rfl rfl (xs_149 (d := 298) (LI_J hI) hb.1 hb.2 (fun v s1 t1 J1 p => ⟨t1, J1, p⟩)) (LM_x hI hF) (fun o w1 s1 sx hw1 hp hwx hpx => ?_)
  obtain ⟨v1, rfl, hp⟩ := l2_int hp
  obtain ⟨v1x, ex, hpx⟩ := l2_int hpx
  cases ex
  obtain ⟨t1, J1, q1⟩ := hp
  have hX := LI_x hI J1
  have hM1 := LM_det hb.1 hb.2 hwx hw1 hpx
  obtain ⟨σ, h4⟩ := hX.2.2.2.1
  show pm_H (some (L, xs)) 300 310 197 [(3, .int x3), (2, .ref 1131), (1, .ref 0), (0, .ref pm_SC)] [.int v1] w1 Q
  refine pm_H.go (pc' := 198) (st' := []) rfl rfl rfl rfl ?_
  refine pm_H.go (pc' := 199) (st' := [.ref 1131]) rfl rfl rfl rfl ?_
  refine pm_H.go (pc' := 200) (st' := [.ref pm_SC, .ref 1131]) rfl rfl rfl rfl ?_
  refine pm_H.go (pc' := 201) (st' := [.int x3, .ref pm_SC, .ref 1131]) rfl rfl rfl rfl ?_
  refine pm_H.go (pc' := 202) (st' := [.int 1, .int x3, .ref pm_SC, .ref 1131]) rfl rfl rfl rfl ?_
  refine pm_H.go (pc' := 203) (st' := [.int (x3 + 1), .ref pm_SC, .ref 1131]) rfl rfl rfl rfl ?_
  refine pm_H.sld (i := (x3 + 1)) rfl rfl (ha 1 rfl) ?_
  refine pm_H.go (pc' := 205) (st' := [.ref pm_SC, .int (xs (Int32.toNatClampNeg (x3 + 1))), .ref 1131]) rfl rfl rfl rfl ?_
  refine pm_H.go (pc' := 206) (st' := [.int x3, .ref pm_SC, .int (xs (Int32.toNatClampNeg (x3 + 1))), .ref 1131]) rfl rfl rfl rfl ?_
  refine pm_H.go (pc' := 207) (st' := [.int 2, .int x3, .ref pm_SC, .int (xs (Int32.toNatClampNeg (x3 + 1))), .ref 1131]) rfl rfl rfl rfl ?_
  refine pm_H.go (pc' := 208) (st' := [.int (x3 + 2), .ref pm_SC, .int (xs (Int32.toNatClampNeg (x3 + 1))), .ref 1131]) rfl rfl rfl rfl ?_
  refine pm_H.sld (i := (x3 + 2)) rfl rfl (ha 2 rfl) ?_
  refine pm_H.go (pc' := 210) (st' := [.ref pm_SC, .int (xs (Int32.toNatClampNeg (x3 + 2))), .int (xs (Int32.toNatClampNeg (x3 + 1))), .ref 1131]) rfl rfl rfl rfl ?_
  refine pm_H.go (pc' := 211) (st' := [.int x3, .ref pm_SC, .int (xs (Int32.toNatClampNeg (x3 + 2))), .int (xs (Int32.toNatClampNeg (x3 + 1))), .ref 1131]) rfl rfl rfl rfl ?_
  refine pm_H.go (pc' := 212) (st' := [.int 3, .int x3, .ref pm_SC, .int (xs (Int32.toNatClampNeg (x3 + 2))), .int (xs (Int32.toNatClampNeg (x3 + 1))), .ref 1131]) rfl rfl rfl rfl ?_
  refine pm_H.go (pc' := 213) (st' := [.int (x3 + 3), .ref pm_SC, .int (xs (Int32.toNatClampNeg (x3 + 2))), .int (xs (Int32.toNatClampNeg (x3 + 1))), .ref 1131]) rfl rfl rfl rfl ?_
  refine pm_H.sld (i := (x3 + 3)) rfl rfl (ha 3 rfl) ?_
  refine pm_H.go (pc' := 215) (st' := [.ref pm_SC, .int (xs (Int32.toNatClampNeg (x3 + 3))), .int (xs (Int32.toNatClampNeg (x3 + 2))), .int (xs (Int32.toNatClampNeg (x3 + 1))), .ref 1131]) rfl rfl rfl rfl ?_
  refine pm_H.go (pc' := 216) (st' := [.int x3, .ref pm_SC, .int (xs (Int32.toNatClampNeg (x3 + 3))), .int (xs (Int32.toNatClampNeg (x3 + 2))), .int (xs (Int32.toNatClampNeg (x3 + 1))), .ref 1131]) rfl rfl rfl rfl ?_
  refine pm_H.go (pc' := 217) (st' := [.int 4, .int x3, .ref pm_SC, .int (xs (Int32.toNatClampNeg (x3 + 3))), .int (xs (Int32.toNatClampNeg (x3 + 2))), .int (xs (Int32.toNatClampNeg (x3 + 1))), .ref 1131]) rfl rfl rfl rfl ?_
  refine pm_H.go (pc' := 218) (st' := [.int (x3 + 4), .ref pm_SC, .int (xs (Int32.toNatClampNeg (x3 + 3))), .int (xs (Int32.toNatClampNeg (x3 + 2))), .int (xs (Int32.toNatClampNeg (x3 + 1))), .ref 1131]) rfl rfl rfl rfl ?_
  refine pm_H.sld (i := (x3 + 4)) rfl rfl (ha 4 rfl) ?_
  refine pm_H.go (pc' := 220) (st' := [.ref pm_SC, .int (xs (Int32.toNatClampNeg (x3 + 4))), .int (xs (Int32.toNatClampNeg (x3 + 3))), .int (xs (Int32.toNatClampNeg (x3 + 2))), .int (xs (Int32.toNatClampNeg (x3 + 1))), .ref 1131]) rfl rfl rfl rfl ?_
  refine pm_H.go (pc' := 221) (st' := [.int x3, .ref pm_SC, .int (xs (Int32.toNatClampNeg (x3 + 4))), .int (xs (Int32.toNatClampNeg (x3 + 3))), .int (xs (Int32.toNatClampNeg (x3 + 2))), .int (xs (Int32.toNatClampNeg (x3 + 1))), .ref 1131]) rfl rfl rfl rfl ?_
  refine pm_H.go (pc' := 222) (st' := [.int 5, .int x3, .ref pm_SC, .int (xs (Int32.toNatClampNeg (x3 + 4))), .int (xs (Int32.toNatClampNeg (x3 + 3))), .int (xs (Int32.toNatClampNeg (x3 + 2))), .int (xs (Int32.toNatClampNeg (x3 + 1))), .ref 1131]) rfl rfl rfl rfl ?_
  refine pm_H.go (pc' := 223) (st' := [.int (x3 + 5), .ref pm_SC, .int (xs (Int32.toNatClampNeg (x3 + 4))), .int (xs (Int32.toNatClampNeg (x3 + 3))), .int (xs (Int32.toNatClampNeg (x3 + 2))), .int (xs (Int32.toNatClampNeg (x3 + 1))), .ref 1131]) rfl rfl rfl rfl ?_
  refine pm_H.sld (i := (x3 + 5)) rfl rfl (ha 5 rfl) ?_
  refine l2_call2 (c := 12) (q := 1131) (P := ps_rI (fun v s2 => ∃ u2, LX s2 t1 u2 ∧ ((v.toInt = -1 ∧ u2 = t.toInt ∧ 1580 < t.toInt) ∨ (v.toInt = t.toInt + 20 ∧ u2 = t.toInt + 20 ∧ t.toInt ≤ 1580)))) (P2 := ps_rI (fun _ s2 => ∀ t1 : Int32, ((t1 = t ∧ 1580 < t.toInt) ∨ (t1.toInt = t.toInt + 20 ∧ t.toInt ≤ 1580)) → LF s2 t1)) rfl rfl rfl (by decide) rfl (by decide) hw1 (by decide) rfl rfl rfl (ms_308 (d := 299) hX.2.1 (fun v s2 J2 K2 p0 => ⟨_, LX_mk hX J2 rfl (LX_M hX K2 rfl rfl rfl rfl rfl rfl rfl rfl rfl rfl rfl) (LX_D hX K2 rfl) (LX_F hX K2 rfl), by have e3 := hX.2.2.1; omega⟩)) (LM_m hb.1 hb.2 hX.2.2.1 hM1) (fun o w2 s2 sy hw2 hp2 hwy hpy => ?_)
  obtain ⟨v2, rfl, hp2⟩ := l2_int hp2
  obtain ⟨v2x, ey, hpy⟩ := l2_int hpy
  cases ey
  show pm_H (some (L, xs)) 300 310 227 [(3, .int x3), (2, .ref 1131), (1, .ref 0), (0, .ref pm_SC)] [.int v2] w2 Q
  refine pm_H.go (pc' := 228) (st' := []) rfl rfl rfl rfl ?_
  refine pm_H.go (pc' := 858) (st' := []) rfl rfl rfl rfl ?_
  obtain ⟨u2, hL2, q2⟩ := hp2
  have hF2 : LF s2 t1 := LF_det (by rcases q1 with ⟨a1, a2, a3⟩ | ⟨a1, a2, a3⟩ <;> (try rw [a2]) <;> omega) hwy hw2 (hpy t1 (by rcases q1 with ⟨a1, a2, a3⟩ | ⟨a1, a2, a3⟩; exact Or.inl ⟨a2, a3⟩; exact Or.inr ⟨a2, a3⟩))
  exact K w2 s2 t1 hw2 (LX_LI hL2 (by rcases q1 with ⟨a1, a2, a3⟩ | ⟨a1, a2, a3⟩ <;> rcases q2 with ⟨b1, b2, b3⟩ | ⟨b1, b2, b3⟩ <;> (try rw [a2]) <;> omega)) hF2

theorem l4_op1 {L : Nat} {xs : Nat → Int32} {x3 t : Int32} {w : pm_W} {s : ps_S} {Q : Option Value → pm_W → Prop} (ha : ∀ (k : Int32) (_ : pm_in k 6 = true), pm_in (x3 + k) L = true) (hw : ps_R w s) (hI : LI s t) (hF : LF s t) (K : ∀ (w' : pm_W) (s' : ps_S) (t' : Int32), ps_R w' s' → LI s' t' → LF s' t' → pm_H (some (L, xs)) 300 310 858 [(3, .int x3), (2, .ref 1131), (1, .ref 0), (0, .ref pm_SC)] [] w' Q) : pm_H (some (L, xs)) 300 310 231 [(3, .int x3), (2, .ref 1131), (1, .ref 0), (0, .ref pm_SC)] [] w Q := by
  have hb := LI_t hI
  refine pm_H.go (pc' := 232) (st' := [.ref 0]) rfl rfl rfl rfl ?_
  refine pm_H.go (pc' := 233) (st' := [.ref pm_SC, .ref 0]) rfl rfl rfl rfl ?_
  refine pm_H.go (pc' := 234) (st' := [.int x3, .ref pm_SC, .ref 0]) rfl rfl rfl rfl ?_
  refine pm_H.go (pc' := 235) (st' := [.int 1, .int x3, .ref pm_SC, .ref 0]) rfl rfl rfl rfl ?_
  refine pm_H.go (pc' := 236) (st' := [.int (x3 + 1), .ref pm_SC, .ref 0]) rfl rfl rfl rfl ?_
  refine pm_H.sld (i := (x3 + 1)) rfl rfl (ha 1 rfl) ?_
  refine l2_call (c := 11) (q := 0) (P := ps_rI (fun v s1 => ∃ t1, yJ s t1 s1 ∧ ((v.toInt = -1 ∧ t1 = t ∧ (((xs (Int32.toNatClampNeg (x3 + 1)))).toInt < 0 ∨ t.toInt < ((xs (Int32.toNatClampNeg (x3 + 1)))).toInt)) ∨ (v = ((xs (Int32.toNatClampNeg (x3 + 1)))) ∧ t1 = ((xs (Int32.toNatClampNeg (x3 + 1)))) ∧ 0 ≤ ((xs (Int32.toNatClampNeg (x3 + 1)))).toInt ∧ ((xs (Int32.toNatClampNeg (x3 + 1)))).toInt ≤ t.toInt)))) rfl rfl rfl (by decide) rfl (by decide) hw (by decide) rfl rfl rfl (ys_150 (d := 299) (LF_J hI hF) (fun v s1 t1 J1 p => ⟨t1, J1, p⟩)) (fun o w1 s1 hw1 hp => ?_)
  obtain ⟨v1, rfl, hp⟩ := l2_int hp
  obtain ⟨t1, J1, q1⟩ := hp
  have hX := LI_x hI J1.1
  have hG : LF s1 t1 := LF_x hF J1 (by rcases q1 with ⟨-, e, -⟩ | ⟨-, e, -, e2⟩ <;> (rw [e]; omega))
  obtain ⟨σ, h4⟩ := hX.2.2.2.1
  show pm_H (some (L, xs)) 300 310 240 [(3, .int x3), (2, .ref 1131), (1, .ref 0), (0, .ref pm_SC)] [.int v1] w1 Q
  refine pm_H.go (pc' := 241) (st' := []) rfl rfl rfl rfl ?_
  refine pm_H.go (pc' := 242) (st' := [.ref 1131]) rfl rfl rfl rfl ?_
  refine pm_H.go (pc' := 243) (st' := [.ref pm_SC, .ref 1131]) rfl rfl rfl rfl ?_
  refine pm_H.go (pc' := 244) (st' := [.int x3, .ref pm_SC, .ref 1131]) rfl rfl rfl rfl ?_
  refine pm_H.go (pc' := 245) (st' := [.int 1, .int x3, .ref pm_SC, .ref 1131]) rfl rfl rfl rfl ?_
  refine pm_H.go (pc' := 246) (st' := [.int (x3 + 1), .ref pm_SC, .ref 1131]) rfl rfl rfl rfl ?_
  refine pm_H.sld (i := (x3 + 1)) rfl rfl (ha 1 rfl) ?_
  refine l2_call (c := 12) (q := 1131) (P := ps_rI (fun v s2 => ∃ u2, (LX s2 t1 u2 ∧ LF s2 t1) ∧ ((v.toInt = -1 ∧ u2 = t.toInt ∧ (((xs (Int32.toNatClampNeg (x3 + 1)))).toInt < 0 ∨ t.toInt < ((xs (Int32.toNatClampNeg (x3 + 1)))).toInt)) ∨ (v.toInt = ((xs (Int32.toNatClampNeg (x3 + 1)))).toInt ∧ u2 = ((xs (Int32.toNatClampNeg (x3 + 1)))).toInt ∧ 0 ≤ ((xs (Int32.toNatClampNeg (x3 + 1)))).toInt ∧ ((xs (Int32.toNatClampNeg (x3 + 1)))).toInt ≤ t.toInt)))) rfl rfl rfl (by decide) rfl (by decide) hw1 (by decide) rfl rfl rfl (ms_309 (d := 299) hX.2.1 (fun v s2 J2 K2 p0 => ⟨_, ⟨LX_mk hX J2 rfl (LX_M hX K2 rfl rfl rfl rfl rfl rfl rfl rfl rfl rfl rfl) (LX_D hX K2 rfl) (LX_F hX K2 rfl), LF_m hG J2 K2 rfl rfl rfl rfl rfl⟩, by have e3 := hX.2.2.1; omega⟩)) (fun o w2 s2 hw2 hp2 => ?_)
  obtain ⟨v2, rfl, hp2⟩ := l2_int hp2
  show pm_H (some (L, xs)) 300 310 250 [(3, .int x3), (2, .ref 1131), (1, .ref 0), (0, .ref pm_SC)] [.int v2] w2 Q
  refine pm_H.go (pc' := 251) (st' := []) rfl rfl rfl rfl ?_
  refine pm_H.go (pc' := 858) (st' := []) rfl rfl rfl rfl ?_
  obtain ⟨u2, hL2, q2⟩ := hp2
  exact K w2 s2 t1 hw2 (LX_LI hL2.1 (by rcases q1 with ⟨a1, a2, a3⟩ | ⟨a1, a2, a3⟩ <;> rcases q2 with ⟨b1, b2, b3⟩ | ⟨b1, b2, b3⟩ <;> (try rw [a2]) <;> omega)) hL2.2

theorem l4_op2 {L : Nat} {xs : Nat → Int32} {x3 t : Int32} {w : pm_W} {s : ps_S} {Q : Option Value → pm_W → Prop} (ha : ∀ (k : Int32) (_ : pm_in k 6 = true), pm_in (x3 + k) L = true) (hw : ps_R w s) (hI : LI s t) (hF : LF s t) (K : ∀ (w' : pm_W) (s' : ps_S) (t' : Int32), ps_R w' s' → LI s' t' → LF s' t' → pm_H (some (L, xs)) 300 310 858 [(3, .int x3), (2, .ref 1131), (1, .ref 0), (0, .ref pm_SC)] [] w' Q) : pm_H (some (L, xs)) 300 310 254 [(3, .int x3), (2, .ref 1131), (1, .ref 0), (0, .ref pm_SC)] [] w Q := by
  have hb := LI_t hI
  refine pm_H.go (pc' := 255) (st' := [.ref 0]) rfl rfl rfl rfl ?_
  refine l2_call2 (c := 11) (q := 0) (P := ps_rI (fun v s1 => yJ s 0 s1)) (P2 := ps_rI (fun v _ => AW (TT s) t.toInt.toNat v)) rfl rfl rfl (by decide) rfl (by decide) hw (by decide) rfl rfl rfl (ys_151 (d := 259) (LF_J hI hF) (fun v s1 J1 => J1)) (AW_x hI hF) (fun o w1 s1 sx hw1 hp hwx hpx => ?_)
  obtain ⟨v1, rfl, hp⟩ := l2_int hp
  obtain ⟨v1x, ex, hpx⟩ := l2_int hpx
  cases ex
  obtain ⟨t1, ht1⟩ : ∃ t1 : Int32, t1 = 0 := ⟨_, rfl⟩
  have hX : LX s1 t1 t.toInt := by rw [ht1]; exact LI_x hI hp.1
  have hG : LF s1 t1 := by rw [ht1]; exact LF_x hF hp (by rw [Int32.toInt_zero]; exact hb.1)
  obtain ⟨σ, h4⟩ := hX.2.2.2.1
  show pm_H (some (L, xs)) 300 310 258 [(3, .int x3), (2, .ref 1131), (1, .ref 0), (0, .ref pm_SC)] [.int v1] w1 Q
  refine pm_H.go (pc' := 259) (st' := [.ref 1131, .int v1]) rfl rfl rfl rfl ?_
  refine l2_call2 (c := 12) (q := 1131) (P := ps_rI (fun v s2 => LX s2 t1 0 ∧ LF s2 t1)) (P2 := ps_rI (fun v _ => AW (TT s) t.toInt.toNat v)) rfl rfl rfl (by decide) rfl (by decide) hw1 (by decide) rfl rfl rfl (ms_201 (d := 292) hX.2.1 h4 (fun v s2 J2 K2 p0 p1 => ⟨LX_mk hX J2 (p1) (p0) (LX_D hX K2 rfl) (LX_F hX K2 rfl), LF_m hG J2 K2 rfl rfl rfl rfl rfl⟩)) (AW_m hI hF (by rw [ht1]; exact hp) hX) (fun o w2 s2 sy hw2 hp2 hwy hpy => ?_)
  obtain ⟨v2, rfl, hp2⟩ := l2_int hp2
  obtain ⟨v2x, ey, hpy⟩ := l2_int hpy
  cases ey
  show pm_H (some (L, xs)) 300 310 262 [(3, .int x3), (2, .ref 1131), (1, .ref 0), (0, .ref pm_SC)] [.int v2, .int v1] w2 Q
  have ev : v1 = v2 := AW_eq hpx hpy
  refine pm_H.bricmp (b := true) (pc' := 858) rfl rfl (decide_eq_true ev) rfl rfl ?_
  exact K w2 s2 t1 hw2 (LX_LI hp2.1 (by rw [ht1]; rfl)) hp2.2

theorem l4_op3 {L : Nat} {xs : Nat → Int32} {x3 t : Int32} {w : pm_W} {s : ps_S} {Q : Option Value → pm_W → Prop} (ha : ∀ (k : Int32) (_ : pm_in k 6 = true), pm_in (x3 + k) L = true) (hw : ps_R w s) (hI : LI s t) (hF : LF s t) (K : ∀ (w' : pm_W) (s' : ps_S) (t' : Int32), ps_R w' s' → LI s' t' → LF s' t' → pm_H (some (L, xs)) 300 310 858 [(3, .int x3), (2, .ref 1131), (1, .ref 0), (0, .ref pm_SC)] [] w' Q) : pm_H (some (L, xs)) 300 310 267 [(3, .int x3), (2, .ref 1131), (1, .ref 0), (0, .ref pm_SC)] [] w Q := by
  have hb := LI_t hI
  refine pm_H.go (pc' := 268) (st' := [.ref 0]) rfl rfl rfl rfl ?_
  refine pm_H.go (pc' := 269) (st' := [.ref pm_SC, .ref 0]) rfl rfl rfl rfl ?_
  refine pm_H.go (pc' := 270) (st' := [.int x3, .ref pm_SC, .ref 0]) rfl rfl rfl rfl ?_
  refine pm_H.go (pc' := 271) (st' := [.int 1, .int x3, .ref pm_SC, .ref 0]) rfl rfl rfl rfl ?_
  refine pm_H.go (pc' := 272) (st' := [.int (x3 + 1), .ref pm_SC, .ref 0]) rfl rfl rfl rfl ?_
  refine pm_H.sld (i := (x3 + 1)) rfl rfl (ha 1 rfl) ?_
  refine l2_call (c := 11) (q := 0) (P := ps_rI (fun v s1 => yJ s t s1)) rfl rfl rfl (by decide) rfl (by decide) hw (by decide) rfl rfl rfl (ys_152 (d := 299) (LF_J hI hF) (fun v => LF_J hI hF)) (fun o w1 s1 hw1 hp => ?_)
  obtain ⟨v1, rfl, hp⟩ := l2_int hp
  obtain ⟨t1, ht1⟩ : ∃ t1 : Int32, t1 = t := ⟨_, rfl⟩
  have hX : LX s1 t1 t.toInt := by rw [ht1]; exact LI_x hI hp.1
  have hG : LF s1 t1 := by rw [ht1]; exact LF_x hF hp (Int.le_refl _)
  obtain ⟨σ, h4⟩ := hX.2.2.2.1
  show pm_H (some (L, xs)) 300 310 276 [(3, .int x3), (2, .ref 1131), (1, .ref 0), (0, .ref pm_SC)] [.int v1] w1 Q
  refine pm_H.go (pc' := 277) (st' := []) rfl rfl rfl rfl ?_
  refine pm_H.go (pc' := 278) (st' := [.ref 1131]) rfl rfl rfl rfl ?_
  refine pm_H.go (pc' := 279) (st' := [.ref pm_SC, .ref 1131]) rfl rfl rfl rfl ?_
  refine pm_H.go (pc' := 280) (st' := [.int x3, .ref pm_SC, .ref 1131]) rfl rfl rfl rfl ?_
  refine pm_H.go (pc' := 281) (st' := [.int 1, .int x3, .ref pm_SC, .ref 1131]) rfl rfl rfl rfl ?_
  refine pm_H.go (pc' := 282) (st' := [.int (x3 + 1), .ref pm_SC, .ref 1131]) rfl rfl rfl rfl ?_
  refine pm_H.sld (i := (x3 + 1)) rfl rfl (ha 1 rfl) ?_
  refine l2_call (c := 12) (q := 1131) (P := ps_rI (fun v s2 => LX s2 t1 t.toInt ∧ LF s2 t1)) rfl rfl rfl (by decide) rfl (by decide) hw1 (by decide) rfl rfl rfl (ms_199 (d := 299) hX.2.1 (fun v => ⟨hX, hG⟩)) (fun o w2 s2 hw2 hp2 => ?_)
  obtain ⟨v2, rfl, hp2⟩ := l2_int hp2
  show pm_H (some (L, xs)) 300 310 286 [(3, .int x3), (2, .ref 1131), (1, .ref 0), (0, .ref pm_SC)] [.int v2] w2 Q
  refine pm_H.go (pc' := 287) (st' := []) rfl rfl rfl rfl ?_
  refine pm_H.go (pc' := 858) (st' := []) rfl rfl rfl rfl ?_
  exact K w2 s2 t1 hw2 (LX_LI hp2.1 (by rw [ht1])) hp2.2

theorem l4_op4 {L : Nat} {xs : Nat → Int32} {x3 t : Int32} {w : pm_W} {s : ps_S} {Q : Option Value → pm_W → Prop} (ha : ∀ (k : Int32) (_ : pm_in k 6 = true), pm_in (x3 + k) L = true) (hw : ps_R w s) (hI : LI s t) (hF : LF s t) (K : ∀ (w' : pm_W) (s' : ps_S) (t' : Int32), ps_R w' s' → LI s' t' → LF s' t' → pm_H (some (L, xs)) 300 310 858 [(3, .int x3), (2, .ref 1131), (1, .ref 0), (0, .ref pm_SC)] [] w' Q) : pm_H (some (L, xs)) 300 310 290 [(3, .int x3), (2, .ref 1131), (1, .ref 0), (0, .ref pm_SC)] [] w Q := by
  have hb := LI_t hI
  refine pm_H.go (pc' := 291) (st' := [.ref 0]) rfl rfl rfl rfl ?_
  refine l2_call (c := 11) (q := 0) (P := ps_rI (fun v s1 => yJ s 0 s1)) rfl rfl rfl (by decide) rfl (by decide) hw (by decide) rfl rfl rfl (ys_153 (d := 259) (LF_J hI hF) (fun v s1 J1 => J1)) (fun o w1 s1 hw1 hp => ?_)
  obtain ⟨v1, rfl, hp⟩ := l2_int hp
  obtain ⟨t1, ht1⟩ : ∃ t1 : Int32, t1 = 0 := ⟨_, rfl⟩
  have hX : LX s1 t1 t.toInt := by rw [ht1]; exact LI_x hI hp.1
  have hG : LF s1 t1 := by rw [ht1]; exact LF_x hF hp (by rw [Int32.toInt_zero]; exact hb.1)
  obtain ⟨σ, h4⟩ := hX.2.2.2.1
  show pm_H (some (L, xs)) 300 310 294 [(3, .int x3), (2, .ref 1131), (1, .ref 0), (0, .ref pm_SC)] [.int v1] w1 Q
  refine pm_H.go (pc' := 295) (st' := []) rfl rfl rfl rfl ?_
  refine pm_H.go (pc' := 296) (st' := [.ref 1131]) rfl rfl rfl rfl ?_
  refine l2_call (c := 12) (q := 1131) (P := ps_rI (fun v s2 => LX s2 t1 0 ∧ LF s2 t1)) rfl rfl rfl (by decide) rfl (by decide) hw1 (by decide) rfl rfl rfl (ms_240 (d := 292) hX.2.1 h4 (fun v s2 J2 K2 p0 p1 => ⟨LX_mk hX J2 (p1) (⟨σ, p0⟩) (LX_D hX K2 rfl) (LX_F hX K2 rfl), LF_m hG J2 K2 rfl rfl rfl rfl rfl⟩)) (fun o w2 s2 hw2 hp2 => ?_)
  obtain ⟨v2, rfl, hp2⟩ := l2_int hp2
  show pm_H (some (L, xs)) 300 310 299 [(3, .int x3), (2, .ref 1131), (1, .ref 0), (0, .ref pm_SC)] [.int v2] w2 Q
  refine pm_H.go (pc' := 300) (st' := []) rfl rfl rfl rfl ?_
  refine pm_H.go (pc' := 858) (st' := []) rfl rfl rfl rfl ?_
  exact K w2 s2 t1 hw2 (LX_LI hp2.1 (by rw [ht1]; rfl)) hp2.2

theorem l4_op5 {L : Nat} {xs : Nat → Int32} {x3 t : Int32} {w : pm_W} {s : ps_S} {Q : Option Value → pm_W → Prop} (ha : ∀ (k : Int32) (_ : pm_in k 6 = true), pm_in (x3 + k) L = true) (hw : ps_R w s) (hI : LI s t) (hF : LF s t) (K : ∀ (w' : pm_W) (s' : ps_S) (t' : Int32), ps_R w' s' → LI s' t' → LF s' t' → pm_H (some (L, xs)) 300 310 858 [(3, .int x3), (2, .ref 1131), (1, .ref 0), (0, .ref pm_SC)] [] w' Q) : pm_H (some (L, xs)) 300 310 303 [(3, .int x3), (2, .ref 1131), (1, .ref 0), (0, .ref pm_SC)] [] w Q := by
  have hb := LI_t hI
  refine pm_H.go (pc' := 304) (st' := [.ref 0]) rfl rfl rfl rfl ?_
  refine pm_H.go (pc' := 305) (st' := [.ref pm_SC, .ref 0]) rfl rfl rfl rfl ?_
  refine pm_H.go (pc' := 306) (st' := [.int x3, .ref pm_SC, .ref 0]) rfl rfl rfl rfl ?_
  refine pm_H.go (pc' := 307) (st' := [.int 1, .int x3, .ref pm_SC, .ref 0]) rfl rfl rfl rfl ?_
  refine pm_H.go (pc' := 308) (st' := [.int (x3 + 1), .ref pm_SC, .ref 0]) rfl rfl rfl rfl ?_
  refine pm_H.sld (i := (x3 + 1)) rfl rfl (ha 1 rfl) ?_
  refine l2_call (c := 11) (q := 0) (P := ps_rI (fun v s1 => yJ s t s1)) rfl rfl rfl (by decide) rfl (by decide) hw (by decide) rfl rfl rfl (ys_154 (d := 299) (LF_J hI hF) (fun v => LF_J hI hF)) (fun o w1 s1 hw1 hp => ?_)
  obtain ⟨v1, rfl, hp⟩ := l2_int hp
  obtain ⟨t1, ht1⟩ : ∃ t1 : Int32, t1 = t := ⟨_, rfl⟩
  have hX : LX s1 t1 t.toInt := by rw [ht1]; exact LI_x hI hp.1
  have hG : LF s1 t1 := by rw [ht1]; exact LF_x hF hp (Int.le_refl _)
  obtain ⟨σ, h4⟩ := hX.2.2.2.1
  show pm_H (some (L, xs)) 300 310 312 [(3, .int x3), (2, .ref 1131), (1, .ref 0), (0, .ref pm_SC)] [.int v1] w1 Q
  refine pm_H.go (pc' := 313) (st' := []) rfl rfl rfl rfl ?_
  refine pm_H.go (pc' := 314) (st' := [.ref 1131]) rfl rfl rfl rfl ?_
  refine pm_H.go (pc' := 315) (st' := [.ref pm_SC, .ref 1131]) rfl rfl rfl rfl ?_
  refine pm_H.go (pc' := 316) (st' := [.int x3, .ref pm_SC, .ref 1131]) rfl rfl rfl rfl ?_
  refine pm_H.go (pc' := 317) (st' := [.int 1, .int x3, .ref pm_SC, .ref 1131]) rfl rfl rfl rfl ?_
  refine pm_H.go (pc' := 318) (st' := [.int (x3 + 1), .ref pm_SC, .ref 1131]) rfl rfl rfl rfl ?_
  refine pm_H.sld (i := (x3 + 1)) rfl rfl (ha 1 rfl) ?_
  refine l2_call (c := 12) (q := 1131) (P := ps_rI (fun v s2 => LX s2 t1 t.toInt ∧ LF s2 t1)) rfl rfl rfl (by decide) rfl (by decide) hw1 (by decide) rfl rfl rfl (ms_261 (d := 299) hX.2.1 (fun v => ⟨hX, hG⟩)) (fun o w2 s2 hw2 hp2 => ?_)
  obtain ⟨v2, rfl, hp2⟩ := l2_int hp2
  show pm_H (some (L, xs)) 300 310 322 [(3, .int x3), (2, .ref 1131), (1, .ref 0), (0, .ref pm_SC)] [.int v2] w2 Q
  refine pm_H.go (pc' := 323) (st' := []) rfl rfl rfl rfl ?_
  refine pm_H.go (pc' := 858) (st' := []) rfl rfl rfl rfl ?_
  exact K w2 s2 t1 hw2 (LX_LI hp2.1 (by rw [ht1])) hp2.2

theorem l4_op6 {L : Nat} {xs : Nat → Int32} {x3 t : Int32} {w : pm_W} {s : ps_S} {Q : Option Value → pm_W → Prop} (ha : ∀ (k : Int32) (_ : pm_in k 6 = true), pm_in (x3 + k) L = true) (hw : ps_R w s) (hI : LI s t) (hF : LF s t) (K : ∀ (w' : pm_W) (s' : ps_S) (t' : Int32), ps_R w' s' → LI s' t' → LF s' t' → pm_H (some (L, xs)) 300 310 858 [(3, .int x3), (2, .ref 1131), (1, .ref 0), (0, .ref pm_SC)] [] w' Q) : pm_H (some (L, xs)) 300 310 326 [(3, .int x3), (2, .ref 1131), (1, .ref 0), (0, .ref pm_SC)] [] w Q := by
  have hb := LI_t hI
  refine pm_H.go (pc' := 327) (st' := [.ref 0]) rfl rfl rfl rfl ?_
  refine pm_H.go (pc' := 328) (st' := [.ref pm_SC, .ref 0]) rfl rfl rfl rfl ?_
  refine pm_H.go (pc' := 329) (st' := [.int x3, .ref pm_SC, .ref 0]) rfl rfl rfl rfl ?_
  refine pm_H.go (pc' := 330) (st' := [.int 1, .int x3, .ref pm_SC, .ref 0]) rfl rfl rfl rfl ?_
  refine pm_H.go (pc' := 331) (st' := [.int (x3 + 1), .ref pm_SC, .ref 0]) rfl rfl rfl rfl ?_
  refine pm_H.sld (i := (x3 + 1)) rfl rfl (ha 1 rfl) ?_
  refine pm_H.go (pc' := 333) (st' := [.ref pm_SC, .int (xs (Int32.toNatClampNeg (x3 + 1))), .ref 0]) rfl rfl rfl rfl ?_
  refine pm_H.go (pc' := 334) (st' := [.int x3, .ref pm_SC, .int (xs (Int32.toNatClampNeg (x3 + 1))), .ref 0]) rfl rfl rfl rfl ?_
  refine pm_H.go (pc' := 335) (st' := [.int 2, .int x3, .ref pm_SC, .int (xs (Int32.toNatClampNeg (x3 + 1))), .ref 0]) rfl rfl rfl rfl ?_
  refine pm_H.go (pc' := 336) (st' := [.int (x3 + 2), .ref pm_SC, .int (xs (Int32.toNatClampNeg (x3 + 1))), .ref 0]) rfl rfl rfl rfl ?_
  refine pm_H.sld (i := (x3 + 2)) rfl rfl (ha 2 rfl) ?_
  refine l2_call (c := 11) (q := 0) (P := ps_rI (fun v s1 => yJ s t s1)) rfl rfl rfl (by decide) rfl (by decide) hw (by decide) rfl rfl rfl (ys_155 (d := 298) (LF_J hI hF) (fun v => LF_J hI hF)) (fun o w1 s1 hw1 hp => ?_)
  obtain ⟨v1, rfl, hp⟩ := l2_int hp
  obtain ⟨t1, ht1⟩ : ∃ t1 : Int32, t1 = t := ⟨_, rfl⟩
  have hX : LX s1 t1 t.toInt := by rw [ht1]; exact LI_x hI hp.1
  have hG : LF s1 t1 := by rw [ht1]; exact LF_x hF hp (Int.le_refl _)
  obtain ⟨σ, h4⟩ := hX.2.2.2.1
  show pm_H (some (L, xs)) 300 310 340 [(3, .int x3), (2, .ref 1131), (1, .ref 0), (0, .ref pm_SC)] [.int v1] w1 Q
  refine pm_H.go (pc' := 341) (st' := []) rfl rfl rfl rfl ?_
  refine pm_H.go (pc' := 342) (st' := [.ref 1131]) rfl rfl rfl rfl ?_
  refine pm_H.go (pc' := 343) (st' := [.ref pm_SC, .ref 1131]) rfl rfl rfl rfl ?_
  refine pm_H.go (pc' := 344) (st' := [.int x3, .ref pm_SC, .ref 1131]) rfl rfl rfl rfl ?_
  refine pm_H.go (pc' := 345) (st' := [.int 1, .int x3, .ref pm_SC, .ref 1131]) rfl rfl rfl rfl ?_
  refine pm_H.go (pc' := 346) (st' := [.int (x3 + 1), .ref pm_SC, .ref 1131]) rfl rfl rfl rfl ?_
  refine pm_H.sld (i := (x3 + 1)) rfl rfl (ha 1 rfl) ?_
  refine pm_H.go (pc' := 348) (st' := [.ref pm_SC, .int (xs (Int32.toNatClampNeg (x3 + 1))), .ref 1131]) rfl rfl rfl rfl ?_
  refine pm_H.go (pc' := 349) (st' := [.int x3, .ref pm_SC, .int (xs (Int32.toNatClampNeg (x3 + 1))), .ref 1131]) rfl rfl rfl rfl ?_
  refine pm_H.go (pc' := 350) (st' := [.int 2, .int x3, .ref pm_SC, .int (xs (Int32.toNatClampNeg (x3 + 1))), .ref 1131]) rfl rfl rfl rfl ?_
  refine pm_H.go (pc' := 351) (st' := [.int (x3 + 2), .ref pm_SC, .int (xs (Int32.toNatClampNeg (x3 + 1))), .ref 1131]) rfl rfl rfl rfl ?_
  refine pm_H.sld (i := (x3 + 2)) rfl rfl (ha 2 rfl) ?_
  refine l2_call (c := 12) (q := 1131) (P := ps_rI (fun v s2 => LX s2 t1 t.toInt ∧ LF s2 t1)) rfl rfl rfl (by decide) rfl (by decide) hw1 (by decide) rfl rfl rfl (ms_263 (d := 297) hX.2.1 (fun v => ⟨hX, hG⟩)) (fun o w2 s2 hw2 hp2 => ?_)
  obtain ⟨v2, rfl, hp2⟩ := l2_int hp2
  show pm_H (some (L, xs)) 300 310 355 [(3, .int x3), (2, .ref 1131), (1, .ref 0), (0, .ref pm_SC)] [.int v2] w2 Q
  refine pm_H.go (pc' := 356) (st' := []) rfl rfl rfl rfl ?_
  refine pm_H.go (pc' := 858) (st' := []) rfl rfl rfl rfl ?_
  exact K w2 s2 t1 hw2 (LX_LI hp2.1 (by rw [ht1])) hp2.2

theorem l4_op7 {L : Nat} {xs : Nat → Int32} {x3 t : Int32} {w : pm_W} {s : ps_S} {Q : Option Value → pm_W → Prop} (ha : ∀ (k : Int32) (_ : pm_in k 6 = true), pm_in (x3 + k) L = true) (hw : ps_R w s) (hI : LI s t) (hF : LF s t) (K : ∀ (w' : pm_W) (s' : ps_S) (t' : Int32), ps_R w' s' → LI s' t' → LF s' t' → pm_H (some (L, xs)) 300 310 858 [(3, .int x3), (2, .ref 1131), (1, .ref 0), (0, .ref pm_SC)] [] w' Q) : pm_H (some (L, xs)) 300 310 359 [(3, .int x3), (2, .ref 1131), (1, .ref 0), (0, .ref pm_SC)] [] w Q := by
  have hb := LI_t hI
  refine pm_H.go (pc' := 360) (st' := [.ref 0]) rfl rfl rfl rfl ?_
  refine pm_H.go (pc' := 361) (st' := [.ref pm_SC, .ref 0]) rfl rfl rfl rfl ?_
  refine pm_H.go (pc' := 362) (st' := [.int x3, .ref pm_SC, .ref 0]) rfl rfl rfl rfl ?_
  refine pm_H.go (pc' := 363) (st' := [.int 1, .int x3, .ref pm_SC, .ref 0]) rfl rfl rfl rfl ?_
  refine pm_H.go (pc' := 364) (st' := [.int (x3 + 1), .ref pm_SC, .ref 0]) rfl rfl rfl rfl ?_
  refine pm_H.sld (i := (x3 + 1)) rfl rfl (ha 1 rfl) ?_
  refine pm_H.go (pc' := 366) (st' := [.ref pm_SC, .int (xs (Int32.toNatClampNeg (x3 + 1))), .ref 0]) rfl rfl rfl rfl ?_
  refine pm_H.go (pc' := 367) (st' := [.int x3, .ref pm_SC, .int (xs (Int32.toNatClampNeg (x3 + 1))), .ref 0]) rfl rfl rfl rfl ?_
  refine pm_H.go (pc' := 368) (st' := [.int 2, .int x3, .ref pm_SC, .int (xs (Int32.toNatClampNeg (x3 + 1))), .ref 0]) rfl rfl rfl rfl ?_
  refine pm_H.go (pc' := 369) (st' := [.int (x3 + 2), .ref pm_SC, .int (xs (Int32.toNatClampNeg (x3 + 1))), .ref 0]) rfl rfl rfl rfl ?_
  refine pm_H.sld (i := (x3 + 2)) rfl rfl (ha 2 rfl) ?_
  refine l2_call (c := 11) (q := 0) (P := ps_rI (fun v s1 => yJ s t s1)) rfl rfl rfl (by decide) rfl (by decide) hw (by decide) rfl rfl rfl (ys_156 (d := 298) (LF_J hI hF) (fun v => LF_J hI hF)) (fun o w1 s1 hw1 hp => ?_)
  obtain ⟨v1, rfl, hp⟩ := l2_int hp
  obtain ⟨t1, ht1⟩ : ∃ t1 : Int32, t1 = t := ⟨_, rfl⟩
  have hX : LX s1 t1 t.toInt := by rw [ht1]; exact LI_x hI hp.1
  have hG : LF s1 t1 := by rw [ht1]; exact LF_x hF hp (Int.le_refl _)
  obtain ⟨σ, h4⟩ := hX.2.2.2.1
  show pm_H (some (L, xs)) 300 310 373 [(3, .int x3), (2, .ref 1131), (1, .ref 0), (0, .ref pm_SC)] [.int v1] w1 Q
  refine pm_H.go (pc' := 374) (st' := []) rfl rfl rfl rfl ?_
  refine pm_H.go (pc' := 375) (st' := [.ref 1131]) rfl rfl rfl rfl ?_
  refine pm_H.go (pc' := 376) (st' := [.ref pm_SC, .ref 1131]) rfl rfl rfl rfl ?_
  refine pm_H.go (pc' := 377) (st' := [.int x3, .ref pm_SC, .ref 1131]) rfl rfl rfl rfl ?_
  refine pm_H.go (pc' := 378) (st' := [.int 1, .int x3, .ref pm_SC, .ref 1131]) rfl rfl rfl rfl ?_
  refine pm_H.go (pc' := 379) (st' := [.int (x3 + 1), .ref pm_SC, .ref 1131]) rfl rfl rfl rfl ?_
  refine pm_H.sld (i := (x3 + 1)) rfl rfl (ha 1 rfl) ?_
  refine pm_H.go (pc' := 381) (st' := [.ref pm_SC, .int (xs (Int32.toNatClampNeg (x3 + 1))), .ref 1131]) rfl rfl rfl rfl ?_
  refine pm_H.go (pc' := 382) (st' := [.int x3, .ref pm_SC, .int (xs (Int32.toNatClampNeg (x3 + 1))), .ref 1131]) rfl rfl rfl rfl ?_
  refine pm_H.go (pc' := 383) (st' := [.int 2, .int x3, .ref pm_SC, .int (xs (Int32.toNatClampNeg (x3 + 1))), .ref 1131]) rfl rfl rfl rfl ?_
  refine pm_H.go (pc' := 384) (st' := [.int (x3 + 2), .ref pm_SC, .int (xs (Int32.toNatClampNeg (x3 + 1))), .ref 1131]) rfl rfl rfl rfl ?_
  refine pm_H.sld (i := (x3 + 2)) rfl rfl (ha 2 rfl) ?_
  refine l2_call (c := 12) (q := 1131) (P := ps_rI (fun v s2 => LX s2 t1 t.toInt ∧ LF s2 t1)) rfl rfl rfl (by decide) rfl (by decide) hw1 (by decide) rfl rfl rfl (ms_265 (d := 297) hX.2.1 (fun v => ⟨hX, hG⟩)) (fun o w2 s2 hw2 hp2 => ?_)
  obtain ⟨v2, rfl, hp2⟩ := l2_int hp2
  show pm_H (some (L, xs)) 300 310 388 [(3, .int x3), (2, .ref 1131), (1, .ref 0), (0, .ref pm_SC)] [.int v2] w2 Q
  refine pm_H.go (pc' := 389) (st' := []) rfl rfl rfl rfl ?_
  refine pm_H.go (pc' := 858) (st' := []) rfl rfl rfl rfl ?_
  exact K w2 s2 t1 hw2 (LX_LI hp2.1 (by rw [ht1])) hp2.2

theorem l4_op8 {L : Nat} {xs : Nat → Int32} {x3 t : Int32} {w : pm_W} {s : ps_S} {Q : Option Value → pm_W → Prop} (ha : ∀ (k : Int32) (_ : pm_in k 6 = true), pm_in (x3 + k) L = true) (hw : ps_R w s) (hI : LI s t) (hF : LF s t) (K : ∀ (w' : pm_W) (s' : ps_S) (t' : Int32), ps_R w' s' → LI s' t' → LF s' t' → pm_H (some (L, xs)) 300 310 858 [(3, .int x3), (2, .ref 1131), (1, .ref 0), (0, .ref pm_SC)] [] w' Q) : pm_H (some (L, xs)) 300 310 392 [(3, .int x3), (2, .ref 1131), (1, .ref 0), (0, .ref pm_SC)] [] w Q := by
  have hb := LI_t hI
  refine pm_H.go (pc' := 393) (st' := [.ref 0]) rfl rfl rfl rfl ?_
  refine pm_H.go (pc' := 394) (st' := [.ref pm_SC, .ref 0]) rfl rfl rfl rfl ?_
  refine pm_H.go (pc' := 395) (st' := [.int x3, .ref pm_SC, .ref 0]) rfl rfl rfl rfl ?_
  refine pm_H.go (pc' := 396) (st' := [.int 1, .int x3, .ref pm_SC, .ref 0]) rfl rfl rfl rfl ?_
  refine pm_H.go (pc' := 397) (st' := [.int (x3 + 1), .ref pm_SC, .ref 0]) rfl rfl rfl rfl ?_
  refine pm_H.sld (i := (x3 + 1)) rfl rfl (ha 1 rfl) ?_
  refine pm_H.go (pc' := 399) (st' := [.ref pm_SC, .int (xs (Int32.toNatClampNeg (x3 + 1))), .ref 0]) rfl rfl rfl rfl ?_
  refine pm_H.go (pc' := 400) (st' := [.int x3, .ref pm_SC, .int (xs (Int32.toNatClampNeg (x3 + 1))), .ref 0]) rfl rfl rfl rfl ?_
  refine pm_H.go (pc' := 401) (st' := [.int 2, .int x3, .ref pm_SC, .int (xs (Int32.toNatClampNeg (x3 + 1))), .ref 0]) rfl rfl rfl rfl ?_
  refine pm_H.go (pc' := 402) (st' := [.int (x3 + 2), .ref pm_SC, .int (xs (Int32.toNatClampNeg (x3 + 1))), .ref 0]) rfl rfl rfl rfl ?_
  refine pm_H.sld (i := (x3 + 2)) rfl rfl (ha 2 rfl) ?_
  refine pm_H.go (pc' := 404) (st' := [.ref pm_SC, .int (xs (Int32.toNatClampNeg (x3 + 2))), .int (xs (Int32.toNatClampNeg (x3 + 1))), .ref 0]) rfl rfl rfl rfl ?_
  refine pm_H.go (pc' := 405) (st' := [.int x3, .ref pm_SC, .int (xs (Int32.toNatClampNeg (x3 + 2))), .int (xs (Int32.toNatClampNeg (x3 + 1))), .ref 0]) rfl rfl rfl rfl ?_
  refine pm_H.go (pc' := 406) (st' := [.int 3, .int x3, .ref pm_SC, .int (xs (Int32.toNatClampNeg (x3 + 2))), .int (xs (Int32.toNatClampNeg (x3 + 1))), .ref 0]) rfl rfl rfl rfl ?_
  refine pm_H.go (pc' := 407) (st' := [.int (x3 + 3), .ref pm_SC, .int (xs (Int32.toNatClampNeg (x3 + 2))), .int (xs (Int32.toNatClampNeg (x3 + 1))), .ref 0]) rfl rfl rfl rfl ?_
  refine pm_H.sld (i := (x3 + 3)) rfl rfl (ha 3 rfl) ?_
  refine l2_call (c := 11) (q := 0) (P := ps_rI (fun v s1 => yJ s t s1)) rfl rfl rfl (by decide) rfl (by decide) hw (by decide) rfl rfl rfl (ys_157 (d := 297) (LF_J hI hF) (fun v => LF_J hI hF)) (fun o w1 s1 hw1 hp => ?_)
  obtain ⟨v1, rfl, hp⟩ := l2_int hp
  obtain ⟨t1, ht1⟩ : ∃ t1 : Int32, t1 = t := ⟨_, rfl⟩
  have hX : LX s1 t1 t.toInt := by rw [ht1]; exact LI_x hI hp.1
  have hG : LF s1 t1 := by rw [ht1]; exact LF_x hF hp (Int.le_refl _)
  obtain ⟨σ, h4⟩ := hX.2.2.2.1
  show pm_H (some (L, xs)) 300 310 411 [(3, .int x3), (2, .ref 1131), (1, .ref 0), (0, .ref pm_SC)] [.int v1] w1 Q
  refine pm_H.go (pc' := 412) (st' := []) rfl rfl rfl rfl ?_
  refine pm_H.go (pc' := 413) (st' := [.ref 1131]) rfl rfl rfl rfl ?_
  refine pm_H.go (pc' := 414) (st' := [.ref pm_SC, .ref 1131]) rfl rfl rfl rfl ?_
  refine pm_H.go (pc' := 415) (st' := [.int x3, .ref pm_SC, .ref 1131]) rfl rfl rfl rfl ?_
  refine pm_H.go (pc' := 416) (st' := [.int 1, .int x3, .ref pm_SC, .ref 1131]) rfl rfl rfl rfl ?_
  refine pm_H.go (pc' := 417) (st' := [.int (x3 + 1), .ref pm_SC, .ref 1131]) rfl rfl rfl rfl ?_
  refine pm_H.sld (i := (x3 + 1)) rfl rfl (ha 1 rfl) ?_
  refine pm_H.go (pc' := 419) (st' := [.ref pm_SC, .int (xs (Int32.toNatClampNeg (x3 + 1))), .ref 1131]) rfl rfl rfl rfl ?_
  refine pm_H.go (pc' := 420) (st' := [.int x3, .ref pm_SC, .int (xs (Int32.toNatClampNeg (x3 + 1))), .ref 1131]) rfl rfl rfl rfl ?_
  refine pm_H.go (pc' := 421) (st' := [.int 2, .int x3, .ref pm_SC, .int (xs (Int32.toNatClampNeg (x3 + 1))), .ref 1131]) rfl rfl rfl rfl ?_
  refine pm_H.go (pc' := 422) (st' := [.int (x3 + 2), .ref pm_SC, .int (xs (Int32.toNatClampNeg (x3 + 1))), .ref 1131]) rfl rfl rfl rfl ?_
  refine pm_H.sld (i := (x3 + 2)) rfl rfl (ha 2 rfl) ?_
  refine pm_H.go (pc' := 424) (st' := [.ref pm_SC, .int (xs (Int32.toNatClampNeg (x3 + 2))), .int (xs (Int32.toNatClampNeg (x3 + 1))), .ref 1131]) rfl rfl rfl rfl ?_
  refine pm_H.go (pc' := 425) (st' := [.int x3, .ref pm_SC, .int (xs (Int32.toNatClampNeg (x3 + 2))), .int (xs (Int32.toNatClampNeg (x3 + 1))), .ref 1131]) rfl rfl rfl rfl ?_
  refine pm_H.go (pc' := 426) (st' := [.int 3, .int x3, .ref pm_SC, .int (xs (Int32.toNatClampNeg (x3 + 2))), .int (xs (Int32.toNatClampNeg (x3 + 1))), .ref 1131]) rfl rfl rfl rfl ?_
  refine pm_H.go (pc' := 427) (st' := [.int (x3 + 3), .ref pm_SC, .int (xs (Int32.toNatClampNeg (x3 + 2))), .int (xs (Int32.toNatClampNeg (x3 + 1))), .ref 1131]) rfl rfl rfl rfl ?_
  refine pm_H.sld (i := (x3 + 3)) rfl rfl (ha 3 rfl) ?_
  refine l2_call (c := 12) (q := 1131) (P := ps_rI (fun v s2 => LX s2 t1 t.toInt ∧ LF s2 t1)) rfl rfl rfl (by decide) rfl (by decide) hw1 (by decide) rfl rfl rfl (ms_266 (d := 297) hX.2.1 (fun v => ⟨hX, hG⟩)) (fun o w2 s2 hw2 hp2 => ?_)
  obtain ⟨v2, rfl, hp2⟩ := l2_int hp2
  show pm_H (some (L, xs)) 300 310 431 [(3, .int x3), (2, .ref 1131), (1, .ref 0), (0, .ref pm_SC)] [.int v2] w2 Q
  refine pm_H.go (pc' := 432) (st' := []) rfl rfl rfl rfl ?_
  refine pm_H.go (pc' := 858) (st' := []) rfl rfl rfl rfl ?_
  exact K w2 s2 t1 hw2 (LX_LI hp2.1 (by rw [ht1])) hp2.2

theorem l4_op9 {L : Nat} {xs : Nat → Int32} {x3 t : Int32} {w : pm_W} {s : ps_S} {Q : Option Value → pm_W → Prop} (ha : ∀ (k : Int32) (_ : pm_in k 6 = true), pm_in (x3 + k) L = true) (hw : ps_R w s) (hI : LI s t) (hF : LF s t) (K : ∀ (w' : pm_W) (s' : ps_S) (t' : Int32), ps_R w' s' → LI s' t' → LF s' t' → pm_H (some (L, xs)) 300 310 858 [(3, .int x3), (2, .ref 1131), (1, .ref 0), (0, .ref pm_SC)] [] w' Q) : pm_H (some (L, xs)) 300 310 435 [(3, .int x3), (2, .ref 1131), (1, .ref 0), (0, .ref pm_SC)] [] w Q := by
  have hb := LI_t hI
  refine pm_H.go (pc' := 436) (st' := [.ref 0]) rfl rfl rfl rfl ?_
  refine l2_call (c := 11) (q := 0) (P := ps_rI (fun v s1 => yJ s t s1)) rfl rfl rfl (by decide) rfl (by decide) hw (by decide) rfl rfl rfl (ys_158 (d := 295) (LF_J hI hF) (fun v s1 J1 => J1)) (fun o w1 s1 hw1 hp => ?_)
  obtain ⟨v1, rfl, hp⟩ := l2_int hp
  obtain ⟨t1, ht1⟩ : ∃ t1 : Int32, t1 = t := ⟨_, rfl⟩
  have hX : LX s1 t1 t.toInt := by rw [ht1]; exact LI_x hI hp.1
  have hG : LF s1 t1 := by rw [ht1]; exact LF_x hF hp (Int.le_refl _)
  obtain ⟨σ, h4⟩ := hX.2.2.2.1
  show pm_H (some (L, xs)) 300 310 439 [(3, .int x3), (2, .ref 1131), (1, .ref 0), (0, .ref pm_SC)] [.int v1] w1 Q
  refine pm_H.go (pc' := 440) (st' := []) rfl rfl rfl rfl ?_
  refine pm_H.go (pc' := 441) (st' := [.ref 1131]) rfl rfl rfl rfl ?_
  refine l2_call (c := 12) (q := 1131) (P := ps_rI (fun v s2 => LX s2 t1 t.toInt ∧ LF s2 t1)) rfl rfl rfl (by decide) rfl (by decide) hw1 (by decide) rfl rfl rfl (ms_268 (d := 298) hX.2.1 h4 (fun v s2 J2 K2 p0 => ⟨LX_mk hX J2 (LX_3 hX K2 rfl) (⟨σ, p0⟩) (LX_D hX K2 rfl) (LX_F hX K2 rfl), LF_m hG J2 K2 rfl rfl rfl rfl rfl⟩)) (fun o w2 s2 hw2 hp2 => ?_)
  obtain ⟨v2, rfl, hp2⟩ := l2_int hp2
  show pm_H (some (L, xs)) 300 310 444 [(3, .int x3), (2, .ref 1131), (1, .ref 0), (0, .ref pm_SC)] [.int v2] w2 Q
  refine pm_H.go (pc' := 445) (st' := []) rfl rfl rfl rfl ?_
  refine pm_H.go (pc' := 858) (st' := []) rfl rfl rfl rfl ?_
  exact K w2 s2 t1 hw2 (LX_LI hp2.1 (by rw [ht1])) hp2.2

theorem l4_op10 {L : Nat} {xs : Nat → Int32} {x3 t : Int32} {w : pm_W} {s : ps_S} {Q : Option Value → pm_W → Prop} (ha : ∀ (k : Int32) (_ : pm_in k 6 = true), pm_in (x3 + k) L = true) (hw : ps_R w s) (hI : LI s t) (hF : LF s t) (K : ∀ (w' : pm_W) (s' : ps_S) (t' : Int32), ps_R w' s' → LI s' t' → LF s' t' → pm_H (some (L, xs)) 300 310 858 [(3, .int x3), (2, .ref 1131), (1, .ref 0), (0, .ref pm_SC)] [] w' Q) : pm_H (some (L, xs)) 300 310 448 [(3, .int x3), (2, .ref 1131), (1, .ref 0), (0, .ref pm_SC)] [] w Q := by
  have hb := LI_t hI
  refine pm_H.go (pc' := 449) (st' := [.ref 0]) rfl rfl rfl rfl ?_
  refine pm_H.go (pc' := 450) (st' := [.ref pm_SC, .ref 0]) rfl rfl rfl rfl ?_
  refine pm_H.go (pc' := 451) (st' := [.int x3, .ref pm_SC, .ref 0]) rfl rfl rfl rfl ?_
  refine pm_H.go (pc' := 452) (st' := [.int 1, .int x3, .ref pm_SC, .ref 0]) rfl rfl rfl rfl ?_
  refine pm_H.go (pc' := 453) (st' := [.int (x3 + 1), .ref pm_SC, .ref 0]) rfl rfl rfl rfl ?_
  refine pm_H.sld (i := (x3 + 1)) rfl rfl (ha 1 rfl) ?_
  refine pm_H.go (pc' := 455) (st' := [.ref pm_SC, .int (xs (Int32.toNatClampNeg (x3 + 1))), .ref 0]) rfl rfl rfl rfl ?_
  refine pm_H.go (pc' := 456) (st' := [.int x3, .ref pm_SC, .int (xs (Int32.toNatClampNeg (x3 + 1))), .ref 0]) rfl rfl rfl rfl ?_
  refine pm_H.go (pc' := 457) (st' := [.int 2, .int x3, .ref pm_SC, .int (xs (Int32.toNatClampNeg (x3 + 1))), .ref 0]) rfl rfl rfl rfl ?_
  refine pm_H.go (pc' := 458) (st' := [.int (x3 + 2), .ref pm_SC, .int (xs (Int32.toNatClampNeg (x3 + 1))), .ref 0]) rfl rfl rfl rfl ?_
  refine pm_H.sld (i := (x3 + 2)) rfl rfl (ha 2 rfl) ?_
  refine l2_call (c := 11) (q := 0) (P := ps_rI (fun v s1 => yJ s t s1)) rfl rfl rfl (by decide) rfl (by decide) hw (by decide) rfl rfl rfl (ys_159 (d := 298) (LF_J hI hF) (fun v => LF_J hI hF)) (fun o w1 s1 hw1 hp => ?_)
  obtain ⟨v1, rfl, hp⟩ := l2_int hp
  obtain ⟨t1, ht1⟩ : ∃ t1 : Int32, t1 = t := ⟨_, rfl⟩
  have hX : LX s1 t1 t.toInt := by rw [ht1]; exact LI_x hI hp.1
  have hG : LF s1 t1 := by rw [ht1]; exact LF_x hF hp (Int.le_refl _)
  obtain ⟨σ, h4⟩ := hX.2.2.2.1
  show pm_H (some (L, xs)) 300 310 462 [(3, .int x3), (2, .ref 1131), (1, .ref 0), (0, .ref pm_SC)] [.int v1] w1 Q
  refine pm_H.go (pc' := 463) (st' := []) rfl rfl rfl rfl ?_
  refine pm_H.go (pc' := 464) (st' := [.ref 1131]) rfl rfl rfl rfl ?_
  refine pm_H.go (pc' := 465) (st' := [.ref pm_SC, .ref 1131]) rfl rfl rfl rfl ?_
  refine pm_H.go (pc' := 466) (st' := [.int x3, .ref pm_SC, .ref 1131]) rfl rfl rfl rfl ?_
  refine pm_H.go (pc' := 467) (st' := [.int 1, .int x3, .ref pm_SC, .ref 1131]) rfl rfl rfl rfl ?_
  refine pm_H.go (pc' := 468) (st' := [.int (x3 + 1), .ref pm_SC, .ref 1131]) rfl rfl rfl rfl ?_
  refine pm_H.sld (i := (x3 + 1)) rfl rfl (ha 1 rfl) ?_
  refine pm_H.go (pc' := 470) (st' := [.ref pm_SC, .int (xs (Int32.toNatClampNeg (x3 + 1))), .ref 1131]) rfl rfl rfl rfl ?_
  refine pm_H.go (pc' := 471) (st' := [.int x3, .ref pm_SC, .int (xs (Int32.toNatClampNeg (x3 + 1))), .ref 1131]) rfl rfl rfl rfl ?_
  refine pm_H.go (pc' := 472) (st' := [.int 2, .int x3, .ref pm_SC, .int (xs (Int32.toNatClampNeg (x3 + 1))), .ref 1131]) rfl rfl rfl rfl ?_
  refine pm_H.go (pc' := 473) (st' := [.int (x3 + 2), .ref pm_SC, .int (xs (Int32.toNatClampNeg (x3 + 1))), .ref 1131]) rfl rfl rfl rfl ?_
  refine pm_H.sld (i := (x3 + 2)) rfl rfl (ha 2 rfl) ?_
  refine l2_call (c := 12) (q := 1131) (P := ps_rI (fun v s2 => LX s2 t1 t.toInt ∧ LF s2 t1)) rfl rfl rfl (by decide) rfl (by decide) hw1 (by decide) rfl rfl rfl (ms_269 (d := 297) hX.2.1 (fun v => ⟨hX, hG⟩)) (fun o w2 s2 hw2 hp2 => ?_)
  obtain ⟨v2, rfl, hp2⟩ := l2_int hp2
  show pm_H (some (L, xs)) 300 310 477 [(3, .int x3), (2, .ref 1131), (1, .ref 0), (0, .ref pm_SC)] [.int v2] w2 Q
  refine pm_H.go (pc' := 478) (st' := []) rfl rfl rfl rfl ?_
  refine pm_H.go (pc' := 858) (st' := []) rfl rfl rfl rfl ?_
  exact K w2 s2 t1 hw2 (LX_LI hp2.1 (by rw [ht1])) hp2.2

theorem l4_op11 {L : Nat} {xs : Nat → Int32} {x3 t : Int32} {w : pm_W} {s : ps_S} {Q : Option Value → pm_W → Prop} (ha : ∀ (k : Int32) (_ : pm_in k 6 = true), pm_in (x3 + k) L = true) (hw : ps_R w s) (hI : LI s t) (hF : LF s t) (K : ∀ (w' : pm_W) (s' : ps_S) (t' : Int32), ps_R w' s' → LI s' t' → LF s' t' → pm_H (some (L, xs)) 300 310 858 [(3, .int x3), (2, .ref 1131), (1, .ref 0), (0, .ref pm_SC)] [] w' Q) : pm_H (some (L, xs)) 300 310 481 [(3, .int x3), (2, .ref 1131), (1, .ref 0), (0, .ref pm_SC)] [] w Q := by
  have hb := LI_t hI
  refine pm_H.go (pc' := 482) (st' := [.ref 0]) rfl rfl rfl rfl ?_
  refine pm_H.go (pc' := 483) (st' := [.ref pm_SC, .ref 0]) rfl rfl rfl rfl ?_
  refine pm_H.go (pc' := 484) (st' := [.int x3, .ref pm_SC, .ref 0]) rfl rfl rfl rfl ?_
  refine pm_H.go (pc' := 485) (st' := [.int 1, .int x3, .ref pm_SC, .ref 0]) rfl rfl rfl rfl ?_
  refine pm_H.go (pc' := 486) (st' := [.int (x3 + 1), .ref pm_SC, .ref 0]) rfl rfl rfl rfl ?_
  refine pm_H.sld (i := (x3 + 1)) rfl rfl (ha 1 rfl) ?_
  refine pm_H.go (pc' := 488) (st' := [.ref pm_SC, .int (xs (Int32.toNatClampNeg (x3 + 1))), .ref 0]) rfl rfl rfl rfl ?_
  refine pm_H.go (pc' := 489) (st' := [.int x3, .ref pm_SC, .int (xs (Int32.toNatClampNeg (x3 + 1))), .ref 0]) rfl rfl rfl rfl ?_
  refine pm_H.go (pc' := 490) (st' := [.int 2, .int x3, .ref pm_SC, .int (xs (Int32.toNatClampNeg (x3 + 1))), .ref 0]) rfl rfl rfl rfl ?_
  refine pm_H.go (pc' := 491) (st' := [.int (x3 + 2), .ref pm_SC, .int (xs (Int32.toNatClampNeg (x3 + 1))), .ref 0]) rfl rfl rfl rfl ?_
  refine pm_H.sld (i := (x3 + 2)) rfl rfl (ha 2 rfl) ?_
  refine l2_call (c := 11) (q := 0) (P := ps_rI (fun v s1 => yJ s t s1)) rfl rfl rfl (by decide) rfl (by decide) hw (by decide) rfl rfl rfl (ys_160 (d := 298) (LF_J hI hF) (fun v => LF_J hI hF)) (fun o w1 s1 hw1 hp => ?_)
  obtain ⟨v1, rfl, hp⟩ := l2_int hp
  obtain ⟨t1, ht1⟩ : ∃ t1 : Int32, t1 = t := ⟨_, rfl⟩
  have hX : LX s1 t1 t.toInt := by rw [ht1]; exact LI_x hI hp.1
  have hG : LF s1 t1 := by rw [ht1]; exact LF_x hF hp (Int.le_refl _)
  obtain ⟨σ, h4⟩ := hX.2.2.2.1
  show pm_H (some (L, xs)) 300 310 495 [(3, .int x3), (2, .ref 1131), (1, .ref 0), (0, .ref pm_SC)] [.int v1] w1 Q
  refine pm_H.go (pc' := 496) (st' := []) rfl rfl rfl rfl ?_
  refine pm_H.go (pc' := 497) (st' := [.ref 1131]) rfl rfl rfl rfl ?_
  refine pm_H.go (pc' := 498) (st' := [.ref pm_SC, .ref 1131]) rfl rfl rfl rfl ?_
  refine pm_H.go (pc' := 499) (st' := [.int x3, .ref pm_SC, .ref 1131]) rfl rfl rfl rfl ?_
  refine pm_H.go (pc' := 500) (st' := [.int 1, .int x3, .ref pm_SC, .ref 1131]) rfl rfl rfl rfl ?_
  refine pm_H.go (pc' := 501) (st' := [.int (x3 + 1), .ref pm_SC, .ref 1131]) rfl rfl rfl rfl ?_
  refine pm_H.sld (i := (x3 + 1)) rfl rfl (ha 1 rfl) ?_
  refine pm_H.go (pc' := 503) (st' := [.ref pm_SC, .int (xs (Int32.toNatClampNeg (x3 + 1))), .ref 1131]) rfl rfl rfl rfl ?_
  refine pm_H.go (pc' := 504) (st' := [.int x3, .ref pm_SC, .int (xs (Int32.toNatClampNeg (x3 + 1))), .ref 1131]) rfl rfl rfl rfl ?_
  refine pm_H.go (pc' := 505) (st' := [.int 2, .int x3, .ref pm_SC, .int (xs (Int32.toNatClampNeg (x3 + 1))), .ref 1131]) rfl rfl rfl rfl ?_
  refine pm_H.go (pc' := 506) (st' := [.int (x3 + 2), .ref pm_SC, .int (xs (Int32.toNatClampNeg (x3 + 1))), .ref 1131]) rfl rfl rfl rfl ?_
  refine pm_H.sld (i := (x3 + 2)) rfl rfl (ha 2 rfl) ?_
  refine l2_call (c := 12) (q := 1131) (P := ps_rI (fun v s2 => LX s2 t1 t.toInt ∧ LF s2 t1)) rfl rfl rfl (by decide) rfl (by decide) hw1 (by decide) rfl rfl rfl (ms_271 (d := 298) hX.2.1 (fun v => ⟨hX, hG⟩)) (fun o w2 s2 hw2 hp2 => ?_)
  obtain ⟨v2, rfl, hp2⟩ := l2_int hp2
  show pm_H (some (L, xs)) 300 310 510 [(3, .int x3), (2, .ref 1131), (1, .ref 0), (0, .ref pm_SC)] [.int v2] w2 Q
  refine pm_H.go (pc' := 511) (st' := []) rfl rfl rfl rfl ?_
  refine pm_H.go (pc' := 858) (st' := []) rfl rfl rfl rfl ?_
  exact K w2 s2 t1 hw2 (LX_LI hp2.1 (by rw [ht1])) hp2.2

theorem l4_op12 {L : Nat} {xs : Nat → Int32} {x3 t : Int32} {w : pm_W} {s : ps_S} {Q : Option Value → pm_W → Prop} (ha : ∀ (k : Int32) (_ : pm_in k 6 = true), pm_in (x3 + k) L = true) (hw : ps_R w s) (hI : LI s t) (hF : LF s t) (K : ∀ (w' : pm_W) (s' : ps_S) (t' : Int32), ps_R w' s' → LI s' t' → LF s' t' → pm_H (some (L, xs)) 300 310 858 [(3, .int x3), (2, .ref 1131), (1, .ref 0), (0, .ref pm_SC)] [] w' Q) : pm_H (some (L, xs)) 300 310 514 [(3, .int x3), (2, .ref 1131), (1, .ref 0), (0, .ref pm_SC)] [] w Q := by
  have hb := LI_t hI
  refine pm_H.go (pc' := 515) (st' := [.ref 0]) rfl rfl rfl rfl ?_
  refine l2_call (c := 11) (q := 0) (P := ps_rI (fun v s1 => yJ s t s1)) rfl rfl rfl (by decide) rfl (by decide) hw (by decide) rfl rfl rfl (ys_161 (d := 298) (LF_J hI hF) (fun v s1 J1 => J1)) (fun o w1 s1 hw1 hp => ?_)
  obtain ⟨v1, rfl, hp⟩ := l2_int hp
  obtain ⟨t1, ht1⟩ : ∃ t1 : Int32, t1 = t := ⟨_, rfl⟩
  have hX : LX s1 t1 t.toInt := by rw [ht1]; exact LI_x hI hp.1
  have hG : LF s1 t1 := by rw [ht1]; exact LF_x hF hp (Int.le_refl _)
  obtain ⟨σ, h4⟩ := hX.2.2.2.1
  show pm_H (some (L, xs)) 300 310 518 [(3, .int x3), (2, .ref 1131), (1, .ref 0), (0, .ref pm_SC)] [.int v1] w1 Q
  refine pm_H.go (pc' := 519) (st' := []) rfl rfl rfl rfl ?_
  refine pm_H.go (pc' := 520) (st' := [.ref 1131]) rfl rfl rfl rfl ?_
  refine l2_call (c := 12) (q := 1131) (P := ps_rI (fun v s2 => LX s2 t1 t.toInt ∧ LF s2 t1)) rfl rfl rfl (by decide) rfl (by decide) hw1 (by decide) rfl rfl rfl (ms_273 (d := 298) hX.2.1 h4 (fun v s2 J2 K2 p0 => ⟨LX_mk hX J2 (LX_3 hX K2 rfl) (⟨σ, p0⟩) (LX_D hX K2 rfl) (LX_F hX K2 rfl), LF_m hG J2 K2 rfl rfl rfl rfl rfl⟩)) (fun o w2 s2 hw2 hp2 => ?_)
  obtain ⟨v2, rfl, hp2⟩ := l2_int hp2
  show pm_H (some (L, xs)) 300 310 523 [(3, .int x3), (2, .ref 1131), (1, .ref 0), (0, .ref pm_SC)] [.int v2] w2 Q
  refine pm_H.go (pc' := 524) (st' := []) rfl rfl rfl rfl ?_
  refine pm_H.go (pc' := 858) (st' := []) rfl rfl rfl rfl ?_
  exact K w2 s2 t1 hw2 (LX_LI hp2.1 (by rw [ht1])) hp2.2

theorem l4_op13 {L : Nat} {xs : Nat → Int32} {x3 t : Int32} {w : pm_W} {s : ps_S} {Q : Option Value → pm_W → Prop} (ha : ∀ (k : Int32) (_ : pm_in k 6 = true), pm_in (x3 + k) L = true) (hw : ps_R w s) (hI : LI s t) (hF : LF s t) (K : ∀ (w' : pm_W) (s' : ps_S) (t' : Int32), ps_R w' s' → LI s' t' → LF s' t' → pm_H (some (L, xs)) 300 310 858 [(3, .int x3), (2, .ref 1131), (1, .ref 0), (0, .ref pm_SC)] [] w' Q) : pm_H (some (L, xs)) 300 310 527 [(3, .int x3), (2, .ref 1131), (1, .ref 0), (0, .ref pm_SC)] [] w Q := by
  have hb := LI_t hI
  refine pm_H.go (pc' := 528) (st' := [.ref 0]) rfl rfl rfl rfl ?_
  refine l2_call (c := 11) (q := 0) (P := ps_rI (fun v s1 => yJ s 0 s1)) rfl rfl rfl (by decide) rfl (by decide) hw (by decide) rfl rfl rfl (ys_162 (d := 260) (LF_J hI hF) (fun v s1 J1 => J1)) (fun o w1 s1 hw1 hp => ?_)
  obtain ⟨v1, rfl, hp⟩ := l2_int hp
  obtain ⟨t1, ht1⟩ : ∃ t1 : Int32, t1 = 0 := ⟨_, rfl⟩
  have hX : LX s1 t1 t.toInt := by rw [ht1]; exact LI_x hI hp.1
  have hG : LF s1 t1 := by rw [ht1]; exact LF_x hF hp (by rw [Int32.toInt_zero]; exact hb.1)
  obtain ⟨σ, h4⟩ := hX.2.2.2.1
  show pm_H (some (L, xs)) 300 310 531 [(3, .int x3), (2, .ref 1131), (1, .ref 0), (0, .ref pm_SC)] [.int v1] w1 Q
  refine pm_H.go (pc' := 532) (st' := []) rfl rfl rfl rfl ?_
  refine pm_H.go (pc' := 533) (st' := [.ref 1131]) rfl rfl rfl rfl ?_
  refine l2_call (c := 12) (q := 1131) (P := ps_rI (fun v s2 => LX s2 t1 0 ∧ LF s2 t1)) rfl rfl rfl (by decide) rfl (by decide) hw1 (by decide) rfl rfl rfl (ms_274 (d := 293) hX.2.1 h4 (fun v s2 J2 K2 p0 p1 => ⟨LX_mk hX J2 (p1) (⟨σ, p0⟩) (LX_D hX K2 rfl) (LX_F hX K2 rfl), LF_m hG J2 K2 rfl rfl rfl rfl rfl⟩)) (fun o w2 s2 hw2 hp2 => ?_)
  obtain ⟨v2, rfl, hp2⟩ := l2_int hp2
  show pm_H (some (L, xs)) 300 310 536 [(3, .int x3), (2, .ref 1131), (1, .ref 0), (0, .ref pm_SC)] [.int v2] w2 Q
  refine pm_H.go (pc' := 537) (st' := []) rfl rfl rfl rfl ?_
  refine pm_H.go (pc' := 858) (st' := []) rfl rfl rfl rfl ?_
  exact K w2 s2 t1 hw2 (LX_LI hp2.1 (by rw [ht1]; rfl)) hp2.2

theorem l4_op14 {L : Nat} {xs : Nat → Int32} {x3 t : Int32} {w : pm_W} {s : ps_S} {Q : Option Value → pm_W → Prop} (ha : ∀ (k : Int32) (_ : pm_in k 6 = true), pm_in (x3 + k) L = true) (hw : ps_R w s) (hI : LI s t) (hF : LF s t) (K : ∀ (w' : pm_W) (s' : ps_S) (t' : Int32), ps_R w' s' → LI s' t' → LF s' t' → pm_H (some (L, xs)) 300 310 858 [(3, .int x3), (2, .ref 1131), (1, .ref 0), (0, .ref pm_SC)] [] w' Q) : pm_H (some (L, xs)) 300 310 540 [(3, .int x3), (2, .ref 1131), (1, .ref 0), (0, .ref pm_SC)] [] w Q := by
  have hb := LI_t hI
  refine pm_H.go (pc' := 541) (st' := [.ref 0]) rfl rfl rfl rfl ?_
  refine pm_H.go (pc' := 542) (st' := [.ref pm_SC, .ref 0]) rfl rfl rfl rfl ?_
  refine pm_H.go (pc' := 543) (st' := [.int x3, .ref pm_SC, .ref 0]) rfl rfl rfl rfl ?_
  refine pm_H.go (pc' := 544) (st' := [.int 1, .int x3, .ref pm_SC, .ref 0]) rfl rfl rfl rfl ?_
  refine pm_H.go (pc' := 545) (st' := [.int (x3 + 1), .ref pm_SC, .ref 0]) rfl rfl rfl rfl ?_
  refine pm_H.sld (i := (x3 + 1)) rfl rfl (ha 1 rfl) ?_
  refine l2_call (c := 11) (q := 0) (P := ps_rI (fun v s1 => yJ s t s1)) rfl rfl rfl (by decide) rfl (by decide) hw (by decide) rfl rfl rfl (ys_163 (d := 298) (LF_J hI hF) (fun v => LF_J hI hF)) (fun o w1 s1 hw1 hp => ?_)
  obtain ⟨v1, rfl, hp⟩ := l2_int hp
  obtain ⟨t1, ht1⟩ : ∃ t1 : Int32, t1 = t := ⟨_, rfl⟩
  have hX : LX s1 t1 t.toInt := by rw [ht1]; exact LI_x hI hp.1
  have hG : LF s1 t1 := by rw [ht1]; exact LF_x hF hp (Int.le_refl _)
  obtain ⟨σ, h4⟩ := hX.2.2.2.1
  show pm_H (some (L, xs)) 300 310 549 [(3, .int x3), (2, .ref 1131), (1, .ref 0), (0, .ref pm_SC)] [.int v1] w1 Q
  refine pm_H.go (pc' := 550) (st' := []) rfl rfl rfl rfl ?_
  refine pm_H.go (pc' := 551) (st' := [.ref 1131]) rfl rfl rfl rfl ?_
  refine pm_H.go (pc' := 552) (st' := [.ref pm_SC, .ref 1131]) rfl rfl rfl rfl ?_
  refine pm_H.go (pc' := 553) (st' := [.int x3, .ref pm_SC, .ref 1131]) rfl rfl rfl rfl ?_
  refine pm_H.go (pc' := 554) (st' := [.int 1, .int x3, .ref pm_SC, .ref 1131]) rfl rfl rfl rfl ?_
  refine pm_H.go (pc' := 555) (st' := [.int (x3 + 1), .ref pm_SC, .ref 1131]) rfl rfl rfl rfl ?_
  refine pm_H.sld (i := (x3 + 1)) rfl rfl (ha 1 rfl) ?_
  refine l2_call (c := 12) (q := 1131) (P := ps_rI (fun v s2 => LX s2 t1 t.toInt ∧ LF s2 t1)) rfl rfl rfl (by decide) rfl (by decide) hw1 (by decide) rfl rfl rfl (ms_275 (d := 297) hX.2.1 (fun v => ⟨hX, hG⟩)) (fun o w2 s2 hw2 hp2 => ?_)
  obtain ⟨v2, rfl, hp2⟩ := l2_int hp2
  show pm_H (some (L, xs)) 300 310 559 [(3, .int x3), (2, .ref 1131), (1, .ref 0), (0, .ref pm_SC)] [.int v2] w2 Q
  refine pm_H.go (pc' := 560) (st' := []) rfl rfl rfl rfl ?_
  refine pm_H.go (pc' := 858) (st' := []) rfl rfl rfl rfl ?_
  exact K w2 s2 t1 hw2 (LX_LI hp2.1 (by rw [ht1])) hp2.2

theorem l4_op15 {L : Nat} {xs : Nat → Int32} {x3 t : Int32} {w : pm_W} {s : ps_S} {Q : Option Value → pm_W → Prop} (ha : ∀ (k : Int32) (_ : pm_in k 6 = true), pm_in (x3 + k) L = true) (hw : ps_R w s) (hI : LI s t) (hF : LF s t) (K : ∀ (w' : pm_W) (s' : ps_S) (t' : Int32), ps_R w' s' → LI s' t' → LF s' t' → pm_H (some (L, xs)) 300 310 858 [(3, .int x3), (2, .ref 1131), (1, .ref 0), (0, .ref pm_SC)] [] w' Q) : pm_H (some (L, xs)) 300 310 563 [(3, .int x3), (2, .ref 1131), (1, .ref 0), (0, .ref pm_SC)] [] w Q := by
  have hb := LI_t hI
  refine pm_H.go (pc' := 564) (st' := [.ref 0]) rfl rfl rfl rfl ?_
  refine l2_call (c := 11) (q := 0) (P := ps_rI (fun v s1 => yJ s t s1)) rfl rfl rfl (by decide) rfl (by decide) hw (by decide) rfl rfl rfl (ys_164 (d := 297) (LF_J hI hF) (fun v => LF_J hI hF)) (fun o w1 s1 hw1 hp => ?_)
  obtain ⟨v1, rfl, hp⟩ := l2_int hp
  obtain ⟨t1, ht1⟩ : ∃ t1 : Int32, t1 = t := ⟨_, rfl⟩
  have hX : LX s1 t1 t.toInt := by rw [ht1]; exact LI_x hI hp.1
  have hG : LF s1 t1 := by rw [ht1]; exact LF_x hF hp (Int.le_refl _)
  obtain ⟨σ, h4⟩ := hX.2.2.2.1
  show pm_H (some (L, xs)) 300 310 567 [(3, .int x3), (2, .ref 1131), (1, .ref 0), (0, .ref pm_SC)] [.int v1] w1 Q
  refine pm_H.go (pc' := 568) (st' := []) rfl rfl rfl rfl ?_
  refine pm_H.go (pc' := 569) (st' := [.ref 1131]) rfl rfl rfl rfl ?_
  refine l2_call (c := 12) (q := 1131) (P := ps_rI (fun v s2 => LX s2 t1 t.toInt ∧ LF s2 t1)) rfl rfl rfl (by decide) rfl (by decide) hw1 (by decide) rfl rfl rfl (ms_276 (d := 297) hX.2.1 (fun v => ⟨hX, hG⟩)) (fun o w2 s2 hw2 hp2 => ?_)
  obtain ⟨v2, rfl, hp2⟩ := l2_int hp2
  show pm_H (some (L, xs)) 300 310 572 [(3, .int x3), (2, .ref 1131), (1, .ref 0), (0, .ref pm_SC)] [.int v2] w2 Q
  refine pm_H.go (pc' := 573) (st' := []) rfl rfl rfl rfl ?_
  refine pm_H.go (pc' := 858) (st' := []) rfl rfl rfl rfl ?_
  exact K w2 s2 t1 hw2 (LX_LI hp2.1 (by rw [ht1])) hp2.2

theorem l4_op16 {L : Nat} {xs : Nat → Int32} {x3 t : Int32} {w : pm_W} {s : ps_S} {Q : Option Value → pm_W → Prop} (ha : ∀ (k : Int32) (_ : pm_in k 6 = true), pm_in (x3 + k) L = true) (hw : ps_R w s) (hI : LI s t) (hF : LF s t) (K : ∀ (w' : pm_W) (s' : ps_S) (t' : Int32), ps_R w' s' → LI s' t' → LF s' t' → pm_H (some (L, xs)) 300 310 858 [(3, .int x3), (2, .ref 1131), (1, .ref 0), (0, .ref pm_SC)] [] w' Q) : pm_H (some (L, xs)) 300 310 576 [(3, .int x3), (2, .ref 1131), (1, .ref 0), (0, .ref pm_SC)] [] w Q := by
  have hb := LI_t hI
  refine pm_H.go (pc' := 577) (st' := [.ref 0]) rfl rfl rfl rfl ?_
  refine pm_H.go (pc' := 578) (st' := [.ref pm_SC, .ref 0]) rfl rfl rfl rfl ?_
  refine pm_H.go (pc' := 579) (st' := [.int x3, .ref pm_SC, .ref 0]) rfl rfl rfl rfl ?_
  refine pm_H.go (pc' := 580) (st' := [.int 1, .int x3, .ref pm_SC, .ref 0]) rfl rfl rfl rfl ?_
  refine pm_H.go (pc' := 581) (st' := [.int (x3 + 1), .ref pm_SC, .ref 0]) rfl rfl rfl rfl ?_
  refine pm_H.sld (i := (x3 + 1)) rfl rfl (ha 1 rfl) ?_
  refine l2_call (c := 11) (q := 0) (P := ps_rJ (fun v s1 => yJ s t s1)) rfl rfl rfl (by decide) rfl (by decide) hw (by decide) rfl rfl rfl (ys_165 (d := 298) (LF_J hI hF) (fun v => LF_J hI hF)) (fun o w1 s1 hw1 hp => ?_)
  obtain ⟨v1, rfl, hp⟩ := l2_lng hp
  obtain ⟨t1, ht1⟩ : ∃ t1 : Int32, t1 = t := ⟨_, rfl⟩
  have hX : LX s1 t1 t.toInt := by rw [ht1]; exact LI_x hI hp.1
  have hG : LF s1 t1 := by rw [ht1]; exact LF_x hF hp (Int.le_refl _)
  obtain ⟨σ, h4⟩ := hX.2.2.2.1
  show pm_H (some (L, xs)) 300 310 585 [(3, .int x3), (2, .ref 1131), (1, .ref 0), (0, .ref pm_SC)] [.long v1] w1 Q
  refine pm_H.go (pc' := 586) (st' := []) rfl rfl rfl rfl ?_
  refine pm_H.go (pc' := 587) (st' := [.ref 1131]) rfl rfl rfl rfl ?_
  refine pm_H.go (pc' := 588) (st' := [.ref pm_SC, .ref 1131]) rfl rfl rfl rfl ?_
  refine pm_H.go (pc' := 589) (st' := [.int x3, .ref pm_SC, .ref 1131]) rfl rfl rfl rfl ?_
  refine pm_H.go (pc' := 590) (st' := [.int 1, .int x3, .ref pm_SC, .ref 1131]) rfl rfl rfl rfl ?_
  refine pm_H.go (pc' := 591) (st' := [.int (x3 + 1), .ref pm_SC, .ref 1131]) rfl rfl rfl rfl ?_
  refine pm_H.sld (i := (x3 + 1)) rfl rfl (ha 1 rfl) ?_
  refine l2_call (c := 12) (q := 1131) (P := ps_rJ (fun v s2 => LX s2 t1 t.toInt ∧ LF s2 t1)) rfl rfl rfl (by decide) rfl (by decide) hw1 (by decide) rfl rfl rfl (ms_267 (d := 297) hX.2.1 (fun v => ⟨hX, hG⟩)) (fun o w2 s2 hw2 hp2 => ?_)
  obtain ⟨v2, rfl, hp2⟩ := l2_lng hp2
  show pm_H (some (L, xs)) 300 310 595 [(3, .int x3), (2, .ref 1131), (1, .ref 0), (0, .ref pm_SC)] [.long v2] w2 Q
  refine pm_H.go (pc' := 596) (st' := []) rfl rfl rfl rfl ?_
  refine pm_H.go (pc' := 858) (st' := []) rfl rfl rfl rfl ?_
  exact K w2 s2 t1 hw2 (LX_LI hp2.1 (by rw [ht1])) hp2.2

theorem l4_op17 {L : Nat} {xs : Nat → Int32} {x3 t : Int32} {w : pm_W} {s : ps_S} {Q : Option Value → pm_W → Prop} (ha : ∀ (k : Int32) (_ : pm_in k 6 = true), pm_in (x3 + k) L = true) (hw : ps_R w s) (hI : LI s t) (hF : LF s t) (K : ∀ (w' : pm_W) (s' : ps_S) (t' : Int32), ps_R w' s' → LI s' t' → LF s' t' → pm_H (some (L, xs)) 300 310 858 [(3, .int x3), (2, .ref 1131), (1, .ref 0), (0, .ref pm_SC)] [] w' Q) : pm_H (some (L, xs)) 300 310 599 [(3, .int x3), (2, .ref 1131), (1, .ref 0), (0, .ref pm_SC)] [] w Q := by
  have hb := LI_t hI
  refine pm_H.go (pc' := 600) (st' := [.ref 0]) rfl rfl rfl rfl ?_
  refine l2_call (c := 11) (q := 0) (P := ps_rI (fun v s1 => yJ s t s1)) rfl rfl rfl (by decide) rfl (by decide) hw (by decide) rfl rfl rfl (ys_166 (d := 295) (LF_J hI hF) (fun v s1 J1 => J1)) (fun o w1 s1 hw1 hp => ?_)
  obtain ⟨v1, rfl, hp⟩ := l2_int hp
  obtain ⟨t1, ht1⟩ : ∃ t1 : Int32, t1 = t := ⟨_, rfl⟩
  have hX : LX s1 t1 t.toInt := by rw [ht1]; exact LI_x hI hp.1
  have hG : LF s1 t1 := by rw [ht1]; exact LF_x hF hp (Int.le_refl _)
  obtain ⟨σ, h4⟩ := hX.2.2.2.1
  show pm_H (some (L, xs)) 300 310 603 [(3, .int x3), (2, .ref 1131), (1, .ref 0), (0, .ref pm_SC)] [.int v1] w1 Q
  refine pm_H.go (pc' := 604) (st' := []) rfl rfl rfl rfl ?_
  refine pm_H.go (pc' := 605) (st' := [.ref 1131]) rfl rfl rfl rfl ?_
  refine l2_call (c := 12) (q := 1131) (P := ps_rI (fun v s2 => LX s2 t1 t.toInt ∧ LF s2 t1)) rfl rfl rfl (by decide) rfl (by decide) hw1 (by decide) rfl rfl rfl (ms_280 (d := 295) hX.2.1 h4 (fun v s2 J2 K2 => ⟨LX_mk hX J2 (LX_3 hX K2 rfl) (LX_M hX K2 rfl rfl rfl rfl rfl rfl rfl rfl rfl rfl rfl) (LX_D hX K2 rfl) (LX_F hX K2 rfl), LF_m hG J2 K2 rfl rfl rfl rfl rfl⟩)) (fun o w2 s2 hw2 hp2 => ?_)
  obtain ⟨v2, rfl, hp2⟩ := l2_int hp2
  show pm_H (some (L, xs)) 300 310 608 [(3, .int x3), (2, .ref 1131), (1, .ref 0), (0, .ref pm_SC)] [.int v2] w2 Q
  refine pm_H.go (pc' := 609) (st' := []) rfl rfl rfl rfl ?_
  refine pm_H.go (pc' := 858) (st' := []) rfl rfl rfl rfl ?_
  exact K w2 s2 t1 hw2 (LX_LI hp2.1 (by rw [ht1])) hp2.2

theorem l4_op18 {L : Nat} {xs : Nat → Int32} {x3 t : Int32} {w : pm_W} {s : ps_S} {Q : Option Value → pm_W → Prop} (ha : ∀ (k : Int32) (_ : pm_in k 6 = true), pm_in (x3 + k) L = true) (hw : ps_R w s) (hI : LI s t) (hF : LF s t) (K : ∀ (w' : pm_W) (s' : ps_S) (t' : Int32), ps_R w' s' → LI s' t' → LF s' t' → pm_H (some (L, xs)) 300 310 858 [(3, .int x3), (2, .ref 1131), (1, .ref 0), (0, .ref pm_SC)] [] w' Q) : pm_H (some (L, xs)) 300 310 612 [(3, .int x3), (2, .ref 1131), (1, .ref 0), (0, .ref pm_SC)] [] w Q := by
  have hb := LI_t hI
  refine pm_H.go (pc' := 613) (st' := [.ref 0]) rfl rfl rfl rfl ?_
  refine l2_call (c := 11) (q := 0) (P := ps_rI (fun v s1 => yJ s t s1)) rfl rfl rfl (by decide) rfl (by decide) hw (by decide) rfl rfl rfl (ys_167 (d := 295) (LF_J hI hF) (fun v s1 J1 => J1)) (fun o w1 s1 hw1 hp => ?_)
  obtain ⟨v1, rfl, hp⟩ := l2_int hp
  obtain ⟨t1, ht1⟩ : ∃ t1 : Int32, t1 = t := ⟨_, rfl⟩
  have hX : LX s1 t1 t.toInt := by rw [ht1]; exact LI_x hI hp.1
  have hG : LF s1 t1 := by rw [ht1]; exact LF_x hF hp (Int.le_refl _)
  obtain ⟨σ, h4⟩ := hX.2.2.2.1
  show pm_H (some (L, xs)) 300 310 616 [(3, .int x3), (2, .ref 1131), (1, .ref 0), (0, .ref pm_SC)] [.int v1] w1 Q
  refine pm_H.go (pc' := 617) (st' := []) rfl rfl rfl rfl ?_
  refine pm_H.go (pc' := 618) (st' := [.ref 1131]) rfl rfl rfl rfl ?_
  refine l2_call (c := 12) (q := 1131) (P := ps_rI (fun v s2 => LX s2 t1 t.toInt ∧ LF s2 t1)) rfl rfl rfl (by decide) rfl (by decide) hw1 (by decide) rfl rfl rfl (ms_281 (d := 295) hX.2.1 h4 (fun v s2 J2 K2 => ⟨LX_mk hX J2 (LX_3 hX K2 rfl) (LX_M hX K2 rfl rfl rfl rfl rfl rfl rfl rfl rfl rfl rfl) (LX_D hX K2 rfl) (LX_F hX K2 rfl), LF_m hG J2 K2 rfl rfl rfl rfl rfl⟩)) (fun o w2 s2 hw2 hp2 => ?_)
  obtain ⟨v2, rfl, hp2⟩ := l2_int hp2
  show pm_H (some (L, xs)) 300 310 621 [(3, .int x3), (2, .ref 1131), (1, .ref 0), (0, .ref pm_SC)] [.int v2] w2 Q
  refine pm_H.go (pc' := 622) (st' := []) rfl rfl rfl rfl ?_
  refine pm_H.go (pc' := 858) (st' := []) rfl rfl rfl rfl ?_
  exact K w2 s2 t1 hw2 (LX_LI hp2.1 (by rw [ht1])) hp2.2

theorem l4_op19 {L : Nat} {xs : Nat → Int32} {x3 t : Int32} {w : pm_W} {s : ps_S} {Q : Option Value → pm_W → Prop} (ha : ∀ (k : Int32) (_ : pm_in k 6 = true), pm_in (x3 + k) L = true) (hw : ps_R w s) (hI : LI s t) (hF : LF s t) (K : ∀ (w' : pm_W) (s' : ps_S) (t' : Int32), ps_R w' s' → LI s' t' → LF s' t' → pm_H (some (L, xs)) 300 310 858 [(3, .int x3), (2, .ref 1131), (1, .ref 0), (0, .ref pm_SC)] [] w' Q) : pm_H (some (L, xs)) 300 310 625 [(3, .int x3), (2, .ref 1131), (1, .ref 0), (0, .ref pm_SC)] [] w Q := by
  have hb := LI_t hI
  refine pm_H.go (pc' := 626) (st' := [.ref 0]) rfl rfl rfl rfl ?_
  refine l2_call (c := 11) (q := 0) (P := ps_rI (fun v s1 => yJ s t s1)) rfl rfl rfl (by decide) rfl (by decide) hw (by decide) rfl rfl rfl (ys_168 (d := 295) (LF_J hI hF) (fun v s1 J1 => J1)) (fun o w1 s1 hw1 hp => ?_)
  obtain ⟨v1, rfl, hp⟩ := l2_int hp
  obtain ⟨t1, ht1⟩ : ∃ t1 : Int32, t1 = t := ⟨_, rfl⟩
  have hX : LX s1 t1 t.toInt := by rw [ht1]; exact LI_x hI hp.1
  have hG : LF s1 t1 := by rw [ht1]; exact LF_x hF hp (Int.le_refl _)
  obtain ⟨σ, h4⟩ := hX.2.2.2.1
  show pm_H (some (L, xs)) 300 310 629 [(3, .int x3), (2, .ref 1131), (1, .ref 0), (0, .ref pm_SC)] [.int v1] w1 Q
  refine pm_H.go (pc' := 630) (st' := []) rfl rfl rfl rfl ?_
  refine pm_H.go (pc' := 631) (st' := [.ref 1131]) rfl rfl rfl rfl ?_
  refine l2_call (c := 12) (q := 1131) (P := ps_rI (fun v s2 => LX s2 t1 t.toInt ∧ LF s2 t1)) rfl rfl rfl (by decide) rfl (by decide) hw1 (by decide) rfl rfl rfl (ms_282 (d := 295) hX.2.1 h4 (fun v s2 J2 K2 => ⟨LX_mk hX J2 (LX_3 hX K2 rfl) (LX_M hX K2 rfl rfl rfl rfl rfl rfl rfl rfl rfl rfl rfl) (LX_D hX K2 rfl) (LX_F hX K2 rfl), LF_m hG J2 K2 rfl rfl rfl rfl rfl⟩)) (fun o w2 s2 hw2 hp2 => ?_)
  obtain ⟨v2, rfl, hp2⟩ := l2_int hp2
  show pm_H (some (L, xs)) 300 310 634 [(3, .int x3), (2, .ref 1131), (1, .ref 0), (0, .ref pm_SC)] [.int v2] w2 Q
  refine pm_H.go (pc' := 635) (st' := []) rfl rfl rfl rfl ?_
  refine pm_H.go (pc' := 858) (st' := []) rfl rfl rfl rfl ?_
  exact K w2 s2 t1 hw2 (LX_LI hp2.1 (by rw [ht1])) hp2.2

theorem l4_op20 {L : Nat} {xs : Nat → Int32} {x3 t : Int32} {w : pm_W} {s : ps_S} {Q : Option Value → pm_W → Prop} (ha : ∀ (k : Int32) (_ : pm_in k 6 = true), pm_in (x3 + k) L = true) (hw : ps_R w s) (hI : LI s t) (hF : LF s t) (K : ∀ (w' : pm_W) (s' : ps_S) (t' : Int32), ps_R w' s' → LI s' t' → LF s' t' → pm_H (some (L, xs)) 300 310 858 [(3, .int x3), (2, .ref 1131), (1, .ref 0), (0, .ref pm_SC)] [] w' Q) : pm_H (some (L, xs)) 300 310 638 [(3, .int x3), (2, .ref 1131), (1, .ref 0), (0, .ref pm_SC)] [] w Q := by
  have hb := LI_t hI
  refine pm_H.go (pc' := 639) (st' := [.ref 0]) rfl rfl rfl rfl ?_
  refine l2_call (c := 11) (q := 0) (P := ps_rI (fun v s1 => yJ s 0 s1)) rfl rfl rfl (by decide) rfl (by decide) hw (by decide) rfl rfl rfl (ys_169 (d := 260) (LF_J hI hF) (fun v s1 J1 => J1)) (fun o w1 s1 hw1 hp => ?_)
  obtain ⟨v1, rfl, hp⟩ := l2_int hp
  obtain ⟨t1, ht1⟩ : ∃ t1 : Int32, t1 = 0 := ⟨_, rfl⟩
  have hX : LX s1 t1 t.toInt := by rw [ht1]; exact LI_x hI hp.1
  have hG : LF s1 t1 := by rw [ht1]; exact LF_x hF hp (by rw [Int32.toInt_zero]; exact hb.1)
  obtain ⟨σ, h4⟩ := hX.2.2.2.1
  show pm_H (some (L, xs)) 300 310 642 [(3, .int x3), (2, .ref 1131), (1, .ref 0), (0, .ref pm_SC)] [.int v1] w1 Q
  refine pm_H.go (pc' := 643) (st' := []) rfl rfl rfl rfl ?_
  refine pm_H.go (pc' := 644) (st' := [.ref 1131]) rfl rfl rfl rfl ?_
  refine l2_call (c := 12) (q := 1131) (P := ps_rI (fun v s2 => LX s2 t1 0 ∧ LF s2 t1)) rfl rfl rfl (by decide) rfl (by decide) hw1 (by decide) rfl rfl rfl (ms_288 (d := 293) hX.2.1 h4 (fun v s2 J2 K2 p0 p1 => ⟨LX_mk hX J2 (p1) (⟨σ, p0⟩) (LX_D hX K2 rfl) (LX_F hX K2 rfl), LF_m hG J2 K2 rfl rfl rfl rfl rfl⟩)) (fun o w2 s2 hw2 hp2 => ?_)
  obtain ⟨v2, rfl, hp2⟩ := l2_int hp2
  show pm_H (some (L, xs)) 300 310 647 [(3, .int x3), (2, .ref 1131), (1, .ref 0), (0, .ref pm_SC)] [.int v2] w2 Q
  refine pm_H.go (pc' := 648) (st' := []) rfl rfl rfl rfl ?_
  refine pm_H.go (pc' := 858) (st' := []) rfl rfl rfl rfl ?_
  exact K w2 s2 t1 hw2 (LX_LI hp2.1 (by rw [ht1]; rfl)) hp2.2

theorem l4_op21 {L : Nat} {xs : Nat → Int32} {x3 t : Int32} {w : pm_W} {s : ps_S} {Q : Option Value → pm_W → Prop} (ha : ∀ (k : Int32) (_ : pm_in k 6 = true), pm_in (x3 + k) L = true) (hw : ps_R w s) (hI : LI s t) (hF : LF s t) (K : ∀ (w' : pm_W) (s' : ps_S) (t' : Int32), ps_R w' s' → LI s' t' → LF s' t' → pm_H (some (L, xs)) 300 310 858 [(3, .int x3), (2, .ref 1131), (1, .ref 0), (0, .ref pm_SC)] [] w' Q) : pm_H (some (L, xs)) 300 310 651 [(3, .int x3), (2, .ref 1131), (1, .ref 0), (0, .ref pm_SC)] [] w Q := by
  have hb := LI_t hI
  refine pm_H.go (pc' := 652) (st' := [.ref 0]) rfl rfl rfl rfl ?_
  refine pm_H.go (pc' := 653) (st' := [.ref pm_SC, .ref 0]) rfl rfl rfl rfl ?_
  refine pm_H.go (pc' := 654) (st' := [.int x3, .ref pm_SC, .ref 0]) rfl rfl rfl rfl ?_
  refine pm_H.go (pc' := 655) (st' := [.int 1, .int x3, .ref pm_SC, .ref 0]) rfl rfl rfl rfl ?_
  refine pm_H.go (pc' := 656) (st' := [.int (x3 + 1), .ref pm_SC, .ref 0]) rfl rfl rfl rfl ?_
  refine pm_H.sld (i := (x3 + 1)) rfl rfl (ha 1 rfl) ?_
  refine l2_call (c := 11) (q := 0) (P := ps_rI (fun v s1 => yJ s t s1)) rfl rfl rfl (by decide) rfl (by decide) hw (by decide) rfl rfl rfl (ys_170 (d := 298) (LF_J hI hF) (fun v => LF_J hI hF)) (fun o w1 s1 hw1 hp => ?_)
  obtain ⟨v1, rfl, hp⟩ := l2_int hp
  obtain ⟨t1, ht1⟩ : ∃ t1 : Int32, t1 = t := ⟨_, rfl⟩
  have hX : LX s1 t1 t.toInt := by rw [ht1]; exact LI_x hI hp.1
  have hG : LF s1 t1 := by rw [ht1]; exact LF_x hF hp (Int.le_refl _)
  obtain ⟨σ, h4⟩ := hX.2.2.2.1
  show pm_H (some (L, xs)) 300 310 660 [(3, .int x3), (2, .ref 1131), (1, .ref 0), (0, .ref pm_SC)] [.int v1] w1 Q
  refine pm_H.go (pc' := 661) (st' := []) rfl rfl rfl rfl ?_
  refine pm_H.go (pc' := 662) (st' := [.ref 1131]) rfl rfl rfl rfl ?_
  refine pm_H.go (pc' := 663) (st' := [.ref pm_SC, .ref 1131]) rfl rfl rfl rfl ?_
  refine pm_H.go (pc' := 664) (st' := [.int x3, .ref pm_SC, .ref 1131]) rfl rfl rfl rfl ?_
  refine pm_H.go (pc' := 665) (st' := [.int 1, .int x3, .ref pm_SC, .ref 1131]) rfl rfl rfl rfl ?_
  refine pm_H.go (pc' := 666) (st' := [.int (x3 + 1), .ref pm_SC, .ref 1131]) rfl rfl rfl rfl ?_
  refine pm_H.sld (i := (x3 + 1)) rfl rfl (ha 1 rfl) ?_
  refine l2_call (c := 12) (q := 1131) (P := ps_rI (fun v s2 => LX s2 t1 t.toInt ∧ LF s2 t1)) rfl rfl rfl (by decide) rfl (by decide) hw1 (by decide) rfl rfl rfl (ms_289 (d := 297) hX.2.1 (fun v => ⟨hX, hG⟩)) (fun o w2 s2 hw2 hp2 => ?_)
  obtain ⟨v2, rfl, hp2⟩ := l2_int hp2
  show pm_H (some (L, xs)) 300 310 670 [(3, .int x3), (2, .ref 1131), (1, .ref 0), (0, .ref pm_SC)] [.int v2] w2 Q
  refine pm_H.go (pc' := 671) (st' := []) rfl rfl rfl rfl ?_
  refine pm_H.go (pc' := 858) (st' := []) rfl rfl rfl rfl ?_
  exact K w2 s2 t1 hw2 (LX_LI hp2.1 (by rw [ht1])) hp2.2

theorem l4_op22 {L : Nat} {xs : Nat → Int32} {x3 t : Int32} {w : pm_W} {s : ps_S} {Q : Option Value → pm_W → Prop} (ha : ∀ (k : Int32) (_ : pm_in k 6 = true), pm_in (x3 + k) L = true) (hw : ps_R w s) (hI : LI s t) (hF : LF s t) (K : ∀ (w' : pm_W) (s' : ps_S) (t' : Int32), ps_R w' s' → LI s' t' → LF s' t' → pm_H (some (L, xs)) 300 310 858 [(3, .int x3), (2, .ref 1131), (1, .ref 0), (0, .ref pm_SC)] [] w' Q) : pm_H (some (L, xs)) 300 310 674 [(3, .int x3), (2, .ref 1131), (1, .ref 0), (0, .ref pm_SC)] [] w Q := by
  have hb := LI_t hI
  refine pm_H.go (pc' := 675) (st' := [.ref 0]) rfl rfl rfl rfl ?_
  refine l2_call (c := 11) (q := 0) (P := ps_rI (fun v s1 => yJ s t s1)) rfl rfl rfl (by decide) rfl (by decide) hw (by decide) rfl rfl rfl (ys_171 (d := 295) (LF_J hI hF) (fun v s1 J1 => J1)) (fun o w1 s1 hw1 hp => ?_)
  obtain ⟨v1, rfl, hp⟩ := l2_int hp
  obtain ⟨t1, ht1⟩ : ∃ t1 : Int32, t1 = t := ⟨_, rfl⟩
  have hX : LX s1 t1 t.toInt := by rw [ht1]; exact LI_x hI hp.1
  have hG : LF s1 t1 := by rw [ht1]; exact LF_x hF hp (Int.le_refl _)
  obtain ⟨σ, h4⟩ := hX.2.2.2.1
  show pm_H (some (L, xs)) 300 310 678 [(3, .int x3), (2, .ref 1131), (1, .ref 0), (0, .ref pm_SC)] [.int v1] w1 Q
  refine pm_H.go (pc' := 679) (st' := []) rfl rfl rfl rfl ?_
  refine pm_H.go (pc' := 680) (st' := [.ref 1131]) rfl rfl rfl rfl ?_
  refine l2_call (c := 12) (q := 1131) (P := ps_rI (fun v s2 => LX s2 t1 t.toInt ∧ LF s2 t1)) rfl rfl rfl (by decide) rfl (by decide) hw1 (by decide) rfl rfl rfl (ms_285 (d := 296) hX.2.1 h4 (fun v s2 J2 K2 => ⟨LX_mk hX J2 (LX_3 hX K2 rfl) (LX_M hX K2 rfl rfl rfl rfl rfl rfl rfl rfl rfl rfl rfl) (LX_D hX K2 rfl) (LX_F hX K2 rfl), LF_m hG J2 K2 rfl rfl rfl rfl rfl⟩)) (fun o w2 s2 hw2 hp2 => ?_)
  obtain ⟨v2, rfl, hp2⟩ := l2_int hp2
  show pm_H (some (L, xs)) 300 310 683 [(3, .int x3), (2, .ref 1131), (1, .ref 0), (0, .ref pm_SC)] [.int v2] w2 Q
  refine pm_H.go (pc' := 684) (st' := []) rfl rfl rfl rfl ?_
  refine pm_H.go (pc' := 858) (st' := []) rfl rfl rfl rfl ?_
  exact K w2 s2 t1 hw2 (LX_LI hp2.1 (by rw [ht1])) hp2.2

theorem l4_op23 {L : Nat} {xs : Nat → Int32} {x3 t : Int32} {w : pm_W} {s : ps_S} {Q : Option Value → pm_W → Prop} (ha : ∀ (k : Int32) (_ : pm_in k 6 = true), pm_in (x3 + k) L = true) (hw : ps_R w s) (hI : LI s t) (hF : LF s t) (K : ∀ (w' : pm_W) (s' : ps_S) (t' : Int32), ps_R w' s' → LI s' t' → LF s' t' → pm_H (some (L, xs)) 300 310 858 [(3, .int x3), (2, .ref 1131), (1, .ref 0), (0, .ref pm_SC)] [] w' Q) : pm_H (some (L, xs)) 300 310 687 [(3, .int x3), (2, .ref 1131), (1, .ref 0), (0, .ref pm_SC)] [] w Q := by
  have hb := LI_t hI
  refine pm_H.go (pc' := 688) (st' := [.ref 0]) rfl rfl rfl rfl ?_
  refine pm_H.go (pc' := 689) (st' := [.ref pm_SC, .ref 0]) rfl rfl rfl rfl ?_
  refine pm_H.go (pc' := 690) (st' := [.int x3, .ref pm_SC, .ref 0]) rfl rfl rfl rfl ?_
  refine pm_H.go (pc' := 691) (st' := [.int 1, .int x3, .ref pm_SC, .ref 0]) rfl rfl rfl rfl ?_
  refine pm_H.go (pc' := 692) (st' := [.int (x3 + 1), .ref pm_SC, .ref 0]) rfl rfl rfl rfl ?_
  refine pm_H.sld (i := (x3 + 1)) rfl rfl (ha 1 rfl) ?_
  refine l2_call (c := 11) (q := 0) (P := ps_rI (fun v s1 => yJ s t s1)) rfl rfl rfl (by decide) rfl (by decide) hw (by decide) rfl rfl rfl (ys_172 (d := 295) (LF_J hI hF) (fun v s1 J1 => J1)) (fun o w1 s1 hw1 hp => ?_)
  obtain ⟨v1, rfl, hp⟩ := l2_int hp
  obtain ⟨t1, ht1⟩ : ∃ t1 : Int32, t1 = t := ⟨_, rfl⟩
  have hX : LX s1 t1 t.toInt := by rw [ht1]; exact LI_x hI hp.1
  have hG : LF s1 t1 := by rw [ht1]; exact LF_x hF hp (Int.le_refl _)
  obtain ⟨σ, h4⟩ := hX.2.2.2.1
  show pm_H (some (L, xs)) 300 310 696 [(3, .int x3), (2, .ref 1131), (1, .ref 0), (0, .ref pm_SC)] [.int v1] w1 Q
  refine pm_H.go (pc' := 697) (st' := []) rfl rfl rfl rfl ?_
  refine pm_H.go (pc' := 698) (st' := [.ref 1131]) rfl rfl rfl rfl ?_
  refine pm_H.go (pc' := 699) (st' := [.ref pm_SC, .ref 1131]) rfl rfl rfl rfl ?_
  refine pm_H.go (pc' := 700) (st' := [.int x3, .ref pm_SC, .ref 1131]) rfl rfl rfl rfl ?_
  refine pm_H.go (pc' := 701) (st' := [.int 1, .int x3, .ref pm_SC, .ref 1131]) rfl rfl rfl rfl ?_
  refine pm_H.go (pc' := 702) (st' := [.int (x3 + 1), .ref pm_SC, .ref 1131]) rfl rfl rfl rfl ?_
  refine pm_H.sld (i := (x3 + 1)) rfl rfl (ha 1 rfl) ?_
  refine l2_call (c := 12) (q := 1131) (P := ps_rI (fun v s2 => LX s2 t1 t.toInt ∧ LF s2 t1)) rfl rfl rfl (by decide) rfl (by decide) hw1 (by decide) rfl rfl rfl (ms_301 (d := 297) hX.2.1 (MI_S h4) (fun v s2 J2 K2 p0 p1 p2 => ⟨LX_mk hX J2 (LX_3 hX K2 rfl) (LX_M hX K2 rfl rfl rfl rfl rfl rfl rfl rfl rfl rfl rfl) (LX_D hX K2 rfl) (LX_F hX K2 rfl), LF_m hG J2 K2 rfl rfl rfl rfl rfl⟩)) (fun o w2 s2 hw2 hp2 => ?_)
  obtain ⟨v2, rfl, hp2⟩ := l2_int hp2
  show pm_H (some (L, xs)) 300 310 706 [(3, .int x3), (2, .ref 1131), (1, .ref 0), (0, .ref pm_SC)] [.int v2] w2 Q
  refine pm_H.go (pc' := 707) (st' := []) rfl rfl rfl rfl ?_
  refine pm_H.go (pc' := 858) (st' := []) rfl rfl rfl rfl ?_
  exact K w2 s2 t1 hw2 (LX_LI hp2.1 (by rw [ht1])) hp2.2

theorem l4_op24 {L : Nat} {xs : Nat → Int32} {x3 t : Int32} {w : pm_W} {s : ps_S} {Q : Option Value → pm_W → Prop} (ha : ∀ (k : Int32) (_ : pm_in k 6 = true), pm_in (x3 + k) L = true) (hw : ps_R w s) (hI : LI s t) (hF : LF s t) (K : ∀ (w' : pm_W) (s' : ps_S) (t' : Int32), ps_R w' s' → LI s' t' → LF s' t' → pm_H (some (L, xs)) 300 310 858 [(3, .int x3), (2, .ref 1131), (1, .ref 0), (0, .ref pm_SC)] [] w' Q) : pm_H (some (L, xs)) 300 310 710 [(3, .int x3), (2, .ref 1131), (1, .ref 0), (0, .ref pm_SC)] [] w Q := by
  have hb := LI_t hI
  refine pm_H.go (pc' := 711) (st' := [.ref 0]) rfl rfl rfl rfl ?_
  refine pm_H.go (pc' := 712) (st' := [.ref pm_SC, .ref 0]) rfl rfl rfl rfl ?_
  refine pm_H.go (pc' := 713) (st' := [.int x3, .ref pm_SC, .ref 0]) rfl rfl rfl rfl ?_
  refine pm_H.go (pc' := 714) (st' := [.int 1, .int x3, .ref pm_SC, .ref 0]) rfl rfl rfl rfl ?_
  refine pm_H.go (pc' := 715) (st' := [.int (x3 + 1), .ref pm_SC, .ref 0]) rfl rfl rfl rfl ?_
  refine pm_H.sld (i := (x3 + 1)) rfl rfl (ha 1 rfl) ?_
  refine l2_call (c := 11) (q := 0) (P := ps_rI (fun v s1 => yJ s t s1)) rfl rfl rfl (by decide) rfl (by decide) hw (by decide) rfl rfl rfl (ys_173 (d := 259) (LF_J hI hF) (fun v s1 J1 => J1)) (fun o w1 s1 hw1 hp => ?_)
  obtain ⟨v1, rfl, hp⟩ := l2_int hp
  obtain ⟨t1, ht1⟩ : ∃ t1 : Int32, t1 = t := ⟨_, rfl⟩
  have hX : LX s1 t1 t.toInt := by rw [ht1]; exact LI_x hI hp.1
  have hG : LF s1 t1 := by rw [ht1]; exact LF_x hF hp (Int.le_refl _)
  obtain ⟨σ, h4⟩ := hX.2.2.2.1
  show pm_H (some (L, xs)) 300 310 719 [(3, .int x3), (2, .ref 1131), (1, .ref 0), (0, .ref pm_SC)] [.int v1] w1 Q
  refine pm_H.go (pc' := 720) (st' := []) rfl rfl rfl rfl ?_
  refine pm_H.go (pc' := 721) (st' := [.ref 1131]) rfl rfl rfl rfl ?_
  refine pm_H.go (pc' := 722) (st' := [.ref pm_SC, .ref 1131]) rfl rfl rfl rfl ?_
  refine pm_H.go (pc' := 723) (st' := [.int x3, .ref pm_SC, .ref 1131]) rfl rfl rfl rfl ?_
  refine pm_H.go (pc' := 724) (st' := [.int 1, .int x3, .ref pm_SC, .ref 1131]) rfl rfl rfl rfl ?_
  refine pm_H.go (pc' := 725) (st' := [.int (x3 + 1), .ref pm_SC, .ref 1131]) rfl rfl rfl rfl ?_
  refine pm_H.sld (i := (x3 + 1)) rfl rfl (ha 1 rfl) ?_
  refine l2_call (c := 12) (q := 1131) (P := ps_rI (fun v s2 => LX s2 t1 t.toInt ∧ LF s2 t1)) rfl rfl rfl (by decide) rfl (by decide) hw1 (by decide) rfl rfl rfl (ms_302 (d := 293) hX.2.1 h4 hX.2.2.2.2.1 hX.2.2.2.2.2 (fun v s2 J2 K2 p0 p1 => ⟨LX_mk hX J2 (LX_3 hX K2 rfl) (LX_M hX K2 rfl rfl rfl rfl rfl rfl rfl rfl rfl rfl rfl) (p0) (p1), LF_m hG J2 K2 rfl rfl rfl rfl rfl⟩)) (fun o w2 s2 hw2 hp2 => ?_)
  obtain ⟨v2, rfl, hp2⟩ := l2_int hp2
  show pm_H (some (L, xs)) 300 310 729 [(3, .int x3), (2, .ref 1131), (1, .ref 0), (0, .ref pm_SC)] [.int v2] w2 Q
  refine pm_H.go (pc' := 730) (st' := []) rfl rfl rfl rfl ?_
  refine pm_H.go (pc' := 858) (st' := []) rfl rfl rfl rfl ?_
  exact K w2 s2 t1 hw2 (LX_LI hp2.1 (by rw [ht1])) hp2.2

theorem l4_op25 {L : Nat} {xs : Nat → Int32} {x3 t : Int32} {w : pm_W} {s : ps_S} {Q : Option Value → pm_W → Prop} (ha : ∀ (k : Int32) (_ : pm_in k 6 = true), pm_in (x3 + k) L = true) (hw : ps_R w s) (hI : LI s t) (hF : LF s t) (K : ∀ (w' : pm_W) (s' : ps_S) (t' : Int32), ps_R w' s' → LI s' t' → LF s' t' → pm_H (some (L, xs)) 300 310 858 [(3, .int x3), (2, .ref 1131), (1, .ref 0), (0, .ref pm_SC)] [] w' Q) : pm_H (some (L, xs)) 300 310 733 [(3, .int x3), (2, .ref 1131), (1, .ref 0), (0, .ref pm_SC)] [] w Q := by
  have hb := LI_t hI
  refine pm_H.go (pc' := 734) (st' := [.ref 0]) rfl rfl rfl rfl ?_
  refine pm_H.go (pc' := 735) (st' := [.ref pm_SC, .ref 0]) rfl rfl rfl rfl ?_
  refine pm_H.go (pc' := 736) (st' := [.int x3, .ref pm_SC, .ref 0]) rfl rfl rfl rfl ?_
  refine pm_H.go (pc' := 737) (st' := [.int 1, .int x3, .ref pm_SC, .ref 0]) rfl rfl rfl rfl ?_
  refine pm_H.go (pc' := 738) (st' := [.int (x3 + 1), .ref pm_SC, .ref 0]) rfl rfl rfl rfl ?_
  refine pm_H.sld (i := (x3 + 1)) rfl rfl (ha 1 rfl) ?_
  refine pm_H.go (pc' := 740) (st' := [.ref pm_SC, .int (xs (Int32.toNatClampNeg (x3 + 1))), .ref 0]) rfl rfl rfl rfl ?_
  refine pm_H.go (pc' := 741) (st' := [.int x3, .ref pm_SC, .int (xs (Int32.toNatClampNeg (x3 + 1))), .ref 0]) rfl rfl rfl rfl ?_
  refine pm_H.go (pc' := 742) (st' := [.int 2, .int x3, .ref pm_SC, .int (xs (Int32.toNatClampNeg (x3 + 1))), .ref 0]) rfl rfl rfl rfl ?_
  refine pm_H.go (pc' := 743) (st' := [.int (x3 + 2), .ref pm_SC, .int (xs (Int32.toNatClampNeg (x3 + 1))), .ref 0]) rfl rfl rfl rfl ?_
  refine pm_H.sld (i := (x3 + 2)) rfl rfl (ha 2 rfl) ?_
  refine l2_call (c := 11) (q := 0) (P := ps_rI (fun v s1 => yJ s t s1)) rfl rfl rfl (by decide) rfl (by decide) hw (by decide) rfl rfl rfl (ys_174 (d := 260) (LF_J hI hF) (fun v s1 J1 => J1)) (fun o w1 s1 hw1 hp => ?_)
  obtain ⟨v1, rfl, hp⟩ := l2_int hp
  obtain ⟨t1, ht1⟩ : ∃ t1 : Int32, t1 = t := ⟨_, rfl⟩
  have hX : LX s1 t1 t.toInt := by rw [ht1]; exact LI_x hI hp.1
  have hG : LF s1 t1 := by rw [ht1]; exact LF_x hF hp (Int.le_refl _)
  obtain ⟨σ, h4⟩ := hX.2.2.2.1
  show pm_H (some (L, xs)) 300 310 747 [(3, .int x3), (2, .ref 1131), (1, .ref 0), (0, .ref pm_SC)] [.int v1] w1 Q
  refine pm_H.go (pc' := 748) (st' := []) rfl rfl rfl rfl ?_
  refine pm_H.go (pc' := 749) (st' := [.ref 1131]) rfl rfl rfl rfl ?_
  refine pm_H.go (pc' := 750) (st' := [.ref pm_SC, .ref 1131]) rfl rfl rfl rfl ?_
  refine pm_H.go (pc' := 751) (st' := [.int x3, .ref pm_SC, .ref 1131]) rfl rfl rfl rfl ?_
  refine pm_H.go (pc' := 752) (st' := [.int 1, .int x3, .ref pm_SC, .ref 1131]) rfl rfl rfl rfl ?_
  refine pm_H.go (pc' := 753) (st' := [.int (x3 + 1), .ref pm_SC, .ref 1131]) rfl rfl rfl rfl ?_
  refine pm_H.sld (i := (x3 + 1)) rfl rfl (ha 1 rfl) ?_
  refine pm_H.go (pc' := 755) (st' := [.ref pm_SC, .int (xs (Int32.toNatClampNeg (x3 + 1))), .ref 1131]) rfl rfl rfl rfl ?_
  refine pm_H.go (pc' := 756) (st' := [.int x3, .ref pm_SC, .int (xs (Int32.toNatClampNeg (x3 + 1))), .ref 1131]) rfl rfl rfl rfl ?_
  refine pm_H.go (pc' := 757) (st' := [.int 2, .int x3, .ref pm_SC, .int (xs (Int32.toNatClampNeg (x3 + 1))), .ref 1131]) rfl rfl rfl rfl ?_
  refine pm_H.go (pc' := 758) (st' := [.int (x3 + 2), .ref pm_SC, .int (xs (Int32.toNatClampNeg (x3 + 1))), .ref 1131]) rfl rfl rfl rfl ?_
  refine pm_H.sld (i := (x3 + 2)) rfl rfl (ha 2 rfl) ?_
  refine l2_call (c := 12) (q := 1131) (P := ps_rI (fun v s2 => LX s2 t1 t.toInt ∧ LF s2 t1)) rfl rfl rfl (by decide) rfl (by decide) hw1 (by decide) rfl rfl rfl (ms_303 (d := 294) hX.2.1 h4 hX.2.2.2.2.1 hX.2.2.2.2.2 (fun v s2 J2 K2 p0 p1 => ⟨LX_mk hX J2 (LX_3 hX K2 rfl) (LX_M hX K2 rfl rfl rfl rfl rfl rfl rfl rfl rfl rfl rfl) (p0) (p1), LF_m hG J2 K2 rfl rfl rfl rfl rfl⟩)) (fun o w2 s2 hw2 hp2 => ?_)
  obtain ⟨v2, rfl, hp2⟩ := l2_int hp2
  show pm_H (some (L, xs)) 300 310 762 [(3, .int x3), (2, .ref 1131), (1, .ref 0), (0, .ref pm_SC)] [.int v2] w2 Q
  refine pm_H.go (pc' := 763) (st' := []) rfl rfl rfl rfl ?_
  refine pm_H.go (pc' := 858) (st' := []) rfl rfl rfl rfl ?_
  exact K w2 s2 t1 hw2 (LX_LI hp2.1 (by rw [ht1])) hp2.2

theorem l4_op26 {L : Nat} {xs : Nat → Int32} {x3 t : Int32} {w : pm_W} {s : ps_S} {Q : Option Value → pm_W → Prop} (ha : ∀ (k : Int32) (_ : pm_in k 6 = true), pm_in (x3 + k) L = true) (hw : ps_R w s) (hI : LI s t) (hF : LF s t) (K : ∀ (w' : pm_W) (s' : ps_S) (t' : Int32), ps_R w' s' → LI s' t' → LF s' t' → pm_H (some (L, xs)) 300 310 858 [(3, .int x3), (2, .ref 1131), (1, .ref 0), (0, .ref pm_SC)] [] w' Q) : pm_H (some (L, xs)) 300 310 766 [(3, .int x3), (2, .ref 1131), (1, .ref 0), (0, .ref pm_SC)] [] w Q := by
  have hb := LI_t hI
  refine pm_H.go (pc' := 767) (st' := [.ref 0]) rfl rfl rfl rfl ?_
  refine pm_H.go (pc' := 768) (st' := [.ref pm_SC, .ref 0]) rfl rfl rfl rfl ?_
  refine pm_H.go (pc' := 769) (st' := [.int x3, .ref pm_SC, .ref 0]) rfl rfl rfl rfl ?_
  refine pm_H.go (pc' := 770) (st' := [.int 1, .int x3, .ref pm_SC, .ref 0]) rfl rfl rfl rfl ?_
  refine pm_H.go (pc' := 771) (st' := [.int (x3 + 1), .ref pm_SC, .ref 0]) rfl rfl rfl rfl ?_
  refine pm_H.sld (i := (x3 + 1)) rfl rfl (ha 1 rfl) ?_
  refine l2_call (c := 11) (q := 0) (P := ps_rI (fun v s1 => yJ s t s1)) rfl rfl rfl (by decide) rfl (by decide) hw (by decide) rfl rfl rfl (ys_175 (d := 259) (LF_J hI hF) (fun v s1 J1 => J1)) (fun o w1 s1 hw1 hp => ?_)
  obtain ⟨v1, rfl, hp⟩ := l2_int hp
  obtain ⟨t1, ht1⟩ : ∃ t1 : Int32, t1 = t := ⟨_, rfl⟩
  have hX : LX s1 t1 t.toInt := by rw [ht1]; exact LI_x hI hp.1
  have hG : LF s1 t1 := by rw [ht1]; exact LF_x hF hp (Int.le_refl _)
  obtain ⟨σ, h4⟩ := hX.2.2.2.1
  show pm_H (some (L, xs)) 300 310 775 [(3, .int x3), (2, .ref 1131), (1, .ref 0), (0, .ref pm_SC)] [.int v1] w1 Q
  refine pm_H.go (pc' := 776) (st' := []) rfl rfl rfl rfl ?_
  refine pm_H.go (pc' := 777) (st' := [.ref 1131]) rfl rfl rfl rfl ?_
  refine pm_H.go (pc' := 778) (st' := [.ref pm_SC, .ref 1131]) rfl rfl rfl rfl ?_
  refine pm_H.go (pc' := 779) (st' := [.int x3, .ref pm_SC, .ref 1131]) rfl rfl rfl rfl ?_
  refine pm_H.go (pc' := 780) (st' := [.int 1, .int x3, .ref pm_SC, .ref 1131]) rfl rfl rfl rfl ?_
  refine pm_H.go (pc' := 781) (st' := [.int (x3 + 1), .ref pm_SC, .ref 1131]) rfl rfl rfl rfl ?_
  refine pm_H.sld (i := (x3 + 1)) rfl rfl (ha 1 rfl) ?_
  refine l2_call (c := 12) (q := 1131) (P := ps_rI (fun v s2 => LX s2 t1 t.toInt ∧ LF s2 t1)) rfl rfl rfl (by decide) rfl (by decide) hw1 (by decide) rfl rfl rfl (ms_304 (d := 293) hX.2.1 h4 hX.2.2.2.2.1 hX.2.2.2.2.2 (fun v s2 J2 K2 p0 p1 => ⟨LX_mk hX J2 (LX_3 hX K2 rfl) (LX_M hX K2 rfl rfl rfl rfl rfl rfl rfl rfl rfl rfl rfl) (p0) (p1), LF_m hG J2 K2 rfl rfl rfl rfl rfl⟩)) (fun o w2 s2 hw2 hp2 => ?_)
  obtain ⟨v2, rfl, hp2⟩ := l2_int hp2
  show pm_H (some (L, xs)) 300 310 785 [(3, .int x3), (2, .ref 1131), (1, .ref 0), (0, .ref pm_SC)] [.int v2] w2 Q
  refine pm_H.go (pc' := 786) (st' := []) rfl rfl rfl rfl ?_
  refine pm_H.go (pc' := 858) (st' := []) rfl rfl rfl rfl ?_
  exact K w2 s2 t1 hw2 (LX_LI hp2.1 (by rw [ht1])) hp2.2

theorem l4_op27 {L : Nat} {xs : Nat → Int32} {x3 t : Int32} {w : pm_W} {s : ps_S} {Q : Option Value → pm_W → Prop} (ha : ∀ (k : Int32) (_ : pm_in k 6 = true), pm_in (x3 + k) L = true) (hw : ps_R w s) (hI : LI s t) (hF : LF s t) (K : ∀ (w' : pm_W) (s' : ps_S) (t' : Int32), ps_R w' s' → LI s' t' → LF s' t' → pm_H (some (L, xs)) 300 310 858 [(3, .int x3), (2, .ref 1131), (1, .ref 0), (0, .ref pm_SC)] [] w' Q) : pm_H (some (L, xs)) 300 310 789 [(3, .int x3), (2, .ref 1131), (1, .ref 0), (0, .ref pm_SC)] [] w Q := by
  have hb := LI_t hI
  refine pm_H.go (pc' := 790) (st' := [.ref 0]) rfl rfl rfl rfl ?_
  refine pm_H.go (pc' := 791) (st' := [.ref pm_SC, .ref 0]) rfl rfl rfl rfl ?_
  refine pm_H.go (pc' := 792) (st' := [.int x3, .ref pm_SC, .ref 0]) rfl rfl rfl rfl ?_
  refine pm_H.go (pc' := 793) (st' := [.int 1, .int x3, .ref pm_SC, .ref 0]) rfl rfl rfl rfl ?_
  refine pm_H.go (pc' := 794) (st' := [.int (x3 + 1), .ref pm_SC, .ref 0]) rfl rfl rfl rfl ?_
  refine pm_H.sld (i := (x3 + 1)) rfl rfl (ha 1 rfl) ?_
  refine l2_call (c := 11) (q := 0) (P := ps_rI (fun v s1 => yJ s t s1)) rfl rfl rfl (by decide) rfl (by decide) hw (by decide) rfl rfl rfl (ys_176 (d := 295) (LF_J hI hF) (fun v s1 J1 => J1)) (fun o w1 s1 hw1 hp => ?_)
  obtain ⟨v1, rfl, hp⟩ := l2_int hp
  obtain ⟨t1, ht1⟩ : ∃ t1 : Int32, t1 = t := ⟨_, rfl⟩
  have hX : LX s1 t1 t.toInt := by rw [ht1]; exact LI_x hI hp.1
  have hG : LF s1 t1 := by rw [ht1]; exact LF_x hF hp (Int.le_refl _)
  obtain ⟨σ, h4⟩ := hX.2.2.2.1
  show pm_H (some (L, xs)) 300 310 798 [(3, .int x3), (2, .ref 1131), (1, .ref 0), (0, .ref pm_SC)] [.int v1] w1 Q
  refine pm_H.go (pc' := 799) (st' := []) rfl rfl rfl rfl ?_
  refine pm_H.go (pc' := 800) (st' := [.ref 1131]) rfl rfl rfl rfl ?_
  refine pm_H.go (pc' := 801) (st' := [.ref pm_SC, .ref 1131]) rfl rfl rfl rfl ?_
  refine pm_H.go (pc' := 802) (st' := [.int x3, .ref pm_SC, .ref 1131]) rfl rfl rfl rfl ?_
  refine pm_H.go (pc' := 803) (st' := [.int 1, .int x3, .ref pm_SC, .ref 1131]) rfl rfl rfl rfl ?_
  refine pm_H.go (pc' := 804) (st' := [.int (x3 + 1), .ref pm_SC, .ref 1131]) rfl rfl rfl rfl ?_
  refine pm_H.sld (i := (x3 + 1)) rfl rfl (ha 1 rfl) ?_
  refine l2_call (c := 12) (q := 1131) (P := ps_rI (fun v s2 => LX s2 t1 t.toInt ∧ LF s2 t1)) rfl rfl rfl (by decide) rfl (by decide) hw1 (by decide) rfl rfl rfl (ms_305 (d := 298) hX.2.1 h4 (fun v s2 J2 K2 p0 => ⟨LX_mk hX J2 (LX_3 hX K2 rfl) (⟨σ, p0⟩) (LX_D hX K2 rfl) (LX_F hX K2 rfl), LF_m hG J2 K2 rfl rfl rfl rfl rfl⟩)) (fun o w2 s2 hw2 hp2 => ?_)
  obtain ⟨v2, rfl, hp2⟩ := l2_int hp2
  show pm_H (some (L, xs)) 300 310 808 [(3, .int x3), (2, .ref 1131), (1, .ref 0), (0, .ref pm_SC)] [.int v2] w2 Q
  refine pm_H.go (pc' := 809) (st' := []) rfl rfl rfl rfl ?_
  refine pm_H.go (pc' := 858) (st' := []) rfl rfl rfl rfl ?_
  exact K w2 s2 t1 hw2 (LX_LI hp2.1 (by rw [ht1])) hp2.2

theorem l4_op28 {L : Nat} {xs : Nat → Int32} {x3 t : Int32} {w : pm_W} {s : ps_S} {Q : Option Value → pm_W → Prop} (ha : ∀ (k : Int32) (_ : pm_in k 6 = true), pm_in (x3 + k) L = true) (hw : ps_R w s) (hI : LI s t) (hF : LF s t) (K : ∀ (w' : pm_W) (s' : ps_S) (t' : Int32), ps_R w' s' → LI s' t' → LF s' t' → pm_H (some (L, xs)) 300 310 858 [(3, .int x3), (2, .ref 1131), (1, .ref 0), (0, .ref pm_SC)] [] w' Q) : pm_H (some (L, xs)) 300 310 812 [(3, .int x3), (2, .ref 1131), (1, .ref 0), (0, .ref pm_SC)] [] w Q := by
  have hb := LI_t hI
  refine pm_H.go (pc' := 813) (st' := [.ref 0]) rfl rfl rfl rfl ?_
  refine pm_H.go (pc' := 814) (st' := [.ref pm_SC, .ref 0]) rfl rfl rfl rfl ?_
  refine pm_H.go (pc' := 815) (st' := [.int x3, .ref pm_SC, .ref 0]) rfl rfl rfl rfl ?_
  refine pm_H.go (pc' := 816) (st' := [.int 1, .int x3, .ref pm_SC, .ref 0]) rfl rfl rfl rfl ?_
  refine pm_H.go (pc' := 817) (st' := [.int (x3 + 1), .ref pm_SC, .ref 0]) rfl rfl rfl rfl ?_
  refine pm_H.sld (i := (x3 + 1)) rfl rfl (ha 1 rfl) ?_
  refine l2_call (c := 11) (q := 0) (P := ps_rI (fun v s1 => yJ s t s1)) rfl rfl rfl (by decide) rfl (by decide) hw (by decide) rfl rfl rfl (ys_177 (d := 295) (LF_J hI hF) (fun v s1 J1 => J1)) (fun o w1 s1 hw1 hp => ?_)
  obtain ⟨v1, rfl, hp⟩ := l2_int hp
  obtain ⟨t1, ht1⟩ : ∃ t1 : Int32, t1 = t := ⟨_, rfl⟩
  have hX : LX s1 t1 t.toInt := by rw [ht1]; exact LI_x hI hp.1
  have hG : LF s1 t1 := by rw [ht1]; exact LF_x hF hp (Int.le_refl _)
  obtain ⟨σ, h4⟩ := hX.2.2.2.1
  show pm_H (some (L, xs)) 300 310 821 [(3, .int x3), (2, .ref 1131), (1, .ref 0), (0, .ref pm_SC)] [.int v1] w1 Q
  refine pm_H.go (pc' := 822) (st' := []) rfl rfl rfl rfl ?_
  refine pm_H.go (pc' := 823) (st' := [.ref 1131]) rfl rfl rfl rfl ?_
  refine pm_H.go (pc' := 824) (st' := [.ref pm_SC, .ref 1131]) rfl rfl rfl rfl ?_
  refine pm_H.go (pc' := 825) (st' := [.int x3, .ref pm_SC, .ref 1131]) rfl rfl rfl rfl ?_
  refine pm_H.go (pc' := 826) (st' := [.int 1, .int x3, .ref pm_SC, .ref 1131]) rfl rfl rfl rfl ?_
  refine pm_H.go (pc' := 827) (st' := [.int (x3 + 1), .ref pm_SC, .ref 1131]) rfl rfl rfl rfl ?_
  refine pm_H.sld (i := (x3 + 1)) rfl rfl (ha 1 rfl) ?_
  refine l2_call (c := 12) (q := 1131) (P := ps_rI (fun v s2 => LX s2 t1 t.toInt ∧ LF s2 t1)) rfl rfl rfl (by decide) rfl (by decide) hw1 (by decide) rfl rfl rfl (ms_306 (d := 298) hX.2.1 h4 (fun v s2 J2 K2 p0 => ⟨LX_mk hX J2 (LX_3 hX K2 rfl) (⟨σ, p0⟩) (LX_D hX K2 rfl) (LX_F hX K2 rfl), LF_m hG J2 K2 rfl rfl rfl rfl rfl⟩)) (fun o w2 s2 hw2 hp2 => ?_)
  obtain ⟨v2, rfl, hp2⟩ := l2_int hp2
  show pm_H (some (L, xs)) 300 310 831 [(3, .int x3), (2, .ref 1131), (1, .ref 0), (0, .ref pm_SC)] [.int v2] w2 Q
  refine pm_H.go (pc' := 832) (st' := []) rfl rfl rfl rfl ?_
  refine pm_H.go (pc' := 858) (st' := []) rfl rfl rfl rfl ?_
  exact K w2 s2 t1 hw2 (LX_LI hp2.1 (by rw [ht1])) hp2.2

theorem l4_op29 {L : Nat} {xs : Nat → Int32} {x3 t : Int32} {w : pm_W} {s : ps_S} {Q : Option Value → pm_W → Prop} (ha : ∀ (k : Int32) (_ : pm_in k 6 = true), pm_in (x3 + k) L = true) (hw : ps_R w s) (hI : LI s t) (hF : LF s t) (K : ∀ (w' : pm_W) (s' : ps_S) (t' : Int32), ps_R w' s' → LI s' t' → LF s' t' → pm_H (some (L, xs)) 300 310 858 [(3, .int x3), (2, .ref 1131), (1, .ref 0), (0, .ref pm_SC)] [] w' Q) : pm_H (some (L, xs)) 300 310 835 [(3, .int x3), (2, .ref 1131), (1, .ref 0), (0, .ref pm_SC)] [] w Q := by
  have hb := LI_t hI
  refine pm_H.go (pc' := 836) (st' := [.ref 0]) rfl rfl rfl rfl ?_
  refine pm_H.go (pc' := 837) (st' := [.ref pm_SC, .ref 0]) rfl rfl rfl rfl ?_
  refine pm_H.go (pc' := 838) (st' := [.int x3, .ref pm_SC, .ref 0]) rfl rfl rfl rfl ?_
  refine pm_H.go (pc' := 839) (st' := [.int 1, .int x3, .ref pm_SC, .ref 0]) rfl rfl rfl rfl ?_
  refine pm_H.go (pc' := 840) (st' := [.int (x3 + 1), .ref pm_SC, .ref 0]) rfl rfl rfl rfl ?_
  refine pm_H.sld (i := (x3 + 1)) rfl rfl (ha 1 rfl) ?_
  refine l2_call (c := 11) (q := 0) (P := ps_rI (fun v s1 => yJ s t s1)) rfl rfl rfl (by decide) rfl (by decide) hw (by decide) rfl rfl rfl (ys_178 (d := 299) (LF_J hI hF) (fun v => LF_J hI hF)) (fun o w1 s1 hw1 hp => ?_)
  obtain ⟨v1, rfl, hp⟩ := l2_int hp
  obtain ⟨t1, ht1⟩ : ∃ t1 : Int32, t1 = t := ⟨_, rfl⟩
  have hX : LX s1 t1 t.toInt := by rw [ht1]; exact LI_x hI hp.1
  have hG : LF s1 t1 := by rw [ht1]; exact LF_x hF hp (Int.le_refl _)
  obtain ⟨σ, h4⟩ := hX.2.2.2.1
  show pm_H (some (L, xs)) 300 310 844 [(3, .int x3), (2, .ref 1131), (1, .ref 0), (0, .ref pm_SC)] [.int v1] w1 Q
  refine pm_H.go (pc' := 845) (st' := []) rfl rfl rfl rfl ?_
  refine pm_H.go (pc' := 846) (st' := [.ref 1131]) rfl rfl rfl rfl ?_
  refine pm_H.go (pc' := 847) (st' := [.ref pm_SC, .ref 1131]) rfl rfl rfl rfl ?_
  refine pm_H.go (pc' := 848) (st' := [.int x3, .ref pm_SC, .ref 1131]) rfl rfl rfl rfl ?_
  refine pm_H.go (pc' := 849) (st' := [.int 1, .int x3, .ref pm_SC, .ref 1131]) rfl rfl rfl rfl ?_
  refine pm_H.go (pc' := 850) (st' := [.int (x3 + 1), .ref pm_SC, .ref 1131]) rfl rfl rfl rfl ?_
  refine pm_H.sld (i := (x3 + 1)) rfl rfl (ha 1 rfl) ?_
  refine l2_call (c := 12) (q := 1131) (P := ps_rI (fun v s2 => LX s2 t1 t.toInt ∧ LF s2 t1)) rfl rfl rfl (by decide) rfl (by decide) hw1 (by decide) rfl rfl rfl (ms_307 (d := 298) hX.2.1 (fun v => ⟨hX, hG⟩)) (fun o w2 s2 hw2 hp2 => ?_)
  obtain ⟨v2, rfl, hp2⟩ := l2_int hp2
  show pm_H (some (L, xs)) 300 310 854 [(3, .int x3), (2, .ref 1131), (1, .ref 0), (0, .ref pm_SC)] [.int v2] w2 Q
  refine pm_H.go (pc' := 855) (st' := []) rfl rfl rfl rfl ?_
  refine pm_H.go (pc' := 858) (st' := []) rfl rfl rfl rfl ?_
  exact K w2 s2 t1 hw2 (LX_LI hp2.1 (by rw [ht1])) hp2.2
end
section
/-! the law: both constructors, then call by call -/
theorem pm_Tk4 {X : Option (Nat × (Nat → Int32))} {d y pc k d' kd j a mm pl nest : Nat} {L : pm_L} {st : List Value} {w w1 : pm_W} {o1 : Option Value} {i : Instr} {Q : Option Value → pm_W → Prop} (hc : pm_code y pc = some (i, k)) (hR : pm_isR i = false) (hcal : pm_cal i = (kd, j)) (hkd : kd ≠ 0) (hl : pm_l4 (pm_ML (pm_own y)) j = some (a, mm, pl, nest)) (h6 : 5 < mm) (hd : d = d' + 1)
    (hck : pm_ckd kd mm nest st w = true) (hcall : pm_T none d' (mm - 6) 0 (lv_args 0 (st.take (pm_na kd mm)).reverse) [] w (o1, w1)) (h : pm_H X d y (pc + 3) L (o1.toList ++ st.drop (pm_na kd mm)) w1 Q) : pm_H X d y pc L st w Q :=
  pm_H.call (Q1 := fun o w' => o = o1 ∧ w' = w1) hc hR hcal hkd hl h6 hd hck ⟨o1, w1, hcall.lift, rfl, rfl⟩ (fun o w' hh => by obtain ⟨rfl, rfl⟩ := hh; exact h)
theorem pin_i4 {k : Int32} {n : Nat} (h : pm_in k n = true) : 0 ≤ k.toInt ∧ k.toInt < n := by
  unfold pm_in at h
  rw [Bool.and_eq_true] at h
  have h1 := Int32.le_iff_toInt_le.mp (of_decide_eq_true h.1)
  have h2 : k.toInt.toNat < n := Nat.le_of_ble_eq_true h.2
  rw [Int32.toInt_zero] at h1
  omega
set_option maxRecDepth 100000
theorem l4_loop {L : Nat} (hL : L ≤ 3072) {xs : Nat → Int32} : ∀ (n : Nat) (x3 t : Int32) (w : pm_W) (s : ps_S), 0 ≤ x3.toInt → x3.toInt ≤ 3078 → 3100 - x3.toInt ≤ (n : Int) → ps_R w s → LI s t → LF s t → pm_H (some (L, xs)) 300 310 18 [(3, .int x3), (2, .ref 1131), (1, .ref 0), (0, .ref pm_SC)] [] w (fun o w' => o = some (.int 1) ∧ w'.2 = (1179, 65954)) := by
  intro n
  induction n with
  | zero =>
    intro x3 t w s h0 h1 hn _ _ _
    omega
  | succ n ih =>
    intro x3 t w s h0 h1 hn hw hI hF
    have eL : (nI L).toInt = (L : Int) := nI_toInt (by omega)
    have e6 : (6 : Int32).toInt = 6 := by decide
    have eL6 : (nI L - 6).toInt = (L : Int) - 6 := by rw [xIs (by omega) (by omega), eL, e6]
    refine pm_H.go (pc' := 19) rfl rfl rfl rfl ?_
    refine pm_H.go (pc' := 20) rfl rfl rfl rfl ?_
    refine pm_H.go (pc' := 21) (st' := [.int (nI L), .int x3]) rfl rfl rfl rfl ?_
    refine pm_H.go (pc' := 23) (st' := [.int 6, .int (nI L), .int x3]) rfl rfl rfl rfl ?_
    refine pm_H.go (pc' := 24) (st' := [.int (nI L - 6), .int x3]) rfl rfl rfl rfl ?_
    by_cases h : (nI L - 6) < x3
    · refine pm_H.bricmp (b := true) (pc' := 864) rfl rfl (decide_eq_true h) rfl rfl ?_
      refine pm_H.go (pc' := 865) (st' := [.int 1]) rfl rfl rfl rfl ?_
      exact pm_H.ret rfl rfl rfl ⟨rfl, hw.1⟩
    · have h2 : x3.toInt + 6 ≤ (L : Int) := by
        have : ¬ ((nI L - 6).toInt < x3.toInt) := fun q => h (Int32.lt_iff_toInt_lt.mpr q)
        omega
      have ha : ∀ (k : Int32) (_ : pm_in k 6 = true), pm_in (x3 + k) L = true := fun k hk => by
        have q := pin_i4 hk
        have ek : (x3 + k).toInt = x3.toInt + k.toInt := xIa (by omega) (by omega)
        exact xgi (by omega) (by omega)
      have kk : ∀ (w' : pm_W) (s' : ps_S) (t' : Int32), ps_R w' s' → LI s' t' → LF s' t' → pm_H (some (L, xs)) 300 310 858 [(3, .int x3), (2, .ref 1131), (1, .ref 0), (0, .ref pm_SC)] [] w' (fun o w' => o = some (.int 1) ∧ w'.2 = (1179, 65954)) := fun w' s' t' hw' hI' hF' => by
        have e36 : (x3 + 6).toInt = x3.toInt + 6 := by rw [xIa (by omega) (by omega), e6]
        refine pm_H.go (pc' := 861) (L' := [(3, .int (x3 + 6)), (2, .ref 1131), (1, .ref 0), (0, .ref pm_SC)]) rfl rfl rfl rfl ?_
        refine pm_H.go (pc' := 18) rfl rfl rfl rfl ?_
        exact ih (x3 + 6) t' w' s' (by omega) (by omega) (by omega) hw' hI' hF'
      refine pm_H.bricmp (b := false) (pc' := 27) rfl rfl (decide_eq_false h) rfl rfl ?_
      refine pm_H.go (pc' := 28) (st' := [.ref pm_SC]) rfl rfl rfl rfl ?_
      refine pm_H.go (pc' := 29) (st' := [.int x3, .ref pm_SC]) rfl rfl rfl rfl ?_
      refine pm_H.sld (i := x3) rfl rfl (xgi h0 (by omega)) ?_
      refine pm_H.go (pc' := 32) (st' := [.int 31, .int (xs (Int32.toNatClampNeg x3))]) rfl rfl rfl rfl ?_
      refine pm_H.go (pc' := 33) (st' := [.int (xs (Int32.toNatClampNeg x3) &&& 31)]) rfl rfl rfl rfl ?_
      obtain ⟨j, hj, ej⟩ := pk_andE (xs (Int32.toNatClampNeg x3)) (m := 31) 5 (by decide)
      rw [ej]
      have hj' : j < 32 := hj
      rcases (show j = 0 ∨ j = 1 ∨ j = 2 ∨ j = 3 ∨ j = 4 ∨ j = 5 ∨ j = 6 ∨ j = 7 ∨ j = 8 ∨ j = 9 ∨ j = 10 ∨ j = 11 ∨ j = 12 ∨ j = 13 ∨ j = 14 ∨ j = 15 ∨ j = 16 ∨ j = 17 ∨ j = 18 ∨ j = 19 ∨ j = 20 ∨ j = 21 ∨ j = 22 ∨ j = 23 ∨ j = 24 ∨ j = 25 ∨ j = 26 ∨ j = 27 ∨ j = 28 ∨ j = 29 ∨ j = 30 ∨ j = 31 by omega) with rfl | rfl | rfl | rfl | rfl | rfl | rfl | rfl | rfl | rfl | rfl | rfl | rfl | rfl | rfl | rfl | rfl | rfl | rfl | rfl | rfl | rfl | rfl | rfl | rfl | rfl | rfl | rfl | rfl | rfl | rfl | rfl
      · exact pm_H.go (pc' := 168) rfl rfl rfl rfl (l4_op0 ha hw hI hF kk)
      · exact pm_H.go (pc' := 231) rfl rfl rfl rfl (l4_op1 ha hw hI hF kk)
      · exact pm_H.go (pc' := 254) rfl rfl rfl rfl (l4_op2 ha hw hI hF kk)
      · exact pm_H.go (pc' := 267) rfl rfl rfl rfl (l4_op3 ha hw hI hF kk)
      · exact pm_H.go (pc' := 290) rfl rfl rfl rfl (l4_op4 ha hw hI hF kk)
      · exact pm_H.go (pc' := 303) rfl rfl rfl rfl (l4_op5 ha hw hI hF kk)
      · exact pm_H.go (pc' := 326) rfl rfl rfl rfl (l4_op6 ha hw hI hF kk)
      · exact pm_H.go (pc' := 359) rfl rfl rfl rfl (l4_op7 ha hw hI hF kk)
      · exact pm_H.go (pc' := 392) rfl rfl rfl rfl (l4_op8 ha hw hI hF kk)
      · exact pm_H.go (pc' := 435) rfl rfl rfl rfl (l4_op9 ha hw hI hF kk)
      · exact pm_H.go (pc' := 448) rfl rfl rfl rfl (l4_op10 ha hw hI hF kk)
      · exact pm_H.go (pc' := 481) rfl rfl rfl rfl (l4_op11 ha hw hI hF kk)
      · exact pm_H.go (pc' := 514) rfl rfl rfl rfl (l4_op12 ha hw hI hF kk)
      · exact pm_H.go (pc' := 527) rfl rfl rfl rfl (l4_op13 ha hw hI hF kk)
      · exact pm_H.go (pc' := 540) rfl rfl rfl rfl (l4_op14 ha hw hI hF kk)
      · exact pm_H.go (pc' := 563) rfl rfl rfl rfl (l4_op15 ha hw hI hF kk)
      · exact pm_H.go (pc' := 576) rfl rfl rfl rfl (l4_op16 ha hw hI hF kk)
      · exact pm_H.go (pc' := 599) rfl rfl rfl rfl (l4_op17 ha hw hI hF kk)
      · exact pm_H.go (pc' := 612) rfl rfl rfl rfl (l4_op18 ha hw hI hF kk)
      · exact pm_H.go (pc' := 625) rfl rfl rfl rfl (l4_op19 ha hw hI hF kk)
      · exact pm_H.go (pc' := 638) rfl rfl rfl rfl (l4_op20 ha hw hI hF kk)
      · exact pm_H.go (pc' := 651) rfl rfl rfl rfl (l4_op21 ha hw hI hF kk)
      · exact pm_H.go (pc' := 674) rfl rfl rfl rfl (l4_op22 ha hw hI hF kk)
      · exact pm_H.go (pc' := 687) rfl rfl rfl rfl (l4_op23 ha hw hI hF kk)
      · exact pm_H.go (pc' := 710) rfl rfl rfl rfl (l4_op24 ha hw hI hF kk)
      · exact pm_H.go (pc' := 733) rfl rfl rfl rfl (l4_op25 ha hw hI hF kk)
      · exact pm_H.go (pc' := 766) rfl rfl rfl rfl (l4_op26 ha hw hI hF kk)
      · exact pm_H.go (pc' := 789) rfl rfl rfl rfl (l4_op27 ha hw hI hF kk)
      · exact pm_H.go (pc' := 812) rfl rfl rfl rfl (l4_op28 ha hw hI hF kk)
      · exact pm_H.go (pc' := 835) rfl rfl rfl rfl (l4_op29 ha hw hI hF kk)
      · exact pm_H.go (pc' := 858) rfl rfl rfl rfl (kk w s t hw hI hF)
      · exact pm_H.go (pc' := 858) rfl rfl rfl rfl (kk w s t hw hI hF)
theorem pm_law4 {L : Nat} (hL : L ≤ 3072) (xs : Nat → Int32) : ∃ (n : Nat) (w' : pm_W), pm_run (some (L, xs)) n 300 310 0 [(0, .ref pm_SC)] [] pm_w0 = some (some (.int 1), w') ∧ w'.2.1 - 0 ≤ room_1.cells ∧ w'.2.2 - 0 ≤ room_1.slots := by
  have key : pm_H (some (L, xs)) 300 310 0 [(0, .ref pm_SC)] [] pm_w0 (fun o w' => o = some (.int 1) ∧ w'.2 = (1179, 65954)) := by
    refine pm_H.go (pc' := 3) rfl rfl rfl rfl ?_
    refine pm_H.go (pc' := 4) rfl rfl rfl rfl ?_
    refine pm_Tk4 (d' := 299) rfl rfl rfl (by decide) rfl (by decide) rfl rfl ⟨_, pm_mA⟩ ?_
    refine pm_H.go (pc' := 8) (L' := [(1, .ref 0), (0, .ref pm_SC)]) (st' := []) rfl rfl rfl rfl ?_
    refine pm_H.go (pc' := 11) rfl rfl rfl rfl ?_
    refine pm_H.go (pc' := 12) rfl rfl rfl rfl ?_
    refine pm_Tk4 (d' := 299) rfl rfl rfl (by decide) rfl (by decide) rfl rfl ⟨_, pm_mB⟩ ?_
    refine pm_H.go (pc' := 16) (L' := [(2, .ref 1131), (1, .ref 0), (0, .ref pm_SC)]) (st' := []) rfl rfl rfl rfl ?_
    refine pm_H.go (pc' := 17) rfl rfl rfl rfl ?_
    refine pm_H.go (pc' := 18) (L' := [(3, .int 0), (2, .ref 1131), (1, .ref 0), (0, .ref pm_SC)]) (st' := []) rfl rfl rfl rfl ?_
    exact l4_loop hL 3100 0 0 pm_w1 ps_s1 (by decide) (by decide) (by decide) s1_R s1_LI s1_LF
  obtain ⟨o, w', ⟨n, hn⟩, rfl, hz⟩ := key
  refine ⟨n, w', hn, ?_, ?_⟩
  · rw [hz]
    decide
  · rw [hz]
    decide
end
section
def R_law : String := "ProofBenchLaw"
def lw_P (b : Addr) (xs : List Int32) (args : Array Value) (s : State) : Prop := args = #[.ref b] ∧ s.IntsAt b xs ∧ xs.length ≤ 3072 ∧ (Jvm.Cond.and given_1 narrow_1).before args s = true
def lw_Q (_ : Array Value) (s : State) (o : Outcome) (t : State) : Prop := o = .returned (some (.int 1)) ∧ Framed s o t [] 600000 7302250
def lw_Z (below : List Frame) (a : Array Value) (s : State) : State → Prop := fun t => ∃ o, t.status = .running ∧ Ended t below o ∧ lw_Q a s o t
/-- the law's own end, with 1 on the stack, nothing written that was there before, its room as the claim has it -/
theorem lw_ret {p : Program} {l : Launch} {e : Env} {s : State} {m : MethodId} {below : List Frame} {meth : Method} {c : Code} {b : Nat} (hx : p.tables.exec = Jvm.exec) (hb : c.code = code) (hr : meth.sig.returnType = ret) (hlocks : meth.locks = false) {pc : Nat} {H : Heap} {ls : Array Slot} (hdg : decode code pc = .ok (.ireturn, 1)) : W p l e room_1 s m #[Value.ref b] below meth c H [] 600000 7302250 (lw_Z below #[Value.ref b] s) (F0 m pc ls [.int 1]) := by
  intro T hT X
  obtain ⟨fs, hret, hrun, hended, hW, hframe⟩ := X.leave (v := some (.int 1)) (hlocks := hlocks) (fun h => by rw [hr] at h; cases h)
  have hmeth' : T.vm.method? m = some meth := X.method'
  refine ⟨T.setFrames fs, ?_, .returned (some (.int 1)), hrun, hended, rfl, ⟨_, rfl⟩, hW, hframe⟩
  jvm_step X.here [X.here.top, hx, hb, hdg, hmeth', hr, ret, narrow_b1]
  (try refine ⟨rfl, ?_⟩); (try refine ⟨rfl, ?_⟩)
  first | (intro acts; rw [hret _ acts rfl rfl rfl]) | rw [hret _ _ rfl rfl rfl]
  exact Steps.refl _
/-- what holds at the law's entry: the machine, the code, the tables' words (any of lw_tbl by 'hts w (by decide +kernel)'), the script of L ints xs at the cell b, what the Statement gives of the start (any of its parts by flat_of_before) -/
def lw_At (p : Program) (s : State) (m : MethodId) (meth : Method) (c : Code) (b L : Nat) (xs : Nat → Int32) : Prop :=
  p.tables.exec = Jvm.exec ∧ c.code = code ∧ meth.sig.returnType = ret ∧ c.maxLocals = 4 ∧ s.vm.findClass R_law = some m.cls ∧ (∀ w ∈ lw_tbl, w.before #[Value.ref b] s = true) ∧ va_X b L xs s s.heap ∧ b < s.heap.size ∧ meth.locks = false ∧ (Jvm.Cond.and given_1 narrow_1).before #[Value.ref b] s = true
set_option maxRecDepth 20000 in
theorem whole_start {p : Program} {e : Env} {s : State} {m : MethodId} {below : List Frame} {meth : Method} {c : Code} (l : Launch) (hflags : l.flags = flags0) {b L : Nat} {xs : Nat → Int32} (hL : L ≤ 3072) (C0 : lw_At p s m meth c b L xs) : W p l e room_1 s m #[Value.ref b] below meth c s.heap [] 0 0 (lw_Z below #[Value.ref b] s) (entryFrame m ([Value.ref b] : List Value).toArray 4) := by
  obtain ⟨hx, hb, hr, hml, hown, hts, hX, hbl, hlocks, hgv⟩ := id C0
  obtain ⟨G, g1, g2, g3, T⟩ := pm_start hts hX hbl hgv
  obtain ⟨n, w', hrun, hsz1, hsz2⟩ := pm_law4 hL xs
  have F : pm_Fr 310 300 p room_1 s m #[Value.ref b] meth c := ⟨hx, hb, hr, hml, hown, pm_gw_of hts, hlocks, fun h => absurd h (by decide), by decide, by decide, by decide +kernel⟩
  have hl := lv_entry ([.ref b]) (n := 4) (Nat.le_of_ble_eq_true rfl)
  rw [lg_entry_eq]
  generalize (lg_sl ([.ref b]) ++ List.replicate (4 - (lg_sl ([.ref b])).length) Slot.unset).toArray = ls at hl ⊢
  have hl : lv_has ls (pm_ml 310) (pm_ph G [(0, .ref pm_SC)]) := by
    have e : pm_ph G [(0, .ref pm_SC)] = [(0, .ref b)] := by
      show [(0, Value.ref (G.2.1 100))] = _
      rw [g2]
    rw [e]
    exact hl
  rw [← g3] at hrun
  have K := pm_run_ok l G n 300 310 0 [(0, .ref pm_SC)] [] pm_w0 (some (.int 1)) w' hrun p e room_1 s m #[Value.ref b] below meth c s.heap [] ls 0 0 (lw_Z below #[Value.ref b] s) F T hl (Nat.le_refl _) (Nat.le_refl _) hsz1 hsz2 (fun pc k i ls st H locs h1 h2 h3 h4 => by
    unfold pm_rtn at h3
    split at h3
    · have D := pm_dec h1 1 rfl (by decide)
      have ex : ∀ x : Int32, (match pm_ret 310 with | some .int => some (some (Value.int x)) | some .boolean => cond (decide (x &&& 1 = x)) (some (some (Value.int x))) none | _ => none) = some (some (Value.int 1)) → x = 1 := by
        intro x hx
        have e : pm_ret 310 = some .boolean := rfl
        rw [e] at hx
        dsimp only at hx
        obtain ⟨-, hx⟩ := pm_ct hx
        cases hx
        rfl
      have e1 := ex _ h3
      subst e1
      refine va_forget (fun q hq => by rw [← g1]; exact h4.2.2.1.2.2 q hq) ?_
      refine W.widen (k := 600000) (n := 7302250) hsz1 hsz2 ?_
      exact lw_ret hx hb hr hlocks D
    · split at h3 <;> cases h3
    · split at h3 <;> cases h3
    · split at h3 <;> cases h3
    · cases h3)
  exact K
-- ===== YOUR PART ENDS =====
set_option maxHeartbeats 4000000 in
theorem lw_walk (l : Launch) (hflags : l.flags = flags0) (b : Addr) (xs : List Int32) : MetFree l x (headSpec (Jvm.Cond.code x code maxLocals ret :: tables_1) room_1) (lw_P b xs) (fun _ _ _ _ _ => True) lw_Q := by
  refine MetFree.of_bodyS (code := code) (maxLocals := maxLocals) (ret := ret) (by decide) ?_ ?_
  · intro args s m h hn
    obtain ⟨meth, c, h1, h2, h3, h4, h5, h6, -, -⟩ := Cond.code_spec hn (atoms_spec (ws := Jvm.Cond.code x code maxLocals ret :: tables_1) h _ List.mem_cons_self)
    exact ⟨meth, c, h1, h2, h3, h4, h5, h6⟩
  · intro p e s m args below meth c s₁ B hml0 hP _
    obtain ⟨rfl, hx, hbd, hgv⟩ := hP
    obtain ⟨scr, harrAt, hlist, hof, hsmall⟩ := hx
    obtain ⟨hcb, hkn, -, -⟩ := State.arrayAt?_spec harrAt
    have hown : s.vm.findClass R_law = some m.cls := findClass_of_methodNamed B.named
    have hts0 : ∀ c ∈ (Jvm.Cond.code x code maxLocals ret :: tables_1), c.before #[Value.ref b] s = true := atoms_spec (ws := Jvm.Cond.code x code maxLocals ret :: tables_1) B.pre
    have hts : ∀ w ∈ lw_tbl, w.before #[Value.ref b] s = true := k2_hts_sels lw_privs (fun w hw => hts0 w (List.mem_cons_of_mem _ hw)) lw_privs_ok
    have hml : c.maxLocals = 4 := B.maxLocals_eq (hts0 _ List.mem_cons_self)
    have X₀ : Stand p l e room_1 s m #[Value.ref b] below meth c s₁ [] 0 0 := Stand.of_body B
    have hh0 : s₁.heap = s.heap := by rw [B.state]; rfl
    have hsz : scr.slots.size = xs.length := by rw [← Array.length_toList, hlist, List.length_map]
    have hval : ∀ j : Nat, j < xs.length → scr.slots[j]? = some (.int (xs.getD j 0)) := fun j hj => by
      rw [← Array.getElem?_toList, hlist]
      simp [hj]
    have hbl : b < s.heap.size := (Array.getElem?_eq_some_iff.mp hcb).1
    have hX : va_X b xs.length (fun j => xs.getD j 0) s s.heap := ⟨scr, hcb, hof, hkn, hsz, hval⟩
    have K : W p l e room_1 s m #[Value.ref b] below meth c s₁.heap [] 0 0 (lw_Z below #[Value.ref b] s) (entryFrame m ([Value.ref b] : List Value).toArray 4) := by
      rw [hh0]
      exact whole_start l hflags hbd ⟨B.exec, B.bytes, B.returns, hml, hown, hts, hX, hbl, B.notSynchronized, hgv⟩
    obtain ⟨t, a1, o, b1, b2, b3⟩ := K s₁ rfl X₀
    exact ⟨t, o, a1, b1, b2, b3⟩
theorem lw_pre_spec {args : Array Value} {s : State} (h : (Jvm.Cond.and given_1 narrow_1).before args s = true) (hr : rest_1_c.before args s = true) : ∃ (b : Addr) (xs : List Int32), lw_P b xs args s := by
  have hs := flat_of_before _ h
  have hq := flat_of_before _ hr
  have hc : (Cond.count 1).before args s = true := hs _ (by decide +kernel)
  have harr : (Cond.arrayOf (.arg 0) .int).before args s = true := hs _ (by decide +kernel)
  have hle : (Cond.le (.length (.arg 0)) (.int 3072)).before args s = true := hs _ (by decide +kernel)
  have hlen : (Cond.isInt (.length (.arg 0))).before args s = true := hq _ (by decide +kernel)
  have hall : (Cond.all (.arg 0) (.isInt (.elem (.arg 0) (.index 0)))).before args s = true := hq _ (by decide +kernel)
  obtain ⟨b, xs, hb, hx⟩ := State.ints_of_pre rfl harr hlen hall
  have hsm : xs.length < 2 ^ 31 := hx.choose_spec.2.2.2
  have hev : (Term.length (.arg 0)).eval args s none [] s = some (.int xs.length.toInt32) := hx.length_eval hb
  have hv := Cond.le_ints hev (show (Term.int 3072).eval args s none [] s = some (.int 3072) from rfl)
  have hd : xs.length.toInt32 ≤ 3072 := by
    simpa [Cond.before, Cond.holds, hv] using hle
  have hN : xs.length ≤ 3072 := (Int32.ofNat_le_ofNat hsm (by decide)).mp (show Int32.ofNat xs.length ≤ Int32.ofNat 3072 from hd)
  exact ⟨b, xs, Cond.one_arg hc (show args[0]? = some (.ref b) from hb), hx, hN, h⟩
theorem lw_comes (l : Launch) (hflags : l.flags = flags0) : Comes l x (Jvm.Cond.code x code maxLocals ret :: tables_1) room_1 (fun tb e args s => Calls_1 tb e args s ∧ rest_1 tb e args s ∧ Pre_1 tb e args s)
    (fun _ _ args s o t => lw_Q args s o t) := by
  intro p e ha hc hk s m args below hf hfit hheap happ hpre
  obtain ⟨b, xs, hP⟩ := lw_pre_spec hpre.2.2 hpre.2.1
  obtain ⟨k, o, h1, h2, h3, hQ⟩ := lw_walk l hflags b xs p e ha hc hk s m args below hf ((Spec.applies_iff_loose hf).mp happ).1 hP trivial
  exact ⟨k, o, h1, h2, h3, hQ⟩
theorem lw_frame {s t : State} {o : Outcome} {args : Array Value} (h : Framed s o t [] 600000 7302250) :
    Framed s o t (fieldLocs frame_1_writes args s ++ arrayLocs frame_1_arrays args s ++ staticLocs frame_1_statics s) 600000 7302250 := h
theorem lw_limb (L : Cond) (hL : ∀ (args : Array Value) (s t : State), L.after args s (.returned (some (.int 1))) t = true) :
    ArmFor flags0 classFile x code maxLocals ret World_1 tables_1 room_1 Calls_1 rest_1 Pre_1
      (fun tb e a s o t => postC L tb e a s o t ∧ Framed s o t (fieldLocs frame_1_writes a s ++ arrayLocs frame_1_arrays a s ++ staticLocs frame_1_statics s) 600000 7302250) := by
  intro l hflags _ _ p e ha hc hk s m args below hf hfit hheap happ hpre
  obtain ⟨k, o, h1, h2, h3, rfl, hF⟩ := lw_comes l hflags p e ha hc hk s m args below hf hfit hheap happ hpre
  exact ⟨k, _, h1, h2, h3, hL args s _, lw_frame hF⟩
theorem i_vc : Claimed_1_1 ∧ Claimed_1_2 := ⟨lw_limb limb_1_1 (fun args s t => by simp [limb_1_1, Cond.after, Cond.holds, Cond.value]), lw_limb limb_1_2 (fun args s t => Cond.after_iff.mpr (by
  first | (rw [show limb_1_2 = Cond.eq .result (.int 1) from rfl, Cond.eq_ints (x := 1) (y := 1) rfl rfl]; simp; done) | (simp [limb_1_2, Cond.value, Term.eval]; done)))⟩
end
