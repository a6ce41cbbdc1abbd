set_option maxRecDepth 100000
/-! feed: what it writes, on both sides -/
-- ProofBench.putNumber(I)V
theorem pl_179_0 {n : Nat} {x1 : Int32} {s : ps_S} {Q : Option Value → ps_S → Prop} (h :
  pl_At n 179 3 [(0, .ref 0), (1, .int x1), (2, .int 24)] [] s Q) : pl_At (n + 1) 179 0 [(0, .ref 0), (1, .int x1)] [] s Q :=
  pl_wp_at (stops := [(3, [0, 1, 2])]) (f := 4) h rfl

theorem pl_179_3 {n : Nat} {x1 : Int32} {x2 : Int32} {s : ps_S} {Q : Option Value → ps_S → Prop} (h :
  (x2 < 0 →
    Q none s) ∧
  (0 ≤ x2 →
    ((ps_i s 0 1) < 0 →
      pl_At n 179 3 [(0, .ref 0), (1, .int x1), (2, .int (x2 + (-8)))] [] s Q) ∧
    (0 ≤ (ps_i s 0 1) →
      ((nI 1600) ≤ (ps_i s 0 1) →
        pl_At n 179 3 [(0, .ref 0), (1, .int x1), (2, .int (x2 + (-8)))] [] s Q) ∧
      ((ps_i s 0 1) < (nI 1600) →
        (pm_in (ps_i s 0 1) 1600 = true →
          pl_At n 179 3 [(0, .ref 0), (1, .int x1), (2, .int (x2 + (-8)))] [] (ps_ui (ps_ua s 1 (Int32.toNatClampNeg (ps_i s 0 1)) (Int8.toInt32 (Int32.toInt8 (Int8.toInt32 (Int32.toInt8 (x1 >>> (x2 &&& 31))))))) 0 1 ((ps_i (ps_ua s 1 (Int32.toNatClampNeg (ps_i s 0 1)) (Int8.toInt32 (Int32.toInt8 (Int8.toInt32 (Int32.toInt8 (x1 >>> (x2 &&& 31))))))) 0 1) + 1)) Q))))) : pl_At (n + 1) 179 3 [(0, .ref 0), (1, .int x1), (2, .int x2)] [] s Q :=
  pl_wp_at (stops := [(3, [0, 1, 2])]) (f := 35) h rfl

-- ProofBench.feed(IIIII)I
theorem pl_149_0 {n : Nat} {x1 : Int32} {x2 : Int32} {x3 : Int32} {x4 : Int32} {x5 : Int32} {s : ps_S} {Q : Option Value → ps_S → Prop} (h :
  (((ps_i s 0 1) + 20) ≤ 1600 →
    pl_Cl n 179 [.ref 0, .int x1] s (ps_rV (fun s1 =>
      pl_Cl n 179 [.ref 0, .int x2] s1 (ps_rV (fun s2 =>
        pl_Cl n 179 [.ref 0, .int x3] s2 (ps_rV (fun s3 =>
          pl_Cl n 179 [.ref 0, .int x4] s3 (ps_rV (fun s4 =>
            pl_Cl n 179 [.ref 0, .int x5] s4 (ps_rV (fun s5 =>
              Q (some (.int (ps_i s5 0 1))) s5))))))))))) ∧
  (1600 < ((ps_i s 0 1) + 20) →
    Q (some (.int (-1))) s)) : pl_At (n + 1) 149 0 [(0, .ref 0), (1, .int x1), (2, .int x2), (3, .int x3), (4, .int x4), (5, .int x5)] [] s Q :=
  pl_wp_at (stops := []) (f := 28) h rfl

-- ProofBenchModel.feed(IIIII)I
theorem pl_308_0 {n : Nat} {x1 : Int32} {x2 : Int32} {x3 : Int32} {x4 : Int32} {x5 : Int32} {s : ps_S} {Q : Option Value → ps_S → Prop} (h :
  (((ps_i s 1131 3) + 20) ≤ 1600 →
    pl_At n 308 18 [(0, .ref 1131), (1, .int x1), (2, .int x2), (3, .int x3), (4, .int x4), (5, .int x5), (6, .int 0)] [] s Q) ∧
  (1600 < ((ps_i s 1131 3) + 20) →
    Q (some (.int (-1))) s)) : pl_At (n + 1) 308 0 [(0, .ref 1131), (1, .int x1), (2, .int x2), (3, .int x3), (4, .int x4), (5, .int x5)] [] s Q :=
  pl_wp_at (stops := [(18, [0, 1, 2, 3, 4, 5, 6])]) (f := 12) h rfl

theorem pl_308_18 {n : Nat} {x1 : Int32} {x2 : Int32} {x3 : Int32} {x4 : Int32} {x5 : Int32} {x6 : Int32} {s : ps_S} {Q : Option Value → ps_S → Prop} (h :
  (20 ≤ x6 →
    Q (some (.int (ps_i (ps_ui s 1131 3 ((ps_i s 1131 3) + 20)) 1131 3))) (ps_ui s 1131 3 ((ps_i s 1131 3) + 20))) ∧
  (x6 < 20 →
    (4 ≤ x6 →
      (8 ≤ x6 →
        (12 ≤ x6 →
          (16 ≤ x6 →
            (pm_in ((ps_i s 1131 3) + x6) 1620 = true →
              pl_At n 308 18 [(0, .ref 1131), (1, .int x1), (2, .int x2), (3, .int x3), (4, .int x4), (5, .int x5), (6, .int (x6 + 1))] [] (ps_ua s 1132 (Int32.toNatClampNeg ((ps_i s 1131 3) + x6)) (Int8.toInt32 (Int32.toInt8 (Int8.toInt32 (Int32.toInt8 (x5 >>> (((24 : Int32) - ((8 : Int32) * (x6 &&& 3))) &&& 31))))))) Q)) ∧
          (x6 < 16 →
            (pm_in ((ps_i s 1131 3) + x6) 1620 = true →
              pl_At n 308 18 [(0, .ref 1131), (1, .int x1), (2, .int x2), (3, .int x3), (4, .int x4), (5, .int x5), (6, .int (x6 + 1))] [] (ps_ua s 1132 (Int32.toNatClampNeg ((ps_i s 1131 3) + x6)) (Int8.toInt32 (Int32.toInt8 (Int8.toInt32 (Int32.toInt8 (x4 >>> (((24 : Int32) - ((8 : Int32) * (x6 &&& 3))) &&& 31))))))) Q))) ∧
        (x6 < 12 →
          (pm_in ((ps_i s 1131 3) + x6) 1620 = true →
            pl_At n 308 18 [(0, .ref 1131), (1, .int x1), (2, .int x2), (3, .int x3), (4, .int x4), (5, .int x5), (6, .int (x6 + 1))] [] (ps_ua s 1132 (Int32.toNatClampNeg ((ps_i s 1131 3) + x6)) (Int8.toInt32 (Int32.toInt8 (Int8.toInt32 (Int32.toInt8 (x3 >>> (((24 : Int32) - ((8 : Int32) * (x6 &&& 3))) &&& 31))))))) Q))) ∧
      (x6 < 8 →
        (pm_in ((ps_i s 1131 3) + x6) 1620 = true →
          pl_At n 308 18 [(0, .ref 1131), (1, .int x1), (2, .int x2), (3, .int x3), (4, .int x4), (5, .int x5), (6, .int (x6 + 1))] [] (ps_ua s 1132 (Int32.toNatClampNeg ((ps_i s 1131 3) + x6)) (Int8.toInt32 (Int32.toInt8 (Int8.toInt32 (Int32.toInt8 (x2 >>> (((24 : Int32) - ((8 : Int32) * (x6 &&& 3))) &&& 31))))))) Q))) ∧
    (x6 < 4 →
      (pm_in ((ps_i s 1131 3) + x6) 1620 = true →
        pl_At n 308 18 [(0, .ref 1131), (1, .int x1), (2, .int x2), (3, .int x3), (4, .int x4), (5, .int x5), (6, .int (x6 + 1))] [] (ps_ua s 1132 (Int32.toNatClampNeg ((ps_i s 1131 3) + x6)) (Int8.toInt32 (Int32.toInt8 (Int8.toInt32 (Int32.toInt8 (x1 >>> (((24 : Int32) - ((8 : Int32) * (x6 &&& 3))) &&& 31))))))) Q)))) : pl_At (n + 1) 308 18 [(0, .ref 1131), (1, .int x1), (2, .int x2), (3, .int x3), (4, .int x4), (5, .int x5), (6, .int x6)] [] s Q :=
  pl_wp_at (stops := [(18, [0, 1, 2, 3, 4, 5, 6])]) (f := 135) h rfl

def fb (x q : Int32) : Int32 := Int8.toInt32 (Int32.toInt8 (Int8.toInt32 (Int32.toInt8 (x >>> (q &&& 31)))))
def fsh (i : Nat) : Int32 := Int32.ofInt (24 - 8 * i)
def fx (x1 x2 x3 x4 x5 : Int32) : Nat → Int32
  | 0 => x1
  | 1 => x2
  | 2 => x3
  | 3 => x4
  | _ => x5
def fw (x1 x2 x3 x4 x5 : Int32) (j : Nat) : Int32 := fb (fx x1 x2 x3 x4 x5 (j / 4)) (fsh (j % 4))
theorem fsh_i {x : Int32} {i : Nat} (h : x.toInt = 24 - 8 * (i : Int)) (hi : i < 4) : x = fsh i := by
  apply Int32.toInt_inj.mp
  rw [h]
  exact (show ∀ i : Nat, i < 4 → 24 - 8 * (i : Int) = (fsh i).toInt by decide) i hi
theorem fsh_8 {x : Int32} {i : Nat} (h : x.toInt = 24 - 8 * (i : Int)) (hi : i < 4) : (x + (-8)).toInt = 24 - 8 * ((i + 1 : Nat) : Int) := by
  rw [xI_add (by rw [xm8]; omega) (by rw [xm8]; omega), xm8]
  omega
theorem fsh_m {x : Int32} {i : Nat} (h : x.toInt = (i : Int)) (hi : i < 20) : (24 : Int32) - (8 : Int32) * (x &&& 3) = fsh (i % 4) := by
  have e : x = Int32.ofNat i := by
    apply Int32.toInt_inj.mp
    rw [h]
    exact (show ∀ i : Nat, i < 20 → (i : Int) = (Int32.ofNat i).toInt by decide) i hi
  rw [e]
  exact (show ∀ i : Nat, i < 20 → (24 : Int32) - (8 : Int32) * (Int32.ofNat i &&& 3) = fsh (i % 4) by decide) i hi
def fq (t : Nat) (x : Int32) (s s' : ps_S) : Prop := (ps_i s' 0 1).toInt = (t + 4 : Nat) ∧ cfr (fun q => q = 0 ∨ q = 1) s s' ∧ ps_r s' = ps_r s ∧ (∀ k, k < t → ps_a s' 1 k = ps_a s 1 k) ∧ ∀ j, j < 4 → ps_a s' 1 (t + j) = fb x (fsh j)
theorem fs_179_3 {t : Nat} {x1 : Int32} {s0 : ps_S} {R : ps_S → Prop} (ht : t + 4 ≤ 1600) (k : ∀ s', fq t x1 s0 s' → R s') : ∀ (n : Nat) {s : ps_S} {x2 : Int32} {i : Nat}, x2.toInt = 24 - 8 * (i : Int) → i ≤ 4 → (ps_i s 0 1).toInt = (t + i : Nat) → cfr (fun q => q = 0 ∨ q = 1) s0 s → ps_r s = ps_r s0 → (∀ k, k < t → ps_a s 1 k = ps_a s0 1 k) → (∀ j, j < i → ps_a s 1 (t + j) = fb x1 (fsh j)) → pl_At n 179 3 [(0, .ref 0), (1, .int x1), (2, .int x2)] [] s (ps_rV R)
  | 0, _, _, _, _, _, _, _, _, _, _ => pl_At_0
  | n + 1, s, x2, i, hx, hi, h1, C, hr, ho, hw => by
    have e1600 : (nI 1600).toInt = 1600 := nI_toInt (by decide)
    refine pl_179_3 ?_
    refine ⟨fun h4 => ?_, fun h4 => ?_⟩
    · have h4 : x2.toInt < (0 : Int) := xlt h4
      have hi4 : i = 4 := by omega
      subst hi4
      exact k _ ⟨h1, C, hr, ho, hw⟩
    · have h4 : (0 : Int) ≤ x2.toInt := xle h4
      refine ⟨fun h11 => ?_, fun h11 => ?_⟩
      · have h11 : (ps_i s 0 1).toInt < (0 : Int) := xlt h11
        exfalso; omega
      · have h11 : (0 : Int) ≤ (ps_i s 0 1).toInt := xle h11
        refine ⟨fun h23 => ?_, fun h23 => ?_⟩
        · have h23 : (1600 : Int) ≤ (ps_i s 0 1).toInt := xle h23
          exfalso; omega
        · have h23 : (ps_i s 0 1).toInt < (1600 : Int) := xlt h23
          intro b38
          obtain ⟨b38, c38⟩ := pl_in b38
          have hi4 : i < 4 := by omega
          have e8 := fsh_8 hx hi4
          have ex := fsh_i hx hi4
          have ej := xj1 h1 (by omega)
          rw [xtn h1]
          refine fs_179_3 ht k n e8 (by omega) ?_ (cfr_i (cfr_a C (Or.inr rfl)) (Or.inl rfl)) hr (fun q hq => ?_) (fun j hj => ?_)
          · show (ps_i s 0 1 + 1).toInt = _
            exact ej
          · show ps_a (ps_ua s 1 (t + i) _) 1 q = _
            rw [ps_a_ua, if_neg (by omega)]
            exact ho q hq
          · show ps_a (ps_ua s 1 (t + i) _) 1 (t + j) = _
            rw [ps_a_ua]
            by_cases e : j = i
            · rw [if_pos ⟨rfl, by omega⟩, e, ex]
              rfl
            · rw [if_neg (by omega)]
              exact hw j (by omega)
theorem fs_179 {n t : Nat} {x1 : Int32} {s : ps_S} {R : ps_S → Prop} (ht : t + 4 ≤ 1600) (h1 : (ps_i s 0 1).toInt = t) (k : ∀ s', fq t x1 s s' → R s') : pl_Cl n 179 [.ref 0, .int x1] s (ps_rV R) := by
  cases n with
  | zero => exact pl_At_0
  | succ n =>
  show pl_At (n + 1) 179 0 [(0, .ref 0), (1, .int x1)] [] s (ps_rV R)
  refine pl_179_0 ?_
  exact fs_179_3 ht k n (i := 0) rfl (by omega) h1 cfr_refl rfl (fun _ _ => rfl) (fun j hj => absurd hj (Nat.not_lt_zero _))
def fg (t : Nat) (x1 x2 x3 x4 x5 : Int32) (s s' : ps_S) : Prop := (ps_i s' 0 1).toInt = (t + 20 : Nat) ∧ cfr (fun q => q = 0 ∨ q = 1) s s' ∧ ps_r s' = ps_r s ∧ (∀ k, k < t → ps_a s' 1 k = ps_a s 1 k) ∧ ∀ j, j < 20 → ps_a s' 1 (t + j) = fw x1 x2 x3 x4 x5 j
theorem fs_149 {n t : Nat} {x1 x2 x3 x4 x5 : Int32} {s : ps_S} {R : Int32 → ps_S → Prop} (ht : t ≤ 1600) (h1 : (ps_i s 0 1).toInt = t) (k1 : t ≤ 1580 → ∀ v s', fg t x1 x2 x3 x4 x5 s s' → R v s') (k0 : 1580 < t → R (-1) s) : pl_Cl n 149 [.ref 0, .int x1, .int x2, .int x3, .int x4, .int x5] s (ps_rI R) := by
  cases n with
  | zero => exact pl_At_0
  | succ n =>
  show pl_At (n + 1) 149 0 [(0, .ref 0), (1, .int x1), (2, .int x2), (3, .int x3), (4, .int x4), (5, .int x5)] [] s (ps_rI R)
  have c20 : (20 : Int32).toInt = 20 := by decide
  have e20 : ((ps_i s 0 1) + 20).toInt = t + 20 := by rw [xI_add (by omega) (by omega)]; omega
  refine pl_149_0 ?_
  refine ⟨fun h10 => ?_, fun h10 => ?_⟩
  · have h10 : ((ps_i s 0 1) + 20).toInt ≤ (1600 : Int) := xle h10
    refine fs_179 (t := t) (by omega) h1 (fun s17 q17 => ?_)
    refine fs_179 (t := t + 4) (by omega) q17.1 (fun s22 q22 => ?_)
    refine fs_179 (t := t + 8) (by omega) q22.1 (fun s27 q27 => ?_)
    refine fs_179 (t := t + 12) (by omega) q27.1 (fun s33 q33 => ?_)
    refine fs_179 (t := t + 16) (by omega) q33.1 (fun s39 q39 => ?_)
    obtain ⟨a1, a2, a3, a4, a5⟩ := q17
    obtain ⟨b1, b2, b3, b4, b5⟩ := q22
    obtain ⟨c1, c2, c3, c4, c5⟩ := q27
    obtain ⟨d1, d2, d3, d4, d5⟩ := q33
    obtain ⟨f1, f2, f3, f4, f5⟩ := q39
    refine k1 (by omega) _ _ ⟨f1, cfr_tr (cfr_tr (cfr_tr (cfr_tr a2 b2) c2) d2) f2, f3.trans (d3.trans (c3.trans (b3.trans a3))), fun q hq => ?_, fun j hj => ?_⟩
    · rw [f4 q (by omega), d4 q (by omega), c4 q (by omega), b4 q (by omega), a4 q hq]
    · have hd : j = 4 * (j / 4) + j % 4 := by omega
      have hm : j % 4 < 4 := Nat.mod_lt _ (by decide)
      unfold fw
      rcases (show j / 4 = 0 ∨ j / 4 = 1 ∨ j / 4 = 2 ∨ j / 4 = 3 ∨ j / 4 = 4 from by omega) with e | e | e | e | e
      · rw [e, f4 _ (by omega), d4 _ (by omega), c4 _ (by omega), b4 _ (by omega), show t + j = t + j % 4 from by omega, a5 _ hm]
        rfl
      · rw [e, f4 _ (by omega), d4 _ (by omega), c4 _ (by omega), show t + j = t + 4 + j % 4 from by omega, b5 _ hm]
        rfl
      · rw [e, f4 _ (by omega), d4 _ (by omega), show t + j = t + 8 + j % 4 from by omega, c5 _ hm]
        rfl
      · rw [e, f4 _ (by omega), show t + j = t + 12 + j % 4 from by omega, d5 _ hm]
        rfl
      · rw [e, show t + j = t + 16 + j % 4 from by omega, f5 _ hm]
        rfl
  · have h10 : (1600 : Int) < ((ps_i s 0 1) + 20).toInt := xlt h10
    exact k0 (by omega)
def fh (t : Nat) (x1 x2 x3 x4 x5 : Int32) (s s' : ps_S) : Prop := (ps_i s' 1131 3).toInt = (t + 20 : Nat) ∧ kq [1132] [3] s s' ∧ (∀ k, k < t → ps_a s' 1132 k = ps_a s 1132 k) ∧ ∀ j, j < 20 → ps_a s' 1132 (t + j) = fw x1 x2 x3 x4 x5 j
theorem fm_308_18 {t : Nat} {x1 x2 x3 x4 x5 : Int32} {s0 : ps_S} {R : Int32 → ps_S → Prop} (ht : t ≤ 1580) (k : ∀ v s', fh t x1 x2 x3 x4 x5 s0 s' → R v s') : ∀ (n : Nat) {s : ps_S} {x6 : Int32} {i : Nat}, x6.toInt = i → i ≤ 20 → (ps_i s 1131 3).toInt = t → kq [1132] [3] s0 s → (∀ k, k < t → ps_a s 1132 k = ps_a s0 1132 k) → (∀ j, j < i → ps_a s 1132 (t + j) = fw x1 x2 x3 x4 x5 j) → pl_At n 308 18 [(0, .ref 1131), (1, .int x1), (2, .int x2), (3, .int x3), (4, .int x4), (5, .int x5), (6, .int x6)] [] s (ps_rI R)
  | 0, _, _, _, _, _, _, _, _, _ => pl_At_0
  | n + 1, s, x6, i, hx, hi, h3, K, ho, hw => by
    have c20 : (20 : Int32).toInt = 20 := by decide
    have e20 : ((ps_i s 1131 3) + 20).toInt = (t + 20 : Nat) := by rw [xI_add (by omega) (by omega)]; omega
    have e6 : ((ps_i s 1131 3) + x6).toInt = (t + i : Nat) := by rw [xI_add (by omega) (by omega)]; omega
    refine pl_308_18 ?_
    refine ⟨fun h22 => ?_, fun h22 => ?_⟩
    · have h22 : (20 : Int) ≤ x6.toInt := xle h22
      have hi20 : i = 20 := by omega
      subst hi20
      exact k _ _ ⟨e20, kqi K rfl, ho, hw⟩
    · have h22 : x6.toInt < (20 : Int) := xlt h22
      refine ⟨fun h28 => ?_, fun h28 => ?_⟩
      · have h28 : (4 : Int) ≤ x6.toInt := xle h28
        refine ⟨fun h39 => ?_, fun h39 => ?_⟩
        · have h39 : (8 : Int) ≤ x6.toInt := xle h39
          refine ⟨fun h50 => ?_, fun h50 => ?_⟩
          · have h50 : (12 : Int) ≤ x6.toInt := xle h50
            refine ⟨fun h61 => ?_, fun h61 => ?_⟩
            · have h61 : (16 : Int) ≤ x6.toInt := xle h61
              intro b98
              obtain ⟨b98, c98⟩ := pl_in b98
              have hv : fb x5 ((24 : Int32) - (8 : Int32) * (x6 &&& 3)) = fw x1 x2 x3 x4 x5 i := by
                unfold fw
                rw [fsh_m hx (by omega), show i / 4 = 4 from by omega]
                rfl
              have ej := xj1 hx (by omega)
              rw [xtn e6]
              refine fm_308_18 ht k n ej (by omega) h3 (kqa K rfl) (fun q hq => ?_) (fun j hj => ?_)
              · rw [ps_a_ua, if_neg (by omega)]
                exact ho q hq
              · rw [ps_a_ua]
                by_cases e : j = i
                · rw [if_pos ⟨rfl, by omega⟩, e]
                  exact hv
                · rw [if_neg (by omega)]
                  exact hw j (by omega)
            · have h61 : x6.toInt < (16 : Int) := xlt h61
              intro b98
              obtain ⟨b98, c98⟩ := pl_in b98
              have hv : fb x4 ((24 : Int32) - (8 : Int32) * (x6 &&& 3)) = fw x1 x2 x3 x4 x5 i := by
                unfold fw
                rw [fsh_m hx (by omega), show i / 4 = 3 from by omega]
                rfl
              have ej := xj1 hx (by omega)
              rw [xtn e6]
              refine fm_308_18 ht k n ej (by omega) h3 (kqa K rfl) (fun q hq => ?_) (fun j hj => ?_)
              · rw [ps_a_ua, if_neg (by omega)]
                exact ho q hq
              · rw [ps_a_ua]
                by_cases e : j = i
                · rw [if_pos ⟨rfl, by omega⟩, e]
                  exact hv
                · rw [if_neg (by omega)]
                  exact hw j (by omega)
          · have h50 : x6.toInt < (12 : Int) := xlt h50
            intro b98
            obtain ⟨b98, c98⟩ := pl_in b98
            have hv : fb x3 ((24 : Int32) - (8 : Int32) * (x6 &&& 3)) = fw x1 x2 x3 x4 x5 i := by
              unfold fw
              rw [fsh_m hx (by omega), show i / 4 = 2 from by omega]
              rfl
            have ej := xj1 hx (by omega)
            rw [xtn e6]
            refine fm_308_18 ht k n ej (by omega) h3 (kqa K rfl) (fun q hq => ?_) (fun j hj => ?_)
            · rw [ps_a_ua, if_neg (by omega)]
              exact ho q hq
            · rw [ps_a_ua]
              by_cases e : j = i
              · rw [if_pos ⟨rfl, by omega⟩, e]
                exact hv
              · rw [if_neg (by omega)]
                exact hw j (by omega)
        · have h39 : x6.toInt < (8 : Int) := xlt h39
          intro b98
          obtain ⟨b98, c98⟩ := pl_in b98
          have hv : fb x2 ((24 : Int32) - (8 : Int32) * (x6 &&& 3)) = fw x1 x2 x3 x4 x5 i := by
            unfold fw
            rw [fsh_m hx (by omega), show i / 4 = 1 from by omega]
            rfl
          have ej := xj1 hx (by omega)
          rw [xtn e6]
          refine fm_308_18 ht k n ej (by omega) h3 (kqa K rfl) (fun q hq => ?_) (fun j hj => ?_)
          · rw [ps_a_ua, if_neg (by omega)]
            exact ho q hq
          · rw [ps_a_ua]
            by_cases e : j = i
            · rw [if_pos ⟨rfl, by omega⟩, e]
              exact hv
            · rw [if_neg (by omega)]
              exact hw j (by omega)
      · have h28 : x6.toInt < (4 : Int) := xlt h28
        intro b98
        obtain ⟨b98, c98⟩ := pl_in b98
        have hv : fb x1 ((24 : Int32) - (8 : Int32) * (x6 &&& 3)) = fw x1 x2 x3 x4 x5 i := by
          unfold fw
          rw [fsh_m hx (by omega), show i / 4 = 0 from by omega]
          rfl
        have ej := xj1 hx (by omega)
        rw [xtn e6]
        refine fm_308_18 ht k n ej (by omega) h3 (kqa K rfl) (fun q hq => ?_) (fun j hj => ?_)
        · rw [ps_a_ua, if_neg (by omega)]
          exact ho q hq
        · rw [ps_a_ua]
          by_cases e : j = i
          · rw [if_pos ⟨rfl, by omega⟩, e]
            exact hv
          · rw [if_neg (by omega)]
            exact hw j (by omega)
theorem fm_308 {n t : Nat} {x1 x2 x3 x4 x5 : Int32} {s : ps_S} {R : Int32 → ps_S → Prop} (ht : t ≤ 1600) (h3 : (ps_i s 1131 3).toInt = t) (k1 : t ≤ 1580 → ∀ v s', fh t x1 x2 x3 x4 x5 s s' → R v s') (k0 : 1580 < t → R (-1) s) : pl_Cl n 308 [.ref 1131, .int x1, .int x2, .int x3, .int x4, .int x5] s (ps_rI R) := by
  cases n with
  | zero => exact pl_At_0
  | succ n =>
  show pl_At (n + 1) 308 0 [(0, .ref 1131), (1, .int x1), (2, .int x2), (3, .int x3), (4, .int x4), (5, .int x5)] [] s (ps_rI R)
  have c20 : (20 : Int32).toInt = 20 := by decide
  have e20 : ((ps_i s 1131 3) + 20).toInt = (t + 20 : Nat) := by rw [xI_add (by omega) (by omega)]; omega
  refine pl_308_0 ?_
  refine ⟨fun h10 => ?_, fun h10 => ?_⟩
  · have h10 : ((ps_i s 1131 3) + 20).toInt ≤ (1600 : Int) := xle h10
    exact fm_308_18 (by omega) (k1 (by omega)) n (i := 0) rfl (by omega) h3 kq_refl (fun _ _ => rfl) (fun j hj => absurd hj (Nat.not_lt_zero _))
  · have h10 : (1600 : Int) < ((ps_i s 1131 3) + 20).toInt := xlt h10
    exact k0 (by omega)

