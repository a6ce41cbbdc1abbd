set_option maxRecDepth 100000
/-! the reference: theory -/
-- ProofBenchModel.beginText()V
theorem pl_198_0 {n : Nat} {s : ps_S} {Q : Option Value → ps_S → Prop} (h :
  pl_At n 198 20 [(0, .ref 1131), (1, .int 0)] [] (ps_ui (ps_ui (ps_ui s 1131 5 0) 1131 6 (-1)) 1131 4 (ps_i (ps_ui (ps_ui s 1131 5 0) 1131 6 (-1)) 1131 3)) Q) : pl_At (n + 1) 198 0 [(0, .ref 1131)] [] s Q :=
  pl_wp_at (stops := [(20, [0, 1])]) (f := 14) h rfl

theorem pl_198_20 {n : Nat} {x1 : Int32} {s : ps_S} {Q : Option Value → ps_S → Prop} (h :
  ((ps_i s 1131 4) ≤ x1 →
    pl_Cl n 194 [.ref 1131] (ps_ui (ps_ui (ps_ui (ps_ui s 1131 3 0) 1131 8 0) 1131 23 0) 1131 22 (ps_i (ps_ui (ps_ui (ps_ui s 1131 3 0) 1131 8 0) 1131 23 0) 1131 21)) (ps_rV (fun s1 =>
      Q none s1))) ∧
  (x1 < (ps_i s 1131 4) →
    (pm_in x1 1620 = true →
      (pm_in x1 1600 = true →
        pl_At n 198 20 [(0, .ref 1131), (1, .int (x1 + 1))] [] (ps_ua s 1133 (Int32.toNatClampNeg x1) (Int8.toInt32 (Int32.toInt8 (ps_a s 1132 (Int32.toNatClampNeg x1))))) Q)))) : pl_At (n + 1) 198 20 [(0, .ref 1131), (1, .int x1)] [] s Q :=
  pl_wp_at (stops := [(20, [0, 1])]) (f := 32) h rfl

-- ProofBenchModel.begin()V
theorem pl_202_0 {n : Nat} {s : ps_S} {Q : Option Value → ps_S → Prop} (h :
  (pm_in (25748 : Int32) 27400 = true →
    (pm_in (25789 : Int32) 27400 = true →
      Q none (ps_ua (ps_ua (ps_ui (ps_ui (ps_ui (ps_ui s 1131 47 0) 1131 48 (-1)) 1131 49 (-1)) 1131 54 0) 1134 (Int32.toNatClampNeg (25748 : Int32)) 0) 1134 (Int32.toNatClampNeg (25789 : Int32)) 0)))) : pl_At (n + 1) 202 0 [(0, .ref 1131)] [] s Q :=
  pl_wp_at (stops := []) (f := 25) h rfl

-- ProofBenchModel.theory()I
theorem pl_201_0 {n : Nat} {s : ps_S} {Q : Option Value → ps_S → Prop} (h :
  pl_Cl n 198 [.ref 1131] s (ps_rV (fun s1 =>
    (pm_in (ps_i (ps_ui s1 1131 22 ((1 : Int32) - (ps_i s1 1131 21))) 1131 22) 2 = true →
      (pm_in (ps_i (ps_ua (ps_ui s1 1131 22 ((1 : Int32) - (ps_i s1 1131 21))) 1135 (Int32.toNatClampNeg (ps_i (ps_ui s1 1131 22 ((1 : Int32) - (ps_i s1 1131 21))) 1131 22)) 0) 1131 22) 2 = true →
        (pm_in (ps_i (ps_ua (ps_ua (ps_ui s1 1131 22 ((1 : Int32) - (ps_i s1 1131 21))) 1135 (Int32.toNatClampNeg (ps_i (ps_ui s1 1131 22 ((1 : Int32) - (ps_i s1 1131 21))) 1131 22)) 0) 1136 (Int32.toNatClampNeg (ps_i (ps_ua (ps_ui s1 1131 22 ((1 : Int32) - (ps_i s1 1131 21))) 1135 (Int32.toNatClampNeg (ps_i (ps_ui s1 1131 22 ((1 : Int32) - (ps_i s1 1131 21))) 1131 22)) 0) 1131 22)) 0) 1131 22) 2 = true →
          pl_At n 201 44 [(0, .ref 1131)] [] (ps_ua (ps_ua (ps_ua (ps_ui s1 1131 22 ((1 : Int32) - (ps_i s1 1131 21))) 1135 (Int32.toNatClampNeg (ps_i (ps_ui s1 1131 22 ((1 : Int32) - (ps_i s1 1131 21))) 1131 22)) 0) 1136 (Int32.toNatClampNeg (ps_i (ps_ua (ps_ui s1 1131 22 ((1 : Int32) - (ps_i s1 1131 21))) 1135 (Int32.toNatClampNeg (ps_i (ps_ui s1 1131 22 ((1 : Int32) - (ps_i s1 1131 21))) 1131 22)) 0) 1131 22)) 0) 1137 (Int32.toNatClampNeg (ps_i (ps_ua (ps_ua (ps_ui s1 1131 22 ((1 : Int32) - (ps_i s1 1131 21))) 1135 (Int32.toNatClampNeg (ps_i (ps_ui s1 1131 22 ((1 : Int32) - (ps_i s1 1131 21))) 1131 22)) 0) 1136 (Int32.toNatClampNeg (ps_i (ps_ua (ps_ui s1 1131 22 ((1 : Int32) - (ps_i s1 1131 21))) 1135 (Int32.toNatClampNeg (ps_i (ps_ui s1 1131 22 ((1 : Int32) - (ps_i s1 1131 21))) 1131 22)) 0) 1131 22)) 0) 1131 22)) 0) Q)))))) : pl_At (n + 1) 201 0 [(0, .ref 1131)] [] s Q :=
  pl_wp_at (stops := [(44, [0]), (65, [0]), (88, [0, 1])]) (f := 28) h rfl

theorem pl_201_44 {n : Nat} {s : ps_S} {Q : Option Value → ps_S → Prop} (h :
  pl_Cl n 192 [.ref 1131] s (ps_rI (fun v1 s1 =>
    (v1 = 0 →
      pl_At n 201 65 [(0, .ref 1131)] [] s1 Q) ∧
    (v1 ≠ 0 →
      ((ps_i s1 1131 9) = 0 →
        pl_At n 201 65 [(0, .ref 1131)] [] s1 Q) ∧
      ((ps_i s1 1131 9) ≠ 0 →
        pl_Cl n 204 [.ref 1131] s1 (ps_rV (fun s2 =>
          pl_At n 201 44 [(0, .ref 1131)] [] s2 Q))))))) : pl_At (n + 1) 201 44 [(0, .ref 1131)] [] s Q :=
  pl_wp_at (stops := [(44, [0]), (65, [0]), (88, [0, 1])]) (f := 11) h rfl

theorem pl_201_65 {n : Nat} {s : ps_S} {Q : Option Value → ps_S → Prop} (h :
  pl_Cl n 192 [.ref 1131] s (ps_rI (fun v1 s1 =>
    (v1 ≠ 0 →
      pl_Cl n 202 [.ref 1131] (ps_ui s1 1131 21 (ps_i s1 1131 22)) (ps_rV (fun s2 =>
        pl_At n 201 88 [(0, .ref 1131), (1, .int 0)] [] s2 Q))) ∧
    (v1 = 0 →
      Q (some (.int (-1))) s1)))) : pl_At (n + 1) 201 65 [(0, .ref 1131)] [] s Q :=
  pl_wp_at (stops := [(44, [0]), (65, [0]), (88, [0, 1])]) (f := 15) h rfl

theorem pl_201_88 {n : Nat} {x1 : Int32} {s : ps_S} {Q : Option Value → ps_S → Prop} (h :
  (3 ≤ x1 →
    (pm_in (ps_i s 1131 21) 2 = true →
      Q (some (.int (ps_a s 1137 (Int32.toNatClampNeg (ps_i s 1131 21))))) s)) ∧
  (x1 < 3 →
    (pm_in x1 3 = true →
      pl_At n 201 88 [(0, .ref 1131), (1, .int (x1 + 1))] [] (ps_ua s 1176 (Int32.toNatClampNeg x1) (-1)) Q))) : pl_At (n + 1) 201 88 [(0, .ref 1131), (1, .int x1)] [] s Q :=
  pl_wp_at (stops := [(44, [0]), (65, [0]), (88, [0, 1])]) (f := 18) h rfl

theorem xb8 (x : Int32) : (x.toInt8.toInt32 &&& 255) = x &&& 255 := by
  apply Int32.toBitVec_inj.mp
  rw [Int32.toBitVec_and, Int32.toBitVec_and]
  apply BitVec.eq_of_getLsbD_eq
  intro i hi
  rw [BitVec.getLsbD_and, BitVec.getLsbD_and]
  by_cases h : i < 8
  · have e : (x.toInt8.toInt32).toBitVec.getLsbD i = x.toBitVec.getLsbD i := by
      show ((x.toBitVec.signExtend 8).signExtend 32).getLsbD i = _
      simp only [BitVec.getLsbD_signExtend]
      simp [h, hi]
    rw [e]
  · have e : (255 : Int32).toBitVec.getLsbD i = false := by
      exact (show ∀ i, i < 32 → ¬ i < 8 → (255#32).getLsbD i = false by decide) i hi h
    rw [e, Bool.and_false, Bool.and_false]
def mTF : List Nat := [3, 4, 22, 21, 47, 48, 49, 54, 32, 5, 6, 7, 8, 9, 10, 11, 23, 29, 30, 31]
def mTB : List Nat := 1133 :: 1176 :: mTA
def mb_F : List Nat := [3, 4, 5, 6, 7, 8, 9, 10, 11, 22, 23]
/-- after beginText -/
def mb_ok (b : Nat) (T : Nat → Nat) (N : Nat) (s s' : ps_S) : Prop := kq [1133] mb_F s s' ∧ mv_T s' T N ∧ mv_K s' (tx_tok T N 0) ∧ mv_G s' ∧ (ps_i s' 1131 23).toInt = 0 ∧ (ps_i s' 1131 22).toInt = b ∧ (ps_i s' 1131 3).toInt = 0
theorem fm_198_20 {b : Nat} {s0 : ps_S} {T : Nat → Nat} {N : Nat} {R : ps_S → Prop} (h21 : (ps_i s0 1131 21).toInt = b) (hN : N ≤ 1600) (hT : ∀ k, k < N → (ps_a s0 1132 k &&& 255).toInt = T k) (k : ∀ s', mb_ok b T N s0 s' → R s') : ∀ (n : Nat) {s : ps_S} {x1 : Int32} {i : Nat}, x1.toInt = i → i ≤ N → (ps_i s 1131 4).toInt = N → mv_G s → kq [1133] [4, 5, 6] s0 s → (∀ j, j < i → (ps_a s 1133 j &&& 255).toInt = T j) → pl_At n 198 20 [(0, .ref 1131), (1, .int x1)] [] s (ps_rV R)
  | 0, _, _, _, _, _, _, _, _, _ => pl_At_0
  | n + 1, s, x1, i, hx, hi, h4, hG, K, hj => by
    refine pl_198_20 ?_
    refine ⟨fun h25 => ?_, fun h25 => ?_⟩
    · have h25 : (ps_i s 1131 4).toInt ≤ x1.toInt := xle h25
      refine fs_194 (T := T) (N := N) (p := 0) (show mv_T _ T N from ⟨h4, hN, fun k hk => hj k (by omega)⟩) rfl (Nat.zero_le _) (fun s70 q70 => ?_)
      obtain ⟨K2, k2⟩ := q70
      have K3 : kq [1133] mb_F s0 s70 := kqt (kqi (kqi (kqi (kqi (kqt kq_refl K (by decide) (by decide)) rfl) rfl) rfl) rfl) K2 (by decide) (by decide)
      refine k _ ⟨K3, mv_T_kq (show mv_T (ps_ui (ps_ui (ps_ui (ps_ui s 1131 3 0) 1131 8 0) 1131 23 0) 1131 22 (ps_i s 1131 21)) T N from ⟨h4, hN, fun k hk => hj k (by omega)⟩) K2 (by decide) (by decide), k2, mv_G_kq (show mv_G (ps_ui (ps_ui (ps_ui (ps_ui s 1131 3 0) 1131 8 0) 1131 23 0) 1131 22 (ps_i s 1131 21)) from hG) K2 (by decide) (by decide), by rw [kq_i K2 23 (by decide)]; rfl, ?_, by rw [kq_i K2 3 (by decide)]; rfl⟩
      rw [kq_i K2 22 (by decide)]
      show (ps_i s 1131 21).toInt = b
      rw [kq_i K 21 (by decide)]
      exact h21
    · have h25 : x1.toInt < (ps_i s 1131 4).toInt := xlt h25
      intro b38
      obtain ⟨b38, c38⟩ := pl_in b38
      intro b39
      obtain ⟨b39, c39⟩ := pl_in b39
      rw [xtn hx]
      refine fm_198_20 h21 hN hT k n (xj1 hx (by omega)) (by omega) h4 hG (kqa K rfl) (fun j hj2 => ?_)
      rw [ps_a_ua]
      by_cases e : j = i
      · rw [if_pos ⟨rfl, e⟩, xb8, e, kq_a K 1132 (by decide)]
        exact hT i (by omega)
      · rw [if_neg (fun z => e z.2)]
        exact hj j (by omega)
theorem fm_198 {n b : Nat} {s : ps_S} {T : Nat → Nat} {N : Nat} {R : ps_S → Prop} (h21 : (ps_i s 1131 21).toInt = b) (h3 : (ps_i s 1131 3).toInt = N) (hN : N ≤ 1600) (hT : ∀ k, k < N → (ps_a s 1132 k &&& 255).toInt = T k) (k : ∀ s', mb_ok b T N s s' → R s') : pl_Cl n 198 [.ref 1131] s (ps_rV R) := by
  cases n with
  | zero => exact pl_At_0
  | succ n =>
  show pl_At (n + 1) 198 0 [(0, .ref 1131)] [] s (ps_rV R)
  refine pl_198_0 ?_
  exact fm_198_20 h21 hN hT k n (i := 0) rfl (Nat.zero_le _) h3 ⟨rfl, rfl⟩ (kqi (kqi (kqi kq_refl rfl) rfl) rfl) (fun j hj => absurd hj (Nat.not_lt_zero _))
theorem fm_202 {n : Nat} {s : ps_S} {R : ps_S → Prop} (k : R (ps_ua (ps_ua (ps_ui (ps_ui (ps_ui (ps_ui s 1131 47 0) 1131 48 (-1)) 1131 49 (-1)) 1131 54 0) 1134 25748 0) 1134 25789 0)) : pl_Cl n 202 [.ref 1131] s (ps_rV R) := by
  cases n with
  | zero => exact pl_At_0
  | succ n =>
  show pl_At (n + 1) 202 0 [(0, .ref 1131)] [] s (ps_rV R)
  refine pl_202_0 ?_
  intro b28
  obtain ⟨b28, c28⟩ := pl_in b28
  intro b37
  obtain ⟨b37, c37⟩ := pl_in b37
  exact k
theorem mv_H_bk {rb b : Nat} {s s' : ps_S} {h : tx_H} (hrb : rb < 2) (hb : b < 2) (hne : b ≠ rb) (H : mv_H s b h) (B : mv_bk rb s s') : mv_H s' b h := by
  obtain ⟨-, b1, b2, b3, b4, b5⟩ := B
  obtain ⟨⟨e1, e2, e3, e4, e5, e6⟩, f2, f3, f4⟩ := H
  obtain ⟨c1, c2, c3⟩ := b1 b hne
  refine ⟨⟨by rw [c1]; exact e1, by rw [c2]; exact e2, e3, e4, fun k w a hk => ?_, fun k w a hk => ?_⟩, by rw [c3]; exact f2, f3, fun k w l hk => ?_⟩
  · have hl := (List.getElem?_eq_some_iff.mp hk).1
    obtain ⟨y1, y2, y3, y4⟩ := e5 k w a hk
    obtain ⟨d1, d2⟩ := b2 (6 * b + k) (by omega)
    exact ⟨y1, y2, by rw [d2]; exact y3, by rw [d1]; exact y4⟩
  · have hl := (List.getElem?_eq_some_iff.mp hk).1
    obtain ⟨y1, y2, y3, y4⟩ := e6 k w a hk
    obtain ⟨d1, d2⟩ := b3 (4 * b + k) (by omega)
    exact ⟨y1, y2, by rw [d2]; exact y3, by rw [d1]; exact y4⟩
  · have hl := (List.getElem?_eq_some_iff.mp hk).1
    obtain ⟨y1, y2, y3, y4, y5⟩ := f4 k w l hk
    refine ⟨y1, by rw [b4 (8 * b + k) (by omega)]; exact y2, by rw [b5 _ (by omega)]; exact y3, y4, fun q c hq => ?_⟩
    have hq2 := (List.getElem?_eq_some_iff.mp hq).1
    rw [b5 _ (by omega)]
    exact y5 q c hq
theorem mv_H_nil {s : ps_S} {rb : Nat} {v : Int32} : mv_H (ps_ua (ps_ua (ps_ua (ps_ui s 1131 22 v) 1135 rb 0) 1136 rb 0) 1137 rb 0) rb (([], []), []) := by
  refine ⟨⟨?_, ?_, Nat.zero_le _, Nat.zero_le _, (fun k w a hk => by cases hk), (fun k w a hk => by cases hk)⟩, ?_, Nat.zero_le _, (fun k w l hk => by cases hk)⟩
  · rw [ps_a_ua, if_neg (fun z => absurd z.1 (by decide)), ps_a_ua, if_neg (fun z => absurd z.1 (by decide)), ps_a_ua, if_pos ⟨rfl, rfl⟩]
    rfl
  · rw [ps_a_ua, if_neg (fun z => absurd z.1 (by decide)), ps_a_ua, if_pos ⟨rfl, rfl⟩]
    rfl
  · rw [ps_a_ua, if_pos ⟨rfl, rfl⟩]
    rfl
/-- what theory() leaves: the machine's end, the bank that holds it -/
def mt_fr (b : Nat) (s s' : ps_S) : Prop := kq mTB mTF s s' ∧ (∀ hb, mv_H s b hb → mv_H s' b hb) ∧ (ps_i s' 1131 3).toInt = 0
def mt_ok (b : Nat) (T : Nat → Nat) (N : Nat) (s s' : ps_S) (v : Int32) : Prop := ∃ h p, gt_go (tx_ln T N) (0, (([], []), []), 0, 0) (3, h, p, 0) ∧ v.toInt = h.2.length ∧ mv_H s' (1 - b) h ∧ (ps_i s' 1131 21).toInt = (1 - b : Nat) ∧ mv_G s' ∧ mt_fr b s s' ∧ ((ps_i s' 1131 47).toInt = 0 ∧ (ps_i s' 1131 48).toInt = -1 ∧ (ps_i s' 1131 49).toInt = -1 ∧ (ps_i s' 1131 54).toInt = 0 ∧ ps_a s' 1134 25748 = 0 ∧ ps_a s' 1134 25789 = 0 ∧ ∀ i, i < 3 → ps_a s' 1176 i = -1)
def mt_bad (b : Nat) (T : Nat → Nat) (N : Nat) (s s' : ps_S) (v : Int32) : Prop := ∃ h pl kk, gt_go (tx_ln T N) (0, (([], []), []), 0, 0) (4, h, pl, kk) ∧ v.toInt = -1 ∧ kk ≠ 0 ∧ (ps_i s' 1131 5).toInt = kk ∧ (ps_i s' 1131 6).toInt = pl ∧ (ps_i s' 1131 21).toInt = b ∧ mt_fr b s s'
theorem mt_fr_bk {rb b : Nat} {s s1 s2 : ps_S} (hrb : rb < 2) (hb : b < 2) (hne : b ≠ rb) (F : mt_fr b s s1) (B : mv_bk rb s1 s2) : mt_fr b s s2 := ⟨kqt F.1 B.1 (by decide) (by decide), fun hb' H => mv_H_bk hrb hb hne (F.2.1 hb' H) B, by rw [kq_i B.1 3 (by decide)]; exact F.2.2⟩
theorem fm_204u {n rb : Nat} {s : ps_S} {T : Nat → Nat} {N : Nat} {R : ps_S → Prop} {h : tx_H} {p : Nat} (L : mv_L s rb T N h p) (h0 : (tx_tok T N p).1 ≠ 0) (k : ∀ s', mr_ok rb s s' T N (tx_ln T N (0, h, p, 0)) ∨ mr_bad rb s s' (tx_ln T N (0, h, p, 0)) → R s') : pl_Cl n 204 [.ref 1131] s (ps_rV R) :=
  fm_204 L mv_bk_refl h0 rfl (fun s' z => k s' (Or.inl z)) (fun s' z => k s' (Or.inr z))

theorem fm_201_65b {b : Nat} {s0 : ps_S} {T : Nat → Nat} {N : Nat} {R : Int32 → ps_S → Prop} (hb : b < 2) (k1 : ∀ v s', mt_ok b T N s0 s' v → R v s') (k0 : ∀ v s', mt_bad b T N s0 s' v → R v s') {n : Nat} {s : ps_S} {h : tx_H} {pl kk : Nat} (g : gt_go (tx_ln T N) (0, (([], []), []), 0, 0) (4, h, pl, kk)) (hk : kk ≠ 0) (h5 : (ps_i s 1131 5).toInt = kk) (h6 : (ps_i s 1131 6).toInt = pl) (h21 : (ps_i s 1131 21).toInt = b) (F : mt_fr b s0 s) : pl_At n 201 65 [(0, .ref 1131)] [] s (ps_rI R) := by
  cases n with
  | zero => exact pl_At_0
  | succ n =>
  refine pl_201_65 ?_
  exact fm_192 (fun z => by omega) (fun _ => ⟨fun z => absurd rfl z, fun _ => k0 _ _ ⟨h, pl, kk, g, rfl, hk, h5, h6, h21, F⟩⟩)
theorem fm_201_44b {b : Nat} {s0 : ps_S} {T : Nat → Nat} {N : Nat} {R : Int32 → ps_S → Prop} (hb : b < 2) (k1 : ∀ v s', mt_ok b T N s0 s' v → R v s') (k0 : ∀ v s', mt_bad b T N s0 s' v → R v s') {n : Nat} {s : ps_S} {h : tx_H} {pl kk : Nat} (g : gt_go (tx_ln T N) (0, (([], []), []), 0, 0) (4, h, pl, kk)) (hk : kk ≠ 0) (h5 : (ps_i s 1131 5).toInt = kk) (h6 : (ps_i s 1131 6).toInt = pl) (h21 : (ps_i s 1131 21).toInt = b) (F : mt_fr b s0 s) : pl_At n 201 44 [(0, .ref 1131)] [] s (ps_rI R) := by
  cases n with
  | zero => exact pl_At_0
  | succ n =>
  refine pl_201_44 ?_
  exact fm_192 (fun z => by omega) (fun _ => ⟨fun _ => fm_201_65b hb k1 k0 g hk h5 h6 h21 F, fun z => absurd rfl z⟩)
theorem fm_201_88 {b : Nat} {s0 : ps_S} {T : Nat → Nat} {N : Nat} {R : Int32 → ps_S → Prop} (hb : b < 2) (k1 : ∀ v s', mt_ok b T N s0 s' v → R v s') (k0 : ∀ v s', mt_bad b T N s0 s' v → R v s') {h : tx_H} {p : Nat} (g : gt_go (tx_ln T N) (0, (([], []), []), 0, 0) (3, h, p, 0)) : ∀ (n : Nat) {s : ps_S} {x1 : Int32} {i : Nat}, x1.toInt = i → i ≤ 3 → mv_H s (1 - b) h → (ps_i s 1131 21).toInt = (1 - b : Nat) → mv_G s → mt_fr b s0 s → ((ps_i s 1131 47).toInt = 0 ∧ (ps_i s 1131 48).toInt = -1 ∧ (ps_i s 1131 49).toInt = -1 ∧ (ps_i s 1131 54).toInt = 0 ∧ ps_a s 1134 25748 = 0 ∧ ps_a s 1134 25789 = 0 ∧ ∀ j, j < i → ps_a s 1176 j = -1) → pl_At n 201 88 [(0, .ref 1131), (1, .int x1)] [] s (ps_rI R)
  | 0, _, _, _, _, _, _, _, _, _, _ => pl_At_0
  | n + 1, s, x1, i, hx, hi, H, h21, hG, F, ⟨c1, c2, c3, c4, c5, c6, c7⟩ => by
    refine pl_201_88 ?_
    refine ⟨fun h90 => ?_, fun h90 => ?_⟩
    · have h90 : (3 : Int) ≤ x1.toInt := xle h90
      intro b114
      obtain ⟨b114, c114⟩ := pl_in b114
      rw [xtn h21]
      exact k1 _ _ ⟨h, p, g, H.2.1, H, h21, hG, F, c1, c2, c3, c4, c5, c6, fun j hj => c7 j (by omega)⟩
    · have h90 : x1.toInt < (3 : Int) := xlt h90
      intro b99
      obtain ⟨b99, c99⟩ := pl_in b99
      rw [xtn hx]
      have K : kq [1176] [] s (ps_ua s 1176 i (-1)) := kqa kq_refl rfl
      refine fm_201_88 hb k1 k0 g n (xj1 hx (by omega)) (by omega) (mv_H_kq H K (by decide)) h21 hG ⟨kqt F.1 K (by decide) (by decide), fun hb' z => mv_H_kq (F.2.1 hb' z) K (by decide), F.2.2⟩ ⟨c1, c2, c3, c4, c5, c6, fun j hj => ?_⟩
      rw [ps_a_ua]
      by_cases e : j = i
      · rw [if_pos ⟨rfl, e⟩]
      · rw [if_neg (fun z => e z.2)]
        exact c7 j (by omega)
theorem fm_201_65 {b : Nat} {s0 : ps_S} {T : Nat → Nat} {N : Nat} {R : Int32 → ps_S → Prop} (hb : b < 2) (k1 : ∀ v s', mt_ok b T N s0 s' v → R v s') (k0 : ∀ v s', mt_bad b T N s0 s' v → R v s') {n : Nat} {s : ps_S} {h : tx_H} {p : Nat} (g : gt_go (tx_ln T N) (0, (([], []), []), 0, 0) (3, h, p, 0)) (L : mv_L s (1 - b) T N h p) (F : mt_fr b s0 s) : pl_At n 201 65 [(0, .ref 1131)] [] s (ps_rI R) := by
  cases n with
  | zero => exact pl_At_0
  | succ n =>
  obtain ⟨hrb, h22, hT, hH, hp, hK, h23, hG⟩ := id L
  refine pl_201_65 ?_
  refine fm_192 (fun _ => ⟨fun _ => ?_, fun z => absurd z (by decide)⟩) (fun z => absurd hG.1 z)
  refine fm_202 ?_
  have K1 : kq [] [21, 47, 48, 49, 54] s (ps_ui (ps_ui (ps_ui (ps_ui (ps_ui s 1131 21 (ps_i s 1131 22)) 1131 47 0) 1131 48 (-1)) 1131 49 (-1)) 1131 54 0) := kqi (kqi (kqi (kqi (kqi kq_refl rfl) rfl) rfl) rfl) rfl
  generalize hq : (ps_ui (ps_ui (ps_ui (ps_ui (ps_ui s 1131 21 (ps_i s 1131 22)) 1131 47 0) 1131 48 (-1)) 1131 49 (-1)) 1131 54 0) = s1 at K1 ⊢
  have K2 : kq [1134] [] s1 (ps_ua (ps_ua s1 1134 25748 0) 1134 25789 0) := kqa (kqa kq_refl rfl) rfl
  have P2 : ∀ i, i < 25748 → ps_a (ps_ua (ps_ua s1 1134 25748 0) 1134 25789 0) 1134 i = ps_a s1 1134 i := fun i hi => by rw [ps_a_ua, if_neg (by omega), ps_a_ua, if_neg (by omega)]
  have HH : ∀ (c : Nat) (h' : tx_H), c < 2 → mv_H s1 c h' → mv_H (ps_ua (ps_ua s1 1134 25748 0) 1134 25789 0) c h' := fun c h' hc H => by
    obtain ⟨f1, f2, f3, f4⟩ := H
    refine ⟨mv_E_kq f1 K2 (by decide), by rw [kq_a K2 1137 (by decide)]; exact f2, f3, fun k w l hk => ?_⟩
    obtain ⟨y1, y2, y3, y4, y5⟩ := f4 k w l hk
    have hl := (List.getElem?_eq_some_iff.mp hk).1
    refine ⟨y1, y2, by rw [P2 _ (by omega)]; exact y3, y4, fun q c hq => ?_⟩
    have hq2 := (List.getElem?_eq_some_iff.mp hq).1
    rw [P2 _ (by omega)]
    exact y5 q c hq
  refine fm_201_88 hb k1 k0 g n (i := 0) rfl (Nat.zero_le _) (HH _ _ hrb (mv_H_kq hH K1 (by decide))) (by rw [kq_i K2 21 (by decide), ← hq]; exact h22) (mv_G_kq (mv_G_kq hG K1 (by decide) (by decide)) K2 (by decide) (by decide)) ⟨kqt (kqt F.1 K1 (by decide) (by decide)) K2 (by decide) (by decide), fun hb' z => HH b hb' hb (mv_H_kq (F.2.1 hb' z) K1 (by decide)), by rw [kq_i K2 3 (by decide), kq_i K1 3 (by decide)]; exact F.2.2⟩ ⟨?_, ?_, ?_, ?_, ?_, ?_, fun j hj => absurd hj (Nat.not_lt_zero _)⟩
  · rw [kq_i K2 47 (by decide), ← hq]; rfl
  · rw [kq_i K2 48 (by decide), ← hq]; rfl
  · rw [kq_i K2 49 (by decide), ← hq]; rfl
  · rw [kq_i K2 54 (by decide), ← hq]; rfl
  · rw [ps_a_ua, if_neg (by decide), ps_a_ua, if_pos ⟨rfl, rfl⟩]
  · rw [ps_a_ua, if_pos ⟨rfl, rfl⟩]
theorem fm_201_44 {b : Nat} {s0 : ps_S} {T : Nat → Nat} {N : Nat} {R : Int32 → ps_S → Prop} (hb : b < 2) (k1 : ∀ v s', mt_ok b T N s0 s' v → R v s') (k0 : ∀ v s', mt_bad b T N s0 s' v → R v s') : ∀ (n : Nat) {s : ps_S} {h : tx_H} {p : Nat}, gt_go (tx_ln T N) (0, (([], []), []), 0, 0) (0, h, p, 0) → mv_L s (1 - b) T N h p → (ps_i s 1131 21).toInt = b → mt_fr b s0 s → pl_At n 201 44 [(0, .ref 1131)] [] s (ps_rI R)
  | 0, _, _, _, _, _, _, _ => pl_At_0
  | n + 1, s, h, p, g, L, h21, F => by
    obtain ⟨hrb, h22, hT, hH, hp, hK, h23, hG⟩ := id L
    have h9 := hK.1
    have hne : b ≠ 1 - b := by omega
    refine pl_201_44 ?_
    refine fm_192 (fun q45 => ?_) (fun q45 => ?_)
    · refine ⟨fun h48 => ?_, fun h48 => ?_⟩
      · exact absurd h48 (by decide)
      · refine ⟨fun h55 => ?_, fun h55 => ?_⟩
        · have h55 : (ps_i s 1131 9).toInt = (0 : Int) := xeq h55
          exact fm_201_65 hb k1 k0 (gt_trans g (gt_one (tx_l_end (by omega)))) L F
        · have h55 : (ps_i s 1131 9).toInt ≠ (0 : Int) := xne h55
          refine fm_204u L (by omega) (fun s59 q59 => ?_)
          rcases q59 with ⟨h2, p2, e, L2, B⟩ | ⟨h2, pl, kk, e, e1, e2, e3, B⟩
          · exact fm_201_44 hb k1 k0 n (gt_trans g (gt_one e)) L2 (by rw [kq_i B.1 21 (by decide)]; exact h21) (mt_fr_bk hrb hb hne F B)
          · exact fm_201_44b hb k1 k0 (gt_trans g (gt_one e)) e1 e2 e3 (by rw [kq_i B.1 21 (by decide)]; exact h21) (mt_fr_bk hrb hb hne F B)
    · refine ⟨fun h48 => ?_, fun h48 => ?_⟩
      · exact absurd hG.1 q45
      · exact absurd h48 (by decide)
theorem fm_201 {n b : Nat} {s : ps_S} {T : Nat → Nat} {N : Nat} {R : Int32 → ps_S → Prop} (hb : b < 2) (h21 : (ps_i s 1131 21).toInt = b) (h3 : (ps_i s 1131 3).toInt = N) (hN : N ≤ 1600) (hT : ∀ k, k < N → (ps_a s 1132 k &&& 255).toInt = T k) (k1 : ∀ v s', mt_ok b T N s s' v → R v s') (k0 : ∀ v s', mt_bad b T N s s' v → R v s') : pl_Cl n 201 [.ref 1131] s (ps_rI R) := by
  cases n with
  | zero => exact pl_At_0
  | succ n =>
  show pl_At (n + 1) 201 0 [(0, .ref 1131)] [] s (ps_rI R)
  refine pl_201_0 ?_
  refine fm_198 h21 h3 hN hT (fun s1 q1 => ?_)
  intro b23
  obtain ⟨b23, c23⟩ := pl_in b23
  intro b33
  obtain ⟨b33, c33⟩ := pl_in b33
  intro b43
  obtain ⟨b43, c43⟩ := pl_in b43
  have c1 : (1 : Int32).toInt = 1 := by decide
  obtain ⟨K1, t1, t2, t3, t4, t5, t6⟩ := q1
  have j21 : (ps_i s1 1131 21).toInt = b := by rw [kq_i K1 21 (by decide)]; exact h21
  have e22 : ((1 : Int32) - (ps_i s1 1131 21)).toInt = (1 - b : Nat) := by rw [xIs (by omega) (by omega)]; omega
  show pl_At _ 201 44 [(0, .ref 1131)] [] (ps_ua (ps_ua (ps_ua (ps_ui s1 1131 22 ((1 : Int32) - (ps_i s1 1131 21))) 1135 (Int32.toNatClampNeg ((1 : Int32) - (ps_i s1 1131 21))) 0) 1136 (Int32.toNatClampNeg ((1 : Int32) - (ps_i s1 1131 21))) 0) 1137 (Int32.toNatClampNeg ((1 : Int32) - (ps_i s1 1131 21))) 0) _
  rw [xtn e22]
  generalize ((1 : Int32) - (ps_i s1 1131 21)) = v22 at e22 ⊢
  have K2 : kq [] [22] s1 (ps_ui s1 1131 22 v22) := kqi kq_refl rfl
  have B2 : mv_bk (1 - b) (ps_ui s1 1131 22 v22) (ps_ua (ps_ua (ps_ua (ps_ui s1 1131 22 v22) 1135 (1 - b) 0) 1136 (1 - b) 0) 1137 (1 - b) 0) := mv_bk_tr (mv_bk_tr (mv_bk_a (Or.inl ⟨rfl, rfl⟩)) (mv_bk_a (Or.inr (Or.inl ⟨rfl, rfl⟩)))) (mv_bk_a (Or.inr (Or.inr (Or.inl ⟨rfl, rfl⟩))))
  have F1 : mt_fr b s (ps_ui s1 1131 22 v22) := ⟨kqt (kqt kq_refl K1 (by decide) (by decide)) K2 (by decide) (by decide), fun hb' z => mv_H_kq (mv_H_kq z K1 (by decide)) K2 (by decide), t6⟩
  have K3 : kq [1135, 1136, 1137] [] (ps_ui s1 1131 22 v22) (ps_ua (ps_ua (ps_ua (ps_ui s1 1131 22 v22) 1135 (1 - b) 0) 1136 (1 - b) 0) 1137 (1 - b) 0) := kqa (kqa (kqa kq_refl rfl) rfl) rfl
  have K4 := kqt (A := [1135, 1136, 1137]) (F := [22]) (kqt kq_refl K2 (by decide) (by decide)) K3 (by decide) (by decide)
  exact fm_201_44 hb k1 k0 n gt_refl ⟨by omega, e22, mv_T_kq t1 K4 (by decide) (by decide), mv_H_nil, Nat.zero_le _, mv_K_kq t2 K4 (by decide), t4, mv_G_kq t3 K4 (by decide) (by decide)⟩ j21 (mt_fr_bk (by omega) hb (by omega) F1 B2)

