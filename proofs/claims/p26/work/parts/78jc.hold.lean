set_option maxRecDepth 100000
/-! the class: which models are good, kept by bits; free things; hold(), counter() -/
-- ProofBench.holds(II)I
theorem pl_174_0 {n : Nat} {x1 : Int32} {x2 : Int32} {s : ps_S} {Q : Option Value → ps_S → Prop} (h :
  pl_Cl n 181 [.int x1] s (ps_rI (fun v1 s1 =>
    (v1 = 0 →
      Q (some (.int (-1))) s1) ∧
    (v1 ≠ 0 →
      (x2 < 0 →
        Q (some (.int (-1))) s1) ∧
      (0 ≤ x2 →
        ((ps_i s1 934 1) ≠ 0 →
          pl_Cl n 4 [.ref 944, .ref (ps_r s1 0 2), .ref 934, .int x1, .int x2] s1 (ps_rI (fun v2 s2 =>
            Q (some (.int v2)) s2))) ∧
        ((ps_i s1 934 1) = 0 →
          Q (some (.int (-1))) s1)))))) : pl_At (n + 1) 174 0 [(0, .ref 0), (1, .int x1), (2, .int x2)] [] s Q :=
  pl_wp_at (stops := []) (f := 27) h rfl

-- ProofBench$Judge.holdsIn(LProofBench$Theory;LProofBench$Row;II)I
theorem pl_4_0 {n : Nat} {r1 : Nat} {r2 : Nat} {x3 : Int32} {x4 : Int32} {s : ps_S} {Q : Option Value → ps_S → Prop} (h :
  pl_Cl n 6 [.ref 944, .ref r1, .int x3] s (ps_rJ (fun v1 s1 =>
    ((lg_cmp (Int32.toInt64 x4) v1) < 0 →
      pl_Cl n 13 [.ref 944, .ref r2] s1 (ps_rV (fun s2 =>
        (0 < (lg_cmp v1 (4096 : Int64)) →
          Q (some (.int (-2))) s2) ∧
        ((lg_cmp v1 (4096 : Int64)) ≤ 0 →
          ((ps_i s2 944 10) ≤ 4 →
            pl_Cl n 103 [.ref 950, .ref r2, .ref (ps_r s2 944 16)] s2 (ps_rV (fun s3 =>
              pl_Cl n 8 [.ref 944, .int x4] s3 (ps_rV (fun s4 =>
                pl_Cl n 14 [.ref 944, .ref r2] s4 (ps_rI (fun v5 s5 =>
                  (v5 = 0 →
                    Q (some (.int 0)) s5) ∧
                  (v5 ≠ 0 →
                    Q (some (.int 1)) s5)))))))) ∧
          (4 < (ps_i s2 944 10) →
            Q (some (.int (-2))) s2))))) ∧
    (0 ≤ (lg_cmp (Int32.toInt64 x4) v1) →
      Q (some (.int (-1))) s1)))) : pl_At (n + 1) 4 0 [(0, .ref 944), (1, .ref r1), (2, .ref r2), (3, .int x3), (4, .int x4)] [] s Q :=
  pl_wp_at (stops := []) (f := 47) h rfl

/-- a long's bits -/
def tb (x : Int64) (i : Nat) : Bool := x.toBitVec.getLsbD i
theorem tb_one : ∀ i, i < 64 → ((1 : Int64) <<< (Int64.ofNat i &&& 63)).toBitVec = BitVec.twoPow 64 i := by decide +kernel
theorem tb_z {x b : Int64} {i : Nat} (hi : i < 64) (hb : b.toBitVec = BitVec.twoPow 64 i) : (x &&& b) = 0 ↔ tb x i = false := by
  constructor
  · intro h
    have h2 := congrArg (fun z : Int64 => z.toBitVec.getLsbD i) h
    (try dsimp only at h2)
    rw [Int64.toBitVec_and, hb, BitVec.getLsbD_and, BitVec.getLsbD_twoPow] at h2
    unfold tb
    simpa [hi] using h2
  · intro h
    apply Int64.toBitVec_inj.mp
    rw [Int64.toBitVec_and, hb]
    apply BitVec.eq_of_getLsbD_eq
    intro j hj
    rw [BitVec.getLsbD_and, BitVec.getLsbD_twoPow]
    unfold tb at h
    by_cases e : i = j
    · rw [← e, h]
      simp
    · simp [e]
theorem tb_or {x b : Int64} {i j : Nat} (hi : i < 64) (hb : b.toBitVec = BitVec.twoPow 64 i) : tb (x ||| b) j = (tb x j || decide (i = j)) := by
  unfold tb
  rw [Int64.toBitVec_or, BitVec.getLsbD_or, hb, BitVec.getLsbD_twoPow]
  simp [hi]
theorem tb_no {x b : Int64} {i j : Nat} (hi : i < 64) (hj : j < 64) (hb : b.toBitVec = BitVec.twoPow 64 i) : tb (x &&& (b ^^^ (-1 : Int64))) j = (tb x j && !decide (i = j)) := by
  unfold tb
  have e : (-1 : Int64).toBitVec = BitVec.allOnes 64 := by decide
  rw [Int64.toBitVec_and, Int64.toBitVec_xor, e, BitVec.getLsbD_and, BitVec.getLsbD_xor, hb, BitVec.getLsbD_twoPow, BitVec.getLsbD_allOnes]
  simp [hi, hj]
/-- where a model's bit stands -/
def bx (m M : Nat) : Nat := 64 * (m - 1) + M / 64
/-- what is kept is right -/
def JG (s : ps_S) (h : tx_H) : Prop := ∀ m M, 1 ≤ m → m ≤ 3 → M < 4096 → tb (ps_b s 957 (bx m M)) (M % 64) = true → (tb (ps_b s 958 (bx m M)) (M % 64) = true ↔ AX h m M)
theorem JG_cfr {C : Nat → Prop} {s s' : ps_S} {h : tx_H} (H : JG s h) (F : cfr C s s') (h7 : ¬ C 957) (h8 : ¬ C 958) : JG s' h := by
  unfold JG
  rw [(F 957 h7).2.2.2.2, (F 958 h8).2.2.2.2]
  exact H
def CIg (q : Nat) : Prop := q = 944 ∨ q = 946 ∨ q = 954 ∨ q = 957 ∨ q = 958
theorem bx_inj {m M m' M' : Nat} (h1 : 1 ≤ m) (h2 : m ≤ 3) (h3 : M < 4096) (h1' : 1 ≤ m') (h2' : m' ≤ 3) (h3' : M' < 4096) (e : bx m' M' = bx m M) (e2 : M' % 64 = M % 64) : m' = m ∧ M' = M := by
  unfold bx at e
  omega
theorem fs_11_106 {n a i : Nat} {x2 : Int32} {b : Int64} {s : ps_S} {R : Int32 → ps_S → Prop} (hx : x2.toInt = a) (hi : i < 64) (hb : b.toBitVec = BitVec.twoPow 64 i) (k1 : tb (ps_b s 958 a) i = true → R 1 s) (k0 : tb (ps_b s 958 a) i = false → R 0 s) : pl_At n 11 106 [(0, .ref 944), (2, .int x2), (3, .long b)] [] s (ps_rI R) := by
  cases n with
  | zero => exact pl_At_0
  | succ n =>
  refine pl_11_106 ?_
  intro _
  rw [xtn hx]
  refine ⟨fun z => k0 ((tb_z hi hb).mp (lg_z z)), fun z => k1 ?_⟩
  have z2 := lg_nz z
  cases e : tb (ps_b s 958 a) i with
  | true => rfl
  | false => exact absurd ((tb_z hi hb).mpr e) z2
theorem fs_11 {n th m M : Nat} {h : tx_H} {x1 : Int32} {s : ps_S} {R : Int32 → ps_S → Prop} (hth : th = 2 ∨ th = 26) (hm : 1 ≤ m ∧ m ≤ 3) (hw : WFt h) (hb : BTh h) (hM : M < 4096) (hx : x1.toInt = M) (J : JA s th m h) (G : JG s h) (k1 : ∀ s', AX h m M ∧ JA s' th m h ∧ JG s' h ∧ cfr CIg s s' ∧ ps_i s' 944 = ps_i s 944 → R 1 s') (k0 : ∀ s', ¬ AX h m M ∧ JA s' th m h ∧ JG s' h ∧ cfr CIg s s' ∧ ps_i s' 944 = ps_i s 944 → R 0 s') : pl_Cl n 11 [.ref 944, .int x1] s (ps_rI R) := by
  cases n with
  | zero => exact pl_At_0
  | succ n =>
  show pl_At (n + 1) 11 0 [(0, .ref 944), (1, .int x1)] [] s (ps_rI R)
  have e11 : (ps_i s 944 11).toInt = m := J.2.1.2.1
  have c0 : (0 : Int32).toInt = 0 := by decide
  have c1 : (1 : Int32).toInt = 1 := by decide
  have c64 : (64 : Int32).toInt = 64 := by decide
  have c192 : (nI 192).toInt = 192 := by decide
  have ea1 : ((ps_i s 944 11) - 1).toInt = (m : Int) - 1 := by rw [xIs (by omega) (by omega), e11, c1]
  have ea2 : (((ps_i s 944 11) - 1) * 64).toInt = 64 * ((m : Int) - 1) := by
    have ec : ((ps_i s 944 11) - 1).toInt * (64 : Int32).toInt = 64 * ((m : Int) - 1) := by rw [ea1, c64]; omega
    rw [xIm (by rw [ec]; omega) (by rw [ec]; omega), ec]
  have ea3 : (x1 / 64).toInt = (M / 64 : Nat) := by rw [xdivr (by omega) (by omega), hx, c64]; omega
  have ea : ((((ps_i s 944 11) - 1) * 64) + (x1 / 64)).toInt = (bx m M : Nat) := by
    unfold bx
    rw [xIa (by omega) (by omega), ea2, ea3]
    omega
  have em : (x1 - (x1 / 64) * 64).toInt = (M % 64 : Nat) := by rw [xmodr (by omega) (by omega), hx, c64]; omega
  have hbx : bx m M < 192 := by unfold bx; omega
  have hi : M % 64 < 64 := Nat.mod_lt _ (by decide)
  have ebit : ((1 : Int64) <<< (Int32.toInt64 (x1 - (x1 / 64) * 64) &&& 63)).toBitVec = BitVec.twoPow 64 (M % 64) := by rw [xon em]; exact tb_one _ hi
  refine pl_11_0 ?_
  generalize ((((ps_i s 944 11) - 1) * 64) + (x1 / 64)) = A at ea ⊢
  generalize ((1 : Int64) <<< (Int32.toInt64 (x1 - (x1 / 64) * 64) &&& 63)) = bt at ebit ⊢
  refine ⟨fun z => absurd (xlt z) (by omega), fun _ => ⟨fun z => absurd (xle z) (by omega), fun _ => ⟨fun _ => ?_, fun z => absurd (xle z) (by omega)⟩⟩⟩
  intro _
  rw [xtn ea]
  refine ⟨fun z => ?_, fun z => ?_⟩
  · have z2 := lg_nz z
    have hk : tb (ps_b s 957 (bx m M)) (M % 64) = true := by
      cases e : tb (ps_b s 957 (bx m M)) (M % 64) with
      | true => rfl
      | false => exact absurd ((tb_z hi ebit).mpr e) z2
    have hG := G m M hm.1 hm.2 hM hk
    exact fs_11_106 ea hi ebit (fun y => k1 _ ⟨hG.mp y, J, G, cfr_refl, rfl⟩) (fun y => k0 _ ⟨(fun a => by rw [hG.mpr a] at y; cases y), J, G, cfr_refl, rfl⟩)
  · intro _ _
    have F1 : cfr (fun q => q = 957) s (ps_ub s 957 (bx m M) ((ps_b s 957 (bx m M)) ||| bt)) := cfr_b cfr_refl rfl
    have J1 := JA_cfr J F1 hth (fun q a b => by omega) rfl rfl rfl
    have fin : ∀ (s1 : ps_S) (v : Int64) (P : Prop), cfr CEv (ps_ub s 957 (bx m M) ((ps_b s 957 (bx m M)) ||| bt)) s1 → ps_i s1 944 = ps_i s 944 → JA s1 th m h → (∀ j, j < 64 → j ≠ M % 64 → tb v j = tb (ps_b s1 958 (bx m M)) j) → (tb v (M % 64) = true ↔ AX h m M) → pl_At n 11 106 [(0, .ref 944), (2, .int A), (3, .long bt)] [] (ps_ub s1 958 (bx m M) v) (ps_rI R) := fun s1 v P F2 Fi2 J2 hv1 hv2 => by
      have F3 : cfr (fun q => q = 958) s1 (ps_ub s1 958 (bx m M) v) := cfr_b cfr_refl rfl
      have J3 := JA_cfr J2 F3 hth (fun q a b => by omega) rfl rfl rfl
      have F4 : cfr CIg s (ps_ub s1 958 (bx m M) v) := cfr_tr (cfr_mono F1 (fun q z => by unfold CIg; omega)) (cfr_tr (cfr_mono F2 (fun q z => by unfold CEv at z; unfold CIg; omega)) (cfr_mono F3 (fun q z => by unfold CIg; omega)))
      have G3 : JG (ps_ub s1 958 (bx m M) v) h := fun m' M' a1 a2 a3 a4 => by
        have e7 : ps_b (ps_ub s1 958 (bx m M) v) 957 = ps_b (ps_ub s 957 (bx m M) ((ps_b s 957 (bx m M)) ||| bt)) 957 := by
          rw [← (F2 957 (by unfold CEv; omega)).2.2.2.2]
          funext q
          rw [ps_b_ub, if_neg (by omega)]
        have e8 : ps_b s1 958 = ps_b s 958 := by
          rw [(F2 958 (by unfold CEv; omega)).2.2.2.2]
          funext q
          rw [ps_b_ub, if_neg (by omega)]
        rw [e7, ps_b_ub] at a4
        rw [ps_b_ub]
        by_cases e : bx m' M' = bx m M
        · rw [if_pos ⟨rfl, e⟩] at a4 ⊢
          by_cases e2 : M' % 64 = M % 64
          · obtain ⟨rfl, rfl⟩ := bx_inj hm.1 hm.2 hM a1 a2 a3 e e2
            exact hv2
          · rw [tb_or hi ebit, decide_eq_false (fun y => e2 y.symm), Bool.or_false, ← e] at a4
            rw [hv1 _ (Nat.mod_lt _ (by decide)) e2, e8, ← e]
            exact G m' M' a1 a2 a3 a4
        · rw [if_neg (fun y => e y.2)] at a4 ⊢
          rw [e8]
          exact G m' M' a1 a2 a3 a4
      refine fs_11_106 ea hi ebit (fun y => k1 _ ⟨hv2.mp ?_, J3, G3, F4, Fi2⟩) (fun y => k0 _ ⟨fun a => ?_, J3, G3, F4, Fi2⟩)
      · rw [ps_b_ub, if_pos ⟨rfl, rfl⟩] at y
        exact y
      · rw [ps_b_ub, if_pos ⟨rfl, rfl⟩, hv2.mpr a] at y
        cases y
    refine fs_12 hth hm hw hb (by omega) hx J1 (fun s1 q => ⟨fun y => absurd y (by decide), fun _ => ?_⟩) (fun s1 q => ⟨fun _ => ?_, fun y => absurd rfl y⟩)
    · obtain ⟨q1, q2, q3, q4⟩ := q
      intro _ _
      refine fin s1 _ True q3 q4 q2 (fun j hj hne => ?_) ?_
      · rw [tb_or hi ebit, decide_eq_false (fun y => hne y.symm), Bool.or_false]
      · rw [tb_or hi ebit, decide_eq_true rfl, Bool.or_true]
        exact ⟨fun _ => q1, fun _ => rfl⟩
    · obtain ⟨q1, q2, q3, q4⟩ := q
      intro _ _
      refine fin s1 _ True q3 q4 q2 (fun j hj hne => ?_) ?_
      · rw [tb_no hi hj ebit, decide_eq_false (fun y => hne y.symm), Bool.not_false, Bool.and_true]
      · rw [tb_no hi hi ebit, decide_eq_true rfl, Bool.not_true, Bool.and_false]
        exact ⟨(fun y => by cases y), fun y => absurd y q1⟩
/-- hold()'s answer -/
def HO_A (h : tx_H) (x v : Int32) : Prop := (¬ (1 ≤ x.toInt ∧ x.toInt ≤ 3) ∧ v.toInt = -1) ∨ ((1 ≤ x.toInt ∧ x.toInt ≤ 3) ∧ ((4096 < md_p (md_B x.toInt.toNat (md_sy x.toInt.toNat h.1)) ∧ v.toInt = -2) ∨ (md_p (md_B x.toInt.toNat (md_sy x.toInt.toNat h.1)) ≤ 4096 ∧ v.toInt = lt_n (AX h x.toInt.toNat) (md_p (md_B x.toInt.toNat (md_sy x.toInt.toNat h.1))))))
theorem HO_A_eq {h : tx_H} {x v v' : Int32} (a : HO_A h x v) (b : HO_A h x v') : v = v' := by
  apply Int32.toInt_inj.mp
  rcases a with ⟨a1, a2⟩ | ⟨a1, ⟨a2, a3⟩ | ⟨a2, a3⟩⟩ <;> rcases b with ⟨b1, b2⟩ | ⟨b1, ⟨b2, b3⟩ | ⟨b2, b3⟩⟩ <;> omega
theorem fs_3_17 {th m p : Nat} {h : tx_H} {x3 : Int32} {R : Int32 → ps_S → Prop} (hth : th = 2 ∨ th = 26) (hm : 1 ≤ m ∧ m ≤ 3) (hw : WFt h) (hb : BTh h) (hv : x3.toInt = md_v p) (hn2 : ∀ v : Int32, ∀ s', ((4096 < p ∧ v.toInt = -2) ∨ (p ≤ 4096 ∧ v.toInt = lt_n (AX h m) p)) → JG s' h → R v s') : ∀ (n : Nat) {s : ps_S} {x4 x5 : Int32} {i : Nat}, x5.toInt = i → (i = 0 ∨ (i : Int) ≤ x3.toInt) → x4.toInt = lt_n (AX h m) i → JA s th m h → JG s h → pl_At n 3 17 [(0, .ref 944), (3, .int x3), (4, .int x4), (5, .int x5)] [] s (ps_rI R)
  | 0, _, _, _, _, _, _, _, _, _ => pl_At_0
  | n + 1, s, x4, x5, i, h5, hi, h4, J, G => by
    have hle := lt_n_le (P := AX h m) (k := i)
    have cm : (-2 : Int32).toInt = -2 := by decide
    have hp : (x3.toInt = -2 ∧ 4096 < p) ∨ (x3.toInt = p ∧ p ≤ 4096) := by
      rw [hv]
      unfold md_v
      by_cases z : p ≤ 4096
      · rw [if_pos z]; exact Or.inr ⟨rfl, z⟩
      · rw [if_neg z]; exact Or.inl ⟨rfl, by omega⟩
    refine pl_3_17 ⟨fun z => ⟨fun y => ?_, fun y => ?_⟩, fun z => ?_⟩
    · have z := xle z
      have y := xne y
      have e : i = p := by omega
      exact hn2 _ _ (Or.inr ⟨by omega, by rw [h4, e]⟩) G
    · have y := xeq y
      exact hn2 _ _ (Or.inl ⟨by omega, by decide⟩) G
    · have z := xlt z
      refine fs_11 hth hm hw hb (M := i) (by omega) h5 J G (fun s1 q => ⟨fun y => absurd y (by decide), fun _ => ?_⟩) (fun s1 q => ⟨fun _ => ?_, fun y => absurd rfl y⟩)
      · refine fs_3_17 hth hm hw hb hv hn2 n (xj1 h5 (by omega)) (Or.inr (by omega)) ?_ q.2.1 q.2.2.1
        rw [lt_n_1 q.1]
        exact xj1 h4 (by omega)
      · refine fs_3_17 hth hm hw hb hv hn2 n (xj1 h5 (by omega)) (Or.inr (by omega)) ?_ q.2.1 q.2.2.1
        rw [lt_n_0 q.1]
        exact h4
theorem fs_173 {n : Nat} {s : ps_S} {h : tx_H} {l : List Nat} {x1 : Int32} (c : TRc s h l) (hw : WFt h) (hb : BTh h) (G : JG s h) : pl_Cl n 173 [.ref 0, .int x1] s (ps_rI (fun v s' => HO_A h x1 v ∧ JG s' h)) := by
  cases n with
  | zero => exact pl_At_0
  | succ n =>
  show pl_At (n + 1) 173 0 [(0, .ref 0), (1, .int x1)] [] s _
  refine pl_173_0 ?_
  have hth : ps_r s 0 2 = 2 ∨ ps_r s 0 2 = 26 := by have := c.2.1; omega
  have h8 := c.1.2.2.1
  refine fs_181 (fun h1 h2 => ⟨fun z => absurd z (by decide), fun _ => ?_⟩) (fun h0 => ⟨fun _ => ⟨Or.inl ⟨h0, by decide⟩, G⟩, fun z => absurd rfl z⟩)
  cases n with
  | zero => exact pl_At_0
  | succ n =>
  show pl_At (n + 1) 3 0 [(0, .ref 944), (1, .ref (ps_r s 0 2)), (2, .int x1)] [] s _
  refine pl_3_0 ?_
  refine fs_2 (m := x1.toInt.toNat) (by omega) hth c.1.1 (by omega) (fun v1 s1 e J F => ?_)
  have H1 := cv_H_cfr c.1 F (fun q a b => by unfold JC; omega)
  refine fs_9 hth H1 hw J.1 (fun s2 F2 M2 => ?_)
  have G2 : JG s2 h := JG_cfr (JG_cfr G F (by unfold JC; omega) (by unfold JC; omega)) F2 (by unfold CMA; omega) (by unfold CMA; omega)
  have J2 : JA s2 (ps_r s 0 2) x1.toInt.toNat h := by
    refine ⟨cv_H_cfr H1 F2 (fun q a b => by unfold CMA; omega), ?_, M2⟩
    obtain ⟨j1, j2, ⟨j3, j3'⟩, j4, j5⟩ := J
    have f := F2 944 (by unfold CMA; omega)
    refine ⟨by rw [f.2.2.1]; exact j1, by rw [f.1]; exact j2, ⟨by rw [f.1]; exact j3, ?_⟩, ?_, ?_⟩
    · unfold ar_L
      rw [(F2 945 (by unfold CMA; omega)).2.2.2.1]
      exact j3'
    · rw [(F2 947 (by unfold CMA; omega)).2.2.2.1]
      exact j4
    · rw [(F2 948 (by unfold CMA; omega)).2.2.2.1]
      exact j5
  exact fs_3_17 hth (by omega) hw hb e (fun v s' a G' => ⟨Or.inr ⟨⟨h1, h2⟩, a⟩, G'⟩) n (i := 0) rfl (Or.inl rfl) rfl J2 G2

