set_option maxRecDepth 100000
/-! the class: theory(), its answer; both sides: feed, what it writes -/
-- ProofBench$Proof.clear()V
theorem pl_31_0 {n : Nat} {r0 : Nat} {s : ps_S} {Q : Option Value → ps_S → Prop} (h :
  pl_nk (ps_is r0 2) (pl_nk (ps_is r0 2) (pl_nk (ps_is r0 2) (Q none (ps_ui (ps_ui (ps_ui s r0 7 0) r0 8 0) r0 9 0))))) : pl_At (n + 1) 31 0 [(0, .ref r0)] [] s Q :=
  pl_wp_at (stops := []) (f := 12) h rfl

-- ProofBench$Shelf.clear()V
theorem pl_108_0 {n : Nat} {r0 : Nat} {s : ps_S} {Q : Option Value → ps_S → Prop} (h :
  pl_nk (ps_is r0 7) (pl_nk (ps_is r0 7) (Q none (ps_ui (ps_ui s r0 5 0) r0 6 0)))) : pl_At (n + 1) 108 0 [(0, .ref r0)] [] s Q :=
  pl_wp_at (stops := []) (f := 9) h rfl

-- ProofBench.boxAt(I)LProofBench$Shelf;
theorem pl_180_0 {n : Nat} {x1 : Int32} {s : ps_S} {Q : Option Value → ps_S → Prop} (h :
  (x1 < 0 →
    Q (some (.ref 870)) s) ∧
  (0 ≤ x1 →
    ((nI 3) ≤ x1 →
      Q (some (.ref 870)) s) ∧
    (x1 < (nI 3) →
      (pm_in x1 3 = true →
        Q (some (.ref (ps_e0 901 (Int32.toNatClampNeg x1)))) s)))) : pl_At (n + 1) 180 0 [(0, .ref 0), (1, .int x1)] [] s Q :=
  pl_wp_at (stops := []) (f := 21) h rfl

-- ProofBench$Rewriter.clear()V
theorem pl_81_0 {n : Nat} {s : ps_S} {Q : Option Value → ps_S → Prop} (h :
  pl_Cl n 91 [.ref 1022] s (ps_rV (fun s1 =>
    Q none s1))) : pl_At (n + 1) 81 0 [(0, .ref 1021)] [] s Q :=
  pl_wp_at (stops := []) (f := 6) h rfl

-- ProofBench$Judge.forget()V
theorem pl_1_0 {n : Nat} {s : ps_S} {Q : Option Value → ps_S → Prop} (h :
  pl_At n 1 2 [(0, .ref 944), (1, .int 0)] [] s Q) : pl_At (n + 1) 1 0 [(0, .ref 944)] [] s Q :=
  pl_wp_at (stops := [(2, [0, 1])]) (f := 4) h rfl

theorem pl_1_2 {n : Nat} {x1 : Int32} {s : ps_S} {Q : Option Value → ps_S → Prop} (h :
  ((nI 192) ≤ x1 →
    Q none s) ∧
  (x1 < (nI 192) →
    (pm_in x1 192 = true →
      pl_At n 1 2 [(0, .ref 944), (1, .int (x1 + 1))] [] (ps_ub s 957 (Int32.toNatClampNeg x1) 0) Q))) : pl_At (n + 1) 1 2 [(0, .ref 944), (1, .int x1)] [] s Q :=
  pl_wp_at (stops := [(2, [0, 1])]) (f := 15) h rfl

-- ProofBench.theory()I
theorem pl_151_0 {n : Nat} {s : ps_S} {Q : Option Value → ps_S → Prop} (h :
  pl_Cl n 58 [.ref 902, .ref 1, .int (ps_i s 0 1), .ref (ps_r s 0 3)] s (ps_rI (fun v1 s1 =>
    (v1 ≠ 0 →
      pl_Cl n 31 [.ref (ps_r (ps_ur (ps_ur (ps_ui s1 0 1 0) 0 2 (ps_r (ps_ui s1 0 1 0) 0 3)) 0 3 (ps_r (ps_ui s1 0 1 0) 0 2)) 0 4)] (ps_ur (ps_ur (ps_ui s1 0 1 0) 0 2 (ps_r (ps_ui s1 0 1 0) 0 3)) 0 3 (ps_r (ps_ui s1 0 1 0) 0 2)) (ps_rV (fun s2 =>
        pl_Cl n 108 [.ref 870] s2 (ps_rV (fun s3 =>
          pl_At n 151 65 [(0, .ref 0), (3, .int 0)] [] s3 Q))))) ∧
    (v1 = 0 →
      Q (some (.int (-1))) (ps_ui s1 0 1 0))))) : pl_At (n + 1) 151 0 [(0, .ref 0)] [] s Q :=
  pl_wp_at (stops := [(65, [0, 3])]) (f := 37) h rfl

theorem pl_151_65 {n : Nat} {x3 : Int32} {s : ps_S} {Q : Option Value → ps_S → Prop} (h :
  ((nI 3) ≤ x3 →
    pl_Cl n 91 [.ref 934] s (ps_rV (fun s1 =>
      pl_Cl n 81 [.ref 1021] s1 (ps_rV (fun s2 =>
        pl_Cl n 1 [.ref 944] s2 (ps_rV (fun s3 =>
          pl_nk (ps_is (ps_r s3 0 2) 9) (Q (some (.int (ps_i s3 (ps_r s3 0 2) 8))) s3)))))))) ∧
  (x3 < (nI 3) →
    pl_Cl n 180 [.ref 0, .int x3] s (ps_rA (fun v4 s4 =>
      pl_Cl n 108 [.ref v4] s4 (ps_rV (fun s5 =>
        pl_At n 151 65 [(0, .ref 0), (3, .int (x3 + 1))] [] s5 Q)))))) : pl_At (n + 1) 151 65 [(0, .ref 0), (3, .int x3)] [] s Q :=
  pl_wp_at (stops := [(65, [0, 3])]) (f := 26) h rfl

def kt (th : Nat) (s s' : ps_S) : Prop := ps_r s' 0 2 = ps_r s 0 2 ∧ ps_i s' th 8 = ps_i s th 8
theorem kt_refl {th : Nat} {s : ps_S} : kt th s s := ⟨rfl, rfl⟩
theorem kt_tr {th : Nat} {s s1 s2 : ps_S} (h : kt th s s1) (g : kt th s1 s2) : kt th s s2 := ⟨g.1.trans h.1, g.2.trans h.2⟩
theorem kt_i {th r c q : Nat} {v : Int32} {s s' : ps_S} (hth : th = 2 ∨ th = 26) (h : ps_is r c = true) (hc : c ≠ 9) (K : kt th s s') : kt th s (ps_ui s' r q v) := by
  have hr : r ≠ th := fun z => by
    subst z
    rcases hth with rfl | rfl
    · exact hc (xis_c h (show ps_is 2 9 = true from rfl))
    · exact hc (xis_c h (show ps_is 26 9 = true from rfl))
  refine ⟨K.1, ?_⟩
  rw [ps_i_ui, if_neg (fun z => hr z.1.symm)]
  exact K.2
theorem fs_31 {n th r : Nat} {s : ps_S} {R : ps_S → Prop} (hth : th = 2 ∨ th = 26) (k : ∀ s', kt th s s' → R s') : pl_Cl n 31 [.ref r] s (ps_rV R) := by
  cases n with
  | zero => exact pl_At_0
  | succ n =>
  show pl_At (n + 1) 31 0 [(0, .ref r)] [] s (ps_rV R)
  refine pl_31_0 ?_
  refine pl_nk_i (fun nk2 => ?_)
  refine pl_nk_i (fun nk7 => ?_)
  refine pl_nk_i (fun nk12 => ?_)
  exact k _ (kt_i hth nk2 (by decide) (kt_i hth nk2 (by decide) (kt_i hth nk2 (by decide) kt_refl)))
theorem fs_108 {n th r : Nat} {s : ps_S} {R : ps_S → Prop} (hth : th = 2 ∨ th = 26) (k : ∀ s', kt th s s' → R s') : pl_Cl n 108 [.ref r] s (ps_rV R) := by
  cases n with
  | zero => exact pl_At_0
  | succ n =>
  show pl_At (n + 1) 108 0 [(0, .ref r)] [] s (ps_rV R)
  refine pl_108_0 ?_
  refine pl_nk_i (fun nk2 => ?_)
  refine pl_nk_i (fun nk7 => ?_)
  exact k _ (kt_i hth nk2 (by decide) (kt_i hth nk2 (by decide) kt_refl))
theorem fs_180 {n : Nat} {x1 : Int32} {s : ps_S} {R : Nat → ps_S → Prop} (k : ∀ v, R v s) : pl_Cl n 180 [.ref 0, .int x1] s (ps_rA R) := by
  cases n with
  | zero => exact pl_At_0
  | succ n =>
  show pl_At (n + 1) 180 0 [(0, .ref 0), (1, .int x1)] [] s (ps_rA R)
  refine pl_180_0 ?_
  refine ⟨fun h1 => ?_, fun h1 => ?_⟩
  · have h1 : x1.toInt < (0 : Int) := xlt h1
    exact k _
  · have h1 : (0 : Int) ≤ x1.toInt := xle h1
    refine ⟨fun h10 => ?_, fun h10 => ?_⟩
    · have h10 : (3 : Int) ≤ x1.toInt := xle h10
      exact k _
    · have h10 : x1.toInt < (3 : Int) := xlt h10
      intro b18
      obtain ⟨b18, c18⟩ := pl_in b18
      exact k _
theorem fs_81 {n th : Nat} {s : ps_S} {R : ps_S → Prop} (hth : th = 2 ∨ th = 26) (k : ∀ s', kt th s s' → R s') : pl_Cl n 81 [.ref 1021] s (ps_rV R) := by
  cases n with
  | zero => exact pl_At_0
  | succ n =>
  show pl_At (n + 1) 81 0 [(0, .ref 1021)] [] s (ps_rV R)
  refine pl_81_0 ?_
  refine fs_91 ?_
  exact k _ (kt_i (c := 5) hth rfl (by decide) (kt_i (c := 5) hth rfl (by decide) kt_refl))
theorem fs_1_2 {th : Nat} {s0 : ps_S} {R : ps_S → Prop} (k : ∀ s', kt th s0 s' → R s') : ∀ (n : Nat) {s : ps_S} {x1 : Int32}, kt th s0 s → pl_At n 1 2 [(0, .ref 944), (1, .int x1)] [] s (ps_rV R)
  | 0, _, _, _ => pl_At_0
  | n + 1, s, x1, K => by
    refine pl_1_2 ?_
    refine ⟨fun h8 => ?_, fun h8 => ?_⟩
    · have h8 : (192 : Int) ≤ x1.toInt := xle h8
      exact k _ K
    · have h8 : x1.toInt < (192 : Int) := xlt h8
      intro b17
      obtain ⟨b17, c17⟩ := pl_in b17
      exact fs_1_2 k n ⟨K.1, K.2⟩
theorem fs_1 {n th : Nat} {s : ps_S} {R : ps_S → Prop} (k : ∀ s', kt th s s' → R s') : pl_Cl n 1 [.ref 944] s (ps_rV R) := by
  cases n with
  | zero => exact pl_At_0
  | succ n =>
  show pl_At (n + 1) 1 0 [(0, .ref 944)] [] s (ps_rV R)
  refine pl_1_0 ?_
  exact fs_1_2 k n kt_refl
theorem fs_151_65 {th : Nat} {a : Int32} {R : Int32 → ps_S → Prop} (hth : th = 2 ∨ th = 26) (k : ∀ s', ps_r s' 0 2 = th → R a s') : ∀ (n : Nat) {s : ps_S} {x3 : Int32}, ps_r s 0 2 = th → ps_i s th 8 = a → pl_At n 151 65 [(0, .ref 0), (3, .int x3)] [] s (ps_rI R)
  | 0, _, _, _, _ => pl_At_0
  | n + 1, s, x3, h2, h8 => by
    refine pl_151_65 ?_
    refine ⟨fun h71 => ?_, fun h71 => ?_⟩
    · have h71 : (3 : Int) ≤ x3.toInt := xle h71
      refine fs_91 ?_
      refine fs_81 hth (fun s99 q99 => ?_)
      refine fs_1 (th := th) (fun s106 q106 => ?_)
      refine pl_nk_i (fun nk113 => ?_)
      have K := kt_tr (kt_tr (kt_i (r := 934) (c := 5) (v := 0) (q := 2) hth rfl (by decide) (kt_i (r := 934) (c := 5) (v := 0) (q := 1) hth rfl (by decide) (kt_refl (s := s)))) q99) q106
      have e2 : ps_r s106 0 2 = th := K.1.trans h2
      rw [e2, K.2.trans h8]
      exact k _ e2
    · have h71 : x3.toInt < (3 : Int) := xlt h71
      refine fs_180 (fun v76 => ?_)
      refine fs_108 hth (fun s79 q79 => ?_)
      exact fs_151_65 hth k n (q79.1.trans h2) (q79.2.trans h8)
theorem fs_151 {n th : Nat} {s : ps_S} {T : Nat → Nat} {N : Nat} {R : Int32 → ps_S → Prop} (hth : th = 2 ∨ th = 26) (h3 : ps_r s 0 3 = th) (hb : cv_base s th) (hx : (ps_i s 0 1).toInt = N) (hN : N ≤ 1600) (hT : ∀ k, k < N → (ps_a s 1 k &&& 255).toInt = T k) (hkw : ∀ (k : Nat) (w : List Nat), tx_keys[k]? = some w → ps_b s 904 k = tx_x w) (k1 : ∀ (v : Int32) (s' : ps_S) (h : tx_H) (p : Nat), gt_go (tx_ln T N) (0, (([], []), []), 0, 0) (3, h, p, 0) → v.toInt = h.2.length → R v s') (k0 : ∀ (s' : ps_S) (h : tx_H) (pl k : Nat), gt_go (tx_ln T N) (0, (([], []), []), 0, 0) (4, h, pl, k) → (ps_i s' 902 9).toInt = k → (ps_i s' 902 10).toInt = pl → R (-1) s') : pl_Cl n 151 [.ref 0] s (ps_rI R) := by
  cases n with
  | zero => exact pl_At_0
  | succ n =>
  show pl_At (n + 1) 151 0 [(0, .ref 0)] [] s (ps_rI R)
  refine pl_151_0 ?_
  rw [h3]
  refine fs_58 hth hb hx hN hT hkw (fun s16 q16 => ?_) (fun s16 q16 => ?_)
  · refine ⟨fun h26 => ?_, fun h26 => ?_⟩
    · refine fs_31 hth (fun s53 q53 => ?_)
      refine fs_108 hth (fun s60 q60 => ?_)
      obtain ⟨h, p, g, L, F⟩ := q16
      have K := kt_tr q53 q60
      have h30 : ps_r s16 0 3 = th := by
        have z := (F 0 (fun z => by unfold cv_HC at z; omega)).2.2.1 3
        rw [z]
        exact h3
      have e2 : ps_r s60 0 2 = th := K.1.trans h30
      exact fs_151_65 hth (fun s' _ => k1 _ s' h p g (by rw [K.2]; show (ps_i (ps_ui s16 0 1 0) th 8).toInt = _; rw [ps_i_ui, if_neg (fun z => absurd z.2 (by decide))]; exact L.2.2.2.1.2.1)) n e2 rfl
    · exact absurd h26 (by decide)
  · refine ⟨fun h26 => ?_, fun h26 => ?_⟩
    · exact absurd h26 (by decide)
    · obtain ⟨h, pl, k, g, e1, e2, -⟩ := q16
      exact k0 _ h pl k g e1 e2

theorem bytes_T {a : Nat → Int32} {k : Nat} : (a k &&& 255).toInt = (((a k &&& 255).toInt.toNat : Nat) : Int) := by
  have h : 0 ≤ (a k &&& 255).toInt := by
    have e : (a k &&& 255).toBitVec.msb = false := by
      rw [Int32.toBitVec_and, BitVec.msb_and]
      have : (255 : Int32).toBitVec.msb = false := by decide
      rw [this, Bool.and_false]
    show 0 ≤ (a k &&& 255).toBitVec.toInt
    rw [BitVec.toInt_eq_msb_cond, e]
    simp
  omega

