set_option maxRecDepth 100000
/-! a text that is one formula or one term: what both sides read; read() -/
-- ProofBench$Reader.takeText([BILProofBench$Theory;LProofBench$Row;Z)Z
theorem pl_60_0 {n : Nat} {r1 : Nat} {x2 : Int32} {r3 : Nat} {r4 : Nat} {x5 : Int32} {s : ps_S} {Q : Option Value → ps_S → Prop} (h :
  pl_Cl n 61 [.ref 902, .ref r1, .int x2, .ref r3] s (ps_rV (fun s1 =>
    pl_Cl n 69 [.ref 902, .ref r4, .int x5] s1 (ps_rI (fun v2 s2 =>
      (v2 ≠ 0 →
        ((ps_i s2 903 4) = 0 →
          Q (some (.int 1)) s2) ∧
        ((ps_i s2 903 4) ≠ 0 →
          pl_Cl n 62 [.ref 902, .int 2] s2 (ps_rI (fun v3 s3 =>
            pl_nk (decide (v3 &&& 1 = v3)) (Q (some (.int v3)) s3))))) ∧
      (v2 = 0 →
        Q (some (.int 0)) s2)))))) : pl_At (n + 1) 60 0 [(0, .ref 902), (1, .ref r1), (2, .int x2), (3, .ref r3), (4, .ref r4), (5, .int x5)] [] s Q :=
  pl_wp_at (stops := []) (f := 24) h rfl

-- ProofBench$Row.at(I)I
theorem pl_92_0 {n : Nat} {r0 : Nat} {x1 : Int32} {s : ps_S} {Q : Option Value → ps_S → Prop} (h :
  (x1 < 0 →
    Q (some (.int (-1))) s) ∧
  (0 ≤ x1 →
    pl_nk (ps_is r0 5) (((ps_i s r0 1) ≤ x1 →
      Q (some (.int (-1))) s) ∧
    (x1 < (ps_i s r0 1) →
      pl_nk (ps_is r0 5) (pl_nk (Nat.beq (ps_K (ps_c0 r0 0)).1 0) (((nI (ps_ln (ps_c0 r0 0))) ≤ x1 →
        Q (some (.int (-1))) s) ∧
      (x1 < (nI (ps_ln (ps_c0 r0 0))) →
        pl_nk (ps_is r0 5) (pl_nk (ps_ar (ps_c0 r0 0) 0) ((pm_in x1 (ps_ln (ps_c0 r0 0)) = true →
          Q (some (.int (ps_a s (ps_c0 r0 0) (Int32.toNatClampNeg x1)))) s)))))))))) : pl_At (n + 1) 92 0 [(0, .ref r0), (1, .int x1)] [] s Q :=
  pl_wp_at (stops := []) (f := 25) h rfl

-- ProofBench.read()I
theorem pl_162_0 {n : Nat} {s : ps_S} {Q : Option Value → ps_S → Prop} (h :
  pl_Cl n 60 [.ref 902, .ref 1, .int (ps_i s 0 1), .ref (ps_r s 0 2), .ref 934, .int 0] s (ps_rI (fun v1 s1 =>
    (v1 ≠ 0 →
      Q (some (.int (ps_i (ps_ui s1 0 1 0) 934 1))) (ps_ui s1 0 1 0)) ∧
    (v1 = 0 →
      pl_Cl n 91 [.ref 934] (ps_ui s1 0 1 0) (ps_rV (fun s2 =>
        Q (some (.int (-1))) s2)))))) : pl_At (n + 1) 162 0 [(0, .ref 0)] [] s Q :=
  pl_wp_at (stops := []) (f := 29) h rfl

-- ProofBench.piece(I)I
theorem pl_163_0 {n : Nat} {x1 : Int32} {s : ps_S} {Q : Option Value → ps_S → Prop} (h :
  pl_Cl n 92 [.ref 934, .int x1] s (ps_rI (fun v1 s1 =>
    Q (some (.int v1)) s1))) : pl_At (n + 1) 163 0 [(0, .ref 0), (1, .int x1)] [] s Q :=
  pl_wp_at (stops := []) (f := 7) h rfl

-- ProofBenchModel.read()I
theorem pl_274_0 {n : Nat} {s : ps_S} {Q : Option Value → ps_S → Prop} (h :
  pl_Cl n 198 [.ref 1131] s (ps_rV (fun s1 =>
    pl_Cl n 209 [.ref 1131, .int 25748, .int 1, .int 0] s1 (ps_rV (fun s2 =>
      pl_Cl n 192 [.ref 1131] s2 (ps_rI (fun v3 s3 =>
        (v3 = 0 →
          pl_At n 274 31 [(0, .ref 1131)] [] s3 Q) ∧
        (v3 ≠ 0 →
          ((ps_i s3 1131 9) = 0 →
            pl_At n 274 31 [(0, .ref 1131)] [] s3 Q) ∧
          ((ps_i s3 1131 9) ≠ 0 →
            pl_Cl n 196 [.ref 1131] s3 (ps_rV (fun s4 =>
              pl_At n 274 31 [(0, .ref 1131)] [] s4 Q))))))))))) : pl_At (n + 1) 274 0 [(0, .ref 1131)] [] s Q :=
  pl_wp_at (stops := [(31, [0])]) (f := 17) h rfl

theorem pl_274_31 {n : Nat} {s : ps_S} {Q : Option Value → ps_S → Prop} (h :
  pl_Cl n 192 [.ref 1131] s (ps_rI (fun v1 s1 =>
    (v1 ≠ 0 →
      pl_Cl n 219 [.ref 1131, .int 25748] s1 (ps_rI (fun v2 s2 =>
        Q (some (.int v2)) s2))) ∧
    (v1 = 0 →
      (pm_in (25748 : Int32) 27400 = true →
        Q (some (.int (-1))) (ps_ua s1 1134 (Int32.toNatClampNeg (25748 : Int32)) 0)))))) : pl_At (n + 1) 274 31 [(0, .ref 1131)] [] s Q :=
  pl_wp_at (stops := [(31, [0])]) (f := 16) h rfl

def rd_ok (T : Nat → Nat) (N : Nat) (E : tx_E) (ph : Nat) (l : List Nat) : Prop := ∃ (p : Nat) (fr : List (List Nat)), gt_go (tx_st T N E) (ph, [], 0, [], [], 0) (2, [], p, l, fr, 0) ∧ (tx_tok T N p).1 = 0
def rd_bad (T : Nat → Nat) (N : Nat) (E : tx_E) (ph k pl : Nat) : Prop := (∃ (S : List tx_F) (l : List Nat) (fr : List (List Nat)), gt_go (tx_st T N E) (ph, [], 0, [], [], 0) (4, S, pl, l, fr, k)) ∨ ∃ (p : Nat) (l : List Nat) (fr : List (List Nat)), gt_go (tx_st T N E) (ph, [], 0, [], [], 0) (2, [], p, l, fr, 0) ∧ (tx_tok T N p).1 ≠ 0 ∧ k = tx_bk (tx_tok T N p) ∧ pl = (tx_tok T N p).2.1
theorem rd_3 {T : Nat → Nat} {N : Nat} {E : tx_E} {ph p : Nat} {l : List Nat} {fr : List (List Nat)} (h : gt_go (tx_st T N E) (ph, [], 0, [], [], 0) (2, [], p, l, fr, 0)) : gt_go (tx_st T N E) (ph, [], 0, [], [], 0) (3, [], p, l, fr, 0) := gt_trans h (gt_one rfl)
theorem rd_oo {T : Nat → Nat} {N : Nat} {E : tx_E} {ph : Nat} {l l' : List Nat} (h : rd_ok T N E ph l) (h' : rd_ok T N E ph l') : l = l' := by
  obtain ⟨p, fr, g, -⟩ := h
  obtain ⟨p', fr', g', -⟩ := h'
  have z := gt_det (rd_3 g) (rd_3 g') rfl rfl
  cases z
  rfl
theorem rd_ob {T : Nat → Nat} {N : Nat} {E : tx_E} {ph k pl : Nat} {l : List Nat} (h : rd_ok T N E ph l) (h' : rd_bad T N E ph k pl) : False := by
  obtain ⟨p, fr, g, e⟩ := h
  rcases h' with ⟨S, l', fr', g'⟩ | ⟨p', l', fr', g', e', -⟩
  · have z := gt_det (rd_3 g) g' rfl rfl
    cases z
  · have z := gt_det (rd_3 g) (rd_3 g') rfl rfl
    cases z
    exact e' e
theorem rd_bb {T : Nat → Nat} {N : Nat} {E : tx_E} {ph k pl k' pl' : Nat} (h : rd_bad T N E ph k pl) (h' : rd_bad T N E ph k' pl') : k = k' ∧ pl = pl' := by
  rcases h with ⟨S, l, fr, g⟩ | ⟨p, l, fr, g, e, rfl, rfl⟩ <;> rcases h' with ⟨S', l', fr', g'⟩ | ⟨p', l', fr', g', e', rfl, rfl⟩
  · have z := gt_det g g' rfl rfl
    cases z
    exact ⟨rfl, rfl⟩
  · have z := gt_det g (rd_3 g') rfl rfl
    cases z
  · have z := gt_det (rd_3 g) g' rfl rfl
    cases z
  · have z := gt_det (rd_3 g) (rd_3 g') rfl rfl
    cases z
    exact ⟨rfl, rfl⟩
theorem cWr_2 {r q : Nat} (h : q = 902 ∨ q = 903) : cWr r q := by
  rcases h with h | h
  · exact Or.inl h
  · exact Or.inr (Or.inl h)
theorem fs_60 {n th r ph : Nat} {s : ps_S} {T : Nat → Nat} {N : Nat} {gg : tx_g} {x2 x5 : Int32} {R : Int32 → ps_S → Prop} (hph : (x5.toInt = 0 ∧ ph = 1) ∨ (x5.toInt ≠ 0 ∧ ph = 0)) (hth : th = 2 ∨ th = 26) (hr : ps_is r 5 = true) (hE : cv_E s th gg) (hx : x2.toInt = N) (hN : N ≤ 1600) (hT : ∀ k, k < N → (ps_a s 1 k &&& 255).toInt = T k) (hkw : ∀ (k : Nat) (w : List Nat), tx_keys[k]? = some w → ps_b s 904 k = tx_x w) (k1 : ∀ (s' : ps_S) (l : List Nat), rd_ok T N (gg, false) ph l → cv_W s' r l → (ps_i s' 902 9).toInt = 0 ∧ (ps_i s' 902 10).toInt = -1 → cfr (cWr r) s s' → R 1 s') (k0 : ∀ (s' : ps_S) (k pl : Nat), rd_bad T N (gg, false) ph k pl → (ps_i s' 902 9).toInt = k → (ps_i s' 902 10).toInt = pl → cfr (cWr r) s s' → R 0 s') : pl_Cl n 60 [.ref 902, .ref 1, .int x2, .ref th, .ref r, .int x5] s (ps_rI R) := by
  cases n with
  | zero => exact pl_At_0
  | succ n =>
  show pl_At (n + 1) 60 0 [(0, .ref 902), (1, .ref 1), (2, .int x2), (3, .ref th), (4, .ref r), (5, .int x5)] [] s (ps_rI R)
  have C0 : cfr (fun q => q = 902 ∨ q = 903) s (cv_b0 s th x2) := cfr_i (cfr_i (cfr_r (cfr_i (cfr_i (cfr_i (cfr_i (cfr_i (cfr_r cfr_refl (Or.inl rfl)) (Or.inl rfl)) (Or.inl rfl)) (Or.inl rfl)) (Or.inl rfl)) (Or.inl rfl)) (Or.inr rfl)) (Or.inr rfl)) (Or.inr rfl)
  have hT0 : cv_T (cv_b0 s th x2) T N := ⟨rfl, hx, hN, hT, hkw⟩
  refine pl_60_0 ?_
  refine fs_61 hx hT0 (fun s4 q4 => ?_)
  have F4 := cfr_fl q4.1
  have C7 : cfr (cWr r) s s4 := cfr_tr (cfr_mono C0 (fun q z => cWr_2 z)) (cfr_mono F4 (fun q z => cWr_2 (Or.inr z)))
  refine fs_69 (th := th) (r := r) (ph := ph) (E := (gg, false)) (p := 0) (fr := []) hph hth hr (by rw [q4.1.2.2.1]; rfl) (by rw [(F4 902 (by decide)).1]; rfl) (cv_T_fl hT0 q4.1) (cv_E_cfr (cv_E_cfr hE C0 (by omega) (by omega) (by omega) (by omega)) F4 (by omega) (by omega) (by omega) (by omega)) (Nat.zero_le _) q4.2 ⟨by rw [(F4 902 (by decide)).1]; rfl, Nat.zero_le _, fun k w z => by cases z⟩ (by rw [(F4 902 (by decide)).1]; rfl) ⟨by rw [(F4 902 (by decide)).1]; rfl, by rw [(F4 902 (by decide)).1]; rfl⟩ (fun s12 q12 => ?_) (fun s12 q12 => ?_)
  · refine ⟨fun h15 => ?_, fun h15 => ?_⟩
    · refine ⟨fun h27 => ?_, fun h27 => ?_⟩
      · have h27 : (ps_i s12 903 4).toInt = (0 : Int) := xeq h27
        obtain ⟨p', l', fr', g1, g2, g3, g4⟩ := q12
        exact k1 _ l' ⟨p', fr', g1, by have := g3.2.2.1.1; omega⟩ g3.2.2.2.1 g3.2.2.2.2.2.2.2 (cfr_tr C7 g4)
      · have h27 : (ps_i s12 903 4).toInt ≠ (0 : Int) := xne h27
        obtain ⟨p', l', fr', g1, g2, g3, g4⟩ := q12
        refine fs_62g (K := 2) g3.2.2.1 rfl (fun s32 q32 => ?_)
        refine pl_nk_i (fun z35 => ?_)
        exact k0 _ (tx_bk (tx_tok T N p')) _ (Or.inr ⟨p', l', fr', g1, by have := g3.2.2.1.1; omega, rfl, rfl⟩) q32.1 q32.2.1 (cfr_tr C7 (cfr_tr g4 (cfr_mono q32.2.2 (fun q z => Or.inl z))))
    · exact absurd h15 (by decide)
  · refine ⟨fun h15 => ?_, fun h15 => ?_⟩
    · exact absurd h15 (by decide)
    · obtain ⟨S', pl, l', fr', k, g1, g2, g3, g4⟩ := q12
      exact k0 _ k pl (Or.inl ⟨S', l', fr', g1⟩) g2 g3 (cfr_tr C7 g4)
theorem fs_92 {n r0 : Nat} {x1 : Int32} {s : ps_S} {l : List Nat} {R : Int32 → ps_S → Prop} (hr : ps_is r0 5 = true) (h0 : ps_c0 r0 0 = r0 + 1) (hln : ps_ln (ps_c0 r0 0) = 40) (hW : cv_W s r0 l) (k : ∀ v : Int32, ((0 ≤ x1.toInt ∧ x1.toInt < l.length → ∀ c, l[x1.toInt.toNat]? = some c → v.toInt = c) ∧ (¬ (0 ≤ x1.toInt ∧ x1.toInt < l.length) → v.toInt = -1)) → R v s) : pl_Cl n 92 [.ref r0, .int x1] s (ps_rI R) := by
  cases n with
  | zero => exact pl_At_0
  | succ n =>
  show pl_At (n + 1) 92 0 [(0, .ref r0), (1, .int x1)] [] s (ps_rI R)
  obtain ⟨w1, w2, w3, w4⟩ := hW
  have e40 : (nI (ps_ln (ps_c0 r0 0))).toInt = 40 := by rw [hln]; decide
  refine pl_92_0 ?_
  refine ⟨fun h1 => ?_, fun h1 => ?_⟩
  · have h1 : x1.toInt < (0 : Int) := xlt h1
    exact k _ ⟨fun z => by omega, fun _ => by decide⟩
  · have h1 : (0 : Int) ≤ x1.toInt := xle h1
    refine pl_nk_i (fun nk6 => ?_)
    refine ⟨fun h9 => ?_, fun h9 => ?_⟩
    · have h9 : (ps_i s r0 1).toInt ≤ x1.toInt := xle h9
      exact k _ ⟨fun z => by omega, fun _ => by decide⟩
    · have h9 : x1.toInt < (ps_i s r0 1).toInt := xlt h9
      refine pl_nk_i (fun nk14 => ?_)
      refine pl_nk_i (fun nk17 => ?_)
      refine ⟨fun h18 => ?_, fun h18 => ?_⟩
      · have h18 : (nI (ps_ln (ps_c0 r0 0))).toInt ≤ x1.toInt := xle h18
        exact k _ ⟨fun z => by omega, fun _ => by decide⟩
      · have h18 : x1.toInt < (nI (ps_ln (ps_c0 r0 0))).toInt := xlt h18
        refine pl_nk_i (fun nk22 => ?_)
        refine pl_nk_i (fun nk26 => ?_)
        intro b26
        obtain ⟨b26, c26⟩ := pl_in b26
        rw [h0]
        refine k _ ⟨fun z c hc => w4 _ c hc, fun z => absurd ⟨by omega, by omega⟩ z⟩

