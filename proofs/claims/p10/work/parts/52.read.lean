set_option maxRecDepth 100000
/-! read(), piece(): both sides -/
-- ProofBenchModel.manyOf(I)I
theorem pl_219_0 {n : Nat} {x1 : Int32} {s : ps_S} {Q : Option Value → ps_S → Prop} (h :
  (pm_in x1 27400 = true →
    Q (some (.int (ps_a s 1134 (Int32.toNatClampNeg x1)))) s)) : pl_At (n + 1) 219 0 [(0, .ref 1131), (1, .int x1)] [] s Q :=
  pl_wp_at (stops := []) (f := 7) h rfl

-- ProofBenchModel.pieceOf(II)I
theorem pl_264_0 {n : Nat} {x1 : Int32} {x2 : Int32} {s : ps_S} {Q : Option Value → ps_S → Prop} (h :
  pl_Cl n 219 [.ref 1131, .int x1] s (ps_rI (fun v1 s1 =>
    pl_Cl n 200 [.int x2, .int 0, .int (v1 - 1)] s1 (ps_rI (fun v2 s2 =>
      (v2 = 0 →
        Q (some (.int (-1))) s2) ∧
      (v2 ≠ 0 →
        pl_Cl n 220 [.ref 1131, .int x1, .int x2] s2 (ps_rI (fun v3 s3 =>
          Q (some (.int v3)) s3)))))))) : pl_At (n + 1) 264 0 [(0, .ref 1131), (1, .int x1), (2, .int x2)] [] s Q :=
  pl_wp_at (stops := []) (f := 19) h rfl

-- ProofBenchModel.piece(I)I
theorem pl_275_0 {n : Nat} {x1 : Int32} {s : ps_S} {Q : Option Value → ps_S → Prop} (h :
  pl_Cl n 264 [.ref 1131, .int 25748, .int x1] s (ps_rI (fun v1 s1 =>
    Q (some (.int v1)) s1))) : pl_At (n + 1) 275 0 [(0, .ref 1131), (1, .int x1)] [] s Q :=
  pl_wp_at (stops := []) (f := 7) h rfl

/-- a row's piece as piece() answers it -/
def pc_is (l : List Nat) (x v : Int32) : Prop := (∀ c, 0 ≤ x.toInt → l[x.toInt.toNat]? = some c → v.toInt = c) ∧ (x.toInt < 0 ∨ (l.length : Int) ≤ x.toInt → v.toInt = -1)
theorem pc_eq {l : List Nat} {x v v' : Int32} (h : pc_is l x v) (h' : pc_is l x v') : v = v' := by
  apply Int32.toInt_inj.mp
  by_cases z : x.toInt < 0 ∨ (l.length : Int) ≤ x.toInt
  · rw [h.2 z, h'.2 z]
  · have hl : x.toInt.toNat < l.length := by omega
    have e := List.getElem?_eq_getElem hl
    rw [h.1 _ (by omega) e, h'.1 _ (by omega) e]
theorem fs_60u {n th r ph : Nat} {s : ps_S} {T : Nat → Nat} {N : Nat} {gg : tx_g} {x2 x5 : Int32} {R : Int32 → ps_S → Prop} (hph : (x5.toInt = 0 ∧ ph = 1) ∨ (x5.toInt ≠ 0 ∧ ph = 0)) (hth : th = 2 ∨ th = 26) (hr : ps_is r 5 = true) (hE : cv_E s th gg) (hx : x2.toInt = N) (hN : N ≤ 1600) (hT : ∀ k, k < N → (ps_a s 1 k &&& 255).toInt = T k) (hkw : ∀ (k : Nat) (w : List Nat), tx_keys[k]? = some w → ps_b s 904 k = tx_x w) (k1 : ∀ (s' : ps_S), (∃ l : List Nat, rd_ok T N (gg, false) ph l ∧ cv_W s' r l ∧ ((ps_i s' 902 9).toInt = 0 ∧ (ps_i s' 902 10).toInt = -1) ∧ cfr (cWr r) s s') → R 1 s') (k0 : ∀ (s' : ps_S), (∃ k pl : Nat, rd_bad T N (gg, false) ph k pl ∧ (ps_i s' 902 9).toInt = k ∧ (ps_i s' 902 10).toInt = pl ∧ cfr (cWr r) s s') → R 0 s') : pl_Cl n 60 [.ref 902, .ref 1, .int x2, .ref th, .ref r, .int x5] s (ps_rI R) :=
  fs_60 hph hth hr hE hx hN hT hkw (fun s' l a b c d => k1 s' ⟨l, a, b, c, d⟩) (fun s' k pl a b c d => k0 s' ⟨k, pl, a, b, c, d⟩)
theorem fs_162 {n th : Nat} {s : ps_S} {T : Nat → Nat} {N : Nat} {gg : tx_g} {R : Int32 → ps_S → Prop} (hth : th = 2 ∨ th = 26) (h2 : ps_r s 0 2 = th) (hE : cv_E s th gg) (hx : (ps_i s 0 1).toInt = N) (hN : N ≤ 1600) (hT : ∀ k, k < N → (ps_a s 1 k &&& 255).toInt = T k) (hkw : ∀ (k : Nat) (w : List Nat), tx_keys[k]? = some w → ps_b s 904 k = tx_x w) (k1 : ∀ (v : Int32) (s' : ps_S) (l : List Nat), rd_ok T N (gg, false) 1 l → v.toInt = l.length → cv_W s' 934 l → (ps_i s' 902 9).toInt = 0 ∧ (ps_i s' 902 10).toInt = -1 → cfr (fun q => q = 0 ∨ cWr 934 q) s s' → R v s') (k0 : ∀ (s' : ps_S) (k pl : Nat), rd_bad T N (gg, false) 1 k pl → cv_W s' 934 [] → (ps_i s' 902 9).toInt = k → (ps_i s' 902 10).toInt = pl → cfr (fun q => q = 0 ∨ cWr 934 q) s s' → R (-1) s') : pl_Cl n 162 [.ref 0] s (ps_rI R) := by
  cases n with
  | zero => exact pl_At_0
  | succ n =>
  show pl_At (n + 1) 162 0 [(0, .ref 0)] [] s (ps_rI R)
  refine pl_162_0 ?_
  rw [h2]
  refine fs_60u (th := th) (r := 934) (ph := 1) (gg := gg) (T := T) (N := N) (Or.inl ⟨rfl, rfl⟩) hth rfl hE hx hN hT hkw (fun s21 q21 => ?_) (fun s21 q21 => ?_)
  · refine ⟨fun h31 => ?_, fun h31 => ?_⟩
    · obtain ⟨l, z, W, G, F⟩ := q21
      exact k1 _ _ l z W.1 W G (cfr_i (cfr_mono F (fun q z => Or.inr z)) (Or.inl rfl))
    · exact absurd h31 (by decide)
  · refine ⟨fun h31 => ?_, fun h31 => ?_⟩
    · exact absurd h31 (by decide)
    · refine fs_91 ?_
      obtain ⟨k, pl, z, e1, e2, F⟩ := q21
      exact k0 _ k pl z ⟨rfl, rfl, Nat.zero_le _, fun k c z => by cases z⟩ e1 e2 (cfr_i (cfr_i (cfr_i (cfr_mono F (fun q z => Or.inr z)) (Or.inl rfl)) (Or.inr (Or.inr (Or.inr (Or.inl rfl))))) (Or.inr (Or.inr (Or.inr (Or.inl rfl)))))
theorem fs_163 {n : Nat} {x1 : Int32} {s : ps_S} {l : List Nat} {R : Int32 → ps_S → Prop} (hW : cv_W s 934 l) (k : ∀ v : Int32, pc_is l x1 v → R v s) : pl_Cl n 163 [.ref 0, .int x1] s (ps_rI R) := by
  cases n with
  | zero => exact pl_At_0
  | succ n =>
  show pl_At (n + 1) 163 0 [(0, .ref 0), (1, .int x1)] [] s (ps_rI R)
  refine pl_163_0 ?_
  refine fs_92 rfl rfl rfl hW (fun v z => ?_)
  refine k v ⟨fun c h0 hc => ?_, fun h => z.2 (by omega)⟩
  have hl := (List.getElem?_eq_some_iff.mp hc).1
  exact z.1 ⟨h0, by omega⟩ c hc
theorem fm_219 {n to : Nat} {x1 : Int32} {s : ps_S} {R : Int32 → ps_S → Prop} (hx : x1.toInt = to) (k : R (ps_a s 1134 to) s) : pl_Cl n 219 [.ref 1131, .int x1] s (ps_rI R) := by
  cases n with
  | zero => exact pl_At_0
  | succ n =>
  show pl_At (n + 1) 219 0 [(0, .ref 1131), (1, .int x1)] [] s (ps_rI R)
  refine pl_219_0 ?_
  intro b5
  obtain ⟨b5, c5⟩ := pl_in b5
  rw [xtn hx]
  exact k

/-- what reading one text leaves: the row at to, the fault -/
def mq_ok (to ph b : Nat) (gg : tx_g) (T : Nat → Nat) (N : Nat) (s s' : ps_S) : Prop := (∃ l : List Nat, rd_ok T N (gg, false) ph l ∧ mv_W s' to l ∧ mv_G s') ∧ kq [1133, 1134, 1143, 1144, 1145, 1146, 1147, 1148] [3, 4, 5, 6, 7, 8, 9, 10, 11, 22, 23, 29, 30, 31, 32] s s' ∧ mv_po to s s' ∧ (ps_i s' 1131 3).toInt = 0
def mq_bad (to ph b : Nat) (gg : tx_g) (T : Nat → Nat) (N : Nat) (s s' : ps_S) : Prop := (∃ k pl : Nat, rd_bad T N (gg, false) ph k pl ∧ k ≠ 0 ∧ (ps_i s' 1131 5).toInt = k ∧ (ps_i s' 1131 6).toInt = pl) ∧ kq [1133, 1134, 1143, 1144, 1145, 1146, 1147, 1148] [3, 4, 5, 6, 7, 8, 9, 10, 11, 22, 23, 29, 30, 31, 32] s s' ∧ mv_po to s s' ∧ (ps_i s' 1131 3).toInt = 0
theorem fm_274_31g {n b : Nat} {s0 s : ps_S} {T : Nat → Nat} {N : Nat} {gg : tx_g} {R : Int32 → ps_S → Prop} (h : mq_ok 25748 1 b gg T N s0 s) (k1 : ∀ (v : Int32) (s' : ps_S) (l : List Nat), rd_ok T N (gg, false) 1 l → v.toInt = l.length → mv_W s' 25748 l → mq_ok 25748 1 b gg T N s0 s' → R v s') : pl_At n 274 31 [(0, .ref 1131)] [] s (ps_rI R) := by
  cases n with
  | zero => exact pl_At_0
  | succ n =>
  obtain ⟨⟨l, z, W, G⟩, -⟩ := id h
  refine pl_274_31 ?_
  refine fm_192 (fun _ => ⟨fun _ => ?_, fun z => absurd z (by decide)⟩) (fun z => absurd G.1 z)
  refine fm_219 (to := 25748) (by decide) ?_
  exact k1 _ _ l z W.1 W h
theorem fm_274_31b {n b : Nat} {s0 s : ps_S} {T : Nat → Nat} {N : Nat} {gg : tx_g} {R : Int32 → ps_S → Prop} (h : mq_bad 25748 1 b gg T N s0 s) (k0 : ∀ (s' : ps_S), mv_W s' 25748 [] → mq_bad 25748 1 b gg T N s0 s' → R (-1) s') : pl_At n 274 31 [(0, .ref 1131)] [] s (ps_rI R) := by
  cases n with
  | zero => exact pl_At_0
  | succ n =>
  obtain ⟨⟨k, pl, z, hk, e5, e6⟩, K, P, h3⟩ := id h
  refine pl_274_31 ?_
  refine fm_192 (fun z => by omega) (fun _ => ⟨fun z => absurd rfl z, fun _ => ?_⟩)
  intro b1
  rw [xtn (a := 25748) (by decide)]
  refine k0 _ ⟨?_, Nat.zero_le _, fun k c z => by cases z⟩ ⟨⟨k, pl, z, hk, e5, e6⟩, kqa K rfl, fun i hi => ?_, h3⟩
  · rw [ps_a_ua, if_pos ⟨rfl, rfl⟩]
    rfl
  · rw [ps_a_ua, if_neg (by omega)]
    exact P i hi
theorem fm_196v {n : Nat} {s : ps_S} {R : ps_S → Prop} (h5 : (ps_i s 1131 5).toInt = 0) (k : ∀ s', (∀ tk : tx_K, mv_K s tk → (ps_i s' 1131 5).toInt = (tx_bk tk : Nat) ∧ (ps_i s' 1131 6).toInt = tk.2.1 ∧ kq [] [5, 6] s s') → R s') : pl_Cl n 196 [.ref 1131] s (ps_rV R) := by
  cases n with
  | zero => exact pl_At_0
  | succ n =>
  show pl_At (n + 1) 196 0 [(0, .ref 1131)] [] s (ps_rV R)
  refine pl_196_0 ?_
  refine ⟨fun h6 => ?_, fun h6 => ?_⟩
  · have h6 : (ps_i s 1131 9).toInt ≠ (1 : Int) := xne h6
    refine fm_191 h5 ?_
    refine k _ (fun tk hK => ⟨?_, hK.2.1, kqi (kqi kq_refl rfl) rfl⟩)
    have h9 := hK.1
    unfold tx_bk
    rw [if_neg (by omega)]
    rfl
  · have h6 : (ps_i s 1131 9).toInt = (1 : Int) := xeq h6
    refine fm_191 h5 ?_
    refine k _ (fun tk hK => ⟨?_, hK.2.1, kqi (kqi kq_refl rfl) rfl⟩)
    have h9 := hK.1
    unfold tx_bk
    rw [if_pos (by omega)]
    rfl
theorem fm_274 {n b : Nat} {s : ps_S} {T : Nat → Nat} {N : Nat} {gg : tx_g} {R : Int32 → ps_S → Prop} (hb : b < 2) (h21 : (ps_i s 1131 21).toInt = b) (hE : mv_E s b gg) (h3 : (ps_i s 1131 3).toInt = N) (hN : N ≤ 1600) (hT : ∀ k, k < N → (ps_a s 1132 k &&& 255).toInt = T k) (k1 : ∀ (v : Int32) (s' : ps_S) (l : List Nat), rd_ok T N (gg, false) 1 l → v.toInt = l.length → mv_W s' 25748 l → mq_ok 25748 1 b gg T N s s' → R v s') (k0 : ∀ (s' : ps_S), mv_W s' 25748 [] → mq_bad 25748 1 b gg T N s s' → R (-1) s') : pl_Cl n 274 [.ref 1131] s (ps_rI R) := by
  cases n with
  | zero => exact pl_At_0
  | succ n =>
  show pl_At (n + 1) 274 0 [(0, .ref 1131)] [] s (ps_rI R)
  refine pl_274_0 ?_
  refine fm_198 h21 h3 hN hT (fun s1 q1 => ?_)
  obtain ⟨K1, t1, t2, t3, t4, t5, t6⟩ := q1
  refine fm_209u (to := 25748) (rb := b) (ph := 1) (E := (gg, false)) (p := 0) (fr := []) (by decide) (Or.inr ⟨by decide, rfl⟩) rfl hb t5 t1 (mv_E_kq hE K1 (by decide)) (Nat.zero_le _) t2 ⟨t4, Nat.zero_le _, fun k w z => by cases z⟩ t3 (fun s10 q10 => ?_)
  refine fm_192 (fun q14 => ?_) (fun q14 => ?_)
  · refine ⟨fun h17 => ?_, fun h17 => ?_⟩
    · exact absurd h17 (by decide)
    · refine ⟨fun h24 => ?_, fun h24 => ?_⟩
      · have h24 : (ps_i s10 1131 9).toInt = (0 : Int) := xeq h24
        rcases q10 with ⟨p', l', fr', g1, g2, g3, g4⟩ | ⟨S', pl, l', fr', k, g1, g2, g3, g4, g5⟩
        · have h0 : (tx_tok T N p').1 = 0 := by have := g3.2.2.1.1; omega
          exact fm_274_31g ⟨⟨l', ⟨p', fr', g1, h0⟩, g3.2.2.2.2.2.2.1, g3.2.2.2.2.2.2.2.2⟩, kqt (kqt kq_refl K1 (by decide) (by decide)) g4.1 (by decide) (by decide), fun i hi => (g4.2 i hi).trans (by rw [kq_a K1 1134 (by decide)]), by rw [kq_i g4.1 3 (by decide)]; exact t6⟩ k1
        · exfalso; omega
      · have h24 : (ps_i s10 1131 9).toInt ≠ (0 : Int) := xne h24
        refine fm_196v q14 (fun s28 q28 => ?_)
        rcases q10 with ⟨p', l', fr', g1, g2, g3, g4⟩ | ⟨S', pl, l', fr', k, g1, g2, g3, g4, g5⟩
        · have h0 : (tx_tok T N p').1 ≠ 0 := by have := g3.2.2.1.1; omega
          have J := q28 _ g3.2.2.1
          exact fm_274_31b ⟨⟨_, _, Or.inr ⟨p', l', fr', g1, h0, rfl, rfl⟩, (by unfold tx_bk; split <;> decide), J.1, J.2.1⟩, kqt (kqt (kqt kq_refl K1 (by decide) (by decide)) g4.1 (by decide) (by decide)) J.2.2 (by decide) (by decide), fun i hi => (by rw [kq_a J.2.2 1134 (by decide), g4.2 i hi, kq_a K1 1134 (by decide)]), by rw [kq_i J.2.2 3 (by decide), kq_i g4.1 3 (by decide)]; exact t6⟩ k0
        · exfalso; omega
  · refine ⟨fun h17 => ?_, fun h17 => ?_⟩
    · rcases q10 with ⟨p', l', fr', g1, g2, g3, g4⟩ | ⟨S', pl, l', fr', k, g1, g2, g3, g4, g5⟩
      · exact absurd g3.2.2.2.2.2.2.2.2.1 q14
      · exact fm_274_31b ⟨⟨k, pl, Or.inl ⟨S', l', fr', g1⟩, g2, g3, g4⟩, kqt (kqt kq_refl K1 (by decide) (by decide)) g5.1 (by decide) (by decide), fun i hi => (g5.2 i hi).trans (by rw [kq_a K1 1134 (by decide)]), by rw [kq_i g5.1 3 (by decide)]; exact t6⟩ k0
    · exact absurd h17 (by decide)

