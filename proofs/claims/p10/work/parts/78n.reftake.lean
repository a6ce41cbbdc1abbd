set_option maxRecDepth 100000
/-! the reference: steps as they stand; plain steps taken -/
/-- kinds of steps -/
def kd (r : Nat) : Nat := if r = 6 then 15 else if r = 10 then 1 else if r = 11 then 0 else if r ≤ 24 then r - 10 else r - 9
/-- a step as it was read -/
def rkT (s : ps_S) (i : Nat) (st : tp_P) : Prop := (ps_a s 1152 i).toInt = kd st.1.1 ∧ (1 ≤ tp_nn st.1.1 → (ps_a s 1153 i).toInt = st.1.2.1) ∧ (2 ≤ tp_nn st.1.1 → (ps_a s 1154 i).toInt = st.1.2.2.1) ∧ (3 ≤ tp_nn st.1.1 → (ps_a s 1155 i).toInt = st.1.2.2.2) ∧ (st.1.1 = 10 → (ps_a s 1153 i).toInt = st.2.1.1) ∧ (tp_hx st.1.1 → (ps_a s 1156 i).toInt = st.2.1.2) ∧ (tp_ht st.1.1 → mv_W s (24108 + 41 * i) st.2.2.1) ∧ (tp_hf st.1.1 → mv_W s (22468 + 41 * i) st.2.2.2)
/-- what a step came to -/
def mpR (s : ps_S) (k : Nat) (R : tq_R) : Prop := mv_W s (41 * k) R.1 ∧ (ps_a s 1157 k).toInt = R.2.1.length ∧ R.2.1.length ≤ 12 ∧ (∀ (n : Nat) (y : List Nat), R.2.1[n]? = some y → mv_W s (1640 + 41 * (12 * k + n)) y) ∧ ps_a s 1158 k = R.2.2.1 ∧ ps_a s 1159 k = R.2.2.2.1 ∧ ps_b s 1160 k = R.2.2.2.2
def mpD (s : ps_S) (D : List tq_R) : Prop := D.length ≤ 40 ∧ ∀ (k : Nat) (R : tq_R), D[k]? = some R → mpR s k R
/-- theorems kept -/
def mSh (s : ps_S) (Θ : List tq_H) : Prop := (ps_i s 1131 54).toInt = Θ.length ∧ Θ.length ≤ 12 ∧ ∀ (k : Nat) (q : tq_H), Θ[k]? = some q → mv_W s (21320 + 41 * k) q.1 ∧ ps_a s 1161 k = q.2.1 ∧ ps_a s 1162 k = q.2.2.1
/-- all that a step rests on -/
def mpX (s : ps_S) (b : Nat) (h : tx_H) (Θ : List tq_H) (D : List tq_R) (st : tp_P) : Prop := (b < 2 ∧ (ps_i s 1131 21).toInt = b ∧ mv_H s b h) ∧ mSh s Θ ∧ mpD s D ∧ rkT s D.length st
/-- begun -/
def mpB (s : ps_S) (i : Nat) : Prop := (ps_i s 1131 50).toInt = 0 ∧ mk_M s [] ∧ PAm s i [] 0
/-- what a step may change as it is taken -/
def TKf (i : Nat) (s0 s : ps_S) : Prop := kq [1134, 1149, 1150] [34, 50, 51] s0 s ∧ mpA i s0 s
theorem TKf_refl {i : Nat} {s : ps_S} : TKf i s s := ⟨kq_refl, fun _ _ => rfl⟩
theorem TKf_q {i : Nat} {A F : List Nat} {s0 s s' : ps_S} (K : TKf i s0 s) (q : kq A F s s') (hA : A.all (fun a => [1134, 1149, 1150].contains a) = true) (hF : F.all (fun a => [34, 50, 51].contains a) = true) (h3 : A.contains 1134 = false) : TKf i s0 s' := ⟨kqt K.1 q hA hF, fun p hp => by rw [kq_a q 1134 h3]; exact K.2 p hp⟩
theorem TKf_A {i : Nat} {s0 s s' : ps_S} (K : TKf i s0 s) (q : KA i s s') : TKf i s0 s' := ⟨kqt K.1 q.1 (by decide) (by decide), fun p hp => (q.2 p hp).trans (K.2 p hp)⟩
theorem mv_W_TKf {i to : Nat} {l : List Nat} {s0 s : ps_S} (W : mv_W s0 to l) (K : TKf i s0 s) (hh : to + 41 ≤ 1640 + 492 * i ∨ 1640 + 492 * i + 492 ≤ to) : mv_W s to l := mv_W_V W (fun q a b => K.2 q (by omega))
theorem mSh_TKf {i : Nat} {s0 s : ps_S} {Θ : List tq_H} (H : mSh s0 Θ) (hi : i < 40) (K : TKf i s0 s) : mSh s Θ := by
  obtain ⟨y1, y2, y3⟩ := H
  refine ⟨by rw [kq_i K.1 54 (by decide)]; exact y1, y2, fun k q hk => ?_⟩
  obtain ⟨e1, e2, e3⟩ := y3 k q hk
  exact ⟨mv_W_TKf e1 K (by omega), by rw [kq_a K.1 1161 (by decide)]; exact e2, by rw [kq_a K.1 1162 (by decide)]; exact e3⟩
theorem mpD_TKf {s0 s : ps_S} {i : Nat} {D : List tq_R} (H : mpD s0 D) (hi : D.length ≤ i) (K : TKf i s0 s) : mpD s D := by
  obtain ⟨d1, d2⟩ := H
  refine ⟨d1, fun k R hk => ?_⟩
  obtain ⟨e1, e2, e3, e4, e5, e6, e7⟩ := d2 k R hk
  have hkl := (List.getElem?_eq_some_iff.mp hk).1
  refine ⟨mv_W_TKf e1 K (by omega), by rw [kq_a K.1 1157 (by decide)]; exact e2, e3, fun n y hy => mv_W_TKf (e4 n y hy) K ?_, by rw [kq_a K.1 1158 (by decide)]; exact e5, by rw [kq_a K.1 1159 (by decide)]; exact e6, by rw [kq_b K.1 1160 (by decide)]; exact e7⟩
  have := (List.getElem?_eq_some_iff.mp hy).1
  omega
theorem rkT_TKf {s0 s : ps_S} {i j : Nat} {st : tp_P} (H : rkT s0 j st) (hi : i < 40) (K : TKf i s0 s) : rkT s j st := by
  obtain ⟨t1, t2, t3, t4, t5, t6, t7, t8⟩ := H
  have e : ∀ r, [1134, 1149, 1150].contains r = false → ps_a s r = ps_a s0 r := fun r hr => kq_a K.1 r hr
  exact ⟨by rw [e 1152 (by decide)]; exact t1, by rw [e 1153 (by decide)]; exact t2, by rw [e 1154 (by decide)]; exact t3, by rw [e 1155 (by decide)]; exact t4, by rw [e 1153 (by decide)]; exact t5, by rw [e 1156 (by decide)]; exact t6, fun z => mv_W_TKf (t7 z) K (by omega), fun z => mv_W_TKf (t8 z) K (by omega)⟩
theorem mpX_TKf {s0 s : ps_S} {b : Nat} {h : tx_H} {Θ : List tq_H} {D : List tq_R} {st : tp_P} (X : mpX s0 b h Θ D st) (hi : D.length < 40) (K : TKf D.length s0 s) : mpX s b h Θ D st := by
  obtain ⟨⟨x1, x2, x3⟩, y, d, t⟩ := X
  refine ⟨⟨x1, by rw [kq_i K.1 21 (by decide)]; exact x2, mv_H_V x1 x3 (fun r hr => kq_a K.1 r ?_) (fun r hr => kq_b K.1 r ?_) (fun q a b => K.2 q (by omega))⟩, mSh_TKf y hi K, mpD_TKf d (Nat.le_refl _) K, rkT_TKf t hi K⟩
  · revert r
    decide
  · revert r
    decide
theorem PAm_mono {s : ps_S} {i b b' : Nat} {A : List (List Nat)} (h : PAm s i A b) (hb : b ≤ b') : PAm s i A b' := by
  obtain ⟨⟨c, h1, h2, h3⟩, h4⟩ := h
  exact ⟨⟨c, h1, Nat.le_trans h2 hb, h3⟩, h4⟩
/-- what a take leaves -/
def TKm (s0 s' : ps_S) (h : tx_H) (Θ : List tq_H) (D : List tq_R) (st : tp_P) : Prop := ∃ (L : List Nat) (A : List (List Nat)), (ps_i s' 1131 50).toInt = ((tq_mk h Θ D st).1 : Nat) ∧ mk_M s' L ∧ (L = [] ∨ ws (sg h.1) L [true]) ∧ L.length ≤ 2000 ∧ PAm s' D.length A 40 ∧ ((tq_mk h Θ D st).1 = 0 → L = (tq_mk h Θ D st).2.1 ∧ A = tq_as D st (tq_mk h Θ D st).2.2) ∧ TKf D.length s0 s'
theorem TKm_mk {s0 s' : ps_S} {h : tx_H} {Θ : List tq_H} {D : List tq_R} {st : tp_P} {c : Nat} {L' L : List Nat} {oo : List Nat × (List Nat × List Nat)} {A : List (List Nat)} (hm : tq_mk h Θ D st = (c, L', oo)) (h50 : (ps_i s' 1131 50).toInt = c) (M : mk_M s' L) (hw : L = [] ∨ ws (sg h.1) L [true]) (hl : L.length ≤ 2000) {bd : Nat} (P : PAm s' D.length A bd) (hbd : bd ≤ 40) (h0 : c = 0 → L = L' ∧ A = tq_as D st oo) (K : TKf D.length s0 s') : TKm s0 s' h Θ D st := ⟨L, A, by rw [hm]; exact h50, M, hw, hl, PAm_mono P hbd, by rw [hm]; exact h0, K⟩
/-- premises' rows -/
theorem mprem {s : ps_S} {b : Nat} {h : tx_H} {Θ : List tq_H} {D : List tq_R} {st : tp_P} (X : mpX s b h Θ D st) (hD : tq_GD h.1 D) {k : Nat} (hk : k < D.length) : (mv_W s (41 * k) (tq_r D k) ∧ ws (sg h.1) (tq_r D k) [true] ∧ tq_r D k ≠ [] ∧ (tq_r D k).length ≤ 40) ∧ (tq_a D k).length ≤ 12 ∧ (ps_a s 1157 k).toInt = (tq_a D k).length ∧ ∀ (n : Nat) (y : List Nat), (tq_a D k)[n]? = some y → mv_W s (1640 + 41 * (12 * k + n)) y ∧ y ≠ [] := by
  obtain ⟨R, e1, e2, e3, -⟩ := tq_at hk
  obtain ⟨r1, r2, r3, r4, -⟩ := X.2.2.1.2 k R e1
  obtain ⟨⟨g1, g2, -⟩, -, g4⟩ := hD k R e1
  rw [e2, e3]
  refine ⟨⟨r1, g1, fun z => ?_, g2⟩, r3, r2, fun n y hy => ⟨r4 n y hy, (g4 y (List.mem_of_getElem? hy)).1⟩⟩
  obtain ⟨c, t, e⟩ := ws_ne g1
  rw [z] at e
  cases e
theorem rowF {x1 : Int32} {i : Nat} (h1 : x1.toInt = i) (hi : i < 40) : ((22468 : Int32) + ((41 : Int32) * x1)).toInt = (22468 + 41 * i : Nat) := by
  have e : ((41 : Int32) * x1).toInt = (41 * i : Nat) := xImN (by decide) h1 (by omega)
  have c : (22468 : Int32).toInt = 22468 := by decide
  rw [xIa (by omega) (by omega), c, e]
  omega
theorem rowT {x1 : Int32} {i : Nat} (h1 : x1.toInt = i) (hi : i < 40) : ((24108 : Int32) + ((41 : Int32) * x1)).toInt = (24108 + 41 * i : Nat) := by
  have e : ((41 : Int32) * x1).toInt = (41 * i : Nat) := xImN (by decide) h1 (by omega)
  have c : (24108 : Int32).toInt = 24108 := by decide
  rw [xIa (by omega) (by omega), c, e]
  omega
theorem rowH {x1 : Int32} {i : Nat} (h1 : x1.toInt = i) (hi : i < 40) : ((21320 : Int32) + ((41 : Int32) * x1)).toInt = (21320 + 41 * i : Nat) := by
  have e : ((41 : Int32) * x1).toInt = (41 * i : Nat) := xImN (by decide) h1 (by omega)
  have c : (21320 : Int32).toInt = 21320 := by decide
  rw [xIa (by omega) (by omega), c, e]
  omega
theorem rowA {x1 x2 : Int32} {b i : Nat} (h1 : x1.toInt = b) (hb : b < 2) (h2 : x2.toInt = i) (hi : i < 8) : ((21812 : Int32) + ((41 : Int32) * (((8 : Int32) * x1) + x2))).toInt = (21812 + 41 * (8 * b + i) : Nat) := by
  have e1 : ((8 : Int32) * x1).toInt = (8 * b : Nat) := xImN (by decide) h1 (by omega)
  have e2 : (((8 : Int32) * x1) + x2).toInt = (8 * b + i : Nat) := by rw [xIa (by omega) (by omega), e1, h2]; omega
  have e3 : ((41 : Int32) * (((8 : Int32) * x1) + x2)).toInt = (41 * (8 * b + i) : Nat) := xImN (by decide) e2 (by omega)
  have c : (21812 : Int32).toInt = 21812 := by decide
  rw [xIa (by omega) (by omega), c, e3]
  omega
/-- what a premise assumes is gathered -/
theorem fm_249k {n b k bd : Nat} {h : tx_H} {Θ : List tq_H} {D : List tq_R} {st : tp_P} {oo L : List Nat} {A : List (List Nat)} {x1 x2 x3 : Int32} {s0 s : ps_S} {R : ps_S → Prop} (X : mpX s0 b h Θ D st) (hD : tq_GD h.1 D) (hi : D.length < 40) (K : TKf D.length s0 s) (h1 : x1.toInt = D.length) (hk : k < D.length) (h2 : x2.toInt = k) (M : mk_M s L) (h3 : (x3.toInt = 0 ∧ oo = []) ∨ (x3.toInt ≠ 0 ∧ oo = L)) (hbd : bd < 5000) (P : PAm s D.length A bd) (kk : ∀ s', PAm s' D.length (tq_ga oo A (tq_a D k)) (bd + 12) → KA D.length s s' → R s') : pl_Cl n 249 [.ref 1131, .int x1, .int x2, .int x3] s (ps_rV R) := by
  obtain ⟨-, a1, a2, a3⟩ := mprem (mpX_TKf X hi K) hD hk
  exact fm_249 h1 hi h2 hk a1 a2 a3 M h3 hbd P kk

-- ProofBenchModel.premises(I)I
theorem pl_234_0 {n : Nat} {x0 : Int32} {s : ps_S} {Q : Option Value → ps_S → Prop} (h :
  (x0 = 0 →
    Q (some (.int 0)) s) ∧
  (x0 ≠ 0 →
    (x0 = 1 →
    Q (some (.int 0)) s) ∧
  (x0 ≠ 1 →
    (x0 = 2 →
    Q (some (.int 1)) s) ∧
  (x0 ≠ 2 →
    (x0 = 3 →
    Q (some (.int 2)) s) ∧
  (x0 ≠ 3 →
    (x0 = 4 →
    Q (some (.int 1)) s) ∧
  (x0 ≠ 4 →
    (x0 = 5 →
    Q (some (.int 1)) s) ∧
  (x0 ≠ 5 →
    (x0 = 6 →
    Q (some (.int 1)) s) ∧
  (x0 ≠ 6 →
    (x0 = 7 →
    Q (some (.int 1)) s) ∧
  (x0 ≠ 7 →
    (x0 = 8 →
    Q (some (.int 3)) s) ∧
  (x0 ≠ 8 →
    (x0 = 9 →
    Q (some (.int 2)) s) ∧
  (x0 ≠ 9 →
    (x0 = 10 →
    Q (some (.int 1)) s) ∧
  (x0 ≠ 10 →
    (x0 = 11 →
    Q (some (.int 1)) s) ∧
  (x0 ≠ 11 →
    (x0 = 12 →
    Q (some (.int 1)) s) ∧
  (x0 ≠ 12 →
    (x0 = 13 →
    Q (some (.int 1)) s) ∧
  (x0 ≠ 13 →
    (x0 = 14 →
    Q (some (.int 2)) s) ∧
  (x0 ≠ 14 →
    (x0 = 15 →
    Q (some (.int 0)) s) ∧
  (x0 ≠ 15 →
    (x0 = 16 →
    Q (some (.int 2)) s) ∧
  (x0 ≠ 16 →
    Q (some (.int 1)) s)))))))))))))))))) : pl_At (n + 1) 234 0 [(0, .int x0)] [] s Q :=
  pl_wp_at (stops := []) (f := 40) h rfl

/-- how many premises -/
theorem fm_234 {n r : Nat} {x0 : Int32} {s : ps_S} {R : Int32 → ps_S → Prop} (h0 : x0.toInt = kd r) (hr : tp_ok r) (k : ∀ v : Int32, v.toInt = tp_nn r → R v s) : pl_Cl n 234 [.int x0] s (ps_rI R) := by
  cases n with
  | zero => exact pl_At_0
  | succ n =>
  show pl_At (n + 1) 234 0 [(0, .int x0)] [] s (ps_rI R)
  rcases tp_ok_c hr with rfl | rfl | rfl | rfl | rfl | rfl | rfl | rfl | rfl | rfl | rfl | rfl | rfl | rfl | rfl | rfl | rfl | rfl | rfl
  · have er : x0.toInt = (15 : Int) := h0.trans rfl
    refine pl_234_0 ?_
    refine ⟨fun z => absurd (show x0.toInt = (0 : Int) from xeq z) (by omega), fun _ => ?_⟩
    refine ⟨fun z => absurd (show x0.toInt = (1 : Int) from xeq z) (by omega), fun _ => ?_⟩
    refine ⟨fun z => absurd (show x0.toInt = (2 : Int) from xeq z) (by omega), fun _ => ?_⟩
    refine ⟨fun z => absurd (show x0.toInt = (3 : Int) from xeq z) (by omega), fun _ => ?_⟩
    refine ⟨fun z => absurd (show x0.toInt = (4 : Int) from xeq z) (by omega), fun _ => ?_⟩
    refine ⟨fun z => absurd (show x0.toInt = (5 : Int) from xeq z) (by omega), fun _ => ?_⟩
    refine ⟨fun z => absurd (show x0.toInt = (6 : Int) from xeq z) (by omega), fun _ => ?_⟩
    refine ⟨fun z => absurd (show x0.toInt = (7 : Int) from xeq z) (by omega), fun _ => ?_⟩
    refine ⟨fun z => absurd (show x0.toInt = (8 : Int) from xeq z) (by omega), fun _ => ?_⟩
    refine ⟨fun z => absurd (show x0.toInt = (9 : Int) from xeq z) (by omega), fun _ => ?_⟩
    refine ⟨fun z => absurd (show x0.toInt = (10 : Int) from xeq z) (by omega), fun _ => ?_⟩
    refine ⟨fun z => absurd (show x0.toInt = (11 : Int) from xeq z) (by omega), fun _ => ?_⟩
    refine ⟨fun z => absurd (show x0.toInt = (12 : Int) from xeq z) (by omega), fun _ => ?_⟩
    refine ⟨fun z => absurd (show x0.toInt = (13 : Int) from xeq z) (by omega), fun _ => ?_⟩
    refine ⟨fun z => absurd (show x0.toInt = (14 : Int) from xeq z) (by omega), fun _ => ?_⟩
    refine ⟨fun _ => ?_, fun z => absurd (show x0.toInt = (15 : Int) from er) (xne z)⟩
    exact k _ rfl
  · have er : x0.toInt = (1 : Int) := h0.trans rfl
    refine pl_234_0 ?_
    refine ⟨fun z => absurd (show x0.toInt = (0 : Int) from xeq z) (by omega), fun _ => ?_⟩
    refine ⟨fun _ => ?_, fun z => absurd (show x0.toInt = (1 : Int) from er) (xne z)⟩
    exact k _ rfl
  · have er : x0.toInt = (0 : Int) := h0.trans rfl
    refine pl_234_0 ?_
    refine ⟨fun _ => ?_, fun z => absurd (show x0.toInt = (0 : Int) from er) (xne z)⟩
    exact k _ rfl
  · have er : x0.toInt = (2 : Int) := h0.trans rfl
    refine pl_234_0 ?_
    refine ⟨fun z => absurd (show x0.toInt = (0 : Int) from xeq z) (by omega), fun _ => ?_⟩
    refine ⟨fun z => absurd (show x0.toInt = (1 : Int) from xeq z) (by omega), fun _ => ?_⟩
    refine ⟨fun _ => ?_, fun z => absurd (show x0.toInt = (2 : Int) from er) (xne z)⟩
    exact k _ rfl
  · have er : x0.toInt = (3 : Int) := h0.trans rfl
    refine pl_234_0 ?_
    refine ⟨fun z => absurd (show x0.toInt = (0 : Int) from xeq z) (by omega), fun _ => ?_⟩
    refine ⟨fun z => absurd (show x0.toInt = (1 : Int) from xeq z) (by omega), fun _ => ?_⟩
    refine ⟨fun z => absurd (show x0.toInt = (2 : Int) from xeq z) (by omega), fun _ => ?_⟩
    refine ⟨fun _ => ?_, fun z => absurd (show x0.toInt = (3 : Int) from er) (xne z)⟩
    exact k _ rfl
  · have er : x0.toInt = (4 : Int) := h0.trans rfl
    refine pl_234_0 ?_
    refine ⟨fun z => absurd (show x0.toInt = (0 : Int) from xeq z) (by omega), fun _ => ?_⟩
    refine ⟨fun z => absurd (show x0.toInt = (1 : Int) from xeq z) (by omega), fun _ => ?_⟩
    refine ⟨fun z => absurd (show x0.toInt = (2 : Int) from xeq z) (by omega), fun _ => ?_⟩
    refine ⟨fun z => absurd (show x0.toInt = (3 : Int) from xeq z) (by omega), fun _ => ?_⟩
    refine ⟨fun _ => ?_, fun z => absurd (show x0.toInt = (4 : Int) from er) (xne z)⟩
    exact k _ rfl
  · have er : x0.toInt = (5 : Int) := h0.trans rfl
    refine pl_234_0 ?_
    refine ⟨fun z => absurd (show x0.toInt = (0 : Int) from xeq z) (by omega), fun _ => ?_⟩
    refine ⟨fun z => absurd (show x0.toInt = (1 : Int) from xeq z) (by omega), fun _ => ?_⟩
    refine ⟨fun z => absurd (show x0.toInt = (2 : Int) from xeq z) (by omega), fun _ => ?_⟩
    refine ⟨fun z => absurd (show x0.toInt = (3 : Int) from xeq z) (by omega), fun _ => ?_⟩
    refine ⟨fun z => absurd (show x0.toInt = (4 : Int) from xeq z) (by omega), fun _ => ?_⟩
    refine ⟨fun _ => ?_, fun z => absurd (show x0.toInt = (5 : Int) from er) (xne z)⟩
    exact k _ rfl
  · have er : x0.toInt = (6 : Int) := h0.trans rfl
    refine pl_234_0 ?_
    refine ⟨fun z => absurd (show x0.toInt = (0 : Int) from xeq z) (by omega), fun _ => ?_⟩
    refine ⟨fun z => absurd (show x0.toInt = (1 : Int) from xeq z) (by omega), fun _ => ?_⟩
    refine ⟨fun z => absurd (show x0.toInt = (2 : Int) from xeq z) (by omega), fun _ => ?_⟩
    refine ⟨fun z => absurd (show x0.toInt = (3 : Int) from xeq z) (by omega), fun _ => ?_⟩
    refine ⟨fun z => absurd (show x0.toInt = (4 : Int) from xeq z) (by omega), fun _ => ?_⟩
    refine ⟨fun z => absurd (show x0.toInt = (5 : Int) from xeq z) (by omega), fun _ => ?_⟩
    refine ⟨fun _ => ?_, fun z => absurd (show x0.toInt = (6 : Int) from er) (xne z)⟩
    exact k _ rfl
  · have er : x0.toInt = (7 : Int) := h0.trans rfl
    refine pl_234_0 ?_
    refine ⟨fun z => absurd (show x0.toInt = (0 : Int) from xeq z) (by omega), fun _ => ?_⟩
    refine ⟨fun z => absurd (show x0.toInt = (1 : Int) from xeq z) (by omega), fun _ => ?_⟩
    refine ⟨fun z => absurd (show x0.toInt = (2 : Int) from xeq z) (by omega), fun _ => ?_⟩
    refine ⟨fun z => absurd (show x0.toInt = (3 : Int) from xeq z) (by omega), fun _ => ?_⟩
    refine ⟨fun z => absurd (show x0.toInt = (4 : Int) from xeq z) (by omega), fun _ => ?_⟩
    refine ⟨fun z => absurd (show x0.toInt = (5 : Int) from xeq z) (by omega), fun _ => ?_⟩
    refine ⟨fun z => absurd (show x0.toInt = (6 : Int) from xeq z) (by omega), fun _ => ?_⟩
    refine ⟨fun _ => ?_, fun z => absurd (show x0.toInt = (7 : Int) from er) (xne z)⟩
    exact k _ rfl
  · have er : x0.toInt = (8 : Int) := h0.trans rfl
    refine pl_234_0 ?_
    refine ⟨fun z => absurd (show x0.toInt = (0 : Int) from xeq z) (by omega), fun _ => ?_⟩
    refine ⟨fun z => absurd (show x0.toInt = (1 : Int) from xeq z) (by omega), fun _ => ?_⟩
    refine ⟨fun z => absurd (show x0.toInt = (2 : Int) from xeq z) (by omega), fun _ => ?_⟩
    refine ⟨fun z => absurd (show x0.toInt = (3 : Int) from xeq z) (by omega), fun _ => ?_⟩
    refine ⟨fun z => absurd (show x0.toInt = (4 : Int) from xeq z) (by omega), fun _ => ?_⟩
    refine ⟨fun z => absurd (show x0.toInt = (5 : Int) from xeq z) (by omega), fun _ => ?_⟩
    refine ⟨fun z => absurd (show x0.toInt = (6 : Int) from xeq z) (by omega), fun _ => ?_⟩
    refine ⟨fun z => absurd (show x0.toInt = (7 : Int) from xeq z) (by omega), fun _ => ?_⟩
    refine ⟨fun _ => ?_, fun z => absurd (show x0.toInt = (8 : Int) from er) (xne z)⟩
    exact k _ rfl
  · have er : x0.toInt = (9 : Int) := h0.trans rfl
    refine pl_234_0 ?_
    refine ⟨fun z => absurd (show x0.toInt = (0 : Int) from xeq z) (by omega), fun _ => ?_⟩
    refine ⟨fun z => absurd (show x0.toInt = (1 : Int) from xeq z) (by omega), fun _ => ?_⟩
    refine ⟨fun z => absurd (show x0.toInt = (2 : Int) from xeq z) (by omega), fun _ => ?_⟩
    refine ⟨fun z => absurd (show x0.toInt = (3 : Int) from xeq z) (by omega), fun _ => ?_⟩
    refine ⟨fun z => absurd (show x0.toInt = (4 : Int) from xeq z) (by omega), fun _ => ?_⟩
    refine ⟨fun z => absurd (show x0.toInt = (5 : Int) from xeq z) (by omega), fun _ => ?_⟩
    refine ⟨fun z => absurd (show x0.toInt = (6 : Int) from xeq z) (by omega), fun _ => ?_⟩
    refine ⟨fun z => absurd (show x0.toInt = (7 : Int) from xeq z) (by omega), fun _ => ?_⟩
    refine ⟨fun z => absurd (show x0.toInt = (8 : Int) from xeq z) (by omega), fun _ => ?_⟩
    refine ⟨fun _ => ?_, fun z => absurd (show x0.toInt = (9 : Int) from er) (xne z)⟩
    exact k _ rfl
  · have er : x0.toInt = (10 : Int) := h0.trans rfl
    refine pl_234_0 ?_
    refine ⟨fun z => absurd (show x0.toInt = (0 : Int) from xeq z) (by omega), fun _ => ?_⟩
    refine ⟨fun z => absurd (show x0.toInt = (1 : Int) from xeq z) (by omega), fun _ => ?_⟩
    refine ⟨fun z => absurd (show x0.toInt = (2 : Int) from xeq z) (by omega), fun _ => ?_⟩
    refine ⟨fun z => absurd (show x0.toInt = (3 : Int) from xeq z) (by omega), fun _ => ?_⟩
    refine ⟨fun z => absurd (show x0.toInt = (4 : Int) from xeq z) (by omega), fun _ => ?_⟩
    refine ⟨fun z => absurd (show x0.toInt = (5 : Int) from xeq z) (by omega), fun _ => ?_⟩
    refine ⟨fun z => absurd (show x0.toInt = (6 : Int) from xeq z) (by omega), fun _ => ?_⟩
    refine ⟨fun z => absurd (show x0.toInt = (7 : Int) from xeq z) (by omega), fun _ => ?_⟩
    refine ⟨fun z => absurd (show x0.toInt = (8 : Int) from xeq z) (by omega), fun _ => ?_⟩
    refine ⟨fun z => absurd (show x0.toInt = (9 : Int) from xeq z) (by omega), fun _ => ?_⟩
    refine ⟨fun _ => ?_, fun z => absurd (show x0.toInt = (10 : Int) from er) (xne z)⟩
    exact k _ rfl
  · have er : x0.toInt = (11 : Int) := h0.trans rfl
    refine pl_234_0 ?_
    refine ⟨fun z => absurd (show x0.toInt = (0 : Int) from xeq z) (by omega), fun _ => ?_⟩
    refine ⟨fun z => absurd (show x0.toInt = (1 : Int) from xeq z) (by omega), fun _ => ?_⟩
    refine ⟨fun z => absurd (show x0.toInt = (2 : Int) from xeq z) (by omega), fun _ => ?_⟩
    refine ⟨fun z => absurd (show x0.toInt = (3 : Int) from xeq z) (by omega), fun _ => ?_⟩
    refine ⟨fun z => absurd (show x0.toInt = (4 : Int) from xeq z) (by omega), fun _ => ?_⟩
    refine ⟨fun z => absurd (show x0.toInt = (5 : Int) from xeq z) (by omega), fun _ => ?_⟩
    refine ⟨fun z => absurd (show x0.toInt = (6 : Int) from xeq z) (by omega), fun _ => ?_⟩
    refine ⟨fun z => absurd (show x0.toInt = (7 : Int) from xeq z) (by omega), fun _ => ?_⟩
    refine ⟨fun z => absurd (show x0.toInt = (8 : Int) from xeq z) (by omega), fun _ => ?_⟩
    refine ⟨fun z => absurd (show x0.toInt = (9 : Int) from xeq z) (by omega), fun _ => ?_⟩
    refine ⟨fun z => absurd (show x0.toInt = (10 : Int) from xeq z) (by omega), fun _ => ?_⟩
    refine ⟨fun _ => ?_, fun z => absurd (show x0.toInt = (11 : Int) from er) (xne z)⟩
    exact k _ rfl
  · have er : x0.toInt = (12 : Int) := h0.trans rfl
    refine pl_234_0 ?_
    refine ⟨fun z => absurd (show x0.toInt = (0 : Int) from xeq z) (by omega), fun _ => ?_⟩
    refine ⟨fun z => absurd (show x0.toInt = (1 : Int) from xeq z) (by omega), fun _ => ?_⟩
    refine ⟨fun z => absurd (show x0.toInt = (2 : Int) from xeq z) (by omega), fun _ => ?_⟩
    refine ⟨fun z => absurd (show x0.toInt = (3 : Int) from xeq z) (by omega), fun _ => ?_⟩
    refine ⟨fun z => absurd (show x0.toInt = (4 : Int) from xeq z) (by omega), fun _ => ?_⟩
    refine ⟨fun z => absurd (show x0.toInt = (5 : Int) from xeq z) (by omega), fun _ => ?_⟩
    refine ⟨fun z => absurd (show x0.toInt = (6 : Int) from xeq z) (by omega), fun _ => ?_⟩
    refine ⟨fun z => absurd (show x0.toInt = (7 : Int) from xeq z) (by omega), fun _ => ?_⟩
    refine ⟨fun z => absurd (show x0.toInt = (8 : Int) from xeq z) (by omega), fun _ => ?_⟩
    refine ⟨fun z => absurd (show x0.toInt = (9 : Int) from xeq z) (by omega), fun _ => ?_⟩
    refine ⟨fun z => absurd (show x0.toInt = (10 : Int) from xeq z) (by omega), fun _ => ?_⟩
    refine ⟨fun z => absurd (show x0.toInt = (11 : Int) from xeq z) (by omega), fun _ => ?_⟩
    refine ⟨fun _ => ?_, fun z => absurd (show x0.toInt = (12 : Int) from er) (xne z)⟩
    exact k _ rfl
  · have er : x0.toInt = (13 : Int) := h0.trans rfl
    refine pl_234_0 ?_
    refine ⟨fun z => absurd (show x0.toInt = (0 : Int) from xeq z) (by omega), fun _ => ?_⟩
    refine ⟨fun z => absurd (show x0.toInt = (1 : Int) from xeq z) (by omega), fun _ => ?_⟩
    refine ⟨fun z => absurd (show x0.toInt = (2 : Int) from xeq z) (by omega), fun _ => ?_⟩
    refine ⟨fun z => absurd (show x0.toInt = (3 : Int) from xeq z) (by omega), fun _ => ?_⟩
    refine ⟨fun z => absurd (show x0.toInt = (4 : Int) from xeq z) (by omega), fun _ => ?_⟩
    refine ⟨fun z => absurd (show x0.toInt = (5 : Int) from xeq z) (by omega), fun _ => ?_⟩
    refine ⟨fun z => absurd (show x0.toInt = (6 : Int) from xeq z) (by omega), fun _ => ?_⟩
    refine ⟨fun z => absurd (show x0.toInt = (7 : Int) from xeq z) (by omega), fun _ => ?_⟩
    refine ⟨fun z => absurd (show x0.toInt = (8 : Int) from xeq z) (by omega), fun _ => ?_⟩
    refine ⟨fun z => absurd (show x0.toInt = (9 : Int) from xeq z) (by omega), fun _ => ?_⟩
    refine ⟨fun z => absurd (show x0.toInt = (10 : Int) from xeq z) (by omega), fun _ => ?_⟩
    refine ⟨fun z => absurd (show x0.toInt = (11 : Int) from xeq z) (by omega), fun _ => ?_⟩
    refine ⟨fun z => absurd (show x0.toInt = (12 : Int) from xeq z) (by omega), fun _ => ?_⟩
    refine ⟨fun _ => ?_, fun z => absurd (show x0.toInt = (13 : Int) from er) (xne z)⟩
    exact k _ rfl
  · have er : x0.toInt = (14 : Int) := h0.trans rfl
    refine pl_234_0 ?_
    refine ⟨fun z => absurd (show x0.toInt = (0 : Int) from xeq z) (by omega), fun _ => ?_⟩
    refine ⟨fun z => absurd (show x0.toInt = (1 : Int) from xeq z) (by omega), fun _ => ?_⟩
    refine ⟨fun z => absurd (show x0.toInt = (2 : Int) from xeq z) (by omega), fun _ => ?_⟩
    refine ⟨fun z => absurd (show x0.toInt = (3 : Int) from xeq z) (by omega), fun _ => ?_⟩
    refine ⟨fun z => absurd (show x0.toInt = (4 : Int) from xeq z) (by omega), fun _ => ?_⟩
    refine ⟨fun z => absurd (show x0.toInt = (5 : Int) from xeq z) (by omega), fun _ => ?_⟩
    refine ⟨fun z => absurd (show x0.toInt = (6 : Int) from xeq z) (by omega), fun _ => ?_⟩
    refine ⟨fun z => absurd (show x0.toInt = (7 : Int) from xeq z) (by omega), fun _ => ?_⟩
    refine ⟨fun z => absurd (show x0.toInt = (8 : Int) from xeq z) (by omega), fun _ => ?_⟩
    refine ⟨fun z => absurd (show x0.toInt = (9 : Int) from xeq z) (by omega), fun _ => ?_⟩
    refine ⟨fun z => absurd (show x0.toInt = (10 : Int) from xeq z) (by omega), fun _ => ?_⟩
    refine ⟨fun z => absurd (show x0.toInt = (11 : Int) from xeq z) (by omega), fun _ => ?_⟩
    refine ⟨fun z => absurd (show x0.toInt = (12 : Int) from xeq z) (by omega), fun _ => ?_⟩
    refine ⟨fun z => absurd (show x0.toInt = (13 : Int) from xeq z) (by omega), fun _ => ?_⟩
    refine ⟨fun _ => ?_, fun z => absurd (show x0.toInt = (14 : Int) from er) (xne z)⟩
    exact k _ rfl
  · have er : x0.toInt = (16 : Int) := h0.trans rfl
    refine pl_234_0 ?_
    refine ⟨fun z => absurd (show x0.toInt = (0 : Int) from xeq z) (by omega), fun _ => ?_⟩
    refine ⟨fun z => absurd (show x0.toInt = (1 : Int) from xeq z) (by omega), fun _ => ?_⟩
    refine ⟨fun z => absurd (show x0.toInt = (2 : Int) from xeq z) (by omega), fun _ => ?_⟩
    refine ⟨fun z => absurd (show x0.toInt = (3 : Int) from xeq z) (by omega), fun _ => ?_⟩
    refine ⟨fun z => absurd (show x0.toInt = (4 : Int) from xeq z) (by omega), fun _ => ?_⟩
    refine ⟨fun z => absurd (show x0.toInt = (5 : Int) from xeq z) (by omega), fun _ => ?_⟩
    refine ⟨fun z => absurd (show x0.toInt = (6 : Int) from xeq z) (by omega), fun _ => ?_⟩
    refine ⟨fun z => absurd (show x0.toInt = (7 : Int) from xeq z) (by omega), fun _ => ?_⟩
    refine ⟨fun z => absurd (show x0.toInt = (8 : Int) from xeq z) (by omega), fun _ => ?_⟩
    refine ⟨fun z => absurd (show x0.toInt = (9 : Int) from xeq z) (by omega), fun _ => ?_⟩
    refine ⟨fun z => absurd (show x0.toInt = (10 : Int) from xeq z) (by omega), fun _ => ?_⟩
    refine ⟨fun z => absurd (show x0.toInt = (11 : Int) from xeq z) (by omega), fun _ => ?_⟩
    refine ⟨fun z => absurd (show x0.toInt = (12 : Int) from xeq z) (by omega), fun _ => ?_⟩
    refine ⟨fun z => absurd (show x0.toInt = (13 : Int) from xeq z) (by omega), fun _ => ?_⟩
    refine ⟨fun z => absurd (show x0.toInt = (14 : Int) from xeq z) (by omega), fun _ => ?_⟩
    refine ⟨fun z => absurd (show x0.toInt = (15 : Int) from xeq z) (by omega), fun _ => ?_⟩
    refine ⟨fun _ => ?_, fun z => absurd (show x0.toInt = (16 : Int) from er) (xne z)⟩
    exact k _ rfl
  · have er : x0.toInt = (17 : Int) := h0.trans rfl
    refine pl_234_0 ?_
    refine ⟨fun z => absurd (show x0.toInt = (0 : Int) from xeq z) (by omega), fun _ => ?_⟩
    refine ⟨fun z => absurd (show x0.toInt = (1 : Int) from xeq z) (by omega), fun _ => ?_⟩
    refine ⟨fun z => absurd (show x0.toInt = (2 : Int) from xeq z) (by omega), fun _ => ?_⟩
    refine ⟨fun z => absurd (show x0.toInt = (3 : Int) from xeq z) (by omega), fun _ => ?_⟩
    refine ⟨fun z => absurd (show x0.toInt = (4 : Int) from xeq z) (by omega), fun _ => ?_⟩
    refine ⟨fun z => absurd (show x0.toInt = (5 : Int) from xeq z) (by omega), fun _ => ?_⟩
    refine ⟨fun z => absurd (show x0.toInt = (6 : Int) from xeq z) (by omega), fun _ => ?_⟩
    refine ⟨fun z => absurd (show x0.toInt = (7 : Int) from xeq z) (by omega), fun _ => ?_⟩
    refine ⟨fun z => absurd (show x0.toInt = (8 : Int) from xeq z) (by omega), fun _ => ?_⟩
    refine ⟨fun z => absurd (show x0.toInt = (9 : Int) from xeq z) (by omega), fun _ => ?_⟩
    refine ⟨fun z => absurd (show x0.toInt = (10 : Int) from xeq z) (by omega), fun _ => ?_⟩
    refine ⟨fun z => absurd (show x0.toInt = (11 : Int) from xeq z) (by omega), fun _ => ?_⟩
    refine ⟨fun z => absurd (show x0.toInt = (12 : Int) from xeq z) (by omega), fun _ => ?_⟩
    refine ⟨fun z => absurd (show x0.toInt = (13 : Int) from xeq z) (by omega), fun _ => ?_⟩
    refine ⟨fun z => absurd (show x0.toInt = (14 : Int) from xeq z) (by omega), fun _ => ?_⟩
    refine ⟨fun z => absurd (show x0.toInt = (15 : Int) from xeq z) (by omega), fun _ => ?_⟩
    refine ⟨fun z => absurd (show x0.toInt = (16 : Int) from xeq z) (by omega), fun _ => ?_⟩
    exact k _ rfl
  · have er : x0.toInt = (18 : Int) := h0.trans rfl
    refine pl_234_0 ?_
    refine ⟨fun z => absurd (show x0.toInt = (0 : Int) from xeq z) (by omega), fun _ => ?_⟩
    refine ⟨fun z => absurd (show x0.toInt = (1 : Int) from xeq z) (by omega), fun _ => ?_⟩
    refine ⟨fun z => absurd (show x0.toInt = (2 : Int) from xeq z) (by omega), fun _ => ?_⟩
    refine ⟨fun z => absurd (show x0.toInt = (3 : Int) from xeq z) (by omega), fun _ => ?_⟩
    refine ⟨fun z => absurd (show x0.toInt = (4 : Int) from xeq z) (by omega), fun _ => ?_⟩
    refine ⟨fun z => absurd (show x0.toInt = (5 : Int) from xeq z) (by omega), fun _ => ?_⟩
    refine ⟨fun z => absurd (show x0.toInt = (6 : Int) from xeq z) (by omega), fun _ => ?_⟩
    refine ⟨fun z => absurd (show x0.toInt = (7 : Int) from xeq z) (by omega), fun _ => ?_⟩
    refine ⟨fun z => absurd (show x0.toInt = (8 : Int) from xeq z) (by omega), fun _ => ?_⟩
    refine ⟨fun z => absurd (show x0.toInt = (9 : Int) from xeq z) (by omega), fun _ => ?_⟩
    refine ⟨fun z => absurd (show x0.toInt = (10 : Int) from xeq z) (by omega), fun _ => ?_⟩
    refine ⟨fun z => absurd (show x0.toInt = (11 : Int) from xeq z) (by omega), fun _ => ?_⟩
    refine ⟨fun z => absurd (show x0.toInt = (12 : Int) from xeq z) (by omega), fun _ => ?_⟩
    refine ⟨fun z => absurd (show x0.toInt = (13 : Int) from xeq z) (by omega), fun _ => ?_⟩
    refine ⟨fun z => absurd (show x0.toInt = (14 : Int) from xeq z) (by omega), fun _ => ?_⟩
    refine ⟨fun z => absurd (show x0.toInt = (15 : Int) from xeq z) (by omega), fun _ => ?_⟩
    refine ⟨fun z => absurd (show x0.toInt = (16 : Int) from xeq z) (by omega), fun _ => ?_⟩
    exact k _ rfl

-- ProofBenchModel.havePremises(I)Z
theorem pl_250_0 {n : Nat} {x1 : Int32} {s : ps_S} {Q : Option Value → ps_S → Prop} (h :
  (pm_in x1 40 = true →
    pl_Cl n 234 [.int (ps_a s 1152 (Int32.toNatClampNeg x1))] s (ps_rI (fun v1 s1 =>
      (pm_in x1 40 = true →
        ((ps_a s1 1152 (Int32.toNatClampNeg x1)) ≠ 2 →
          (v1 < 1 →
            pl_At n 250 54 [(0, .ref 1131), (1, .int x1), (2, .int v1)] [] s1 Q) ∧
          (1 ≤ v1 →
            (pm_in x1 40 = true →
              (x1 ≤ (ps_a s1 1153 (Int32.toNatClampNeg x1)) →
                Q (some (.int 0)) s1) ∧
              ((ps_a s1 1153 (Int32.toNatClampNeg x1)) < x1 →
                pl_At n 250 54 [(0, .ref 1131), (1, .int x1), (2, .int v1)] [] s1 Q)))) ∧
        ((ps_a s1 1152 (Int32.toNatClampNeg x1)) = 2 →
          (pm_in x1 40 = true →
            ((ps_i s1 1131 54) ≤ (ps_a s1 1153 (Int32.toNatClampNeg x1)) →
              Q (some (.int 0)) s1) ∧
            ((ps_a s1 1153 (Int32.toNatClampNeg x1)) < (ps_i s1 1131 54) →
              Q (some (.int 1)) s1)))))))) : pl_At (n + 1) 250 0 [(0, .ref 1131), (1, .int x1)] [] s Q :=
  pl_wp_at (stops := [(54, [0, 1, 2]), (69, [0, 1, 2])]) (f := 37) h rfl

theorem pl_250_54 {n : Nat} {x1 : Int32} {x2 : Int32} {s : ps_S} {Q : Option Value → ps_S → Prop} (h :
  (x2 < 2 →
    pl_At n 250 69 [(0, .ref 1131), (1, .int x1), (2, .int x2)] [] s Q) ∧
  (2 ≤ x2 →
    (pm_in x1 40 = true →
      (x1 ≤ (ps_a s 1154 (Int32.toNatClampNeg x1)) →
        Q (some (.int 0)) s) ∧
      ((ps_a s 1154 (Int32.toNatClampNeg x1)) < x1 →
        pl_At n 250 69 [(0, .ref 1131), (1, .int x1), (2, .int x2)] [] s Q)))) : pl_At (n + 1) 250 54 [(0, .ref 1131), (1, .int x1), (2, .int x2)] [] s Q :=
  pl_wp_at (stops := [(54, [0, 1, 2]), (69, [0, 1, 2])]) (f := 13) h rfl

theorem pl_250_69 {n : Nat} {x1 : Int32} {x2 : Int32} {s : ps_S} {Q : Option Value → ps_S → Prop} (h :
  (x2 < 3 →
    Q (some (.int 1)) s) ∧
  (3 ≤ x2 →
    (pm_in x1 40 = true →
      (x1 ≤ (ps_a s 1155 (Int32.toNatClampNeg x1)) →
        Q (some (.int 0)) s) ∧
      ((ps_a s 1155 (Int32.toNatClampNeg x1)) < x1 →
        Q (some (.int 1)) s)))) : pl_At (n + 1) 250 69 [(0, .ref 1131), (1, .int x1), (2, .int x2)] [] s Q :=
  pl_wp_at (stops := [(54, [0, 1, 2]), (69, [0, 1, 2])]) (f := 19) h rfl

-- ProofBenchModel.leanOn(II)V
theorem pl_251_0 {n : Nat} {x1 : Int32} {x2 : Int32} {s : ps_S} {Q : Option Value → ps_S → Prop} (h :
  (pm_in x1 40 = true →
    (pm_in x2 40 = true →
      (pm_in x1 40 = true →
        (pm_in x1 40 = true →
          (pm_in x2 40 = true →
            (pm_in x1 40 = true →
              (pm_in x1 40 = true →
                (pm_in x2 40 = true →
                  (pm_in x1 40 = true →
                    Q none (ps_ub (ps_ua (ps_ua s 1158 (Int32.toNatClampNeg x1) ((ps_a s 1158 (Int32.toNatClampNeg x1)) ||| (ps_a s 1158 (Int32.toNatClampNeg x2)))) 1159 (Int32.toNatClampNeg x1) ((ps_a (ps_ua s 1158 (Int32.toNatClampNeg x1) ((ps_a s 1158 (Int32.toNatClampNeg x1)) ||| (ps_a s 1158 (Int32.toNatClampNeg x2)))) 1159 (Int32.toNatClampNeg x1)) ||| (ps_a (ps_ua s 1158 (Int32.toNatClampNeg x1) ((ps_a s 1158 (Int32.toNatClampNeg x1)) ||| (ps_a s 1158 (Int32.toNatClampNeg x2)))) 1159 (Int32.toNatClampNeg x2)))) 1160 (Int32.toNatClampNeg x1) ((ps_b (ps_ua (ps_ua s 1158 (Int32.toNatClampNeg x1) ((ps_a s 1158 (Int32.toNatClampNeg x1)) ||| (ps_a s 1158 (Int32.toNatClampNeg x2)))) 1159 (Int32.toNatClampNeg x1) ((ps_a (ps_ua s 1158 (Int32.toNatClampNeg x1) ((ps_a s 1158 (Int32.toNatClampNeg x1)) ||| (ps_a s 1158 (Int32.toNatClampNeg x2)))) 1159 (Int32.toNatClampNeg x1)) ||| (ps_a (ps_ua s 1158 (Int32.toNatClampNeg x1) ((ps_a s 1158 (Int32.toNatClampNeg x1)) ||| (ps_a s 1158 (Int32.toNatClampNeg x2)))) 1159 (Int32.toNatClampNeg x2)))) 1160 (Int32.toNatClampNeg x1)) ||| (ps_b (ps_ua (ps_ua s 1158 (Int32.toNatClampNeg x1) ((ps_a s 1158 (Int32.toNatClampNeg x1)) ||| (ps_a s 1158 (Int32.toNatClampNeg x2)))) 1159 (Int32.toNatClampNeg x1) ((ps_a (ps_ua s 1158 (Int32.toNatClampNeg x1) ((ps_a s 1158 (Int32.toNatClampNeg x1)) ||| (ps_a s 1158 (Int32.toNatClampNeg x2)))) 1159 (Int32.toNatClampNeg x1)) ||| (ps_a (ps_ua s 1158 (Int32.toNatClampNeg x1) ((ps_a s 1158 (Int32.toNatClampNeg x1)) ||| (ps_a s 1158 (Int32.toNatClampNeg x2)))) 1159 (Int32.toNatClampNeg x2)))) 1160 (Int32.toNatClampNeg x2)))))))))))))) : pl_At (n + 1) 251 0 [(0, .ref 1131), (1, .int x1), (2, .int x2)] [] s Q :=
  pl_wp_at (stops := []) (f := 36) h rfl

/-- are the premises there -/
theorem fm_250 {n b : Nat} {h : tx_H} {Θ : List tq_H} {D : List tq_R} {st : tp_P} {x1 : Int32} {s : ps_S} {R : Int32 → ps_S → Prop} (h1 : x1.toInt = D.length) (hi : D.length < 40) (X : mpX s b h Θ D st) (hr : tp_ok st.1.1) (k1 : tq_pr Θ D st → R 1 s) (k0 : ¬ tq_pr Θ D st → R 0 s) : pl_Cl n 250 [.ref 1131, .int x1] s (ps_rI R) := by
  cases n with
  | zero => exact pl_At_0
  | succ n =>
  show pl_At (n + 1) 250 0 [(0, .ref 1131), (1, .int x1)] [] s (ps_rI R)
  obtain ⟨t1, t2, t3, t4, -⟩ := X.2.2.2
  have y1 := X.2.1.1
  have h3 := tp_nn_le (r := st.1.1)
  have c1 : (1 : Int32).toInt = 1 := by decide
  have c2 : (2 : Int32).toInt = 2 := by decide
  have c3 : (3 : Int32).toInt = 3 := by decide
  have hk2 : st.1.1 = 12 ↔ (kd st.1.1 : Int) = 2 := by
    unfold kd
    unfold tp_ok at hr
    split
    · omega
    · split
      · omega
      · split
        · omega
        · split <;> omega
  have at69 : st.1.1 ≠ 12 → (1 ≤ tp_nn st.1.1 → st.1.2.1 < D.length) → (2 ≤ tp_nn st.1.1 → st.1.2.2.1 < D.length) → ∀ {n' : Nat} {v : Int32}, v.toInt = tp_nn st.1.1 → pl_At n' 250 69 [(0, .ref 1131), (1, .int x1), (2, .int v)] [] s (ps_rI R) := fun h12 p1 p2 {n' v} hv => by
    cases n' with
    | zero => exact pl_At_0
    | succ n' =>
    have e : tq_pr Θ D st ↔ (3 ≤ tp_nn st.1.1 → st.1.2.2.2 < D.length) := by
      unfold tq_pr
      rw [if_neg h12]
      exact ⟨fun z => z.2.2, fun z => ⟨p1, p2, z⟩⟩
    refine pl_250_69 ?_
    rw [xtn h1]
    refine ⟨fun z => k1 (e.mpr (fun w => ?_)), fun z => ?_⟩
    · have z := xlt z
      omega
    · have z := xle z
      intro _
      have q := t4 (by omega)
      refine ⟨fun w => k0 (fun u => ?_), fun w => k1 (e.mpr (fun _ => ?_))⟩
      · have w := xle w
        have := e.mp u (by omega)
        omega
      · have w := xlt w
        omega
  have at54 : st.1.1 ≠ 12 → (1 ≤ tp_nn st.1.1 → st.1.2.1 < D.length) → ∀ {n' : Nat} {v : Int32}, v.toInt = tp_nn st.1.1 → pl_At n' 250 54 [(0, .ref 1131), (1, .int x1), (2, .int v)] [] s (ps_rI R) := fun h12 p1 {n' v} hv => by
    cases n' with
    | zero => exact pl_At_0
    | succ n' =>
    refine pl_250_54 ?_
    rw [xtn h1]
    refine ⟨fun z => at69 h12 p1 (fun w => ?_) hv, fun z => ?_⟩
    · have z := xlt z
      omega
    · have z := xle z
      intro _
      have q := t3 (by omega)
      refine ⟨fun w => k0 (fun u => ?_), fun w => at69 h12 p1 (fun _ => ?_) hv⟩
      · have w := xle w
        unfold tq_pr at u
        rw [if_neg h12] at u
        have := u.2.1 (by omega)
        omega
      · have w := xlt w
        omega
  refine pl_250_0 ?_
  rw [xtn h1]
  intro _
  refine fm_234 t1 hr (fun v1 q1 => ?_)
  intro _
  refine ⟨fun z => ⟨fun w => at54 ?_ (fun u => ?_) q1, fun w => ?_⟩, fun z => ?_⟩
  · have z : (ps_a s 1152 D.length).toInt ≠ (2 : Int) := xne z
    omega
  · have w := xlt w
    omega
  · have z : (ps_a s 1152 D.length).toInt ≠ (2 : Int) := xne z
    have w := xle w
    have h12 : st.1.1 ≠ 12 := by omega
    intro _
    have q := t2 (by omega)
    refine ⟨fun y => k0 (fun u => ?_), fun y => at54 h12 (fun _ => ?_) q1⟩
    · have y := xle y
      unfold tq_pr at u
      rw [if_neg h12] at u
      have := u.1 (by omega)
      omega
    · have y := xlt y
      omega
  · have z : (ps_a s 1152 D.length).toInt = (2 : Int) := xeq z
    have h12 : st.1.1 = 12 := by omega
    have e : tq_pr Θ D st ↔ st.1.2.1 < Θ.length := by
      unfold tq_pr
      rw [if_pos h12]
    have q := t2 (by rw [h12]; decide)
    intro _
    refine ⟨fun y => k0 (fun u => ?_), fun y => k1 (e.mpr ?_)⟩
    · have y := xle y
      have := e.mp u
      omega
    · have y := xlt y
      omega

-- ProofBenchModel.takesPlain(I)V
theorem pl_253_0 {n : Nat} {x1 : Int32} {s : ps_S} {Q : Option Value → ps_S → Prop} (h :
  pl_Cl n 244 [.ref 1131, .int x1] s (ps_rI (fun v1 s1 =>
    (pm_in x1 40 = true →
      ((ps_a s1 1152 (Int32.toNatClampNeg x1)) = 0 →
        pl_Cl n 227 [.ref 1131, .int ((22468 : Int32) + ((41 : Int32) * x1))] s1 (ps_rV (fun s2 =>
          pl_Cl n 248 [.ref 1131, .int x1, .int ((22468 : Int32) + ((41 : Int32) * x1))] s2 (ps_rV (fun s3 =>
            Q none s3))))) ∧
      ((ps_a s1 1152 (Int32.toNatClampNeg x1)) ≠ 0 →
        ((ps_a s1 1152 (Int32.toNatClampNeg x1)) = 1 →
        (pm_in x1 40 = true →
          pl_Cl n 227 [.ref 1131, .int ((21812 : Int32) + ((41 : Int32) * (((8 : Int32) * (ps_i s1 1131 21)) + (ps_a s1 1153 (Int32.toNatClampNeg x1)))))] s1 (ps_rV (fun s4 =>
            Q none s4)))) ∧
      ((ps_a s1 1152 (Int32.toNatClampNeg x1)) ≠ 1 →
        ((ps_a s1 1152 (Int32.toNatClampNeg x1)) = 2 →
        (pm_in x1 40 = true →
          pl_Cl n 227 [.ref 1131, .int ((21320 : Int32) + ((41 : Int32) * (ps_a s1 1153 (Int32.toNatClampNeg x1))))] s1 (ps_rV (fun s5 =>
            Q none s5)))) ∧
      ((ps_a s1 1152 (Int32.toNatClampNeg x1)) ≠ 2 →
        ((ps_a s1 1152 (Int32.toNatClampNeg x1)) = 3 →
        pl_Cl n 225 [.ref 1131, .int 1] s1 (ps_rV (fun s6 =>
          pl_Cl n 227 [.ref 1131, .int v1] s6 (ps_rV (fun s7 =>
            pl_Cl n 245 [.ref 1131, .int x1] s7 (ps_rI (fun v8 s8 =>
              pl_Cl n 227 [.ref 1131, .int v8] s8 (ps_rV (fun s9 =>
                pl_At n 253 202 [(0, .ref 1131), (1, .int x1)] [] s9 Q))))))))) ∧
      ((ps_a s1 1152 (Int32.toNatClampNeg x1)) ≠ 3 →
        ((ps_a s1 1152 (Int32.toNatClampNeg x1)) = 4 →
        pl_Cl n 254 [.ref 1131, .int x1, .int v1] s1 (ps_rV (fun s10 =>
          pl_At n 253 202 [(0, .ref 1131), (1, .int x1)] [] s10 Q))) ∧
      ((ps_a s1 1152 (Int32.toNatClampNeg x1)) ≠ 4 →
        ((ps_a s1 1152 (Int32.toNatClampNeg x1)) = 5 →
        pl_Cl n 254 [.ref 1131, .int x1, .int v1] s1 (ps_rV (fun s11 =>
          pl_At n 253 202 [(0, .ref 1131), (1, .int x1)] [] s11 Q))) ∧
      ((ps_a s1 1152 (Int32.toNatClampNeg x1)) ≠ 5 →
        pl_Cl n 225 [.ref 1131, .int 2] s1 (ps_rV (fun s12 =>
        (pm_in x1 40 = true →
          ((ps_a s12 1152 (Int32.toNatClampNeg x1)) ≠ 6 →
            pl_At n 253 174 [(0, .ref 1131), (1, .int x1), (2, .int v1)] [] s12 Q) ∧
          ((ps_a s12 1152 (Int32.toNatClampNeg x1)) = 6 →
            pl_Cl n 227 [.ref 1131, .int v1] s12 (ps_rV (fun s13 =>
              pl_At n 253 174 [(0, .ref 1131), (1, .int x1), (2, .int v1)] [] s13 Q)))))))))))))))) : pl_At (n + 1) 253 0 [(0, .ref 1131), (1, .int x1)] [] s Q :=
  pl_wp_at (stops := [(174, [0, 1, 2]), (202, [0, 1])]) (f := 88) h rfl

theorem pl_253_174 {n : Nat} {x1 : Int32} {x2 : Int32} {s : ps_S} {Q : Option Value → ps_S → Prop} (h :
  pl_Cl n 227 [.ref 1131, .int ((22468 : Int32) + ((41 : Int32) * x1))] s (ps_rV (fun s1 =>
    (pm_in x1 40 = true →
      ((ps_a s1 1152 (Int32.toNatClampNeg x1)) ≠ 7 →
        pl_At n 253 202 [(0, .ref 1131), (1, .int x1)] [] s1 Q) ∧
      ((ps_a s1 1152 (Int32.toNatClampNeg x1)) = 7 →
        pl_Cl n 227 [.ref 1131, .int x2] s1 (ps_rV (fun s2 =>
          pl_At n 253 202 [(0, .ref 1131), (1, .int x1)] [] s2 Q))))))) : pl_At (n + 1) 253 174 [(0, .ref 1131), (1, .int x1), (2, .int x2)] [] s Q :=
  pl_wp_at (stops := [(174, [0, 1, 2]), (202, [0, 1])]) (f := 18) h rfl

theorem pl_253_202 {n : Nat} {x1 : Int32} {s : ps_S} {Q : Option Value → ps_S → Prop} (h :
  (pm_in x1 40 = true →
    pl_Cl n 249 [.ref 1131, .int x1, .int (ps_a s 1153 (Int32.toNatClampNeg x1)), .int 0] s (ps_rV (fun s1 =>
      (pm_in x1 40 = true →
        ((ps_a s1 1152 (Int32.toNatClampNeg x1)) ≠ 3 →
          Q none s1) ∧
        ((ps_a s1 1152 (Int32.toNatClampNeg x1)) = 3 →
          (pm_in x1 40 = true →
            pl_Cl n 249 [.ref 1131, .int x1, .int (ps_a s1 1154 (Int32.toNatClampNeg x1)), .int 0] s1 (ps_rV (fun s2 =>
              Q none s2))))))))) : pl_At (n + 1) 253 202 [(0, .ref 1131), (1, .int x1)] [] s Q :=
  pl_wp_at (stops := [(174, [0, 1, 2]), (202, [0, 1])]) (f := 26) h rfl

-- ProofBenchModel.takesPart(II)V
theorem pl_254_0 {n : Nat} {x1 : Int32} {x2 : Int32} {s : ps_S} {Q : Option Value → ps_S → Prop} (h :
  pl_Cl n 247 [.ref 1131, .int x2] s (ps_rI (fun v1 s1 =>
    (v1 = 1 →
      pl_Cl n 221 [.ref 1131, .int x2, .int 1] s1 (ps_rI (fun v2 s2 =>
        (pm_in x1 40 = true →
          ((ps_a s2 1152 (Int32.toNatClampNeg x1)) ≠ 4 →
            pl_Cl n 219 [.ref 1131, .int x2] s2 (ps_rI (fun v3 s3 =>
              pl_Cl n 226 [.ref 1131, .int x2, .int v2, .int v3] s3 (ps_rV (fun s4 =>
                Q none s4))))) ∧
          ((ps_a s2 1152 (Int32.toNatClampNeg x1)) = 4 →
            pl_Cl n 226 [.ref 1131, .int x2, .int 1, .int v2] s2 (ps_rV (fun s5 =>
              Q none s5))))))) ∧
    (v1 ≠ 1 →
      pl_Cl n 241 [.ref 1131, .int 2] s1 (ps_rV (fun s6 =>
        Q none s6)))))) : pl_At (n + 1) 254 0 [(0, .ref 1131), (1, .int x1), (2, .int x2)] [] s Q :=
  pl_wp_at (stops := []) (f := 37) h rfl

section TKP
variable {b n1 n2 n3 ax x : Nat} {h : tx_H} {Θ : List tq_H} {D : List tq_R} {t f : List Nat} {x1 : Int32} {s0 : ps_S} {R : ps_S → Prop}

theorem fm_253_r11 {n : Nat} (h1 : x1.toInt = D.length) (hi : D.length < 40) (X : mpX s0 b h Θ D ((11, n1, n2, n3), (ax, x), t, f)) (B : mpB s0 D.length) (hD : tq_GD h.1 D) (hG : tp_G h.1 h.2.length ((11, n1, n2, n3), (ax, x), t, f)) (hpr : tq_pr Θ D ((11, n1, n2, n3), (ax, x), t, f)) (k : ∀ s', TKm s0 s' h Θ D ((11, n1, n2, n3), (ax, x), t, f) → R s') : pl_Cl n 253 [.ref 1131, .int x1] s0 (ps_rV R) := by
  cases n with
  | zero => exact pl_At_0
  | succ n =>
  show pl_At (n + 1) 253 0 [(0, .ref 1131), (1, .int x1)] [] s0 (ps_rV R)
  obtain ⟨b1, b2, b3⟩ := B
  have hA := arh_k (g := h.1) X.1.2.2.1.2.2.1 X.1.2.2.1.2.2.2.1
  have er : (ps_a s0 1152 D.length).toInt = (0 : Int) := X.2.2.2.1.trans rfl
  obtain ⟨wf, lf⟩ : ws (sg h.1) f [true] ∧ f.length ≤ 40 := hG.2.2.1 (of_decide_eq_true rfl)
  have Wf : mv_W s0 (22468 + 41 * D.length) f := X.2.2.2.2.2.2.2.2.2.2 (of_decide_eq_true rfl)
  refine pl_253_0 ?_
  rw [xtn h1]
  refine fm_244o (i := D.length) (fun v1 => ?_)
  intro _
  refine ⟨fun _ => ?_, fun z => absurd (show (ps_a _ 1152 D.length).toInt = (0 : Int) from er) (xne z)⟩
  refine fm_227 (l := f) (rowF h1 hi) (by omega) Wf b2 (by decide) (fun s2 M2 K2 => ?_)
  have T2 : TKf D.length s0 s2 := TKf_q TKf_refl K2 (by decide) (by decide) (by decide)
  refine fm_248 (i := D.length) (tr := 22468 + 41 * D.length) h1 hi (rowF h1 hi) (by omega) (by omega) (mv_W_kq Wf K2 (by decide)) (PAm_kq b3 K2 (by decide) (by decide)) (by decide) (fun s3 P3 K3 => ?_)
  have T3 := TKf_A T2 K3
  refine k s3 (TKm_mk tq_mk_11 ?_ (mk_M_kq M2 K3.1 (by decide) (by decide)) (Or.inr wf) (by show f.length ≤ 2000; omega) P3 (by decide) (fun _ => ⟨rfl, ?_⟩) T3)
  · rw [kq_i K3.1 50 (by decide), kq_i K2 50 (by decide)]
    exact b1
  · rw [if_neg (by intro z; rcases z with z | z; exact absurd z (by decide); cases z)]
    rfl

theorem fm_253_r10 {n : Nat} (hwt : WFt h) (h1 : x1.toInt = D.length) (hi : D.length < 40) (X : mpX s0 b h Θ D ((10, n1, n2, n3), (ax, x), t, f)) (B : mpB s0 D.length) (hD : tq_GD h.1 D) (hG : tp_G h.1 h.2.length ((10, n1, n2, n3), (ax, x), t, f)) (hpr : tq_pr Θ D ((10, n1, n2, n3), (ax, x), t, f)) (k : ∀ s', TKm s0 s' h Θ D ((10, n1, n2, n3), (ax, x), t, f) → R s') : pl_Cl n 253 [.ref 1131, .int x1] s0 (ps_rV R) := by
  cases n with
  | zero => exact pl_At_0
  | succ n =>
  show pl_At (n + 1) 253 0 [(0, .ref 1131), (1, .int x1)] [] s0 (ps_rV R)
  obtain ⟨b1, b2, b3⟩ := B
  have hA := arh_k (g := h.1) X.1.2.2.1.2.2.1 X.1.2.2.1.2.2.2.1
  have er : (ps_a s0 1152 D.length).toInt = (1 : Int) := X.2.2.2.1.trans rfl
  have hax : ax < h.2.length := hG.2.2.2.2.1 rfl
  have h8 := X.1.2.2.2.2.1
  have ea : (ps_a s0 1153 D.length).toInt = ax := X.2.2.2.2.2.2.2.1 rfl
  obtain ⟨⟨w, l⟩, hk⟩ : ∃ q, h.2[ax]? = some q := ⟨_, List.getElem?_eq_getElem hax⟩
  obtain ⟨-, -, Wa⟩ := X.1.2.2.2.2.2 ax w l hk
  have hb := X.1.1
  have em : (h.2.getD ax ([], [])).2 = l := by
    rw [List.getD_eq_getElem?_getD, hk]
    rfl
  refine pl_253_0 ?_
  rw [xtn h1]
  refine fm_244o (i := D.length) (fun v1 => ?_)
  intro _
  refine ⟨fun z => absurd (show (ps_a _ 1152 D.length).toInt = (0 : Int) from xeq z) (by omega), fun _ => ?_⟩
  refine ⟨fun _ => ?_, fun z => absurd (show (ps_a _ 1152 D.length).toInt = (1 : Int) from er) (xne z)⟩
  intro _
  refine fm_227 (l := l) (rowA X.1.2.1 hb ea (by omega)) (by omega) Wa b2 (by decide) (fun s2 M2 K2 => ?_)
  have l40 := Wa.2.1
  refine k s2 (TKm_mk tq_mk_10 ?_ M2 ?_ (by show l.length ≤ 2000; omega) (PAm_kq b3 K2 (by decide) (by decide)) (by decide) (fun _ => ⟨em.symm, rfl⟩) (TKf_q TKf_refl K2 (by decide) (by decide) (by decide)))
  · rw [kq_i K2 50 (by decide)]
    exact b1
  · exact Or.inr (wf_ws (hwt.2.2 ax w l hk).1)

theorem fm_253_r12 {n : Nat} (hT : tq_GT h.1 Θ) (h1 : x1.toInt = D.length) (hi : D.length < 40) (X : mpX s0 b h Θ D ((12, n1, n2, n3), (ax, x), t, f)) (B : mpB s0 D.length) (hD : tq_GD h.1 D) (hG : tp_G h.1 h.2.length ((12, n1, n2, n3), (ax, x), t, f)) (hpr : tq_pr Θ D ((12, n1, n2, n3), (ax, x), t, f)) (k : ∀ s', TKm s0 s' h Θ D ((12, n1, n2, n3), (ax, x), t, f) → R s') : pl_Cl n 253 [.ref 1131, .int x1] s0 (ps_rV R) := by
  cases n with
  | zero => exact pl_At_0
  | succ n =>
  show pl_At (n + 1) 253 0 [(0, .ref 1131), (1, .int x1)] [] s0 (ps_rV R)
  obtain ⟨b1, b2, b3⟩ := B
  have hA := arh_k (g := h.1) X.1.2.2.1.2.2.1 X.1.2.2.1.2.2.2.1
  have er : (ps_a s0 1152 D.length).toInt = (2 : Int) := X.2.2.2.1.trans rfl
  have hn : n1 < Θ.length := hpr
  have e1 : (ps_a s0 1153 D.length).toInt = n1 := X.2.2.2.2.1 (of_decide_eq_true rfl)
  have h12 := X.2.1.2.1
  obtain ⟨q, hk⟩ : ∃ q, Θ[n1]? = some q := ⟨_, List.getElem?_eq_getElem hn⟩
  obtain ⟨Wa, -⟩ := X.2.1.2.2 n1 q hk
  have em : (Θ.getD n1 ([], 0, 0, 0)).1 = q.1 := by
    rw [List.getD_eq_getElem?_getD, hk]
    rfl
  refine pl_253_0 ?_
  rw [xtn h1]
  refine fm_244o (i := D.length) (fun v1 => ?_)
  intro _
  refine ⟨fun z => absurd (show (ps_a _ 1152 D.length).toInt = (0 : Int) from xeq z) (by omega), fun _ => ?_⟩
  refine ⟨fun z => absurd (show (ps_a _ 1152 D.length).toInt = (1 : Int) from xeq z) (by omega), fun _ => ?_⟩
  refine ⟨fun _ => ?_, fun z => absurd (show (ps_a _ 1152 D.length).toInt = (2 : Int) from er) (xne z)⟩
  intro _
  refine fm_227 (l := q.1) (rowH e1 (by omega)) (by omega) Wa b2 (by decide) (fun s2 M2 K2 => ?_)
  have l40 := Wa.2.1
  refine k s2 (TKm_mk tq_mk_12 ?_ M2 (Or.inr (hT.2 n1 q hk).1) (by show q.1.length ≤ 2000; omega) (PAm_kq b3 K2 (by decide) (by decide)) (by decide) (fun _ => ⟨em.symm, rfl⟩) (TKf_q TKf_refl K2 (by decide) (by decide) (by decide)))
  rw [kq_i K2 50 (by decide)]
  exact b1

theorem fm_253_r13 {n : Nat} (h1 : x1.toInt = D.length) (hi : D.length < 40) (X : mpX s0 b h Θ D ((13, n1, n2, n3), (ax, x), t, f)) (B : mpB s0 D.length) (hD : tq_GD h.1 D) (hG : tp_G h.1 h.2.length ((13, n1, n2, n3), (ax, x), t, f)) (hpr : tq_pr Θ D ((13, n1, n2, n3), (ax, x), t, f)) (k : ∀ s', TKm s0 s' h Θ D ((13, n1, n2, n3), (ax, x), t, f) → R s') : pl_Cl n 253 [.ref 1131, .int x1] s0 (ps_rV R) := by
  cases n with
  | zero => exact pl_At_0
  | succ n =>
  show pl_At (n + 1) 253 0 [(0, .ref 1131), (1, .int x1)] [] s0 (ps_rV R)
  obtain ⟨b1, b2, b3⟩ := B
  have hA := arh_k (g := h.1) X.1.2.2.1.2.2.1 X.1.2.2.1.2.2.2.1
  have er : (ps_a s0 1152 D.length).toInt = (3 : Int) := X.2.2.2.1.trans rfl
  have p1 : n1 < D.length := hpr.1 (of_decide_eq_true rfl)
  have e1 : (ps_a s0 1153 D.length).toInt = n1 := X.2.2.2.2.1 (of_decide_eq_true rfl)
  obtain ⟨⟨W1, w1, ne1, l1⟩, -⟩ := mprem X hD p1
  have p2 : n2 < D.length := hpr.2.1 (of_decide_eq_true rfl)
  have e2 : (ps_a s0 1154 D.length).toInt = n2 := X.2.2.2.2.2.1 (of_decide_eq_true rfl)
  obtain ⟨⟨W2, w2, ne2, l2⟩, -⟩ := mprem X hD p2
  refine pl_253_0 ?_
  rw [xtn h1]
  refine fm_244 (i := D.length) (m := n1) h1 e1 (by omega) (fun v1 q1 => ?_)
  intro _
  refine ⟨fun z => absurd (show (ps_a _ 1152 D.length).toInt = (0 : Int) from xeq z) (by omega), fun _ => ?_⟩
  refine ⟨fun z => absurd (show (ps_a _ 1152 D.length).toInt = (1 : Int) from xeq z) (by omega), fun _ => ?_⟩
  refine ⟨fun z => absurd (show (ps_a _ 1152 D.length).toInt = (2 : Int) from xeq z) (by omega), fun _ => ?_⟩
  refine ⟨fun _ => ?_, fun z => absurd (show (ps_a _ 1152 D.length).toInt = (3 : Int) from er) (xne z)⟩
  refine fm_225 (c := 1) b2 rfl (by decide) (fun s2 M2 K2 => ?_)
  refine fm_227 (l := tq_r D n1) q1 (by omega) (mv_W_kq W1 K2 (by decide)) M2 (by decide) (fun s3 M3 K3 => ?_)
  have T3 : TKf D.length s0 s3 := TKf_q (TKf_q TKf_refl K2 (by decide) (by decide) (by decide)) K3 (by decide) (by decide) (by decide)
  have X3 := mpX_TKf X hi T3
  refine fm_245 (i := D.length) (m := n2) h1 (X3.2.2.2.2.2.1 (of_decide_eq_true rfl)) (by omega) (fun v2 q2 => ?_)
  refine fm_227 (l := tq_r D n2) q2 (by omega) (mprem X3 hD p2).1.1 M3 (by rw [List.length_append]; show 1 + (tq_r D n1).length < 50000; omega) (fun s4 M4 K4 => ?_)
  have T4 : TKf D.length s0 s4 := TKf_q T3 K4 (by decide) (by decide) (by decide)
  have er4 : (ps_a s4 1152 D.length).toInt = (3 : Int) := (mpX_TKf X hi T4).2.2.2.1.trans rfl
  cases n with
  | zero => exact pl_At_0
  | succ n =>
  refine pl_253_202 ?_
  rw [xtn h1]
  intro _
  have P4 := PAm_kq (PAm_kq (PAm_kq b3 K2 (by decide) (by decide)) K3 (by decide) (by decide)) K4 (by decide) (by decide)
  refine fm_249k X hD hi T4 h1 p1 (show (ps_a _ 1153 D.length).toInt = n1 from (mpX_TKf X hi T4).2.2.2.2.1 (of_decide_eq_true rfl)) M4 (Or.inl ⟨rfl, rfl⟩) (by decide) P4 (fun s5 P5 K5 => ?_)
  have T5 := TKf_A T4 K5
  have M5 := mk_M_kq M4 K5.1 (by decide) (by decide)
  have er5 := (kq_a T5.1 1152 (by decide))
  intro _
  have er : (ps_a s5 1152 D.length).toInt = (3 : Int) := (mpX_TKf X hi T5).2.2.2.1.trans rfl
  refine ⟨fun z => absurd (show (ps_a _ 1152 D.length).toInt = (3 : Int) from er) (xne z), fun _ => ?_⟩
  intro _
  refine fm_249k X hD hi T5 h1 p2 (show (ps_a _ 1154 D.length).toInt = n2 from (mpX_TKf X hi T5).2.2.2.2.2.1 (of_decide_eq_true rfl)) M5 (Or.inl ⟨rfl, rfl⟩) (by decide) P5 (fun s6 P6 K6 => ?_)
  have T6 := TKf_A T5 K6
  have M6 := mk_M_kq M5 K6.1 (by decide) (by decide)
  have er6 := (kq_a T6.1 1152 (by decide))
  refine k s6 (TKm_mk tq_mk_13 ?_ M6 (Or.inr ?_) ?_ P6 (by decide) (fun _ => ⟨?_, rfl⟩) T6)
  · rw [kq_i K6.1 50 (by decide), kq_i K5.1 50 (by decide), kq_i K4 50 (by decide), kq_i K3 50 (by decide), kq_i K2 50 (by decide)]
    exact b1
  · show ws (sg h.1) (1 :: (tq_r D n1 ++ tq_r D n2)) [true]
    exact ws_c (kS_2 (by decide) (by decide)) (ws_app (W1 := [true]) w1 w2)
  · show (1 :: (tq_r D n1 ++ tq_r D n2)).length ≤ 2000
    rw [List.length_cons, List.length_append]
    omega
  · rfl

theorem fm_253_r16 {n : Nat} (h1 : x1.toInt = D.length) (hi : D.length < 40) (X : mpX s0 b h Θ D ((16, n1, n2, n3), (ax, x), t, f)) (B : mpB s0 D.length) (hD : tq_GD h.1 D) (hG : tp_G h.1 h.2.length ((16, n1, n2, n3), (ax, x), t, f)) (hpr : tq_pr Θ D ((16, n1, n2, n3), (ax, x), t, f)) (k : ∀ s', TKm s0 s' h Θ D ((16, n1, n2, n3), (ax, x), t, f) → R s') : pl_Cl n 253 [.ref 1131, .int x1] s0 (ps_rV R) := by
  cases n with
  | zero => exact pl_At_0
  | succ n =>
  show pl_At (n + 1) 253 0 [(0, .ref 1131), (1, .int x1)] [] s0 (ps_rV R)
  obtain ⟨b1, b2, b3⟩ := B
  have hA := arh_k (g := h.1) X.1.2.2.1.2.2.1 X.1.2.2.1.2.2.2.1
  have er : (ps_a s0 1152 D.length).toInt = (6 : Int) := X.2.2.2.1.trans rfl
  have p1 : n1 < D.length := hpr.1 (of_decide_eq_true rfl)
  have e1 : (ps_a s0 1153 D.length).toInt = n1 := X.2.2.2.2.1 (of_decide_eq_true rfl)
  obtain ⟨⟨W1, w1, ne1, l1⟩, -⟩ := mprem X hD p1
  obtain ⟨wf, lf⟩ : ws (sg h.1) f [true] ∧ f.length ≤ 40 := hG.2.2.1 (of_decide_eq_true rfl)
  have Wf : mv_W s0 (22468 + 41 * D.length) f := X.2.2.2.2.2.2.2.2.2.2 (of_decide_eq_true rfl)
  refine pl_253_0 ?_
  rw [xtn h1]
  refine fm_244 (i := D.length) (m := n1) h1 e1 (by omega) (fun v1 q1 => ?_)
  intro _
  refine ⟨fun z => absurd (show (ps_a _ 1152 D.length).toInt = (0 : Int) from xeq z) (by omega), fun _ => ?_⟩
  refine ⟨fun z => absurd (show (ps_a _ 1152 D.length).toInt = (1 : Int) from xeq z) (by omega), fun _ => ?_⟩
  refine ⟨fun z => absurd (show (ps_a _ 1152 D.length).toInt = (2 : Int) from xeq z) (by omega), fun _ => ?_⟩
  refine ⟨fun z => absurd (show (ps_a _ 1152 D.length).toInt = (3 : Int) from xeq z) (by omega), fun _ => ?_⟩
  refine ⟨fun z => absurd (show (ps_a _ 1152 D.length).toInt = (4 : Int) from xeq z) (by omega), fun _ => ?_⟩
  refine ⟨fun z => absurd (show (ps_a _ 1152 D.length).toInt = (5 : Int) from xeq z) (by omega), fun _ => ?_⟩
  refine fm_225 (c := 2) b2 rfl (by decide) (fun s2 M2 K2 => ?_)
  have T2 : TKf D.length s0 s2 := TKf_q TKf_refl K2 (by decide) (by decide) (by decide)
  intro _
  have er : (ps_a s2 1152 D.length).toInt = (6 : Int) := (mpX_TKf X hi T2).2.2.2.1.trans rfl
  refine ⟨fun z => absurd (show (ps_a _ 1152 D.length).toInt = (6 : Int) from er) (xne z), fun _ => ?_⟩
  refine fm_227 (l := tq_r D n1) q1 (by omega) (mv_W_kq W1 K2 (by decide)) M2 (by decide) (fun s3 M3 K3 => ?_)
  have T3 : TKf D.length s0 s3 := TKf_q T2 K3 (by decide) (by decide) (by decide)
  cases n with
  | zero => exact pl_At_0
  | succ n =>
  refine pl_253_174 ?_
  rw [xtn h1]
  refine fm_227 (l := f) (rowF h1 hi) (by omega) (mv_W_kq (mv_W_kq Wf K2 (by decide)) K3 (by decide)) M3 (by rw [List.length_append]; show 1 + (tq_r D n1).length < 50000; omega) (fun s4 M4 K4 => ?_)
  have T4 : TKf D.length s0 s4 := TKf_q T3 K4 (by decide) (by decide) (by decide)
  intro _
  have er : (ps_a s4 1152 D.length).toInt = (6 : Int) := (mpX_TKf X hi T4).2.2.2.1.trans rfl
  refine ⟨fun _ => ?_, fun z => absurd (show (ps_a _ 1152 D.length).toInt = (7 : Int) from xeq z) (by omega)⟩
  cases n with
  | zero => exact pl_At_0
  | succ n =>
  refine pl_253_202 ?_
  rw [xtn h1]
  intro _
  have P4 := PAm_kq (PAm_kq (PAm_kq b3 K2 (by decide) (by decide)) K3 (by decide) (by decide)) K4 (by decide) (by decide)
  refine fm_249k X hD hi T4 h1 p1 (show (ps_a _ 1153 D.length).toInt = n1 from (mpX_TKf X hi T4).2.2.2.2.1 (of_decide_eq_true rfl)) M4 (Or.inl ⟨rfl, rfl⟩) (by decide) P4 (fun s5 P5 K5 => ?_)
  have T5 := TKf_A T4 K5
  have M5 := mk_M_kq M4 K5.1 (by decide) (by decide)
  have er5 := (kq_a T5.1 1152 (by decide))
  intro _
  have er : (ps_a s5 1152 D.length).toInt = (6 : Int) := (mpX_TKf X hi T5).2.2.2.1.trans rfl
  refine ⟨fun _ => ?_, fun z => absurd (show (ps_a _ 1152 D.length).toInt = (3 : Int) from xeq z) (by omega)⟩
  refine k s5 (TKm_mk tq_mk_16 ?_ M5 (Or.inr ?_) ?_ P5 (by decide) (fun _ => ⟨?_, rfl⟩) T5)
  · rw [kq_i K5.1 50 (by decide), kq_i K4 50 (by decide), kq_i K3 50 (by decide), kq_i K2 50 (by decide)]
    exact b1
  · show ws (sg h.1) (2 :: (tq_r D n1 ++ f)) [true]
    exact ws_c (kS_2 (by decide) (by decide)) (ws_app (W1 := [true]) w1 wf)
  · show (2 :: (tq_r D n1 ++ f)).length ≤ 2000
    rw [List.length_cons, List.length_append]
    omega
  · rfl

theorem fm_253_r17 {n : Nat} (h1 : x1.toInt = D.length) (hi : D.length < 40) (X : mpX s0 b h Θ D ((17, n1, n2, n3), (ax, x), t, f)) (B : mpB s0 D.length) (hD : tq_GD h.1 D) (hG : tp_G h.1 h.2.length ((17, n1, n2, n3), (ax, x), t, f)) (hpr : tq_pr Θ D ((17, n1, n2, n3), (ax, x), t, f)) (k : ∀ s', TKm s0 s' h Θ D ((17, n1, n2, n3), (ax, x), t, f) → R s') : pl_Cl n 253 [.ref 1131, .int x1] s0 (ps_rV R) := by
  cases n with
  | zero => exact pl_At_0
  | succ n =>
  show pl_At (n + 1) 253 0 [(0, .ref 1131), (1, .int x1)] [] s0 (ps_rV R)
  obtain ⟨b1, b2, b3⟩ := B
  have hA := arh_k (g := h.1) X.1.2.2.1.2.2.1 X.1.2.2.1.2.2.2.1
  have er : (ps_a s0 1152 D.length).toInt = (7 : Int) := X.2.2.2.1.trans rfl
  have p1 : n1 < D.length := hpr.1 (of_decide_eq_true rfl)
  have e1 : (ps_a s0 1153 D.length).toInt = n1 := X.2.2.2.2.1 (of_decide_eq_true rfl)
  obtain ⟨⟨W1, w1, ne1, l1⟩, -⟩ := mprem X hD p1
  obtain ⟨wf, lf⟩ : ws (sg h.1) f [true] ∧ f.length ≤ 40 := hG.2.2.1 (of_decide_eq_true rfl)
  have Wf : mv_W s0 (22468 + 41 * D.length) f := X.2.2.2.2.2.2.2.2.2.2 (of_decide_eq_true rfl)
  refine pl_253_0 ?_
  rw [xtn h1]
  refine fm_244 (i := D.length) (m := n1) h1 e1 (by omega) (fun v1 q1 => ?_)
  intro _
  refine ⟨fun z => absurd (show (ps_a _ 1152 D.length).toInt = (0 : Int) from xeq z) (by omega), fun _ => ?_⟩
  refine ⟨fun z => absurd (show (ps_a _ 1152 D.length).toInt = (1 : Int) from xeq z) (by omega), fun _ => ?_⟩
  refine ⟨fun z => absurd (show (ps_a _ 1152 D.length).toInt = (2 : Int) from xeq z) (by omega), fun _ => ?_⟩
  refine ⟨fun z => absurd (show (ps_a _ 1152 D.length).toInt = (3 : Int) from xeq z) (by omega), fun _ => ?_⟩
  refine ⟨fun z => absurd (show (ps_a _ 1152 D.length).toInt = (4 : Int) from xeq z) (by omega), fun _ => ?_⟩
  refine ⟨fun z => absurd (show (ps_a _ 1152 D.length).toInt = (5 : Int) from xeq z) (by omega), fun _ => ?_⟩
  refine fm_225 (c := 2) b2 rfl (by decide) (fun s2 M2 K2 => ?_)
  have T2 : TKf D.length s0 s2 := TKf_q TKf_refl K2 (by decide) (by decide) (by decide)
  intro _
  have er : (ps_a s2 1152 D.length).toInt = (7 : Int) := (mpX_TKf X hi T2).2.2.2.1.trans rfl
  refine ⟨fun _ => ?_, fun z => absurd (show (ps_a _ 1152 D.length).toInt = (6 : Int) from xeq z) (by omega)⟩
  cases n with
  | zero => exact pl_At_0
  | succ n =>
  refine pl_253_174 ?_
  rw [xtn h1]
  refine fm_227 (l := f) (rowF h1 hi) (by omega) (mv_W_kq Wf K2 (by decide)) M2 (by decide) (fun s3 M3 K3 => ?_)
  have T3 : TKf D.length s0 s3 := TKf_q T2 K3 (by decide) (by decide) (by decide)
  intro _
  have er : (ps_a s3 1152 D.length).toInt = (7 : Int) := (mpX_TKf X hi T3).2.2.2.1.trans rfl
  refine ⟨fun z => absurd (show (ps_a _ 1152 D.length).toInt = (7 : Int) from er) (xne z), fun _ => ?_⟩
  refine fm_227 (l := tq_r D n1) q1 (by omega) (mv_W_kq (mv_W_kq W1 K2 (by decide)) K3 (by decide)) M3 (by rw [List.length_append]; show 1 + f.length < 50000; omega) (fun s4 M4 K4 => ?_)
  have T4 : TKf D.length s0 s4 := TKf_q T3 K4 (by decide) (by decide) (by decide)
  cases n with
  | zero => exact pl_At_0
  | succ n =>
  refine pl_253_202 ?_
  rw [xtn h1]
  intro _
  have P4 := PAm_kq (PAm_kq (PAm_kq b3 K2 (by decide) (by decide)) K3 (by decide) (by decide)) K4 (by decide) (by decide)
  refine fm_249k X hD hi T4 h1 p1 (show (ps_a _ 1153 D.length).toInt = n1 from (mpX_TKf X hi T4).2.2.2.2.1 (of_decide_eq_true rfl)) M4 (Or.inl ⟨rfl, rfl⟩) (by decide) P4 (fun s5 P5 K5 => ?_)
  have T5 := TKf_A T4 K5
  have M5 := mk_M_kq M4 K5.1 (by decide) (by decide)
  have er5 := (kq_a T5.1 1152 (by decide))
  intro _
  have er : (ps_a s5 1152 D.length).toInt = (7 : Int) := (mpX_TKf X hi T5).2.2.2.1.trans rfl
  refine ⟨fun _ => ?_, fun z => absurd (show (ps_a _ 1152 D.length).toInt = (3 : Int) from xeq z) (by omega)⟩
  refine k s5 (TKm_mk tq_mk_17 ?_ M5 (Or.inr ?_) ?_ P5 (by decide) (fun _ => ⟨?_, rfl⟩) T5)
  · rw [kq_i K5.1 50 (by decide), kq_i K4 50 (by decide), kq_i K3 50 (by decide), kq_i K2 50 (by decide)]
    exact b1
  · show ws (sg h.1) (2 :: (f ++ tq_r D n1)) [true]
    exact ws_c (kS_2 (by decide) (by decide)) (ws_app (W1 := [true]) wf w1)
  · show (2 :: (f ++ tq_r D n1)).length ≤ 2000
    rw [List.length_cons, List.length_append]
    omega
  · rfl

theorem fm_253_r14 {n : Nat} (h1 : x1.toInt = D.length) (hi : D.length < 40) (X : mpX s0 b h Θ D ((14, n1, n2, n3), (ax, x), t, f)) (B : mpB s0 D.length) (hD : tq_GD h.1 D) (hG : tp_G h.1 h.2.length ((14, n1, n2, n3), (ax, x), t, f)) (hpr : tq_pr Θ D ((14, n1, n2, n3), (ax, x), t, f)) (k : ∀ s', TKm s0 s' h Θ D ((14, n1, n2, n3), (ax, x), t, f) → R s') : pl_Cl n 253 [.ref 1131, .int x1] s0 (ps_rV R) := by
  cases n with
  | zero => exact pl_At_0
  | succ n =>
  show pl_At (n + 1) 253 0 [(0, .ref 1131), (1, .int x1)] [] s0 (ps_rV R)
  obtain ⟨b1, b2, b3⟩ := B
  have hA := arh_k (g := h.1) X.1.2.2.1.2.2.1 X.1.2.2.1.2.2.2.1
  have er : (ps_a s0 1152 D.length).toInt = (4 : Int) := X.2.2.2.1.trans rfl
  have p1 : n1 < D.length := hpr.1 (of_decide_eq_true rfl)
  have e1 : (ps_a s0 1153 D.length).toInt = n1 := X.2.2.2.2.1 (of_decide_eq_true rfl)
  obtain ⟨⟨W1, w1, ne1, l1⟩, -⟩ := mprem X hD p1
  refine pl_253_0 ?_
  rw [xtn h1]
  refine fm_244 (i := D.length) (m := n1) h1 e1 (by omega) (fun v1 q1 => ?_)
  intro _
  refine ⟨fun z => absurd (show (ps_a _ 1152 D.length).toInt = (0 : Int) from xeq z) (by omega), fun _ => ?_⟩
  refine ⟨fun z => absurd (show (ps_a _ 1152 D.length).toInt = (1 : Int) from xeq z) (by omega), fun _ => ?_⟩
  refine ⟨fun z => absurd (show (ps_a _ 1152 D.length).toInt = (2 : Int) from xeq z) (by omega), fun _ => ?_⟩
  refine ⟨fun z => absurd (show (ps_a _ 1152 D.length).toInt = (3 : Int) from xeq z) (by omega), fun _ => ?_⟩
  refine ⟨fun _ => ?_, fun z => absurd (show (ps_a _ 1152 D.length).toInt = (4 : Int) from er) (xne z)⟩
  cases n with
  | zero => exact pl_At_0
  | succ n =>
  show pl_At (n + 1) 254 0 [(0, .ref 1131), (1, .int x1), (2, .int v1)] [] s0 (ps_rV _)
  -- what follows
  have fin : ∀ {n' c : Nat} {L : List Nat} {s4 : ps_S}, tq_mk h Θ D ((14, n1, n2, n3), (ax, x), t, f) = (c, L, [], [], []) → (ps_i s4 1131 50).toInt = c → mk_M s4 L → (L = [] ∨ ws (sg h.1) L [true]) → L.length ≤ 2000 → PAm s4 D.length [] 0 → TKf D.length s0 s4 → pl_At n' 253 202 [(0, .ref 1131), (1, .int x1)] [] s4 (ps_rV R) := fun {n' c L s4} hm h50 M4 hw hl P4 T4 => by
    cases n' with
    | zero => exact pl_At_0
    | succ n' =>
    refine pl_253_202 ?_
    rw [xtn h1]
    intro _
    refine fm_249k X hD hi T4 h1 p1 (show (ps_a _ 1153 D.length).toInt = n1 from (mpX_TKf X hi T4).2.2.2.2.1 (of_decide_eq_true rfl)) M4 (Or.inl ⟨rfl, rfl⟩) (by decide) P4 (fun s5 P5 K5 => ?_)
    have T5 := TKf_A T4 K5
    have M5 := mk_M_kq M4 K5.1 (by decide) (by decide)
    have er5 := (kq_a T5.1 1152 (by decide))
    intro _
    have er : (ps_a s5 1152 D.length).toInt = (4 : Int) := (mpX_TKf X hi T5).2.2.2.1.trans rfl
    refine ⟨fun _ => ?_, fun z => absurd (show (ps_a _ 1152 D.length).toInt = (3 : Int) from xeq z) (by omega)⟩
    refine k s5 (TKm_mk hm ?_ M5 hw hl P5 (by decide) (fun _ => ⟨rfl, rfl⟩) T5)
    rw [kq_i K5.1 50 (by decide)]
    exact h50
  refine pl_254_0 ?_
  rw [xtn h1]
  refine fm_247 q1 (by omega) W1 ne1 (fun v2 c hc q2 => ⟨fun z => ?_, fun z => ?_⟩)
  · have z : v2.toInt = (1 : Int) := xeq z
    have hh : (tq_r D n1).head? = some 1 := by rw [hc]; congr 1; omega
    have hm := tq_mk_14 (h := h) (Θ := Θ) (D := D) (n1 := n1) (n2 := n2) (n3 := n3) (ax := ax) (x := x) (t := t) (f := f)
    rw [if_pos hh] at hm
    obtain ⟨g1, g2, g3, g4⟩ := tq_half hA w1 hh (kS_2 (by decide) (by decide))
    refine fm_221 (i := 1) X.1.1 X.1.2.1 X.1.2.2.1 q1 (by omega) W1 rfl g3 (fun v3 q3 => ?_)
    intro _
    have el : (tq_r D n1).length = 1 + (tq_1 (arh h.1) (tq_r D n1)).length + (tq_2 (arh h.1) (tq_r D n1)).length := by
      conv => lhs; rw [g4]
      rw [List.length_cons, List.length_append]
      omega
    have e1l : (tq_1 (arh h.1) (tq_r D n1)).length = en (arh h.1) ((tq_r D n1).drop 1) 1 := by
      have := en_le hA g3 (k := 1) (by decide)
      unfold tq_1
      rw [List.length_take]
      omega
    refine ⟨fun z => absurd (show (ps_a _ 1152 D.length).toInt = (4 : Int) from er) (xne z), fun _ => ?_⟩
    refine fm_226 (a := 1) (b := 1 + en (arh h.1) ((tq_r D n1).drop 1) 1) q1 (by omega) W1 b2 rfl q3 (by omega) (by decide) (fun s4 M4 K4 => ?_)
    have eL : [] ++ ((tq_r D n1).drop 1).take (1 + en (arh h.1) ((tq_r D n1).drop 1) 1 - 1) = tq_1 (arh h.1) (tq_r D n1) := by
      unfold tq_1
      rw [show 1 + en (arh h.1) ((tq_r D n1).drop 1) 1 - 1 = en (arh h.1) ((tq_r D n1).drop 1) 1 from by omega]
      rfl
    rw [eL] at M4
    exact fin hm (by rw [kq_i K4 50 (by decide)]; exact b1) M4 (Or.inr g1) (by omega) (PAm_kq b3 K4 (by decide) (by decide)) (TKf_q TKf_refl K4 (by decide) (by decide) (by decide))
  · have z : v2.toInt ≠ (1 : Int) := xne z
    have hm := tq_mk_14 (h := h) (Θ := Θ) (D := D) (n1 := n1) (n2 := n2) (n3 := n3) (ax := ax) (x := x) (t := t) (f := f)
    rw [if_neg (fun w => by rw [hc] at w; cases w; exact z q2)] at hm
    refine fm_241 (z := 0) (c := 2) b1 rfl (fun s4 h50 K4 => ?_)
    exact fin hm h50 (mk_M_kq b2 K4 (by decide) (by decide)) (Or.inl rfl) (Nat.zero_le _) (PAm_kq b3 K4 (by decide) (by decide)) (TKf_q TKf_refl K4 (by decide) (by decide) (by decide))

theorem fm_253_r15 {n : Nat} (h1 : x1.toInt = D.length) (hi : D.length < 40) (X : mpX s0 b h Θ D ((15, n1, n2, n3), (ax, x), t, f)) (B : mpB s0 D.length) (hD : tq_GD h.1 D) (hG : tp_G h.1 h.2.length ((15, n1, n2, n3), (ax, x), t, f)) (hpr : tq_pr Θ D ((15, n1, n2, n3), (ax, x), t, f)) (k : ∀ s', TKm s0 s' h Θ D ((15, n1, n2, n3), (ax, x), t, f) → R s') : pl_Cl n 253 [.ref 1131, .int x1] s0 (ps_rV R) := by
  cases n with
  | zero => exact pl_At_0
  | succ n =>
  show pl_At (n + 1) 253 0 [(0, .ref 1131), (1, .int x1)] [] s0 (ps_rV R)
  obtain ⟨b1, b2, b3⟩ := B
  have hA := arh_k (g := h.1) X.1.2.2.1.2.2.1 X.1.2.2.1.2.2.2.1
  have er : (ps_a s0 1152 D.length).toInt = (5 : Int) := X.2.2.2.1.trans rfl
  have p1 : n1 < D.length := hpr.1 (of_decide_eq_true rfl)
  have e1 : (ps_a s0 1153 D.length).toInt = n1 := X.2.2.2.2.1 (of_decide_eq_true rfl)
  obtain ⟨⟨W1, w1, ne1, l1⟩, -⟩ := mprem X hD p1
  refine pl_253_0 ?_
  rw [xtn h1]
  refine fm_244 (i := D.length) (m := n1) h1 e1 (by omega) (fun v1 q1 => ?_)
  intro _
  refine ⟨fun z => absurd (show (ps_a _ 1152 D.length).toInt = (0 : Int) from xeq z) (by omega), fun _ => ?_⟩
  refine ⟨fun z => absurd (show (ps_a _ 1152 D.length).toInt = (1 : Int) from xeq z) (by omega), fun _ => ?_⟩
  refine ⟨fun z => absurd (show (ps_a _ 1152 D.length).toInt = (2 : Int) from xeq z) (by omega), fun _ => ?_⟩
  refine ⟨fun z => absurd (show (ps_a _ 1152 D.length).toInt = (3 : Int) from xeq z) (by omega), fun _ => ?_⟩
  refine ⟨fun z => absurd (show (ps_a _ 1152 D.length).toInt = (4 : Int) from xeq z) (by omega), fun _ => ?_⟩
  refine ⟨fun _ => ?_, fun z => absurd (show (ps_a _ 1152 D.length).toInt = (5 : Int) from er) (xne z)⟩
  cases n with
  | zero => exact pl_At_0
  | succ n =>
  show pl_At (n + 1) 254 0 [(0, .ref 1131), (1, .int x1), (2, .int v1)] [] s0 (ps_rV _)
  -- what follows
  have fin : ∀ {n' c : Nat} {L : List Nat} {s4 : ps_S}, tq_mk h Θ D ((15, n1, n2, n3), (ax, x), t, f) = (c, L, [], [], []) → (ps_i s4 1131 50).toInt = c → mk_M s4 L → (L = [] ∨ ws (sg h.1) L [true]) → L.length ≤ 2000 → PAm s4 D.length [] 0 → TKf D.length s0 s4 → pl_At n' 253 202 [(0, .ref 1131), (1, .int x1)] [] s4 (ps_rV R) := fun {n' c L s4} hm h50 M4 hw hl P4 T4 => by
    cases n' with
    | zero => exact pl_At_0
    | succ n' =>
    refine pl_253_202 ?_
    rw [xtn h1]
    intro _
    refine fm_249k X hD hi T4 h1 p1 (show (ps_a _ 1153 D.length).toInt = n1 from (mpX_TKf X hi T4).2.2.2.2.1 (of_decide_eq_true rfl)) M4 (Or.inl ⟨rfl, rfl⟩) (by decide) P4 (fun s5 P5 K5 => ?_)
    have T5 := TKf_A T4 K5
    have M5 := mk_M_kq M4 K5.1 (by decide) (by decide)
    have er5 := (kq_a T5.1 1152 (by decide))
    intro _
    have er : (ps_a s5 1152 D.length).toInt = (5 : Int) := (mpX_TKf X hi T5).2.2.2.1.trans rfl
    refine ⟨fun _ => ?_, fun z => absurd (show (ps_a _ 1152 D.length).toInt = (3 : Int) from xeq z) (by omega)⟩
    refine k s5 (TKm_mk hm ?_ M5 hw hl P5 (by decide) (fun _ => ⟨rfl, rfl⟩) T5)
    rw [kq_i K5.1 50 (by decide)]
    exact h50
  refine pl_254_0 ?_
  rw [xtn h1]
  refine fm_247 q1 (by omega) W1 ne1 (fun v2 c hc q2 => ⟨fun z => ?_, fun z => ?_⟩)
  · have z : v2.toInt = (1 : Int) := xeq z
    have hh : (tq_r D n1).head? = some 1 := by rw [hc]; congr 1; omega
    have hm := tq_mk_15 (h := h) (Θ := Θ) (D := D) (n1 := n1) (n2 := n2) (n3 := n3) (ax := ax) (x := x) (t := t) (f := f)
    rw [if_pos hh] at hm
    obtain ⟨g1, g2, g3, g4⟩ := tq_half hA w1 hh (kS_2 (by decide) (by decide))
    refine fm_221 (i := 1) X.1.1 X.1.2.1 X.1.2.2.1 q1 (by omega) W1 rfl g3 (fun v3 q3 => ?_)
    intro _
    have el : (tq_r D n1).length = 1 + (tq_1 (arh h.1) (tq_r D n1)).length + (tq_2 (arh h.1) (tq_r D n1)).length := by
      conv => lhs; rw [g4]
      rw [List.length_cons, List.length_append]
      omega
    have e1l : (tq_1 (arh h.1) (tq_r D n1)).length = en (arh h.1) ((tq_r D n1).drop 1) 1 := by
      have := en_le hA g3 (k := 1) (by decide)
      unfold tq_1
      rw [List.length_take]
      omega
    refine ⟨fun _ => ?_, fun z => absurd (show (ps_a _ 1152 D.length).toInt = (4 : Int) from xeq z) (by omega)⟩
    refine fm_219c q1 W1 (fun v4 q4 => ?_)
    refine fm_226 (a := 1 + en (arh h.1) ((tq_r D n1).drop 1) 1) (b := (tq_r D n1).length) q1 (by omega) W1 b2 q3 q4 (Nat.le_refl _) (by decide) (fun s4 M4 K4 => ?_)
    have eL : [] ++ ((tq_r D n1).drop (1 + en (arh h.1) ((tq_r D n1).drop 1) 1)).take ((tq_r D n1).length - (1 + en (arh h.1) ((tq_r D n1).drop 1) 1)) = tq_2 (arh h.1) (tq_r D n1) := by
      unfold tq_2
      rw [List.take_of_length_le (by rw [List.length_drop]; exact Nat.le_refl _), ← List.drop_drop]
      rfl
    rw [eL] at M4
    exact fin hm (by rw [kq_i K4 50 (by decide)]; exact b1) M4 (Or.inr g2) (by omega) (PAm_kq b3 K4 (by decide) (by decide)) (TKf_q TKf_refl K4 (by decide) (by decide) (by decide))
  · have z : v2.toInt ≠ (1 : Int) := xne z
    have hm := tq_mk_15 (h := h) (Θ := Θ) (D := D) (n1 := n1) (n2 := n2) (n3 := n3) (ax := ax) (x := x) (t := t) (f := f)
    rw [if_neg (fun w => by rw [hc] at w; cases w; exact z q2)] at hm
    refine fm_241 (z := 0) (c := 2) b1 rfl (fun s4 h50 K4 => ?_)
    exact fin hm h50 (mk_M_kq b2 K4 (by decide) (by decide)) (Or.inl rfl) (Nat.zero_le _) (PAm_kq b3 K4 (by decide) (by decide)) (TKf_q TKf_refl K4 (by decide) (by decide) (by decide))

end TKP

