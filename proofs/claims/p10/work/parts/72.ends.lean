set_option maxRecDepth 100000
/-! ends and like parts: both sides -/
-- ProofBenchModel.takes(I)I
-- ProofBenchModel.endOf(II)I
-- ProofBenchModel.haveSame(IIIII)Z
theorem pl_259_0 {n : Nat} {x1 : Int32} {x2 : Int32} {x3 : Int32} {x4 : Int32} {x5 : Int32} {s : ps_S} {Q : Option Value → ps_S → Prop} (h :
  pl_Cl n 219 [.ref 1131, .int x4] s (ps_rI (fun v1 s1 =>
    ((x5 + x3) ≤ v1 →
      pl_At n 259 18 [(0, .ref 1131), (1, .int x1), (2, .int x2), (3, .int x3), (4, .int x4), (5, .int x5), (6, .int 0)] [] s1 Q) ∧
    (v1 < (x5 + x3) →
      Q (some (.int 0)) s1)))) : pl_At (n + 1) 259 0 [(0, .ref 1131), (1, .int x1), (2, .int x2), (3, .int x3), (4, .int x4), (5, .int x5)] [] s Q :=
  pl_wp_at (stops := [(18, [0, 1, 2, 3, 4, 5, 6])]) (f := 13) h rfl

theorem pl_259_18 {n : Nat} {x1 : Int32} {x2 : Int32} {x3 : Int32} {x4 : Int32} {x5 : Int32} {x6 : Int32} {s : ps_S} {Q : Option Value → ps_S → Prop} (h :
  (x3 ≤ x6 →
    Q (some (.int 1)) s) ∧
  (x6 < x3 →
    pl_Cl n 220 [.ref 1131, .int x1, .int (x2 + x6)] s (ps_rI (fun v1 s1 =>
      pl_Cl n 220 [.ref 1131, .int x4, .int (x5 + x6)] s1 (ps_rI (fun v2 s2 =>
        (v1 = v2 →
          pl_At n 259 18 [(0, .ref 1131), (1, .int x1), (2, .int x2), (3, .int x3), (4, .int x4), (5, .int x5), (6, .int (x6 + 1))] [] s2 Q) ∧
        (v1 ≠ v2 →
          Q (some (.int 0)) s2))))))) : pl_At (n + 1) 259 18 [(0, .ref 1131), (1, .int x1), (2, .int x2), (3, .int x3), (4, .int x4), (5, .int x5), (6, .int x6)] [] s Q :=
  pl_wp_at (stops := [(18, [0, 1, 2, 3, 4, 5, 6])]) (f := 24) h rfl

-- ProofBench$Row.isPartAt(IILProofBench$Row;I)Z
theorem pl_99_0 {n : Nat} {r0 : Nat} {x1 : Int32} {x2 : Int32} {r3 : Nat} {x4 : Int32} {s : ps_S} {Q : Option Value → ps_S → Prop} (h :
  pl_At n 99 3 [(0, .ref r0), (1, .int x1), (2, .int x2), (3, .ref r3), (4, .int x4), (5, .int x1)] [] s Q) : pl_At (n + 1) 99 0 [(0, .ref r0), (1, .int x1), (2, .int x2), (3, .ref r3), (4, .int x4)] [] s Q :=
  pl_wp_at (stops := [(3, [0, 1, 2, 3, 4, 5])]) (f := 4) h rfl

theorem pl_99_3 {n : Nat} {r0 : Nat} {x1 : Int32} {x2 : Int32} {r3 : Nat} {x4 : Int32} {x5 : Int32} {s : ps_S} {Q : Option Value → ps_S → Prop} (h :
  (x2 ≤ x5 →
    Q (some (.int 1)) s) ∧
  (x5 < x2 →
    pl_Cl n 92 [.ref r0, .int x5] s (ps_rI (fun v1 s1 =>
      pl_Cl n 92 [.ref r3, .int ((x4 + x5) - x1)] s1 (ps_rI (fun v2 s2 =>
        (v1 = v2 →
          pl_At n 99 3 [(0, .ref r0), (1, .int x1), (2, .int x2), (3, .ref r3), (4, .int x4), (5, .int (x5 + 1))] [] s2 Q) ∧
        (v1 ≠ v2 →
          Q (some (.int 0)) s2))))))) : pl_At (n + 1) 99 3 [(0, .ref r0), (1, .int x1), (2, .int x2), (3, .ref r3), (4, .int x4), (5, .int x5)] [] s Q :=
  pl_wp_at (stops := [(3, [0, 1, 2, 3, 4, 5])]) (f := 22) h rfl

theorem kS_mv {s : ps_S} {b : Nat} {g : tx_g} (H : mv_E s b g) {bb : Bool} {p : Nat} {ks : List Bool} (hk : kS (sg g) bb p = some ks) : (10 ≤ p → p < 20 → p < 16 ∧ (ps_a s 1138 (6 * b + (p - 10))).toInt = (arh g p : Nat)) ∧ (20 ≤ p → p < 40 → p < 24 ∧ (ps_a s 1139 (4 * b + (p - 20))).toInt = (arh g p : Nat)) := by
  have hA := arh_k H.2.2.1 H.2.2.2.1 bb p ks hk
  have h1 := H.2.2.1
  have h2 := H.2.2.2.1
  rw [hA]
  rcases kS_num hk with ⟨a, e⟩ | ⟨a, a2, e⟩ | ⟨a, e⟩ | ⟨a, e⟩ | ⟨a, a2, e⟩ | ⟨a, a2, e⟩ | ⟨a, a2, e⟩
  · exact ⟨fun _ _ => by omega, fun _ _ => by omega⟩
  · exact ⟨fun _ _ => by omega, fun _ _ => by omega⟩
  · exact ⟨fun _ _ => by omega, fun _ _ => by omega⟩
  · exact ⟨fun _ _ => by omega, fun _ _ => by omega⟩
  · have a2 : p < 10 + g.1.length := a2
    have e : ks.length = (g.1.getD (p - 10) ([], 0)).2 := e
    refine ⟨fun _ _ => ⟨by omega, ?_⟩, fun _ _ => by omega⟩
    obtain ⟨w, hw⟩ := getD_2 (α := Nat) (l := g.1) (k := p - 10) (by omega)
    rw [(H.2.2.2.2.1 _ _ _ hw).2.2.2, e]
  · have a2 : p < 20 + g.2.length := a2
    have e : ks.length = (g.2.getD (p - 20) ([], 0)).2 := e
    refine ⟨fun _ _ => by omega, fun _ _ => ⟨by omega, ?_⟩⟩
    obtain ⟨w, hw⟩ := getD_2 (α := Nat) (l := g.2) (k := p - 20) (by omega)
    rw [(H.2.2.2.2.2 _ _ _ hw).2.2.2, e]
  · exact ⟨fun _ _ => by omega, fun _ _ => by omega⟩
theorem arh_lo {g : tx_g} {c : Nat} : (c = 0 → arh g c = 0) ∧ (1 ≤ c → c < 4 → arh g c = 2) ∧ (c = 4 ∨ c = 5 → arh g c = 1) ∧ (c = 6 → arh g c = 2) ∧ (40 ≤ c → arh g c = 0) := by
  unfold arh
  refine ⟨fun h => by rw [if_pos h], fun h h' => by rw [if_neg (by omega), if_pos h'], fun h => by rw [if_neg (by omega), if_neg (by omega), if_pos (by omega)], fun h => by rw [if_neg (by omega), if_neg (by omega), if_neg (by omega), if_pos h], fun h => by rw [if_neg (by omega), if_neg (by omega), if_neg (by omega), if_neg (by omega), if_neg (by omega), if_neg (by omega), if_neg (by omega)]⟩
theorem kS_gap {σ : mSig} {b : Bool} {p : Nat} {ks : List Bool} (h : kS σ b p = some ks) : ¬ (7 ≤ p ∧ p < 10) := by
  rcases kS_num h with ⟨a, e⟩ | ⟨a, a2, e⟩ | ⟨a, e⟩ | ⟨a, e⟩ | ⟨a, a2, e⟩ | ⟨a, a2, e⟩ | ⟨a, a2, e⟩ <;> omega
theorem fm_218 {n b c : Nat} {bb : Bool} {ks : List Bool} {g : tx_g} {x1 : Int32} {s : ps_S} {R : Int32 → ps_S → Prop} (hb : b < 2) (h21 : (ps_i s 1131 21).toInt = b) (H : mv_E s b g) (hk : kS (sg g) bb c = some ks) (hx : x1.toInt = c) (k : ∀ v : Int32, v.toInt = (arh g c : Nat) → R v s) : pl_Cl n 218 [.ref 1131, .int x1] s (ps_rI R) := by
  cases n with
  | zero => exact pl_At_0
  | succ n =>
  show pl_At (n + 1) 218 0 [(0, .ref 1131), (1, .int x1)] [] s (ps_rI R)
  obtain ⟨z0, z2, z1, z6, z4⟩ := arh_lo (g := g) (c := c)
  obtain ⟨y1, y2⟩ := kS_mv H hk
  have hg := kS_gap hk
  have c4 : (4 : Int32).toInt = 4 := by decide
  have c6 : (6 : Int32).toInt = 6 := by decide
  have c10 : (10 : Int32).toInt = 10 := by decide
  have c20 : (20 : Int32).toInt = 20 := by decide
  have c40 : (40 : Int32).toInt = 40 := by decide
  have m4 : ((4 : Int32) * (ps_i s 1131 21)).toInt = 4 * b := by rw [xIm (by rw [c4, h21]; omega) (by rw [c4, h21]; omega), c4, h21]
  have m6 : ((6 : Int32) * (ps_i s 1131 21)).toInt = 6 * b := by rw [xIm (by rw [c6, h21]; omega) (by rw [c6, h21]; omega), c6, h21]
  refine pl_218_0 ?_
  refine ⟨fun h1 => ?_, fun h1 => ?_⟩
  · have h1 : x1.toInt = (0 : Int) := xeq h1
    exact k _ (by rw [z0 (by omega)]; rfl)
  · have h1 : x1.toInt ≠ (0 : Int) := xne h1
    refine ⟨fun h7 => ?_, fun h7 => ?_⟩
    · have h7 : x1.toInt < (40 : Int) := xlt h7
      refine ⟨fun h14 => ?_, fun h14 => ?_⟩
      · have h14 : x1.toInt < (4 : Int) := xlt h14
        exact k _ (by rw [z2 (by omega) (by omega)]; rfl)
      · have h14 : (4 : Int) ≤ x1.toInt := xle h14
        refine ⟨fun h20 => ?_, fun h20 => ?_⟩
        · have h20 : x1.toInt ≠ (6 : Int) := xne h20
          refine ⟨fun h28 => ?_, fun h28 => ?_⟩
          · have h28 : (6 : Int) ≤ x1.toInt := xle h28
            refine ⟨fun h36 => ?_, fun h36 => ?_⟩
            · have h36 : (20 : Int) ≤ x1.toInt := xle h36
              intro b74
              obtain ⟨b74, c74⟩ := pl_in b74
              have y := y2 (by omega) (by omega)
              have a1 : ((((4 : Int32) * (ps_i s 1131 21)) + x1)).toInt = 4 * b + c := by rw [xIa (by omega) (by omega), m4, hx]
              rw [xtn (a := 4 * b + (c - 20)) (by rw [xIs (by omega) (by omega), a1, c20]; omega)]
              exact k _ y.2
            · have h36 : x1.toInt < (20 : Int) := xlt h36
              intro b55
              obtain ⟨b55, c55⟩ := pl_in b55
              have y := y1 (by omega) (by omega)
              have a1 : ((((6 : Int32) * (ps_i s 1131 21)) + x1)).toInt = 6 * b + c := by rw [xIa (by omega) (by omega), m6, hx]
              rw [xtn (a := 6 * b + (c - 10)) (by rw [xIs (by omega) (by omega), a1, c10]; omega)]
              exact k _ y.2
          · have h28 : x1.toInt < (6 : Int) := xlt h28
            exact k _ (by rw [z1 (by omega)]; rfl)
        · have h20 : x1.toInt = (6 : Int) := xeq h20
          exact k _ (by rw [z6 (by omega)]; rfl)
    · have h7 : (40 : Int) ≤ x1.toInt := xle h7
      exact k _ (by rw [z4 (by omega)]; rfl)
theorem fm_220c {n to j c : Nat} {x1 x2 : Int32} {s : ps_S} {l : List Nat} {R : Int32 → ps_S → Prop} (hx : x1.toInt = to) (ht : to < 27400) (W : mv_W s to l) (hj : x2.toInt = j) (hc : l[j]? = some c) (k : ∀ v : Int32, v.toInt = c → R v s) : pl_Cl n 220 [.ref 1131, .int x1, .int x2] s (ps_rI R) := by
  have hl := (List.getElem?_eq_some_iff.mp hc).1
  have h40 := W.2.1
  have c1 : (1 : Int32).toInt = 1 := by decide
  have e : (x1 + 1).toInt = to + 1 := by rw [xIa (by omega) (by omega), hx, c1]
  refine fm_220 (j := to + 1 + j) (by rw [xIa (by omega) (by omega), e, hj]; omega) ?_
  exact k _ (W.2.2 j c hc)
theorem fm_219c {n to : Nat} {x1 : Int32} {s : ps_S} {l : List Nat} {R : Int32 → ps_S → Prop} (hx : x1.toInt = to) (W : mv_W s to l) (k : ∀ v : Int32, v.toInt = l.length → R v s) : pl_Cl n 219 [.ref 1131, .int x1] s (ps_rI R) := fm_219 hx (k _ W.1)
theorem ar2 {s : ps_S} {b c : Nat} {g : tx_g} (H : mv_E s b g) {b0 : Bool} {ks : List Bool} (hk : kS (sg g) b0 c = some ks) : ks.length ≤ 2 := by
  rcases kS_num hk with ⟨a, e⟩ | ⟨a, a2, e⟩ | ⟨a, e⟩ | ⟨a, e⟩ | ⟨a, a2, e⟩ | ⟨a, a2, e⟩ | ⟨a, a2, e⟩
  · omega
  · omega
  · omega
  · omega
  · have a2 : c < 10 + g.1.length := a2
    have e : ks.length = (g.1.getD (c - 10) ([], 0)).2 := e
    obtain ⟨w, hw⟩ := getD_2 (α := Nat) (l := g.1) (k := c - 10) (by omega)
    have := (H.2.2.2.2.1 _ _ _ hw).2.1
    omega
  · have a2 : c < 20 + g.2.length := a2
    have e : ks.length = (g.2.getD (c - 20) ([], 0)).2 := e
    obtain ⟨w, hw⟩ := getD_2 (α := Nat) (l := g.2) (k := c - 20) (by omega)
    have := (H.2.2.2.2.2 _ _ _ hw).2.1
    omega
  · omega
theorem fm_221_5 {b to e : Nat} {g : tx_g} {l : List Nat} {x1 : Int32} {s : ps_S} {R : Int32 → ps_S → Prop} (hb : b < 2) (h21 : (ps_i s 1131 21).toInt = b) (H : mv_E s b g) (hx : x1.toInt = to) (ht : to < 27400) (W : mv_W s to l) (k : ∀ v : Int32, v.toInt = e → R v s) : ∀ (n : Nat) {x3 x4 : Int32} {j w : Nat} {Wj : List Bool}, x3.toInt = j → x4.toInt = w → ws (sg g) (l.drop j) Wj → w ≤ Wj.length → j + en (arh g) (l.drop j) w = e → j ≤ l.length → pl_At n 221 5 [(0, .ref 1131), (1, .int x1), (3, .int x3), (4, .int x4)] [] s (ps_rI R)
  | 0, _, _, _, _, _, _, _, _, _, _, _ => pl_At_0
  | n + 1, x3, x4, j, w, Wj, h3, h4, hw, hwl, he, hj => by
    have h40 := W.2.1
    have hA := arh_k H.2.2.1 H.2.2.2.1
    refine pl_221_5 ?_
    refine ⟨fun h7 => ?_, fun h7 => ?_⟩
    · have h7 : x4.toInt ≤ (0 : Int) := xle h7
      have e0 : w = 0 := by omega
      subst e0
      rw [en_0] at he
      exact k _ (by omega)
    · have h7 : (0 : Int) < x4.toInt := xlt h7
      obtain ⟨b0, W', rfl⟩ : ∃ b0 W', Wj = b0 :: W' := by
        cases Wj with
        | nil => rw [List.length_nil] at hwl; omega
        | cons b0 W' => exact ⟨b0, W', rfl⟩
      have hjl : j < l.length := by
        rcases Nat.lt_or_ge j l.length with z | z
        · exact z
        · rw [List.drop_eq_nil_of_le z] at hw
          cases hw
      obtain ⟨c, hc⟩ : ∃ c, l[j]? = some c := ⟨_, List.getElem?_eq_getElem hjl⟩
      rw [drop_c hc] at hw
      obtain ⟨ks, hk, hws⟩ := ws_hd hw
      have ha := hA b0 c ks hk
      refine fm_220c hx ht W h3 hc (fun v16 q16 => ?_)
      refine fm_218 hb h21 H hk q16 (fun v19 q19 => ?_)
      have a2 : ks.length ≤ 2 := ar2 H hk
      have c1 : (1 : Int32).toInt = 1 := by decide
      have hle := ws_le hws
      rw [List.length_append, List.length_drop] at hle
      have hwl2 := hwl
      rw [List.length_cons] at hwl2
      have e5 : (x4 + (v19 - 1)).toInt = (w - 1 + arh g c : Nat) := by
        have e6 : (v19 - 1).toInt = (arh g c : Int) - 1 := by rw [xIs (by omega) (by omega), q19, c1]
        rw [xIa (by omega) (by omega), e6, h4]
        omega
      refine fm_221_5 hb h21 H hx ht W k n (xj1 h3 (by omega)) e5 hws (by rw [List.length_append]; rw [List.length_cons] at hwl; omega) ?_ (by omega)
      rw [drop_c hc, show w = (w - 1) + 1 from by omega, en_c] at he
      omega
theorem fm_221 {n b to i : Nat} {g : tx_g} {l : List Nat} {b0 : Bool} {Wi : List Bool} {x1 x2 : Int32} {s : ps_S} {R : Int32 → ps_S → Prop} (hb : b < 2) (h21 : (ps_i s 1131 21).toInt = b) (H : mv_E s b g) (hx : x1.toInt = to) (ht : to < 27400) (W : mv_W s to l) (hi : x2.toInt = i) (hw : ws (sg g) (l.drop i) (b0 :: Wi)) (k : ∀ v : Int32, v.toInt = (i + en (arh g) (l.drop i) 1 : Nat) → R v s) : pl_Cl n 221 [.ref 1131, .int x1, .int x2] s (ps_rI R) := by
  cases n with
  | zero => exact pl_At_0
  | succ n =>
  show pl_At (n + 1) 221 0 [(0, .ref 1131), (1, .int x1), (2, .int x2)] [] s (ps_rI R)
  refine pl_221_0 ?_
  refine fm_221_5 hb h21 H hx ht W k n hi (w := 1) (by decide) hw (by rw [List.length_cons]; omega) rfl ?_
  rcases Nat.lt_or_ge i l.length with z | z
  · omega
  · rw [List.drop_eq_nil_of_le z] at hw
    cases hw
/-- parts that are the same -/
theorem sl_eq {l l2 : List Nat} {b p k : Nat} : (l.drop b).take k = (l2.drop p).take k ↔ ∀ j, j < k → l[b + j]? = l2[p + j]? := by
  constructor
  · intro h j hj
    have := congrArg (fun z => z[j]?) h
    rw [List.getElem?_take, List.getElem?_take, if_pos hj, if_pos hj, List.getElem?_drop, List.getElem?_drop] at this
    exact this
  · intro h
    refine List.ext_getElem? (fun j => ?_)
    rw [List.getElem?_take, List.getElem?_take]
    by_cases hj : j < k
    · rw [if_pos hj, if_pos hj, List.getElem?_drop, List.getElem?_drop]
      exact h j hj
    · rw [if_neg hj, if_neg hj]
theorem fs_92o {n r i : Nat} {x1 : Int32} {s : ps_S} {l : List Nat} {R : Int32 → ps_S → Prop} (hr : ps_is r 5 = true) (W : cv_W s r l) (hx : x1.toInt = i) (k : ∀ v : Int32, (∃ c : Nat, l[i]? = some c ∧ v.toInt = c) ∨ (l[i]? = none ∧ v.toInt = -1) → R v s) : pl_Cl n 92 [.ref r, .int x1] s (ps_rI R) := by
  obtain ⟨t1, t2, t3, -⟩ := cv_row hr
  refine fs_92 hr t1 (by rw [t1]; exact t2) W (fun v z => k v ?_)
  rcases Nat.lt_or_ge i l.length with y | y
  · obtain ⟨c, hc⟩ : ∃ c, l[i]? = some c := ⟨_, List.getElem?_eq_getElem y⟩
    exact Or.inl ⟨c, hc, z.1 ⟨by omega, by omega⟩ c (by rw [hx]; exact hc)⟩
  · exact Or.inr ⟨List.getElem?_eq_none y, z.2 (by omega)⟩
theorem fs_99_3 {r r3 b e p : Nat} {l l2 : List Nat} {x1 x2 x4 : Int32} {s : ps_S} {R : Int32 → ps_S → Prop} (hr : ps_is r 5 = true) (W : cv_W s r l) (hr3 : ps_is r3 5 = true) (W3 : cv_W s r3 l2) (h1 : x1.toInt = b) (h2 : x2.toInt = e) (he : e ≤ l.length) (h4 : x4.toInt = p) (hp : p ≤ 1000) (k1 : (l.drop b).take (e - b) = (l2.drop p).take (e - b) → R 1 s) (k0 : ¬ (l.drop b).take (e - b) = (l2.drop p).take (e - b) → R 0 s) : ∀ (n : Nat) {x5 : Int32} {i : Nat}, x5.toInt = i → b ≤ i → (∀ j, j < i - b → l[b + j]? = l2[p + j]?) → pl_At n 99 3 [(0, .ref r), (1, .int x1), (2, .int x2), (3, .ref r3), (4, .int x4), (5, .int x5)] [] s (ps_rI R)
  | 0, _, _, _, _, _ => pl_At_0
  | n + 1, x5, i, h5, hb, hj => by
    have h40 := W.2.2.1
    refine pl_99_3 ?_
    refine ⟨fun h6 => ?_, fun h6 => ?_⟩
    · have h6 : x2.toInt ≤ x5.toInt := xle h6
      exact k1 (sl_eq.mpr (fun j hj2 => hj j (by omega)))
    · have h6 : x5.toInt < x2.toInt := xlt h6
      obtain ⟨c, hc⟩ : ∃ c, l[i]? = some c := ⟨_, List.getElem?_eq_getElem (by omega)⟩
      have ei : ((x4 + x5) - x1).toInt = (p + (i - b) : Nat) := by
        have e1 : (x4 + x5).toInt = (p + i : Nat) := by rw [xIa (by omega) (by omega), h4, h5]; rfl
        rw [xIs (by omega) (by omega), e1, h1]
        omega
      refine fs_92c hr W h5 hc (fun v12 q12 => ?_)
      refine fs_92o hr3 W3 ei (fun v23 q23 => ?_)
      refine ⟨fun h26 => ?_, fun h26 => ?_⟩
      · have h26 : v12.toInt = v23.toInt := xeq h26
        refine fs_99_3 hr W hr3 W3 h1 h2 he h4 hp k1 k0 n (xj1 h5 (by omega)) (by omega) (fun j hj2 => ?_)
        rcases Nat.lt_or_ge j (i - b) with z | z
        · exact hj j z
        · rw [show b + j = i from by omega, show p + j = p + (i - b) from by omega, hc]
          rcases q23 with ⟨c2, e2, e3⟩ | ⟨e2, e3⟩
          · rw [e2, show c = c2 from by omega]
          · omega
      · have h26 : v12.toInt ≠ v23.toInt := xne h26
        refine k0 (fun z => ?_)
        rcases q23 with ⟨c2, e2, e3⟩ | ⟨e2, e3⟩
        · have y := sl_eq.mp z (i - b) (by omega)
          rw [show b + (i - b) = i from by omega, hc] at y
          rw [e2] at y
          cases y
          omega
        · have y := sl_eq.mp z (i - b) (by omega)
          rw [show b + (i - b) = i from by omega, hc] at y
          rw [e2] at y
          cases y
/-- isPartAt -/
theorem fs_99 {n r r3 b e p : Nat} {l l2 : List Nat} {x1 x2 x4 : Int32} {s : ps_S} {R : Int32 → ps_S → Prop} (hr : ps_is r 5 = true) (W : cv_W s r l) (hr3 : ps_is r3 5 = true) (W3 : cv_W s r3 l2) (h1 : x1.toInt = b) (h2 : x2.toInt = e) (he : e ≤ l.length) (h4 : x4.toInt = p) (hp : p ≤ 1000) (k1 : (l.drop b).take (e - b) = (l2.drop p).take (e - b) → R 1 s) (k0 : ¬ (l.drop b).take (e - b) = (l2.drop p).take (e - b) → R 0 s) : pl_Cl n 99 [.ref r, .int x1, .int x2, .ref r3, .int x4] s (ps_rI R) := by
  cases n with
  | zero => exact pl_At_0
  | succ n =>
  show pl_At (n + 1) 99 0 [(0, .ref r), (1, .int x1), (2, .int x2), (3, .ref r3), (4, .int x4)] [] s (ps_rI R)
  refine pl_99_0 ?_
  exact fs_99_3 hr W hr3 W3 h1 h2 he h4 hp k1 k0 n h1 (Nat.le_refl _) (fun j hj => absurd hj (by omega))
theorem fm_259_18 {ta tb f m p : Nat} {la lb : List Nat} {x1 x2 x3 x4 x5 : Int32} {s : ps_S} {R : Int32 → ps_S → Prop} (h1 : x1.toInt = ta) (hta : ta < 27400) (Wa : mv_W s ta la) (h4 : x4.toInt = tb) (htb : tb < 27400) (Wb : mv_W s tb lb) (h2 : x2.toInt = f) (h3 : x3.toInt = m) (h5 : x5.toInt = p) (hf : f + m ≤ la.length) (hp : p + m ≤ lb.length) (k1 : (la.drop f).take m = (lb.drop p).take m → R 1 s) (k0 : ¬ (la.drop f).take m = (lb.drop p).take m → R 0 s) : ∀ (n : Nat) {x6 : Int32} {i : Nat}, x6.toInt = i → (∀ j, j < i → la[f + j]? = lb[p + j]?) → pl_At n 259 18 [(0, .ref 1131), (1, .int x1), (2, .int x2), (3, .int x3), (4, .int x4), (5, .int x5), (6, .int x6)] [] s (ps_rI R)
  | 0, _, _, _, _ => pl_At_0
  | n + 1, x6, i, h6, hj => by
    have a40 := Wa.2.1
    have b40 := Wb.2.1
    refine pl_259_18 ?_
    refine ⟨fun h21 => ?_, fun h21 => ?_⟩
    · have h21 : x3.toInt ≤ x6.toInt := xle h21
      exact k1 (sl_eq.mpr (fun j hj2 => hj j (by omega)))
    · have h21 : x6.toInt < x3.toInt := xlt h21
      obtain ⟨c, ha⟩ : ∃ c, la[f + i]? = some c := ⟨_, List.getElem?_eq_getElem (by omega)⟩
      obtain ⟨c2, hb⟩ : ∃ c2, lb[p + i]? = some c2 := ⟨_, List.getElem?_eq_getElem (by omega)⟩
      refine fm_220c h1 hta Wa (j := f + i) (by rw [xIa (by omega) (by omega), h2, h6]; rfl) ha (fun v30 q30 => ?_)
      refine fm_220c h4 htb Wb (j := p + i) (by rw [xIa (by omega) (by omega), h5, h6]; rfl) hb (fun v41 q41 => ?_)
      refine ⟨fun h44 => ?_, fun h44 => ?_⟩
      · have h44 : v30.toInt = v41.toInt := xeq h44
        refine fm_259_18 h1 hta Wa h4 htb Wb h2 h3 h5 hf hp k1 k0 n (xj1 h6 (by omega)) (fun j hj2 => ?_)
        rcases Nat.lt_or_ge j i with z | z
        · exact hj j z
        · rw [show j = i from by omega, ha, hb, show c = c2 from by omega]
      · have h44 : v30.toInt ≠ v41.toInt := xne h44
        refine k0 (fun z => ?_)
        have y := sl_eq.mp z i (by omega)
        rw [ha, hb] at y
        cases y
        omega
/-- haveSame -/
theorem fm_259 {n ta tb f m p : Nat} {la lb : List Nat} {x1 x2 x3 x4 x5 : Int32} {s : ps_S} {R : Int32 → ps_S → Prop} (h1 : x1.toInt = ta) (hta : ta < 27400) (Wa : mv_W s ta la) (h4 : x4.toInt = tb) (htb : tb < 27400) (Wb : mv_W s tb lb) (h2 : x2.toInt = f) (h3 : x3.toInt = m) (h5 : x5.toInt = p) (hf : f + m ≤ la.length) (hp1 : p ≤ lb.length) (k1 : (la.drop f).take m = (lb.drop p).take m → R 1 s) (k0 : ¬ (la.drop f).take m = (lb.drop p).take m → R 0 s) : pl_Cl n 259 [.ref 1131, .int x1, .int x2, .int x3, .int x4, .int x5] s (ps_rI R) := by
  cases n with
  | zero => exact pl_At_0
  | succ n =>
  show pl_At (n + 1) 259 0 [(0, .ref 1131), (1, .int x1), (2, .int x2), (3, .int x3), (4, .int x4), (5, .int x5)] [] s (ps_rI R)
  have a40 := Wa.2.1
  have b40 := Wb.2.1
  have es : (x5 + x3).toInt = (p + m : Nat) := by rw [xIa (by omega) (by omega), h5, h3]; rfl
  refine pl_259_0 ?_
  refine fm_219c h4 Wb (fun v7 q7 => ?_)
  refine ⟨fun h10 => ?_, fun h10 => ?_⟩
  · have h10 : (x5 + x3).toInt ≤ v7.toInt := xle h10
    exact fm_259_18 h1 hta Wa h4 htb Wb h2 h3 h5 hf (by omega) k1 k0 n rfl (fun j hj => absurd hj (Nat.not_lt_zero _))
  · have h10 : v7.toInt < (x5 + x3).toInt := xlt h10
    refine k0 (fun z => ?_)
    have y := congrArg List.length z
    rw [List.length_take, List.length_take, List.length_drop, List.length_drop] at y
    omega
/-! what stands in the state is well formed -/
/-- of a theory and a formula -/
def WFt (h : tx_H) : Prop := h.1.1.length ≤ 6 ∧ h.1.2.length ≤ 4 ∧ ∀ (k : Nat) (w l : List Nat), h.2[k]? = some (w, l) → wf (sg h.1) 5 l [(true, 0)] ∧ l.length ≤ 40 ∧ ∀ p, p ∈ l → p < 60
def WFf (g : tx_g) (l : List Nat) : Prop := l = [] ∨ wf (sg g) 5 l [(true, 0)]
theorem kS_sg {s : ps_S} {b : Nat} {σ : mSig} {g : tx_g} (hS : Sg (ps_a s 1135) (ps_a s 1136) (ps_a s 1138) (ps_a s 1139) b σ) (H : mv_E s b g) (bb : Bool) (p : Nat) : kS σ bb p = kS (sg g) bb p := by
  obtain ⟨-, -, e1, -, e2, -, e3, e4⟩ := hS
  rw [show ((b : Int)).toNat = b from rfl] at e1 e2
  have n1 : σ.1.1 = g.1.length := by have := H.1; omega
  have n2 : σ.1.2 = g.2.length := by have := H.2.1; omega
  have f1 : ∀ r, r < g.1.length → σ.2.1 r = (g.1.getD r ([], 0)).2 := fun r hr => by
    obtain ⟨w, hw⟩ := getD_2 (α := Nat) (l := g.1) hr
    have y := (H.2.2.2.2.1 _ _ _ hw).2.2.2
    have z := (e3 r (by omega)).1
    rw [show ((b : Int)).toNat = b from rfl, y] at z
    omega
  have f2 : ∀ r, r < g.2.length → σ.2.2 r = (g.2.getD r ([], 0)).2 := fun r hr => by
    obtain ⟨w, hw⟩ := getD_2 (α := Nat) (l := g.2) hr
    have y := (H.2.2.2.2.2 _ _ _ hw).2.2.2
    have z := (e4 r (by omega)).1
    rw [show ((b : Int)).toNat = b from rfl, y] at z
    omega
  unfold kS
  rw [n1, n2]
  cases bb
  · rw [cond_false, cond_false]
    show (if 20 ≤ p ∧ p < 20 + g.2.length then _ else _) = (if 20 ≤ p ∧ p < 20 + g.2.length then _ else _)
    by_cases h : 20 ≤ p ∧ p < 20 + g.2.length
    · rw [if_pos h, if_pos h, f2 _ (by omega)]
      rfl
    · rw [if_neg h, if_neg h]
  · rw [cond_true, cond_true]
    show (if p = 0 then _ else if p < 4 then _ else if p < 6 then _ else if p = 6 then _ else if 10 ≤ p ∧ p < 10 + g.1.length then _ else _) = (if p = 0 then _ else if p < 4 then _ else if p < 6 then _ else if p = 6 then _ else if 10 ≤ p ∧ p < 10 + g.1.length then _ else _)
    by_cases h : 10 ≤ p ∧ p < 10 + g.1.length
    · rw [if_pos h, if_pos h, f1 _ (by omega)]
      rfl
    · rw [if_neg h, if_neg h]
theorem wf_sg {s : ps_S} {b c : Nat} {σ : mSig} {g : tx_g} (hS : Sg (ps_a s 1135) (ps_a s 1136) (ps_a s 1138) (ps_a s 1139) b σ) (H : mv_E s b g) : ∀ {l : List Nat} {W : List (Bool × Nat)}, wf σ c l W → wf (sg g) c l W
  | [], W, h => h
  | p :: l, W, h => by
    obtain ⟨bb, k, W', ks, e, hk, h2, h3⟩ := wf_cons.mp h
    rw [kS_sg hS H] at h2
    exact wf_cons.mpr ⟨bb, k, W', ks, e, hk, h2, wf_sg hS H h3⟩
/-- a row as both layers have it -/
theorem Rw_W {s : ps_S} {to : Nat} {l l' : List Nat} (R : Rw (ps_a s 1134) to l') (W : mv_W s to l) : l' = l := by
  obtain ⟨-, -, -, r4, r5, r6⟩ := R
  obtain ⟨w1, w2, w3⟩ := W
  rw [show ((to : Int)).toNat = to from rfl] at r5 r6
  have hl : l'.length = l.length := by omega
  refine List.ext_getElem? (fun i => ?_)
  rcases Nat.lt_or_ge i l.length with z | z
  · obtain ⟨c, hc⟩ : ∃ c, l[i]? = some c := ⟨_, List.getElem?_eq_getElem z⟩
    obtain ⟨c', hc'⟩ : ∃ c, l'[i]? = some c := ⟨_, List.getElem?_eq_getElem (by omega)⟩
    have e : l' = l'.take i ++ c' :: l'.drop (i + 1) := by rw [← drop_c hc', List.take_append_drop]
    have a := r6 _ _ _ e
    rw [List.length_take, Nat.min_eq_left (by omega)] at a
    have b := w3 i c hc
    rw [hc, hc', show c = c' from by omega]
  · rw [List.getElem?_eq_none z, List.getElem?_eq_none (by omega)]
theorem WF_of {s : ps_S} {t : Int32} {u : Int} {h : tx_H} {l : List Nat} (X : LX s t u) (m : TRm s h l) : WFt h ∧ WFf h.1 l := by
  obtain ⟨σ, hM⟩ := X.2.2.2.1
  obtain ⟨b, m1, m2, m3, m4⟩ := m
  rw [m2] at hM
  obtain ⟨hS, -, -, hAx, hF, -⟩ := hM
  have H := m3.1
  refine ⟨⟨H.2.2.1, H.2.2.2.1, fun k w ax hk => ?_⟩, ?_⟩
  · obtain ⟨y1, y2, y3⟩ := m3.2.2.2 k w ax hk
    have hl := (List.getElem?_eq_some_iff.mp hk).1
    have e7 := m3.2.1
    have h8 := m3.2.2.1
    obtain ⟨l', r, q, r60⟩ := hAx k (by rw [show ((b : Int)).toNat = b from rfl]; omega) (by omega)
    rw [show (21812 + 41 * (8 * (b : Int) + (k : Int)) : Int) = ((21812 + 41 * (8 * b + k) : Nat) : Int) from by omega] at r
    have e := Rw_W r y3
    subst e
    exact ⟨wf_sg hS H q, y3.2.1, r60⟩
  · rcases hF with hF | ⟨l', r, q⟩
    · left
      have := m4.1
      exact List.eq_nil_of_length_eq_zero (by omega)
    · right
      have e := Rw_W (to := 25748) r m4
      subst e
      exact wf_sg hS H q

