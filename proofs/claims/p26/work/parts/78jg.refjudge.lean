set_option maxRecDepth 100000
/-! the reference: what holds in a model; hold(), counter() -/
-- ProofBenchModel.isFree(II)Z
theorem pl_223_0 {n : Nat} {x1 : Int32} {x2 : Int32} {s : ps_S} {Q : Option Value → ps_S → Prop} (h :
  pl_At n 223 2 [(0, .ref 1131), (1, .int x1), (2, .int x2), (3, .int 0)] [] s Q) : pl_At (n + 1) 223 0 [(0, .ref 1131), (1, .int x1), (2, .int x2)] [] s Q :=
  pl_wp_at (stops := [(2, [0, 1, 2, 3])]) (f := 4) h rfl

theorem pl_223_2 {n : Nat} {x1 : Int32} {x2 : Int32} {x3 : Int32} {s : ps_S} {Q : Option Value → ps_S → Prop} (h :
  pl_Cl n 219 [.ref 1131, .int x1] s (ps_rI (fun v1 s1 =>
    (v1 ≤ x3 →
      Q (some (.int 0)) s1) ∧
    (x3 < v1 →
      pl_Cl n 220 [.ref 1131, .int x1, .int x3] s1 (ps_rI (fun v2 s2 =>
        (v2 ≠ ((60 : Int32) + x2) →
          pl_At n 223 2 [(0, .ref 1131), (1, .int x1), (2, .int x2), (3, .int (x3 + 1))] [] s2 Q) ∧
        (v2 = ((60 : Int32) + x2) →
          Q (some (.int 1)) s2))))))) : pl_At (n + 1) 223 2 [(0, .ref 1131), (1, .int x1), (2, .int x2), (3, .int x3)] [] s Q :=
  pl_wp_at (stops := [(2, [0, 1, 2, 3])]) (f := 21) h rfl

-- ProofBenchModel.freeMany(I)I
theorem pl_298_0 {n : Nat} {x1 : Int32} {s : ps_S} {Q : Option Value → ps_S → Prop} (h :
  pl_At n 298 4 [(0, .ref 1131), (1, .int x1), (2, .int 0), (3, .int 0)] [] s Q) : pl_At (n + 1) 298 0 [(0, .ref 1131), (1, .int x1)] [] s Q :=
  pl_wp_at (stops := [(4, [0, 1, 2, 3])]) (f := 6) h rfl

theorem pl_298_4 {n : Nat} {x1 : Int32} {x2 : Int32} {x3 : Int32} {s : ps_S} {Q : Option Value → ps_S → Prop} (h :
  (12 ≤ x3 →
    Q (some (.int x2)) s) ∧
  (x3 < 12 →
    pl_Cl n 223 [.ref 1131, .int x1, .int x3] s (ps_rI (fun v1 s1 =>
      (v1 = 0 →
        pl_At n 298 4 [(0, .ref 1131), (1, .int x1), (2, .int (x2 + 0)), (3, .int (x3 + 1))] [] s1 Q) ∧
      (v1 ≠ 0 →
        pl_At n 298 4 [(0, .ref 1131), (1, .int x1), (2, .int (x2 + 1)), (3, .int (x3 + 1))] [] s1 Q))))) : pl_At (n + 1) 298 4 [(0, .ref 1131), (1, .int x1), (2, .int x2), (3, .int x3)] [] s Q :=
  pl_wp_at (stops := [(4, [0, 1, 2, 3])]) (f := 24) h rfl

-- ProofBenchModel.doesHold(II)Z
theorem pl_299_0 {n : Nat} {x1 : Int32} {x2 : Int32} {s : ps_S} {Q : Option Value → ps_S → Prop} (h :
  pl_Cl n 298 [.ref 1131, .int x1] s (ps_rI (fun v1 s1 =>
    pl_Cl n 290 [.int x2, .int v1] s1 (ps_rI (fun v2 s2 =>
      pl_At n 299 13 [(0, .ref 1131), (1, .int x1), (2, .int x2), (3, .int v2), (4, .int 0)] [] s2 Q))))) : pl_At (n + 1) 299 0 [(0, .ref 1131), (1, .int x1), (2, .int x2)] [] s Q :=
  pl_wp_at (stops := [(13, [0, 1, 2, 3, 4]), (26, [0, 1, 2, 3, 4, 5, 6])]) (f := 10) h rfl

theorem pl_299_13 {n : Nat} {x1 : Int32} {x2 : Int32} {x3 : Int32} {x4 : Int32} {s : ps_S} {Q : Option Value → ps_S → Prop} (h :
  (x3 ≤ x4 →
    Q (some (.int 1)) s) ∧
  (x4 < x3 →
    pl_At n 299 26 [(0, .ref 1131), (1, .int x1), (2, .int x2), (3, .int x3), (4, .int x4), (5, .int x4), (6, .int 0)] [] s Q)) : pl_At (n + 1) 299 13 [(0, .ref 1131), (1, .int x1), (2, .int x2), (3, .int x3), (4, .int x4)] [] s Q :=
  pl_wp_at (stops := [(13, [0, 1, 2, 3, 4]), (26, [0, 1, 2, 3, 4, 5, 6])]) (f := 11) h rfl

theorem pl_299_26 {n : Nat} {x1 : Int32} {x2 : Int32} {x3 : Int32} {x4 : Int32} {x5 : Int32} {x6 : Int32} {s : ps_S} {Q : Option Value → ps_S → Prop} (h :
  (12 ≤ x6 →
    pl_Cl n 295 [.ref 1131, .int x1, .int x2] s (ps_rI (fun v1 s1 =>
      (v1 ≠ 0 →
        pl_At n 299 13 [(0, .ref 1131), (1, .int x1), (2, .int x2), (3, .int x3), (4, .int (x4 + 1))] [] s1 Q) ∧
      (v1 = 0 →
        Q (some (.int 0)) s1)))) ∧
  (x6 < 12 →
    pl_Cl n 223 [.ref 1131, .int x1, .int x6] s (ps_rI (fun v2 s2 =>
      (v2 ≠ 0 →
        pl_nk (!decide (x2 = 0)) ((pm_in x6 12 = true →
          pl_nk (!decide (x2 = 0)) (pl_At n 299 26 [(0, .ref 1131), (1, .int x1), (2, .int x2), (3, .int x3), (4, .int x4), (5, .int (x5 / x2)), (6, .int (x6 + 1))] [] (ps_ua s2 1175 (Int32.toNatClampNeg x6) (x5 - (x5 / x2) * x2)) Q)))) ∧
      (v2 = 0 →
        pl_At n 299 26 [(0, .ref 1131), (1, .int x1), (2, .int x2), (3, .int x3), (4, .int x4), (5, .int x5), (6, .int (x6 + 1))] [] s2 Q))))) : pl_At (n + 1) 299 26 [(0, .ref 1131), (1, .int x1), (2, .int x2), (3, .int x3), (4, .int x4), (5, .int x5), (6, .int x6)] [] s Q :=
  pl_wp_at (stops := [(13, [0, 1, 2, 3, 4]), (26, [0, 1, 2, 3, 4, 5, 6])]) (f := 35) h rfl

-- ProofBenchModel.doAxiomsHold(I)Z
theorem pl_300_0 {n : Nat} {x1 : Int32} {s : ps_S} {Q : Option Value → ps_S → Prop} (h :
  pl_At n 300 2 [(0, .ref 1131), (1, .int x1), (2, .int 0)] [] s Q) : pl_At (n + 1) 300 0 [(0, .ref 1131), (1, .int x1)] [] s Q :=
  pl_wp_at (stops := [(2, [0, 1, 2])]) (f := 4) h rfl

theorem pl_300_2 {n : Nat} {x1 : Int32} {x2 : Int32} {s : ps_S} {Q : Option Value → ps_S → Prop} (h :
  (pm_in (ps_i s 1131 21) 2 = true →
    ((ps_a s 1137 (Int32.toNatClampNeg (ps_i s 1131 21))) ≤ x2 →
      Q (some (.int 1)) s) ∧
    (x2 < (ps_a s 1137 (Int32.toNatClampNeg (ps_i s 1131 21))) →
      pl_Cl n 283 [.int (ps_i s 1131 21), .int x2] s (ps_rI (fun v1 s1 =>
        pl_Cl n 299 [.ref 1131, .int v1, .int x1] s1 (ps_rI (fun v2 s2 =>
          (v2 ≠ 0 →
            pl_At n 300 2 [(0, .ref 1131), (1, .int x1), (2, .int (x2 + 1))] [] s2 Q) ∧
          (v2 = 0 →
            Q (some (.int 0)) s2)))))))) : pl_At (n + 1) 300 2 [(0, .ref 1131), (1, .int x1), (2, .int x2)] [] s Q :=
  pl_wp_at (stops := [(2, [0, 1, 2])]) (f := 23) h rfl

-- ProofBenchModel.hold(I)I
theorem pl_302_0 {n : Nat} {x1 : Int32} {s : ps_S} {Q : Option Value → ps_S → Prop} (h :
  pl_Cl n 301 [.ref 1131, .int x1] s (ps_rI (fun v1 s1 =>
    pl_At n 302 11 [(0, .ref 1131), (1, .int x1), (2, .int v1), (3, .int 0), (4, .int 0)] [] s1 Q))) : pl_At (n + 1) 302 0 [(0, .ref 1131), (1, .int x1)] [] s Q :=
  pl_wp_at (stops := [(11, [0, 1, 2, 3, 4])]) (f := 10) h rfl

theorem pl_302_11 {n : Nat} {x1 : Int32} {x2 : Int32} {x3 : Int32} {x4 : Int32} {s : ps_S} {Q : Option Value → ps_S → Prop} (h :
  (x2 ≤ x4 →
    (0 ≤ x2 →
      Q (some (.int x3)) s) ∧
    (x2 < 0 →
      Q (some (.int x2)) s)) ∧
  (x4 < x2 →
    pl_Cl n 293 [.ref 1131, .int x4] s (ps_rV (fun s1 =>
      pl_Cl n 300 [.ref 1131, .int x1] s1 (ps_rI (fun v2 s2 =>
        (v2 = 0 →
          pl_At n 302 11 [(0, .ref 1131), (1, .int x1), (2, .int x2), (3, .int (x3 + 0)), (4, .int (x4 + 1))] [] s2 Q) ∧
        (v2 ≠ 0 →
          pl_At n 302 11 [(0, .ref 1131), (1, .int x1), (2, .int x2), (3, .int (x3 + 1)), (4, .int (x4 + 1))] [] s2 Q))))))) : pl_At (n + 1) 302 11 [(0, .ref 1131), (1, .int x1), (2, .int x2), (3, .int x3), (4, .int x4)] [] s Q :=
  pl_wp_at (stops := [(11, [0, 1, 2, 3, 4])]) (f := 31) h rfl

-- ProofBenchModel.counter(I)I
theorem pl_304_0 {n : Nat} {x1 : Int32} {s : ps_S} {Q : Option Value → ps_S → Prop} (h :
  pl_Cl n 200 [.int x1, .int 1, .int 3] s (ps_rI (fun v1 s1 =>
    (v1 = 0 →
      Q (some (.int (-1))) s1) ∧
    (v1 ≠ 0 →
      pl_Cl n 219 [.ref 1131, .int 25748] s1 (ps_rI (fun v2 s2 =>
        (v2 ≠ 0 →
          pl_Cl n 301 [.ref 1131, .int x1] s2 (ps_rI (fun v3 s3 =>
            (v3 < 0 →
              Q (some (.int (-2))) s3) ∧
            (0 ≤ v3 →
              pl_Cl n 298 [.ref 1131, .int 25748] s3 (ps_rI (fun v4 s4 =>
                (v4 ≤ 4 →
                  pl_At n 304 47 [(0, .ref 1131), (1, .int x1), (2, .int v3), (3, .int 0)] [] s4 Q) ∧
                (4 < v4 →
                  Q (some (.int (-2))) s4))))))) ∧
        (v2 = 0 →
          Q (some (.int (-1))) s2))))))) : pl_At (n + 1) 304 0 [(0, .ref 1131), (1, .int x1)] [] s Q :=
  pl_wp_at (stops := [(47, [0, 1, 2, 3])]) (f := 32) h rfl

theorem pl_304_47 {n : Nat} {x1 : Int32} {x2 : Int32} {x3 : Int32} {s : ps_S} {Q : Option Value → ps_S → Prop} (h :
  (x2 ≤ x3 →
    Q (some (.int (-1))) s) ∧
  (x3 < x2 →
    pl_Cl n 293 [.ref 1131, .int x3] s (ps_rV (fun s1 =>
      pl_Cl n 300 [.ref 1131, .int x1] s1 (ps_rI (fun v2 s2 =>
        (v2 = 0 →
          pl_At n 304 47 [(0, .ref 1131), (1, .int x1), (2, .int x2), (3, .int (x3 + 1))] [] s2 Q) ∧
        (v2 ≠ 0 →
          pl_Cl n 299 [.ref 1131, .int 25748, .int x1] s2 (ps_rI (fun v3 s3 =>
            (v3 ≠ 0 →
              pl_At n 304 47 [(0, .ref 1131), (1, .int x1), (2, .int x2), (3, .int (x3 + 1))] [] s3 Q) ∧
            (v3 = 0 →
              Q (some (.int x3)) s3)))))))))) : pl_At (n + 1) 304 47 [(0, .ref 1131), (1, .int x1), (2, .int x2), (3, .int x3)] [] s Q :=
  pl_wp_at (stops := [(47, [0, 1, 2, 3])]) (f := 25) h rfl

/-- what is set but the free things -/
def MD (s : ps_S) (b to m : Nat) (g : tx_g) (l : List Nat) (D : Nat → Nat) : Prop := (b < 2 ∧ (ps_i s 1131 21).toInt = b ∧ mv_E s b g) ∧ (to < 27400 ∧ mv_W s to l) ∧ ML s m g ∧ (∀ (j x : Nat), (md_B m (md_sy m g))[j]? = some x → (ps_a s 1169 j).toInt = D j ∧ D j < x)
theorem ME_of {s : ps_S} {b to m : Nat} {g : tx_g} {l : List Nat} {D fr : Nat → Nat} (H : MD s b to m g l D) (hv : ∀ v, 60 + v ∈ l → v < 12 ∧ (ps_a s 1175 v).toInt = fr v ∧ fr v < m) : ME s b to m g l D fr := ⟨H.1, H.2.1, H.2.2.1, H.2.2.2, hv⟩
theorem MD_of {s : ps_S} {b to m : Nat} {g : tx_g} {l : List Nat} {D fr : Nat → Nat} (H : ME s b to m g l D fr) : MD s b to m g l D := ⟨H.1, H.2.1, H.2.2.1, H.2.2.2.1⟩
theorem ML_kq {A : List Nat} {s s' : ps_S} {m : Nat} {g : tx_g} (H : ML s m g) (K : kq A [] s s') (hA : [1170, 1171, 1172].all (fun q => !A.contains q) = true) : ML s' m g := by
  rw [List.all_eq_true] at hA
  have f : ∀ q, q ∈ [1170, 1171, 1172] → A.contains q = false := fun q hq => by
    have := hA q hq
    rw [Bool.not_eq_true'] at this
    exact this
  obtain ⟨⟨j1, j2⟩, j3, j4⟩ := H
  refine ⟨⟨by rw [kq_i K 73 rfl]; exact j1, ?_⟩, by rw [kq_a K 1171 (f _ (by decide))]; exact j3, by rw [kq_a K 1172 (f _ (by decide))]; exact j4⟩
  unfold ar_L at *
  rw [kq_a K 1170 (f _ (by decide))]
  exact j2
theorem MD_kq {s s' : ps_S} {b to m : Nat} {g : tx_g} {l : List Nat} {D : Nat → Nat} (H : MD s b to m g l D) (K : kq [1150, 1173, 1174, 1175] [] s s') : MD s' b to m g l D := by
  obtain ⟨⟨h1, h2, h3⟩, ⟨h4, h5⟩, h6, h7⟩ := H
  exact ⟨⟨h1, by rw [kq_i K 21 rfl]; exact h2, mv_E_kq h3 K (by decide)⟩, ⟨h4, mv_W_kq h5 K (by decide)⟩, ML_kq h6 K (by decide), by rw [kq_a K 1169 (by decide)]; exact h7⟩
section M295
variable {b to m : Nat} {g : tx_g} {l : List Nat} {D fr : Nat → Nat} {x1 x2 : Int32} {s0 : ps_S} {R : Int32 → ps_S → Prop}
/-- one piece's values -/
theorem fm_295_70 (hm : 1 ≤ m ∧ m ≤ 3) (h2 : x2.toInt = m) {n0 i c : Nat} {d : Nat × Nat} {S : List (Nat × Nat)} {gv0 gv3 : Nat → Int32} {x3 x4 x5 x6 x7 x8 : Int32} (hS : SKI g l i) (es : sk (arh g) l i = d :: S) (hc : l[i]? = some c) (hV : VT gv0 m g D fr (sk (arh g) l (i + 1)) (l.drop (i + 1))) (h3 : x3.toInt = (S.length + 1 : Nat)) (h5 : x5.toInt = c) (h6 : x6.toInt = (arh g c : Nat)) (h7 : x7.toInt = (243 * S.length : Nat)) (h8 : x8.toInt = (m ^ d.2 : Nat)) (h243 : m ^ d.2 ≤ 243) (h40 : S.length ≤ 41) (k : ∀ s', ME s' b to m g l D fr → kq [1150, 1173, 1174] [] s0 s' → ps_a s' 1173 = gv3 → (∀ j, ¬ (243 * S.length ≤ j ∧ j < 243 * S.length + m ^ d.2) → ps_a s' 1174 j = gv0 j) → (∀ e, e < m ^ d.2 → (ps_a s' 1174 (243 * S.length + e)).toInt = (svg m g D fr (13 - d.1) (evl m d.2 e) (l.drop i) : Nat)) → pl_At n0 295 16 [(0, .ref 1131), (1, .int x1), (2, .int x2), (3, .int x3), (4, .int (x4 + (Int32.ofInt (-1))))] [] s' (ps_rI R)) : ∀ (n : Nat) {s : ps_S} {x9 : Int32} {e : Nat}, n ≤ n0 → x9.toInt = e → e ≤ m ^ d.2 → ME s b to m g l D fr → kq [1150, 1173, 1174] [] s0 s → ps_a s 1173 = gv3 → (∀ j, ¬ (243 * S.length ≤ j ∧ j < 243 * S.length + e) → ps_a s 1174 j = gv0 j) → (∀ e', e' < e → (ps_a s 1174 (243 * S.length + e')).toInt = (svg m g D fr (13 - d.1) (evl m d.2 e') (l.drop i) : Nat)) → pl_At n 295 70 [(0, .ref 1131), (1, .int x1), (2, .int x2), (3, .int x3), (4, .int x4), (5, .int x5), (6, .int x6), (7, .int x7), (8, .int x8), (9, .int x9)] [] s (ps_rI R)
  | 0, _, _, _, _, _, _, _, _, _, _, _ => pl_At_0
  | n + 1, s, x9, e, hn, h9, he, H, K, G3, hg, hw => by
    refine pl_295_70 ⟨fun z => ?_, fun z => ?_⟩
    · have z := xle z
      have ee : e = m ^ d.2 := by omega
      subst ee
      exact (k s H K G3 hg hw).le (by omega)
    · have z := xlt z
      refine fm_296 hm H hS es hc hV hg (by omega) h5 h6 h3 h9 h2 (fun v q => ?_)
      intro _
      have ei : (x7 + x9).toInt = (243 * S.length + e : Nat) := by rw [xIa (by omega) (by omega), h7, h9]; rfl
      rw [xtn ei]
      refine fm_295_70 hm h2 hS es hc hV h3 h5 h6 h7 h8 h243 h40 k n (by omega) (xj1 h9 (by omega)) (by omega) (ME_kq H (kqa kq_refl rfl)) (kqa K rfl) ?_ (fun j hj => ?_) (fun e' he' => ?_)
      · funext j
        rw [ps_a_ua, if_neg (fun w => absurd w.1 (by decide)), G3]
      · rw [ps_a_ua, if_neg (by omega)]
        exact hg j (by omega)
      · rw [ps_a_ua]
        by_cases ee : e' = e
        · rw [if_pos ⟨rfl, by omega⟩, ee]
          exact q
        · rw [if_neg (by omega)]
          exact hw e' (by omega)
/-- all pieces, from the right -/
theorem fm_295_16 (hm : 1 ≤ m ∧ m ≤ 3) (h1 : x1.toInt = to) (h2 : x2.toInt = m) (hS : ∀ i, i ≤ l.length → SKI g l i) (k1 : ∀ s', svg m g D fr 13 [] l = 1 → kq [1150, 1173, 1174] [] s0 s' → R 1 s') (k0 : ∀ s', ¬ svg m g D fr 13 [] l = 1 → kq [1150, 1173, 1174] [] s0 s' → R 0 s') : ∀ (n : Nat) {s : ps_S} {x3 x4 : Int32} {i : Nat}, x4.toInt = (i : Int) - 1 → i ≤ l.length → x3.toInt = (sk (arh g) l i).length → ME s b to m g l D fr → kq [1150, 1173, 1174] [] s0 s → (∀ (j : Nat) d S, j < l.length → sk (arh g) l j = d :: S → (ps_a s 1173 j).toInt = d.2) → VT (ps_a s 1174) m g D fr (sk (arh g) l i) (l.drop i) → pl_At n 295 16 [(0, .ref 1131), (1, .int x1), (2, .int x2), (3, .int x3), (4, .int x4)] [] s (ps_rI R)
  | 0, _, _, _, _, _, _, _, _, _, _, _ => pl_At_0
  | n + 1, s, x3, x4, i, h4, hi, h3, H, K, hd, hV => by
    have c0 : (0 : Int32).toInt = 0 := by decide
    have c1 : (1 : Int32).toInt = 1 := by decide
    have c243 : (243 : Int32).toInt = 243 := by decide
    have h40 : l.length ≤ 40 := H.2.1.2.2.1
    have hA := arh_k H.1.2.2.2.2.1 H.1.2.2.2.2.2.1
    refine pl_295_16 ⟨fun z => ?_, fun z => ?_⟩
    · have z := xlt z
      have e0 : i = 0 := by omega
      subst e0
      intro _
      have hv := hV.1 0 (by rw [Nat.pow_zero]; exact Nat.one_pos)
      have hv : (ps_a s 1174 0).toInt = (svg m g D fr 13 [] l : Nat) := hv
      rw [xtn (x := (0 : Int32)) (a := 0) rfl]
      refine ⟨fun y => k0 s (fun a => ?_) K, fun y => k1 s ?_ K⟩
      · have y := xne y
        rw [a] at hv
        exact y hv
      · have y := xeq y
        rw [hv] at y
        exact Int.ofNat.inj y
    · have z := xle z
      obtain ⟨j, rfl⟩ : ∃ j, i = j + 1 := ⟨i - 1, by omega⟩
      have hj4 : x4.toInt = j := by omega
      obtain ⟨d, S, es⟩ := SKI_d (hS j (by omega)) (by omega)
      obtain ⟨c, hc⟩ : ∃ c, l[j]? = some c := ⟨_, List.getElem?_eq_getElem (by omega)⟩
      obtain ⟨bb, hpt⟩ := SKI_pt (hS j (by omega)) es
      have hpt' := hpt
      rw [drop_c hc] at hpt
      obtain ⟨hp, hq5, -, ks, hk⟩ := pt_c hpt
      have esk := sk_c es hc
      have hpw := md_243 hm.2 hq5
      have hbc := (hS j (by omega)).1
      have hlen := bc_le hbc
      rw [es, List.length_cons, List.length_drop] at hlen
      have hlen2 : (sk (arh g) l (j + 1)).length = arh g c + S.length := by rw [esk, List.length_append, List.length_replicate]
      have hbc2 := bc_le (hS (j + 1) hi).1
      rw [List.length_drop] at hbc2
      refine fm_220c h1 H.2.1.1 H.2.1.2 hj4 hc (fun v1 q1 => ?_)
      refine fm_218 H.1.1 H.1.2.1 H.1.2.2 hk q1 (fun v2 q2 => ?_)
      intro _
      rw [xtn hj4]
      refine fm_290 (m := m) (a := d.2) h2 (hd j d S (by omega) es) hm.2 (by omega) (fun v3 q3 => ?_)
      have e3 : (x3 + ((1 : Int32) - v2)).toInt = (S.length + 1 : Nat) := by
        have e1 : ((1 : Int32) - v2).toInt = 1 - (arh g c : Nat) := by rw [xIs (by omega) (by omega), c1, q2]
        rw [xIa (by omega) (by omega), h3, e1]
        omega
      have e7 : ((243 : Int32) * ((x3 + ((1 : Int32) - v2)) - 1)).toInt = (243 * S.length : Nat) := by
        have e1 : ((x3 + ((1 : Int32) - v2)) - 1).toInt = (S.length : Nat) := by rw [xIs (by omega) (by omega), e3, c1]; omega
        rw [xIm (by rw [c243, e1]; omega) (by rw [c243, e1]; omega), c243, e1]
        omega
      refine fm_295_70 (n0 := n) (s0 := s0) (gv0 := ps_a s 1174) (gv3 := ps_a s 1173) hm h2 (hS j (by omega)) es hc hV e3 q1 q2 e7 q3 hpw (by omega) (fun s' H' K' G' hg hw => ?_) n (e := 0) (Nat.le_refl _) rfl (Nat.zero_le _) H K rfl (fun _ _ => rfl) (fun e' he' => absurd he' (Nat.not_lt_zero _))
      refine fm_295_16 hm h1 h2 hS k1 k0 n (xmin1 hj4) (by omega) (by rw [e3, es, List.length_cons]) H' K' (by rw [G']; exact hd) ?_
      rw [es]
      refine ⟨hw, ?_⟩
      rw [esk] at hV
      have hV2 := VT_rest hV
      rw [List.length_replicate] at hV2
      have ed : (l.drop j).drop (en (arh g) (l.drop j) 1) = (l.drop (j + 1)).drop (en (arh g) (l.drop (j + 1)) (arh g c)) := by
        rw [drop_c hc, en_c, Nat.zero_add, Nat.add_comm 1, List.drop_succ_cons]
      rw [ed]
      have hds : dsc (d :: S) := by rw [← es]; exact sk_dsc j
      exact VT_ext hV2 (fun q hq => hg q (by omega)) (fun x hx => md_243 hm.2 (Nat.le_trans (hds.1 x hx) hq5))
theorem fm_295 {n : Nat} {s : ps_S} (hm : 1 ≤ m ∧ m ≤ 3) (H : ME s b to m g l D fr) (hf : wf (sg g) 5 l [(true, 0)]) (hbc : bc (arh g) [(0, 0)] l) (h1 : x1.toInt = to) (h2 : x2.toInt = m) (k1 : ∀ s', svg m g D fr 13 [] l = 1 → kq [1150, 1173, 1174] [] s s' → R 1 s') (k0 : ∀ s', ¬ svg m g D fr 13 [] l = 1 → kq [1150, 1173, 1174] [] s s' → R 0 s') : pl_Cl n 295 [.ref 1131, .int x1, .int x2] s (ps_rI R) := by
  cases n with
  | zero => exact pl_At_0
  | succ n =>
  show pl_At (n + 1) 295 0 [(0, .ref 1131), (1, .int x1), (2, .int x2)] [] s (ps_rI R)
  have hA := arh_k H.1.2.2.2.2.1 H.1.2.2.2.2.2.1
  have hS := SKI_all hA (SKI_0 hbc hf)
  have c1 : (1 : Int32).toInt = 1 := by decide
  have h40 : l.length ≤ 40 := H.2.1.2.2.1
  refine pl_295_0 ?_
  refine fm_294 H.1.1 H.1.2.1 H.1.2.2 h1 H.2.1.1 H.2.1.2 hS (fun s1 K1 hd => ?_)
  have K1' : kq [1150, 1173, 1174] [] s s1 := kqt kq_refl K1 (by decide) (by decide)
  have H1 := ME_kq H K1'
  refine fm_219c h1 H1.2.1.2 (fun v q => ?_)
  have e0 : sk (arh g) l l.length = [] := by
    have h := (hS l.length (Nat.le_refl _)).1
    rw [List.drop_length] at h
    cases e : sk (arh g) l l.length with
    | nil => rfl
    | cons d S => rw [e] at h; exact h.elim
  refine fm_295_16 hm h1 h2 hS k1 k0 n (i := l.length) (by rw [xIs (by omega) (by omega), q, c1]) (Nat.le_refl _) (by rw [e0]; rfl) H1 K1' hd ?_
  rw [e0]
  exact trivial
end M295
/-- isFree() of the reference -/
theorem fm_223_2 {to vv : Nat} {l : List Nat} {x1 x2 : Int32} {s : ps_S} {R : Int32 → ps_S → Prop} (hx : x1.toInt = to) (hto : to < 27400) (W : mv_W s to l) (h2 : x2.toInt = vv) (hv : vv < 100) (k1 : 60 + vv ∈ l → R 1 s) (k0 : ¬ 60 + vv ∈ l → R 0 s) : ∀ (n : Nat) {x3 : Int32} {i : Nat}, x3.toInt = i → (∀ j, j < i → l[j]? ≠ some (60 + vv)) → pl_At n 223 2 [(0, .ref 1131), (1, .int x1), (2, .int x2), (3, .int x3)] [] s (ps_rI R)
  | 0, _, _, _, _ => pl_At_0
  | n + 1, x3, i, h3, hj => by
    have h40 := W.2.1
    have c60 : (60 : Int32).toInt = 60 := by decide
    have e60 : ((60 : Int32) + x2).toInt = (60 + vv : Nat) := by rw [xIa (by omega) (by omega), c60, h2]; rfl
    refine pl_223_2 ?_
    refine fm_219c hx W (fun v1 q1 => ⟨fun z => ?_, fun z => ?_⟩)
    · have z := xle z
      refine k0 (fun hm => ?_)
      obtain ⟨j, hj2⟩ := List.mem_iff_getElem?.mp hm
      have := (List.getElem?_eq_some_iff.mp hj2).1
      exact hj j (by omega) hj2
    · have z := xlt z
      obtain ⟨c, hc⟩ : ∃ c, l[i]? = some c := ⟨_, List.getElem?_eq_getElem (by omega)⟩
      refine fm_220c hx hto W h3 hc (fun v2 q2 => ⟨fun y => ?_, fun y => ?_⟩)
      · have y := xne y
        refine fm_223_2 hx hto W h2 hv k1 k0 n (xj1 h3 (by omega)) (fun j hj2 => ?_)
        rcases Nat.lt_or_ge j i with a | a
        · exact hj j a
        · rw [show j = i from by omega, hc]
          intro e
          cases e
          omega
      · have y := xeq y
        refine k1 ?_
        have : c = 60 + vv := by omega
        rw [← this]
        exact List.mem_of_getElem? hc
theorem fm_223 {n to vv : Nat} {l : List Nat} {x1 x2 : Int32} {s : ps_S} {R : Int32 → ps_S → Prop} (hx : x1.toInt = to) (hto : to < 27400) (W : mv_W s to l) (h2 : x2.toInt = vv) (hv : vv < 100) (k1 : 60 + vv ∈ l → R 1 s) (k0 : ¬ 60 + vv ∈ l → R 0 s) : pl_Cl n 223 [.ref 1131, .int x1, .int x2] s (ps_rI R) := by
  cases n with
  | zero => exact pl_At_0
  | succ n =>
  show pl_At (n + 1) 223 0 [(0, .ref 1131), (1, .int x1), (2, .int x2)] [] s (ps_rI R)
  exact pl_223_0 (fm_223_2 hx hto W h2 hv k1 k0 n (i := 0) rfl (fun j hj => absurd hj (Nat.not_lt_zero _)))
theorem fm_298_4 {to : Nat} {l : List Nat} {x1 : Int32} {s : ps_S} {R : Int32 → ps_S → Prop} (hx : x1.toInt = to) (hto : to < 27400) (W : mv_W s to l) (k : ∀ v : Int32, v.toInt = fcn l 12 → R v s) : ∀ (n : Nat) {x2 x3 : Int32} {v : Nat}, x3.toInt = v → v ≤ 12 → x2.toInt = fcn l v → pl_At n 298 4 [(0, .ref 1131), (1, .int x1), (2, .int x2), (3, .int x3)] [] s (ps_rI R)
  | 0, _, _, _, _, _, _ => pl_At_0
  | n + 1, x2, x3, v, h3, hv, h2 => by
    have c12 : (12 : Int32).toInt = 12 := by decide
    have c0 : (0 : Int32).toInt = 0 := by decide
    have hle := fcn_le (l := l) (v := v)
    refine pl_298_4 ⟨fun z => ?_, fun z => ?_⟩
    · have z := xle z
      have e : v = 12 := by omega
      subst e
      exact k x2 h2
    · have z := xlt z
      refine fm_223 hx hto W h3 (by omega) (fun hm => ⟨fun y => absurd y (by decide), fun _ => ?_⟩) (fun hm => ⟨fun _ => ?_, fun y => absurd rfl y⟩)
      · exact fm_298_4 hx hto W k n (xj1 h3 (by omega)) (by omega) (by rw [fcn_1 hm]; exact xj1 h2 (by omega))
      · exact fm_298_4 hx hto W k n (xj1 h3 (by omega)) (by omega) (by rw [fcn_0 hm, xIa (by omega) (by omega), h2, c0]; omega)
theorem fm_298 {n to : Nat} {l : List Nat} {x1 : Int32} {s : ps_S} {R : Int32 → ps_S → Prop} (hx : x1.toInt = to) (hto : to < 27400) (W : mv_W s to l) (k : ∀ v : Int32, v.toInt = fcn l 12 → R v s) : pl_Cl n 298 [.ref 1131, .int x1] s (ps_rI R) := by
  cases n with
  | zero => exact pl_At_0
  | succ n =>
  show pl_At (n + 1) 298 0 [(0, .ref 1131), (1, .int x1)] [] s (ps_rI R)
  exact pl_298_0 (fm_298_4 hx hto W k n (v := 0) rfl (Nat.zero_le _) rfl)
/-- a formula holds for every choice of free things -/
def FD (m : Nat) (g : tx_g) (D : Nat → Nat) (l : List Nat) : Prop := ∀ k, k < m ^ fcn l 12 → svg m g D (frc m l k) 13 [] l = 1
section M299
variable {b to m : Nat} {g : tx_g} {l : List Nat} {D : Nat → Nat} {x1 x2 : Int32} {s0 : ps_S} {R : Int32 → ps_S → Prop}
theorem fm_299_26 (hm : 1 ≤ m ∧ m ≤ 3) (H0 : MD s0 b to m g l D) (hf : wf (sg g) 5 l [(true, 0)]) (h1 : x1.toInt = to) (h2 : x2.toInt = m) {n0 kc : Nat} {x3 x4 : Int32} (hkc : kc < 1000000) (kk : ∀ n s', n ≤ n0 → kq [1150, 1173, 1174, 1175] [] s0 s' → ME s' b to m g l D (frc m l kc) → pl_Cl n 295 [.ref 1131, .int x1, .int x2] s' (ps_rI (fun v1 s1 => (v1 ≠ 0 → pl_At n 299 13 [(0, .ref 1131), (1, .int x1), (2, .int x2), (3, .int x3), (4, .int (x4 + 1))] [] s1 (ps_rI R)) ∧ (v1 = 0 → ps_rI R (some (.int 0)) s1)))) : ∀ (n : Nat) {s : ps_S} {x5 x6 : Int32} {v : Nat}, n ≤ n0 → x6.toInt = v → v ≤ 12 → x5.toInt = (kc / m ^ fcn l v : Nat) → kq [1150, 1173, 1174, 1175] [] s0 s → (∀ u, u < v → 60 + u ∈ l → (ps_a s 1175 u).toInt = frc m l kc u) → pl_At n 299 26 [(0, .ref 1131), (1, .int x1), (2, .int x2), (3, .int x3), (4, .int x4), (5, .int x5), (6, .int x6)] [] s (ps_rI R)
  | 0, _, _, _, _, _, _, _, _, _, _ => pl_At_0
  | n + 1, s, x5, x6, v, hn, h6, hv, h5, K, hu => by
    have c12 : (12 : Int32).toInt = 12 := by decide
    have H := MD_kq H0 K
    have hd : kc / m ^ fcn l v ≤ kc := Nat.div_le_self _ _
    refine pl_299_26 ⟨fun z => ?_, fun z => ?_⟩
    · have z := xle z
      refine kk n s (by omega) K (ME_of H (fun u hm2 => ?_))
      have := ws_72 (σ := sg g) ⟨H.1.2.2.2.2.1, H.1.2.2.2.2.2.1⟩ (wf_ws hf) _ hm2
      exact ⟨by omega, hu u (by omega) hm2, Nat.mod_lt _ hm.1⟩
    · have z := xlt z
      refine fm_223 h1 H.2.1.1 H.2.1.2 h6 (by omega) (fun hm2 => ⟨fun _ => ?_, fun y => absurd y (by decide)⟩) (fun hm2 => ⟨fun y => absurd rfl y, fun _ => ?_⟩)
      · refine pl_nk_i (fun _ => ?_)
        intro _
        refine pl_nk_i (fun _ => ?_)
        rw [xtn h6]
        have ed : (x5 / x2).toInt = (kc / m ^ fcn l (v + 1) : Nat) := by rw [xdivr (by rw [h5]; exact Int.natCast_nonneg _) (by omega), h5, h2, ← Int.natCast_ediv, fcn_1 hm2, Nat.div_div_eq_div_mul, Nat.pow_succ]
        have er : (x5 - (x5 / x2) * x2).toInt = (frc m l kc v : Nat) := by rw [xmodr (by rw [h5]; exact Int.natCast_nonneg _) (by omega), h5, h2, ← Int.natCast_emod]; rfl
        refine fm_299_26 hm H0 hf h1 h2 hkc kk n (by omega) (xj1 h6 (by omega)) (by omega) ed (kqa K rfl) (fun u hu2 hm3 => ?_)
        rw [ps_a_ua]
        by_cases e : u = v
        · rw [if_pos ⟨rfl, e⟩, e]
          exact er
        · rw [if_neg (fun w => e w.2)]
          exact hu u (by omega) hm3
      · refine fm_299_26 hm H0 hf h1 h2 hkc kk n (by omega) (xj1 h6 (by omega)) (by omega) (by rw [fcn_0 hm2]; exact h5) K (fun u hu2 hm3 => ?_)
        by_cases e : u = v
        · rw [e] at hm3
          exact absurd hm3 hm2
        · exact hu u (by omega) hm3
theorem fm_299_13 (hm : 1 ≤ m ∧ m ≤ 3) (H0 : MD s0 b to m g l D) (hf : wf (sg g) 5 l [(true, 0)]) (hbc : bc (arh g) [(0, 0)] l) (h1 : x1.toInt = to) (h2 : x2.toInt = m) (k1 : ∀ s', FD m g D l → kq [1150, 1173, 1174, 1175] [] s0 s' → R 1 s') (k0 : ∀ s', ¬ FD m g D l → kq [1150, 1173, 1174, 1175] [] s0 s' → R 0 s') : ∀ (n : Nat) {s : ps_S} {x3 x4 : Int32} {kc : Nat}, x3.toInt = (m ^ fcn l 12 : Nat) → x4.toInt = kc → kc ≤ m ^ fcn l 12 → kq [1150, 1173, 1174, 1175] [] s0 s → (∀ k, k < kc → svg m g D (frc m l k) 13 [] l = 1) → pl_At n 299 13 [(0, .ref 1131), (1, .int x1), (2, .int x2), (3, .int x3), (4, .int x4)] [] s (ps_rI R)
  | 0, _, _, _, _, _, _, _, _, _ => pl_At_0
  | n + 1, s, x3, x4, kc, h3, h4, hk, K, hj => by
    have hle := fcn_le (l := l) (v := 12)
    have hp : m ^ fcn l 12 ≤ 531441 := by
      have a1 : m ^ fcn l 12 ≤ 3 ^ fcn l 12 := Nat.pow_le_pow_left hm.2 _
      have a2 : 3 ^ fcn l 12 ≤ 3 ^ 12 := Nat.pow_le_pow_right (by decide) hle
      have a3 : 3 ^ 12 = 531441 := by decide
      omega
    refine pl_299_13 ⟨fun z => ?_, fun z => ?_⟩
    · have z := xle z
      exact k1 s (fun k hk2 => hj k (by omega)) K
    · have z := xlt z
      refine fm_299_26 (n0 := n) (kc := kc) hm H0 hf h1 h2 (by omega) (fun n1 s1 hn1 K1 H1 => ?_) n (v := 0) (Nat.le_refl _) rfl (Nat.zero_le _) (by rw [show fcn l 0 = 0 from rfl, Nat.pow_zero, Nat.div_one]; exact h4) K (fun u hu => absurd hu (Nat.not_lt_zero _))
      refine fm_295 hm H1 hf hbc h1 h2 (fun s2 a K2 => ⟨fun _ => ?_, fun y => absurd y (by decide)⟩) (fun s2 a K2 => ⟨fun y => absurd rfl y, fun _ => ?_⟩)
      · refine (fm_299_13 hm H0 hf hbc h1 h2 k1 k0 n h3 (xj1 h4 (by omega)) (by omega) (kqt K1 K2 (by decide) (by decide)) (fun k hk2 => ?_)).le hn1
        rcases Nat.lt_or_ge k kc with y | y
        · exact hj k y
        · rw [show k = kc from by omega]
          exact a
      · exact k0 s2 (fun y => a (y kc (by omega))) (kqt K1 K2 (by decide) (by decide))
theorem fm_299 {n : Nat} {s : ps_S} (hm : 1 ≤ m ∧ m ≤ 3) (H : MD s b to m g l D) (hf : wf (sg g) 5 l [(true, 0)]) (hbc : bc (arh g) [(0, 0)] l) (h1 : x1.toInt = to) (h2 : x2.toInt = m) (k1 : ∀ s', FD m g D l → kq [1150, 1173, 1174, 1175] [] s s' → R 1 s') (k0 : ∀ s', ¬ FD m g D l → kq [1150, 1173, 1174, 1175] [] s s' → R 0 s') : pl_Cl n 299 [.ref 1131, .int x1, .int x2] s (ps_rI R) := by
  cases n with
  | zero => exact pl_At_0
  | succ n =>
  show pl_At (n + 1) 299 0 [(0, .ref 1131), (1, .int x1), (2, .int x2)] [] s (ps_rI R)
  have hle := fcn_le (l := l) (v := 12)
  refine pl_299_0 ?_
  refine fm_298 h1 H.2.1.1 H.2.1.2 (fun v1 q1 => ?_)
  refine fm_290 (m := m) (a := fcn l 12) h2 q1 hm.2 (by omega) (fun v2 q2 => ?_)
  exact fm_299_13 hm H hf hbc h1 h2 k1 k0 n q2 (kc := 0) rfl (Nat.zero_le _) kq_refl (fun k hk => absurd hk (Nat.not_lt_zero _))
end M299
theorem fcn_z {l : List Nat} (h : ∀ p, p ∈ l → p < 60) : ∀ v, fcn l v = 0
  | 0 => rfl
  | v + 1 => by rw [fcn_0 (fun hm => by have := h _ hm; omega), fcn_z h v]
theorem FD_z {m : Nat} {g : tx_g} {D : Nat → Nat} {l : List Nat} (h : ∀ p, p ∈ l → p < 60) : FD m g D l ↔ svg m g D (fun _ => 0) 13 [] l = 1 := by
  have e : frc m l 0 = fun _ => 0 := by
    funext v
    unfold frc
    rw [Nat.zero_div, Nat.zero_mod]
  unfold FD
  rw [fcn_z h, Nat.pow_zero]
  constructor
  · intro a
    have := a 0 Nat.one_pos
    rw [e] at this
    exact this
  · intro a k hk
    rw [show k = 0 from by omega, e]
    exact a
/-- a theory and its digits' places -/
def MQj (s : ps_S) (b m : Nat) (h : tx_H) : Prop := (b < 2 ∧ (ps_i s 1131 21).toInt = b ∧ mv_H s b h) ∧ ML s m h.1
theorem MQj_kq {s s' : ps_S} {b m : Nat} {h : tx_H} (H : MQj s b m h) (K : kq [1150, 1169, 1173, 1174, 1175] [] s s') : MQj s' b m h := by
  obtain ⟨⟨h1, h2, h3⟩, h4⟩ := H
  exact ⟨⟨h1, by rw [kq_i K 21 rfl]; exact h2, mv_H_kq h3 K (by decide)⟩, ML_kq h4 K (by decide)⟩
/-- a model's digits -/
def MG (s : ps_S) (m M : Nat) (g : tx_g) : Prop := ∀ (j b : Nat), (md_B m (md_sy m g))[j]? = some b → (ps_a s 1169 j).toInt = dD (md_B m (md_sy m g)) M j
theorem MD_mk {s : ps_S} {b m M to : Nat} {h : tx_H} {l : List Nat} (hm : 1 ≤ m ∧ m ≤ 3) (H : MQj s b m h) (G : MG s m M h.1) (hto : to < 27400) (W : mv_W s to l) : MD s b to m h.1 l (dD (md_B m (md_sy m h.1)) M) := ⟨⟨H.1.1, H.1.2.1, H.1.2.2.1⟩, ⟨hto, W⟩, H.2, fun j x hx => ⟨G j x hx, dgo_d hm j x hx⟩⟩
section M300
variable {b m : Nat} {h : tx_H}
theorem fm_300_2 {M : Nat} {x1 : Int32} {s0 : ps_S} {R : Int32 → ps_S → Prop} (hm : 1 ≤ m ∧ m ≤ 3) (hw : WFt h) (hb : BTh h) (H0 : MQj s0 b m h) (G0 : MG s0 m M h.1) (h1 : x1.toInt = m) (k1 : ∀ s', AX h m M → kq [1150, 1173, 1174, 1175] [] s0 s' → R 1 s') (k0 : ∀ s', ¬ AX h m M → kq [1150, 1173, 1174, 1175] [] s0 s' → R 0 s') : ∀ (n : Nat) {s : ps_S} {x2 : Int32} {i : Nat}, x2.toInt = i → kq [1150, 1173, 1174, 1175] [] s0 s → (∀ (k : Nat) (w l : List Nat), k < i → h.2[k]? = some (w, l) → svg m h.1 (dD (md_B m (md_sy m h.1)) M) (fun _ => 0) 13 [] l = 1) → pl_At n 300 2 [(0, .ref 1131), (1, .int x1), (2, .int x2)] [] s (ps_rI R)
  | 0, _, _, _, _, _, _ => pl_At_0
  | n + 1, s, x2, i, h2, K, hj => by
    have H : MQj s b m h := MQj_kq H0 (kqt kq_refl K (by decide) (by decide))
    have G : MG s m M h.1 := by
      unfold MG
      rw [kq_a K 1169 (by decide)]
      exact G0
    have h8 := H.1.2.2.2.2.1
    have hb2 := H.1.1
    refine pl_300_2 ?_
    intro _
    rw [xtn H.1.2.1, show (ps_a s 1137 b) = ps_a s 1137 b from rfl]
    have e7 := H.1.2.2.2.1
    refine ⟨fun z => ?_, fun z => ?_⟩
    · have z := xle z
      exact k1 s (fun k w l hk => hj k w l (by have := (List.getElem?_eq_some_iff.mp hk).1; omega) hk) K
    · have z := xlt z
      refine fm_283 H.1.2.1 hb2 h2 (by omega) (fun x5 h5 => ?_)
      obtain ⟨⟨w, l⟩, hk⟩ : ∃ q, h.2[i]? = some q := ⟨_, List.getElem?_eq_getElem (by omega)⟩
      have W := (H.1.2.2.2.2.2 i w l hk).2.2
      obtain ⟨f1, f2, f3⟩ := hw.2.2 i w l hk
      refine fm_299 hm (MD_mk hm H G (by omega) W) f1 (hb.2.2 i w l hk).1 h5 h1 (fun s2 a K2 => ⟨fun _ => ?_, fun y => absurd y (by decide)⟩) (fun s2 a K2 => ⟨fun y => absurd rfl y, fun _ => ?_⟩)
      · refine fm_300_2 hm hw hb H0 G0 h1 k1 k0 n (xj1 h2 (by omega)) (kqt K K2 (by decide) (by decide)) (fun k w' l' hk2 hk3 => ?_)
        rcases Nat.lt_or_ge k i with y | y
        · exact hj k w' l' y hk3
        · rw [show k = i from by omega, hk] at hk3
          cases hk3
          exact (FD_z f3).mp a
      · exact k0 s2 (fun y => a ((FD_z f3).mpr (y i w l hk))) (kqt K K2 (by decide) (by decide))
theorem fm_300 {n M : Nat} {x1 : Int32} {s : ps_S} {R : Int32 → ps_S → Prop} (hm : 1 ≤ m ∧ m ≤ 3) (hw : WFt h) (hb : BTh h) (H : MQj s b m h) (G : MG s m M h.1) (h1 : x1.toInt = m) (k1 : ∀ s', AX h m M → kq [1150, 1173, 1174, 1175] [] s s' → R 1 s') (k0 : ∀ s', ¬ AX h m M → kq [1150, 1173, 1174, 1175] [] s s' → R 0 s') : pl_Cl n 300 [.ref 1131, .int x1] s (ps_rI R) := by
  cases n with
  | zero => exact pl_At_0
  | succ n =>
  show pl_At (n + 1) 300 0 [(0, .ref 1131), (1, .int x1)] [] s (ps_rI R)
  exact pl_300_0 (fm_300_2 hm hw hb H G h1 k1 k0 n (i := 0) rfl kq_refl (fun k w l hk => absurd hk (Nat.not_lt_zero _)))
/-- a model laid -/
theorem uar_ne {s : ps_S} {r r' i : Nat} {v : Int32} (h : r' ≠ r) : ps_a (ps_ua s r i v) r' = ps_a s r' := by
  funext j
  rw [ps_a_ua, if_neg (fun w => h w.1)]
theorem fm_293_9 {l : List Nat} {M : Nat} {s0 : ps_S} {R : ps_S → Prop} (hM : M < 100000) (hb : ∀ b, b ∈ l → 1 ≤ b ∧ b ≤ 3) (h90 : l.length ≤ 90) (D0 : mv_Dg s0 l) (k : ∀ s', kq [1169] [] s0 s' → (∀ (j b : Nat), l[j]? = some b → (ps_a s' 1169 j).toInt = dD l M j) → R s') : ∀ (n : Nat) {s : ps_S} {x2 x3 : Int32} {i : Nat}, x3.toInt = (i : Int) - 1 → i ≤ l.length → x2.toInt = rst (l.drop i) M → kq [1169] [] s0 s → (∀ (j b : Nat), i ≤ j → l[j]? = some b → (ps_a s 1169 j).toInt = dD l M j) → pl_At n 293 9 [(0, .ref 1131), (2, .int x2), (3, .int x3)] [] s (ps_rV R)
  | 0, _, _, _, _, _, _, _, _, _ => pl_At_0
  | n + 1, s, x2, x3, i, h3, hi, h2, K, hj => by
    have c0 : (0 : Int32).toInt = 0 := by decide
    refine pl_293_9 ⟨fun z => ?_, fun z => ?_⟩
    · have z := xlt z
      exact k s K (fun j b hb => hj j b (by omega) hb)
    · have z := xle z
      have h3' : x3.toInt = (i - 1 : Nat) := by omega
      obtain ⟨b, hb'⟩ : ∃ b, l[i - 1]? = some b := ⟨_, List.getElem?_eq_getElem (by omega)⟩
      have hbb := hb b (List.mem_of_getElem? hb')
      have hr : rst (l.drop i) M ≤ M := rst_le
      have ev : (ps_a s 1170 (i - 1)).toInt = b := by
        rw [kq_a K 1170 (by decide)]
        exact D0.2 _ _ hb'
      rw [xtn h3', uar_ne (by decide)]
      generalize ps_a s 1170 (i - 1) = v at ev ⊢
      intro _
      refine pl_nk_i (fun _ => ?_)
      intro _ _
      refine pl_nk_i (fun _ => ?_)
      have ed : (x2 - (x2 / v) * v).toInt = (rst (l.drop i) M % b : Nat) := by rw [xmodr (by omega) (by omega), h2, ev, Int.natCast_emod]
      refine fm_293_9 hM hb h90 D0 k n (xmin1 h3') (by omega) ?_ (kqa K rfl) (fun j b' hj2 hb2 => ?_)
      · rw [xdivr (by omega) (by omega), h2, ev, drop_c hb', show i - 1 + 1 = i from by omega, ← Int.natCast_ediv]
        rfl
      · rw [ps_a_ua]
        by_cases e : j = i - 1
        · rw [if_pos ⟨rfl, e⟩, ed, e]
          unfold dD
          rw [show i - 1 + 1 = i from by omega, List.getD_eq_getElem?_getD, hb']
          rfl
        · rw [if_neg (fun w => e w.2)]
          exact hj j b' (by omega) hb2
theorem fm_293 {n M : Nat} {l : List Nat} {x1 : Int32} {s : ps_S} {R : ps_S → Prop} (hM : M < 100000) (hb : ∀ b, b ∈ l → 1 ≤ b ∧ b ≤ 3) (h90 : l.length ≤ 90) (D0 : mv_Dg s l) (hx : x1.toInt = M) (k : ∀ s', kq [1169] [] s s' → (∀ (j b : Nat), l[j]? = some b → (ps_a s' 1169 j).toInt = dD l M j) → R s') : pl_Cl n 293 [.ref 1131, .int x1] s (ps_rV R) := by
  cases n with
  | zero => exact pl_At_0
  | succ n =>
  show pl_At (n + 1) 293 0 [(0, .ref 1131), (1, .int x1)] [] s (ps_rV R)
  have c1 : (1 : Int32).toInt = 1 := by decide
  have hl := D0.1
  refine pl_293_0 ?_
  refine fm_293_9 hM hb h90 D0 k n (i := l.length) (by rw [xIs (by omega) (by omega), hl, c1]) (Nat.le_refl _) ?_ kq_refl (fun j b a hb2 => ?_)
  · rw [List.drop_length]
    exact hx
  · have := (List.getElem?_eq_some_iff.mp hb2).1
    omega
theorem MQj_90 {s : ps_S} (hm : 1 ≤ m ∧ m ≤ 3) (H : MQj s b m h) : (md_B m (md_sy m h.1)).length ≤ 90 := by
  have hl := md_o_le hm.2 (mv_E_ar (m := m) H.1.2.2.1) (md_sy m h.1).length (Nat.le_refl _)
  unfold md_o at hl
  rw [List.take_length, md_sy_len] at hl
  have := H.1.2.2.1.2.2.1
  have := H.1.2.2.1.2.2.2.1
  omega
/-- hold() of the reference -/
theorem fm_302_11 {p : Nat} {x1 x2 : Int32} {R : Int32 → ps_S → Prop} (hm : 1 ≤ m ∧ m ≤ 3) (hw : WFt h) (hb : BTh h) (h1 : x1.toInt = m) (hv : x2.toInt = md_v p) (hn2 : ∀ v : Int32, ∀ s', ((4096 < p ∧ v.toInt = -2) ∨ (p ≤ 4096 ∧ v.toInt = lt_n (AX h m) p)) → R v s') : ∀ (n : Nat) {s : ps_S} {x3 x4 : Int32} {i : Nat}, x4.toInt = i → (i = 0 ∨ (i : Int) ≤ x2.toInt) → x3.toInt = lt_n (AX h m) i → MQj s b m h → pl_At n 302 11 [(0, .ref 1131), (1, .int x1), (2, .int x2), (3, .int x3), (4, .int x4)] [] s (ps_rI R)
  | 0, _, _, _, _, _, _, _, _ => pl_At_0
  | n + 1, s, x3, x4, i, h4, hi, h3, H => by
    have hle := lt_n_le (P := AX h m) (k := i)
    have c0 : (0 : Int32).toInt = 0 := by decide
    have hp : (x2.toInt = -2 ∧ 4096 < p) ∨ (x2.toInt = p ∧ p ≤ 4096) := by
      rw [hv]
      unfold md_v
      by_cases z : p ≤ 4096
      · rw [if_pos z]; exact Or.inr ⟨rfl, z⟩
      · rw [if_neg z]; exact Or.inl ⟨rfl, by omega⟩
    refine pl_302_11 ⟨fun z => ⟨fun y => ?_, fun y => ?_⟩, fun z => ?_⟩
    · have z := xle z
      have y := xle y
      have e : i = p := by omega
      exact hn2 _ _ (Or.inr ⟨by omega, by rw [h3, e]⟩)
    · have y := xlt y
      exact hn2 _ _ (Or.inl ⟨by omega, by omega⟩)
    · have z := xlt z
      refine fm_293 (M := i) (by omega) (fun b hb2 => md_b3 hm hb2) (MQj_90 hm H) H.2.1 h4 (fun s1 K1 G1 => ?_)
      have H1 : MQj s1 b m h := MQj_kq H (kqt kq_refl K1 (by decide) (by decide))
      refine fm_300 (M := i) hm hw hb H1 G1 h1 (fun s2 a K2 => ⟨fun y => absurd y (by decide), fun _ => ?_⟩) (fun s2 a K2 => ⟨fun _ => ?_, fun y => absurd rfl y⟩)
      · refine fm_302_11 hm hw hb h1 hv hn2 n (xj1 h4 (by omega)) (Or.inr (by omega)) ?_ (MQj_kq H1 (kqt kq_refl K2 (by decide) (by decide)))
        rw [lt_n_1 a]
        exact xj1 h3 (by omega)
      · refine fm_302_11 hm hw hb h1 hv hn2 n (xj1 h4 (by omega)) (Or.inr (by omega)) ?_ (MQj_kq H1 (kqt kq_refl K2 (by decide) (by decide)))
        rw [lt_n_0 a, xIa (by omega) (by omega), h3, c0]
        omega
theorem fm_302 {n : Nat} {s : ps_S} {l : List Nat} {x1 : Int32} (t : TRm s h l) (hw : WFt h) (hb : BTh h) : pl_Cl n 302 [.ref 1131, .int x1] s (ps_rI (fun v _ => HO_A h x1 v)) := by
  cases n with
  | zero => exact pl_At_0
  | succ n =>
  show pl_At (n + 1) 302 0 [(0, .ref 1131), (1, .int x1)] [] s _
  obtain ⟨b, t1, t2, t3, t4⟩ := t
  refine pl_302_0 ?_
  refine fm_301 t1 t2 t3.1 (fun v1 s1 a1 a2 e L K => ?_) (fun z => ?_)
  · refine fm_302_11 (b := b) (m := x1.toInt.toNat) (h := h) (by omega) hw hb (by omega) e (fun v s' a => Or.inr ⟨⟨a1, a2⟩, a⟩) n (i := 0) rfl (Or.inl rfl) rfl ⟨⟨t1, by rw [kq_i K 21 rfl]; exact t2, mv_H_kq t3 K (by decide)⟩, L⟩
  · cases n with
    | zero => exact pl_At_0
    | succ n =>
    exact pl_302_11 ⟨fun _ => ⟨fun y => absurd (xle y) (by decide), fun _ => Or.inl ⟨z, by decide⟩⟩, fun y => absurd (xlt y) (by decide)⟩
/-- counter() of the reference -/
theorem fm_304_47 {p : Nat} {l : List Nat} {x1 x2 : Int32} {R : Int32 → ps_S → Prop} (hm : 1 ≤ m ∧ m ≤ 3) (hw : WFt h) (hb : BTh h) (hf : wf (sg h.1) 5 l [(true, 0)]) (hbc : bc (arh h.1) [(0, 0)] l) (h1 : x1.toInt = m) (h2 : x2.toInt = p) (hp : p ≤ 4096) (k : ∀ (v : Int32) s', ((∃ M : Nat, v.toInt = M ∧ M < p ∧ (AX h m M ∧ ¬ FA h l m M) ∧ ∀ M', M' < M → ¬ (AX h m M' ∧ ¬ FA h l m M')) ∨ (v.toInt = -1 ∧ ∀ M', M' < p → ¬ (AX h m M' ∧ ¬ FA h l m M'))) → R v s') : ∀ (n : Nat) {s : ps_S} {x3 : Int32} {M : Nat}, x3.toInt = M → MQj s b m h → mv_W s 25748 l → (∀ M', M' < M → ¬ (AX h m M' ∧ ¬ FA h l m M')) → pl_At n 304 47 [(0, .ref 1131), (1, .int x1), (2, .int x2), (3, .int x3)] [] s (ps_rI R)
  | 0, _, _, _, _, _, _, _ => pl_At_0
  | n + 1, s, x3, M, h3, H, W, hj => by
    refine pl_304_47 ⟨fun z => ?_, fun z => ?_⟩
    · have z := xle z
      exact k _ _ (Or.inr ⟨by decide, fun M' hM => hj M' (by omega)⟩)
    · have z := xlt z
      refine fm_293 (M := M) (by omega) (fun b hb2 => md_b3 hm hb2) (MQj_90 hm H) H.2.1 h3 (fun s1 K1 G1 => ?_)
      have H1 : MQj s1 b m h := MQj_kq H (kqt kq_refl K1 (by decide) (by decide))
      have W1 := mv_W_kq W K1 (by decide)
      refine fm_300 (M := M) hm hw hb H1 G1 h1 (fun s2 a K2 => ⟨fun y => absurd y (by decide), fun _ => ?_⟩) (fun s2 a K2 => ⟨fun _ => ?_, fun y => absurd rfl y⟩)
      · have H2 : MQj s2 b m h := MQj_kq H1 (kqt kq_refl K2 (by decide) (by decide))
        have W2 := mv_W_kq W1 K2 (by decide)
        have G2 : MG s2 m M h.1 := by
          unfold MG
          rw [kq_a K2 1169 (by decide)]
          exact G1
        refine fm_299 hm (MD_mk hm H2 G2 (by decide) W2) hf hbc (by decide) h1 (fun s3 c K3 => ⟨fun _ => ?_, fun y => absurd y (by decide)⟩) (fun s3 c K3 => ⟨fun y => absurd rfl y, fun _ => ?_⟩)
        · refine fm_304_47 hm hw hb hf hbc h1 h2 hp k n (xj1 h3 (by omega)) (MQj_kq H2 (kqt kq_refl K3 (by decide) (by decide))) (mv_W_kq W2 K3 (by decide)) (fun M' hM => ?_)
          rcases Nat.lt_or_ge M' M with y | y
          · exact hj M' y
          · rw [show M' = M from by omega]
            exact fun w => w.2 c
        · exact k _ _ (Or.inl ⟨M, h3, by omega, ⟨a, c⟩, hj⟩)
      · refine fm_304_47 hm hw hb hf hbc h1 h2 hp k n (xj1 h3 (by omega)) (MQj_kq H1 (kqt kq_refl K2 (by decide) (by decide))) (mv_W_kq W1 K2 (by decide)) (fun M' hM => ?_)
        rcases Nat.lt_or_ge M' M with y | y
        · exact hj M' y
        · rw [show M' = M from by omega]
          exact fun w => a w.1
theorem fm_304 {n : Nat} {s : ps_S} {l : List Nat} {x1 : Int32} (t : TRm s h l) (hw : WFt h) (hb : BTh h) (hf : WFf h.1 l) (hbc : l ≠ [] → bc (arh h.1) [(0, 0)] l) : pl_Cl n 304 [.ref 1131, .int x1] s (ps_rI (fun v _ => CO_A h l x1 v)) := by
  cases n with
  | zero => exact pl_At_0
  | succ n =>
  show pl_At (n + 1) 304 0 [(0, .ref 1131), (1, .int x1)] [] s _
  obtain ⟨b, t1, t2, t3, t4⟩ := t
  have c1 : (1 : Int32).toInt = 1 := by decide
  have c3 : (3 : Int32).toInt = 3 := by decide
  have c4 : (4 : Int32).toInt = 4 := by decide
  have c0 : (0 : Int32).toInt = 0 := by decide
  refine pl_304_0 ?_
  refine fm_200 (fun h1 h2 => ⟨fun z => absurd z (by decide), fun _ => ?_⟩) (fun h0 => ⟨fun _ => Or.inl ⟨Or.inl (by omega), by decide⟩, fun z => absurd rfl z⟩)
  have h1 : 1 ≤ x1.toInt := by omega
  have h2 : x1.toInt ≤ 3 := by omega
  refine fm_219c (to := 25748) (by decide) t4 (fun v2 q2 => ⟨fun y => ?_, fun y => ?_⟩)
  · have y := xne y
    have hl : l ≠ [] := fun e => by rw [e] at q2; exact y q2
    have hf' : wf (sg h.1) 5 l [(true, 0)] := by
      rcases hf with hf | hf
      · exact absurd hf hl
      · exact hf
    refine fm_301 t1 t2 t3.1 (fun v3 s3 a1 a2 e L K => ⟨fun y => ?_, fun y => ?_⟩) (fun z => absurd ⟨h1, h2⟩ z)
    · have y := xlt y
      refine Or.inr ⟨⟨⟨h1, h2⟩, hl⟩, Or.inl ⟨Or.inl ?_, by decide⟩⟩
      rw [e] at y
      unfold md_v at y
      split at y <;> omega
    · have y := xle y
      have hp : md_p (md_B x1.toInt.toNat (md_sy x1.toInt.toNat h.1)) ≤ 4096 ∧ v3.toInt = md_p (md_B x1.toInt.toNat (md_sy x1.toInt.toNat h.1)) := by
        rw [e] at y ⊢
        unfold md_v at y ⊢
        split at y
        · next w => rw [if_pos w]; exact ⟨w, rfl⟩
        · omega
      have W3 := mv_W_kq t4 K (by decide)
      refine fm_298 (to := 25748) (by decide) (by decide) W3 (fun v4 q4 => ⟨fun y => ?_, fun y => ?_⟩)
      · have y := xle y
        exact fm_304_47 (b := b) (m := x1.toInt.toNat) (h := h) (l := l) (by omega) hw hb hf' (hbc hl) (by omega) hp.2 hp.1 (fun v s' a => Or.inr ⟨⟨⟨h1, h2⟩, hl⟩, Or.inr ⟨⟨hp.1, by omega⟩, a⟩⟩) n (M := 0) rfl ⟨⟨t1, by rw [kq_i K 21 rfl]; exact t2, mv_H_kq t3 K (by decide)⟩, L⟩ W3 (fun M' hM => absurd hM (Nat.not_lt_zero _))
      · have y := xlt y
        exact Or.inr ⟨⟨⟨h1, h2⟩, hl⟩, Or.inl ⟨Or.inr (by omega), by decide⟩⟩
  · have y := xeq y
    exact Or.inl ⟨Or.inr (List.eq_nil_of_length_eq_zero (by omega)), by decide⟩
end M300

