section
set_option maxRecDepth 100000
/-! the reference: what holds in a model; hold(), counter() -/
-- ProofBenchModel.isFree(II)Z
theorem pl_223_0 {n : Nat} {x1 : Int32} {x2 : Int32} {s : ps_S} {Q : Option Value → ps_S → Prop} (h :
  pl_At n 223 2 [(0, .ref 1131), (1, .int x1), (2, .int x2), (3, .int 0)] [] s Q) : pl_At (n + 1) 223 0 [(0, .ref 1131), (1, .int x1), (2, .int x2)] [] s Q :=
  pl_wp_at (stops := [(2, [0, 1, 2, 3])]) (f := 4) h rfl

theorem pl_223_2 {n : Nat} {x1 : Int32} {x2 : Int32} {x3 : Int32} {s : ps_S} {Q : Option Value → ps_S → Prop} (h :
  pl_Cl n 219 [.ref 1131, .int x1] s (ps_rI (fun v1 s1 =>
    (v1 ≤ x3 →
      Q (some (.int 0)) s1) ∧
    (x3 < v1 →
      pl_Cl n 220 [.ref 1131, .int x1, .int x3] s1 (ps_rI (fun v2 s2 =>
        (v2 ≠ ((60 : Int32) + x2) →
          pl_At n 223 2 [(0, .ref 1131), (1, .int x1), (2, .int x2), (3, .int (x3 + 1))] [] s2 Q) ∧
        (v2 = ((60 : Int32) + x2) →
          Q (some (.int 1)) s2))))))) : pl_At (n + 1) 223 2 [(0, .ref 1131), (1, .int x1), (2, .int x2), (3, .int x3)] [] s Q :=
  pl_wp_at (stops := [(2, [0, 1, 2, 3])]) (f := 21) h rfl

-- ProofBenchModel.freeMany(I)I
theorem pl_298_0 {n : Nat} {x1 : Int32} {s : ps_S} {Q : Option Value → ps_S → Prop} (h :
  pl_At n 298 4 [(0, .ref 1131), (1, .int x1), (2, .int 0), (3, .int 0)] [] s Q) : pl_At (n + 1) 298 0 [(0, .ref 1131), (1, .int x1)] [] s Q :=
  pl_wp_at (stops := [(4, [0, 1, 2, 3])]) (f := 6) h rfl

theorem pl_298_4 {n : Nat} {x1 : Int32} {x2 : Int32} {x3 : Int32} {s : ps_S} {Q : Option Value → ps_S → Prop} (h :
  (12 ≤ x3 →
    Q (some (.int x2)) s) ∧
  (x3 < 12 →
    pl_Cl n 223 [.ref 1131, .int x1, .int x3] s (ps_rI (fun v1 s1 =>
      (v1 = 0 →
        pl_At n 298 4 [(0, .ref 1131), (1, .int x1), (2, .int (x2 + 0)), (3, .int (x3 + 1))] [] s1 Q) ∧
      (v1 ≠ 0 →
        pl_At n 298 4 [(0, .ref 1131), (1, .int x1), (2, .int (x2 + 1)), (3, .int (x3 + 1))] [] s1 Q))))) : pl_At (n + 1) 298 4 [(0, .ref 1131), (1, .int x1), (2, .int x2), (3, .int x3)] [] s Q :=
  pl_wp_at (stops := [(4, [0, 1, 2, 3])]) (f := 24) h rfl

-- ProofBenchModel.doesHold(II)Z
theorem pl_299_0 {n : Nat} {x1 : Int32} {x2 : Int32} {s : ps_S} {Q : Option Value → ps_S → Prop} (h :
  pl_Cl n 298 [.ref 1131, .int x1] s (ps_rI (fun v1 s1 =>
    pl_Cl n 290 [.int x2, .int v1] s1 (ps_rI (fun v2 s2 =>
      pl_At n 299 13 [(0, .ref 1131), (1, .int x1), (2, .int x2), (3, .int v2), (4, .int 0)] [] s2 Q))))) : pl_At (n + 1) 299 0 [(0, .ref 1131), (1, .int x1), (2, .int x2)] [] s Q :=
  pl_wp_at (stops := [(13, [0, 1, 2, 3, 4]), (26, [0, 1, 2, 3, 4, 5, 6])]) (f := 10) h rfl

theorem pl_299_13 {n : Nat} {x1 : Int32} {x2 : Int32} {x3 : Int32} {x4 : Int32} {s : ps_S} {Q : Option Value → ps_S → Prop} (h :
  (x3 ≤ x4 →
    Q (some (.int 1)) s) ∧
  (x4 < x3 →
    pl_At n 299 26 [(0, .ref 1131), (1, .int x1), (2, .int x2), (3, .int x3), (4, .int x4), (5, .int x4), (6, .int 0)] [] s Q)) : pl_At (n + 1) 299 13 [(0, .ref 1131), (1, .int x1), (2, .int x2), (3, .int x3), (4, .int x4)] [] s Q :=
  pl_wp_at (stops := [(13, [0, 1, 2, 3, 4]), (26, [0, 1, 2, 3, 4, 5, 6])]) (f := 11) h rfl

theorem pl_299_26 {n : Nat} {x1 : Int32} {x2 : Int32} {x3 : Int32} {x4 : Int32} {x5 : Int32} {x6 : Int32} {s : ps_S} {Q : Option Value → ps_S → Prop} (h :
  (12 ≤ x6 →
    pl_Cl n 295 [.ref 1131, .int x1, .int x2] s (ps_rI (fun v1 s1 =>
      (v1 ≠ 0 →
        pl_At n 299 13 [(0, .ref 1131), (1, .int x1), (2, .int x2), (3, .int x3), (4, .int (x4 + 1))] [] s1 Q) ∧
      (v1 = 0 →
        Q (some (.int 0)) s1)))) ∧
  (x6 < 12 →
    pl_Cl n 223 [.ref 1131, .int x1, .int x6] s (ps_rI (fun v2 s2 =>
      (v2 ≠ 0 →
        pl_nk (!decide (x2 = 0)) ((pm_in x6 12 = true →
          pl_nk (!decide (x2 = 0)) (pl_At n 299 26 [(0, .ref 1131), (1, .int x1), (2, .int x2), (3, .int x3), (4, .int x4), (5, .int (x5 / x2)), (6, .int (x6 + 1))] [] (ps_ua s2 1175 (Int32.toNatClampNeg x6) (x5 - (x5 / x2) * x2)) Q)))) ∧
      (v2 = 0 →
        pl_At n 299 26 [(0, .ref 1131), (1, .int x1), (2, .int x2), (3, .int x3), (4, .int x4), (5, .int x5), (6, .int (x6 + 1))] [] s2 Q))))) : pl_At (n + 1) 299 26 [(0, .ref 1131), (1, .int x1), (2, .int x2), (3, .int x3), (4, .int x4), (5, .int x5), (6, .int x6)] [] s Q :=
  pl_wp_at (stops := [(13, [0, 1, 2, 3, 4]), (26, [0, 1, 2, 3, 4, 5, 6])]) (f := 35) h rfl

-- ProofBenchModel.doAxiomsHold(I)Z
theorem pl_300_0 {n : Nat} {x1 : Int32} {s : ps_S} {Q : Option Value → ps_S → Prop} (h :
  pl_At n 300 2 [(0, .ref 1131), (1, .int x1), (2, .int 0)] [] s Q) : pl_At (n + 1) 300 0 [(0, .ref 1131), (1, .int x1)] [] s Q :=
  pl_wp_at (stops := [(2, [0, 1, 2])]) (f := 4) h rfl

theorem pl_300_2 {n : Nat} {x1 : Int32} {x2 : Int32} {s : ps_S} {Q : Option Value → ps_S → Prop} (h :
  (pm_in (ps_i s 1131 21) 2 = true →
    ((ps_a s 1137 (Int32.toNatClampNeg (ps_i s 1131 21))) ≤ x2 →
      Q (some (.int 1)) s) ∧
    (x2 < (ps_a s 1137 (Int32.toNatClampNeg (ps_i s 1131 21))) →
      pl_Cl n 283 [.int (ps_i s 1131 21), .int x2] s (ps_rI (fun v1 s1 =>
        pl_Cl n 299 [.ref 1131, .int v1, .int x1] s1 (ps_rI (fun v2 s2 =>
          (v2 ≠ 0 →
            pl_At n 300 2 [(0, .ref 1131), (1, .int x1), (2, .int (x2 + 1))] [] s2 Q) ∧
          (v2 = 0 →
            Q (some (.int 0)) s2)))))))) : pl_At (n + 1) 300 2 [(0, .ref 1131), (1, .int x1), (2, .int x2)] [] s Q :=
  pl_wp_at (stops := [(2, [0, 1, 2])]) (f := 23) h rfl

-- ProofBenchModel.hold(I)I
theorem pl_302_0 {n : Nat} {x1 : Int32} {s : ps_S} {Q : Option Value → ps_S → Prop} (h :
  pl_Cl n 301 [.ref 1131, .int x1] s (ps_rI (fun v1 s1 =>
    pl_At n 302 11 [(0, .ref 1131), (1, .int x1), (2, .int v1), (3, .int 0), (4, .int 0)] [] s1 Q))) : pl_At (n + 1) 302 0 [(0, .ref 1131), (1, .int x1)] [] s Q :=
  pl_wp_at (stops := [(11, [0, 1, 2, 3, 4])]) (f := 10) h rfl

theorem pl_302_11 {n : Nat} {x1 : Int32} {x2 : Int32} {x3 : Int32} {x4 : Int32} {s : ps_S} {Q : Option Value → ps_S → Prop} (h :
  (x2 ≤ x4 →
    (0 ≤ x2 →
      Q (some (.int x3)) s) ∧
    (x2 < 0 →
      Q (some (.int x2)) s)) ∧
  (x4 < x2 →
    pl_Cl n 293 [.ref 1131, .int x4] s (ps_rV (fun s1 =>
      pl_Cl n 300 [.ref 1131, .int x1] s1 (ps_rI (fun v2 s2 =>
        (v2 = 0 →
          pl_At n 302 11 [(0, .ref 1131), (1, .int x1), (2, .int x2), (3, .int (x3 + 0)), (4, .int (x4 + 1))] [] s2 Q) ∧
        (v2 ≠ 0 →
          pl_At n 302 11 [(0, .ref 1131), (1, .int x1), (2, .int x2), (3, .int (x3 + 1)), (4, .int (x4 + 1))] [] s2 Q))))))) : pl_At (n + 1) 302 11 [(0, .ref 1131), (1, .int x1), (2, .int x2), (3, .int x3), (4, .int x4)] [] s Q :=
  pl_wp_at (stops := [(11, [0, 1, 2, 3, 4])]) (f := 31) h rfl

-- ProofBenchModel.counter(I)I
theorem pl_304_0 {n : Nat} {x1 : Int32} {s : ps_S} {Q : Option Value → ps_S → Prop} (h :
  pl_Cl n 200 [.int x1, .int 1, .int 3] s (ps_rI (fun v1 s1 =>
    (v1 = 0 →
      Q (some (.int (-1))) s1) ∧
    (v1 ≠ 0 →
      pl_Cl n 219 [.ref 1131, .int 25748] s1 (ps_rI (fun v2 s2 =>
        (v2 ≠ 0 →
          pl_Cl n 301 [.ref 1131, .int x1] s2 (ps_rI (fun v3 s3 =>
            (v3 < 0 →
              Q (some (.int (-2))) s3) ∧
            (0 ≤ v3 →
              pl_Cl n 298 [.ref 1131, .int 25748] s3 (ps_rI (fun v4 s4 =>
                (v4 ≤ 4 →
                  pl_At n 304 47 [(0, .ref 1131), (1, .int x1), (2, .int v3), (3, .int 0)] [] s4 Q) ∧
                (4 < v4 →
                  Q (some (.int (-2))) s4))))))) ∧
        (v2 = 0 →
          Q (some (.int (-1))) s2))))))) : pl_At (n + 1) 304 0 [(0, .ref 1131), (1, .int x1)] [] s Q :=
  pl_wp_at (stops := [(47, [0, 1, 2, 3])]) (f := 32) h rfl

theorem pl_304_47 {n : Nat} {x1 : Int32} {x2 : Int32} {x3 : Int32} {s : ps_S} {Q : Option Value → ps_S → Prop} (h :
  (x2 ≤ x3 →
    Q (some (.int (-1))) s) ∧
  (x3 < x2 →
    pl_Cl n 293 [.ref 1131, .int x3] s (ps_rV (fun s1 =>
      pl_Cl n 300 [.ref 1131, .int x1] s1 (ps_rI (fun v2 s2 =>
        (v2 = 0 →
          pl_At n 304 47 [(0, .ref 1131), (1, .int x1), (2, .int x2), (3, .int (x3 + 1))] [] s2 Q) ∧
        (v2 ≠ 0 →
          pl_Cl n 299 [.ref 1131, .int 25748, .int x1] s2 (ps_rI (fun v3 s3 =>
            (v3 ≠ 0 →
              pl_At n 304 47 [(0, .ref 1131), (1, .int x1), (2, .int x2), (3, .int (x3 + 1))] [] s3 Q) ∧
            (v3 = 0 →
              Q (some (.int x3)) s3)))))))))) : pl_At (n + 1) 304 47 [(0, .ref 1131), (1, .int x1), (2, .int x2), (3, .int x3)] [] s Q :=
  pl_wp_at (stops := [(47, [0, 1, 2, 3])]) (f := 25) h rfl

/-- what is set but the free things -/
def MD (s : ps_S) (b to m : Nat) (g : tx_g) (l : List Nat) (D : Nat → Nat) : Prop := (b < 2 ∧ (ps_i s 1131 21).toInt = b ∧ mv_E s b g) ∧ (to < 27400 ∧ mv_W s to l) ∧ ML s m g ∧ (∀ (j x : Nat), (md_B m (md_sy m g))[j]? = some x → (ps_a s 1169 j).toInt = D j ∧ D j < x)
theorem ME_of {s : ps_S} {b to m : Nat} {g : tx_g} {l : List Nat} {D fr : Nat → Nat} (H : MD s b to m g l D) (hv : ∀ v, 60 + v ∈ l → v < 12 ∧ (ps_a s 1175 v).toInt = fr v ∧ fr v < m) : ME s b to m g l D fr := ⟨H.1, H.2.1, H.2.2.1, H.2.2.2, hv⟩
theorem MD_of {s : ps_S} {b to m : Nat} {g : tx_g} {l : List Nat} {D fr : Nat → Nat} (H : ME s b to m g l D fr) : MD s b to m g l D := ⟨H.1, H.2.1, H.2.2.1, H.2.2.2.1⟩
theorem ML_kq {A : List Nat} {s s' : ps_S} {m : Nat} {g : tx_g} (H : ML s m g) (K : kq A [] s s') (hA : [1170, 1171, 1172].all (fun q => !A.contains q) = true) : ML s' m g := by
  rw [List.all_eq_true] at hA
  have f : ∀ q, q ∈ [1170, 1171, 1172] → A.contains q = false := fun q hq => by
    have := hA q hq
    rw [Bool.not_eq_true'] at this
    exact this
  obtain ⟨⟨j1, j2⟩, j3, j4⟩ := H
  refine ⟨⟨by rw [kq_i K 73 rfl]; exact j1, ?_⟩, by rw [kq_a K 1171 (f _ (by decide))]; exact j3, by rw [kq_a K 1172 (f _ (by decide))]; exact j4⟩
  unfold ar_L at *
  rw [kq_a K 1170 (f _ (by decide))]
  exact j2
theorem MD_kq {s s' : ps_S} {b to m : Nat} {g : tx_g} {l : List Nat} {D : Nat → Nat} (H : MD s b to m g l D) (K : kq [1150, 1173, 1174, 1175] [] s s') : MD s' b to m g l D := by
  obtain ⟨⟨h1, h2, h3⟩, ⟨h4, h5⟩, h6, h7⟩ := H
  exact ⟨⟨h1, by rw [kq_i K 21 rfl]; exact h2, mv_E_kq h3 K (by decide)⟩, ⟨h4, mv_W_kq h5 K (by decide)⟩, ML_kq h6 K (by decide), by rw [kq_a K 1169 (by decide)]; exact h7⟩
section M295
variable {b to m : Nat} {g : tx_g} {l : List Nat} {D fr : Nat → Nat} {x1 x2 : Int32} {s0 : ps_S} {R : Int32 → ps_S → Prop}
/-- one piece's values -/
theorem fm_295_70 (hm : 1 ≤ m ∧ m ≤ 3) (h2 : x2.toInt = m) {n0 i c : Nat} {d : Nat × Nat} {S : List (Nat × Nat)} {gv0 gv3 : Nat → Int32} {x3 x4 x5 x6 x7 x8 : Int32} (hS : SKI g l i) (es : sk (arh g) l i = d :: S) (hc : l[i]? = some c) (hV : VT gv0 m g D fr (sk (arh g) l (i + 1)) (l.drop (i + 1))) (h3 : x3.toInt = (S.length + 1 : Nat)) (h5 : x5.toInt = c) (h6 : x6.toInt = (arh g c : Nat)) (h7 : x7.toInt = (243 * S.length : Nat)) (h8 : x8.toInt = (m ^ d.2 : Nat)) (h243 : m ^ d.2 ≤ 243) (h40 : S.length ≤ 41) (k : ∀ s', ME s' b to m g l D fr → kq [1150, 1173, 1174] [] s0 s' → ps_a s' 1173 = gv3 → (∀ j, ¬ (243 * S.length ≤ j ∧ j < 243 * S.length + m ^ d.2) → ps_a s' 1174 j = gv0 j) → (∀ e, e < m ^ d.2 → (ps_a s' 1174 (243 * S.length + e)).toInt = (svg m g D fr (13 - d.1) (evl m d.2 e) (l.drop i) : Nat)) → pl_At n0 295 16 [(0, .ref 1131), (1, .int x1), (2, .int x2), (3, .int x3), (4, .int (x4 + (Int32.ofInt (-1))))] [] s' (ps_rI R)) : ∀ (n : Nat) {s : ps_S} {x9 : Int32} {e : Nat}, n ≤ n0 → x9.toInt = e → e ≤ m ^ d.2 → ME s b to m g l D fr → kq [1150, 1173, 1174] [] s0 s → ps_a s 1173 = gv3 → (∀ j, ¬ (243 * S.length ≤ j ∧ j < 243 * S.length + e) → ps_a s 1174 j = gv0 j) → (∀ e', e' < e → (ps_a s 1174 (243 * S.length + e')).toInt = (svg m g D fr (13 - d.1) (evl m d.2 e') (l.drop i) : Nat)) → pl_At n 295 70 [(0, .ref 1131), (1, .int x1), (2, .int x2), (3, .int x3), (4, .int x4), (5, .int x5), (6, .int x6), (7, .int x7), (8, .int x8), (9, .int x9)] [] s (ps_rI R)
  | 0, _, _, _, _, _, _, _, _, _, _, _ => pl_At_0
  | n + 1, s, x9, e, hn, h9, he, H, K, G3, hg, hw => by
    refine pl_295_70 ⟨fun z => ?_, fun z => ?_⟩
    · have z := xle z
      have ee : e = m ^ d.2 := by omega
      subst ee
      exact (k s H K G3 hg hw).le (by omega)
    · have z := xlt z
      refine fm_296 hm H hS es hc hV hg (by omega) h5 h6 h3 h9 h2 (fun v q => ?_)
      intro _
      have ei : (x7 + x9).toInt = (243 * S.length + e : Nat) := by rw [xIa (by omega) (by omega), h7, h9]; rfl
      rw [xtn ei]
      refine fm_295_70 hm h2 hS es hc hV h3 h5 h6 h7 h8 h243 h40 k n (by omega) (xj1 h9 (by omega)) (by omega) (ME_kq H (kqa kq_refl rfl)) (kqa K rfl) ?_ (fun j hj => ?_) (fun e' he' => ?_)
      · funext j
        rw [ps_a_ua, if_neg (fun w => absurd w.1 (by decide)), G3]
      · rw [ps_a_ua, if_neg (by omega)]
        exact hg j (by omega)
      · rw [ps_a_ua]
        by_cases ee : e' = e
        · rw [if_pos ⟨rfl, by omega⟩, ee]
          exact q
        · rw [if_neg (by omega)]
          exact hw e' (by omega)
/-- all pieces, from the right -/
theorem fm_295_16 (hm : 1 ≤ m ∧ m ≤ 3) (h1 : x1.toInt = to) (h2 : x2.toInt = m) (hS : ∀ i, i ≤ l.length → SKI g l i) (k1 : ∀ s', svg m g D fr 13 [] l = 1 → kq [1150, 1173, 1174] [] s0 s' → R 1 s') (k0 : ∀ s', ¬ svg m g D fr 13 [] l = 1 → kq [1150, 1173, 1174] [] s0 s' → R 0 s') : ∀ (n : Nat) {s : ps_S} {x3 x4 : Int32} {i : Nat}, x4.toInt = (i : Int) - 1 → i ≤ l.length → x3.toInt = (sk (arh g) l i).length → ME s b to m g l D fr → kq [1150, 1173, 1174] [] s0 s → (∀ (j : Nat) d S, j < l.length → sk (arh g) l j = d :: S → (ps_a s 1173 j).toInt = d.2) → VT (ps_a s 1174) m g D fr (sk (arh g) l i) (l.drop i) → pl_At n 295 16 [(0, .ref 1131), (1, .int x1), (2, .int x2), (3, .int x3), (4, .int x4)] [] s (ps_rI R)
  | 0, _, _, _, _, _, _, _, _, _, _, _ => pl_At_0
  | n + 1, s, x3, x4, i, h4, hi, h3, H, K, hd, hV => by
    have c0 : (0 : Int32).toInt = 0 := by decide
    have c1 : (1 : Int32).toInt = 1 := by decide
    have c243 : (243 : Int32).toInt = 243 := by decide
    have h40 : l.length ≤ 40 := H.2.1.2.2.1
    have hA := arh_k H.1.2.2.2.2.1 H.1.2.2.2.2.2.1
    refine pl_295_16 ⟨fun z => ?_, fun z => ?_⟩
    · have z := xlt z
      have e0 : i = 0 := by omega
      subst e0
      intro _
      have hv := hV.1 0 (by rw [Nat.pow_zero]; exact Nat.one_pos)
      have hv : (ps_a s 1174 0).toInt = (svg m g D fr 13 [] l : Nat) := hv
      rw [xtn (x := (0 : Int32)) (a := 0) rfl]
      refine ⟨fun y => k0 s (fun a => ?_) K, fun y => k1 s ?_ K⟩
      · have y := xne y
        rw [a] at hv
        exact y hv
      · have y := xeq y
        rw [hv] at y
        exact Int.ofNat.inj y
    · have z := xle z
      obtain ⟨j, rfl⟩ : ∃ j, i = j + 1 := ⟨i - 1, by omega⟩
      have hj4 : x4.toInt = j := by omega
      obtain ⟨d, S, es⟩ := SKI_d (hS j (by omega)) (by omega)
      obtain ⟨c, hc⟩ : ∃ c, l[j]? = some c := ⟨_, List.getElem?_eq_getElem (by omega)⟩
      obtain ⟨bb, hpt⟩ := SKI_pt (hS j (by omega)) es
      have hpt' := hpt
      rw [drop_c hc] at hpt
      obtain ⟨hp, hq5, -, ks, hk⟩ := pt_c hpt
      have esk := sk_c es hc
      have hpw := md_243 hm.2 hq5
      have hbc := (hS j (by omega)).1
      have hlen := bc_le hbc
      rw [es, List.length_cons, List.length_drop] at hlen
      have hlen2 : (sk (arh g) l (j + 1)).length = arh g c + S.length := by rw [esk, List.length_append, List.length_replicate]
      have hbc2 := bc_le (hS (j + 1) hi).1
      rw [List.length_drop] at hbc2
      refine fm_220c h1 H.2.1.1 H.2.1.2 hj4 hc (fun v1 q1 => ?_)
      refine fm_218 H.1.1 H.1.2.1 H.1.2.2 hk q1 (fun v2 q2 => ?_)
      intro _
      rw [xtn hj4]
      refine fm_290 (m := m) (a := d.2) h2 (hd j d S (by omega) es) hm.2 (by omega) (fun v3 q3 => ?_)
      have e3 : (x3 + ((1 : Int32) - v2)).toInt = (S.length + 1 : Nat) := by
        have e1 : ((1 : Int32) - v2).toInt = 1 - (arh g c : Nat) := by rw [xIs (by omega) (by omega), c1, q2]
        rw [xIa (by omega) (by omega), h3, e1]
        omega
      have e7 : ((243 : Int32) * ((x3 + ((1 : Int32) - v2)) - 1)).toInt = (243 * S.length : Nat) := by
        have e1 : ((x3 + ((1 : Int32) - v2)) - 1).toInt = (S.length : Nat) := by rw [xIs (by omega) (by omega), e3, c1]; omega
        rw [xIm (by rw [c243, e1]; omega) (by rw [c243, e1]; omega), c243, e1]
        omega
      refine fm_295_70 (n0 := n) (s0 := s0) (gv0 := ps_a s 1174) (gv3 := ps_a s 1173) hm h2 (hS j (by omega)) es hc hV e3 q1 q2 e7 q3 hpw (by omega) (fun s' H' K' G' hg hw => ?_) n (e := 0) (Nat.le_refl _) rfl (Nat.zero_le _) H K rfl (fun _ _ => rfl) (fun e' he' => absurd he' (Nat.not_lt_zero _))
      refine fm_295_16 hm h1 h2 hS k1 k0 n (xmin1 hj4) (by omega) (by rw [e3, es, List.length_cons]) H' K' (by rw [G']; exact hd) ?_
      rw [es]
      refine ⟨hw, ?_⟩
      rw [esk] at hV
      have hV2 := VT_rest hV
      rw [List.length_replicate] at hV2
      have ed : (l.drop j).drop (en (arh g) (l.drop j) 1) = (l.drop (j + 1)).drop (en (arh g) (l.drop (j + 1)) (arh g c)) := by
        rw [drop_c hc, en_c, Nat.zero_add, Nat.add_comm 1, List.drop_succ_cons]
      rw [ed]
      have hds : dsc (d :: S) := by rw [← es]; exact sk_dsc j
      exact VT_ext hV2 (fun q hq => hg q (by omega)) (fun x hx => md_243 hm.2 (Nat.le_trans (hds.1 x hx) hq5))
theorem fm_295 {n : Nat} {s : ps_S} (hm : 1 ≤ m ∧ m ≤ 3) (H : ME s b to m g l D fr) (hf : wf (sg g) 5 l [(true, 0)]) (hbc : bc (arh g) [(0, 0)] l) (h1 : x1.toInt = to) (h2 : x2.toInt = m) (k1 : ∀ s', svg m g D fr 13 [] l = 1 → kq [1150, 1173, 1174] [] s s' → R 1 s') (k0 : ∀ s', ¬ svg m g D fr 13 [] l = 1 → kq [1150, 1173, 1174] [] s s' → R 0 s') : pl_Cl n 295 [.ref 1131, .int x1, .int x2] s (ps_rI R) := by
  cases n with
  | zero => exact pl_At_0
  | succ n =>
  show pl_At (n + 1) 295 0 [(0, .ref 1131), (1, .int x1), (2, .int x2)] [] s (ps_rI R)
  have hA := arh_k H.1.2.2.2.2.1 H.1.2.2.2.2.2.1
  have hS := SKI_all hA (SKI_0 hbc hf)
  have c1 : (1 : Int32).toInt = 1 := by decide
  have h40 : l.length ≤ 40 := H.2.1.2.2.1
  refine pl_295_0 ?_
  refine fm_294 H.1.1 H.1.2.1 H.1.2.2 h1 H.2.1.1 H.2.1.2 hS (fun s1 K1 hd => ?_)
  have K1' : kq [1150, 1173, 1174] [] s s1 := kqt kq_refl K1 (by decide) (by decide)
  have H1 := ME_kq H K1'
  refine fm_219c h1 H1.2.1.2 (fun v q => ?_)
  have e0 : sk (arh g) l l.length = [] := by
    have h := (hS l.length (Nat.le_refl _)).1
    rw [List.drop_length] at h
    cases e : sk (arh g) l l.length with
    | nil => rfl
    | cons d S => rw [e] at h; exact h.elim
  refine fm_295_16 hm h1 h2 hS k1 k0 n (i := l.length) (by rw [xIs (by omega) (by omega), q, c1]) (Nat.le_refl _) (by rw [e0]; rfl) H1 K1' hd ?_
  rw [e0]
  exact trivial
end M295
/-- isFree() of the reference -/
theorem fm_223_2 {to vv : Nat} {l : List Nat} {x1 x2 : Int32} {s : ps_S} {R : Int32 → ps_S → Prop} (hx : x1.toInt = to) (hto : to < 27400) (W : mv_W s to l) (h2 : x2.toInt = vv) (hv : vv < 100) (k1 : 60 + vv ∈ l → R 1 s) (k0 : ¬ 60 + vv ∈ l → R 0 s) : ∀ (n : Nat) {x3 : Int32} {i : Nat}, x3.toInt = i → (∀ j, j < i → l[j]? ≠ some (60 + vv)) → pl_At n 223 2 [(0, .ref 1131), (1, .int x1), (2, .int x2), (3, .int x3)] [] s (ps_rI R)
  | 0, _, _, _, _ => pl_At_0
  | n + 1, x3, i, h3, hj => by
    have h40 := W.2.1
    have c60 : (60 : Int32).toInt = 60 := by decide
    have e60 : ((60 : Int32) + x2).toInt = (60 + vv : Nat) := by rw [xIa (by omega) (by omega), c60, h2]; rfl
    refine pl_223_2 ?_
    refine fm_219c hx W (fun v1 q1 => ⟨fun z => ?_, fun z => ?_⟩)
    · have z := xle z
      refine k0 (fun hm => ?_)
      obtain ⟨j, hj2⟩ := List.mem_iff_getElem?.mp hm
      have := (List.getElem?_eq_some_iff.mp hj2).1
      exact hj j (by omega) hj2
    · have z := xlt z
      obtain ⟨c, hc⟩ : ∃ c, l[i]? = some c := ⟨_, List.getElem?_eq_getElem (by omega)⟩
      refine fm_220c hx hto W h3 hc (fun v2 q2 => ⟨fun y => ?_, fun y => ?_⟩)
      · have y := xne y
        refine fm_223_2 hx hto W h2 hv k1 k0 n (xj1 h3 (by omega)) (fun j hj2 => ?_)
        rcases Nat.lt_or_ge j i with a | a
        · exact hj j a
        · rw [show j = i from by omega, hc]
          intro e
          cases e
          omega
      · have y := xeq y
        refine k1 ?_
        have : c = 60 + vv := by omega
        rw [← this]
        exact List.mem_of_getElem? hc
theorem fm_223 {n to vv : Nat} {l : List Nat} {x1 x2 : Int32} {s : ps_S} {R : Int32 → ps_S → Prop} (hx : x1.toInt = to) (hto : to < 27400) (W : mv_W s to l) (h2 : x2.toInt = vv) (hv : vv < 100) (k1 : 60 + vv ∈ l → R 1 s) (k0 : ¬ 60 + vv ∈ l → R 0 s) : pl_Cl n 223 [.ref 1131, .int x1, .int x2] s (ps_rI R) := by
  cases n with
  | zero => exact pl_At_0
  | succ n =>
  show pl_At (n + 1) 223 0 [(0, .ref 1131), (1, .int x1), (2, .int x2)] [] s (ps_rI R)
  exact pl_223_0 (fm_223_2 hx hto W h2 hv k1 k0 n (i := 0) rfl (fun j hj => absurd hj (Nat.not_lt_zero _)))
theorem fm_298_4 {to : Nat} {l : List Nat} {x1 : Int32} {s : ps_S} {R : Int32 → ps_S → Prop} (hx : x1.toInt = to) (hto : to < 27400) (W : mv_W s to l) (k : ∀ v : Int32, v.toInt = fcn l 12 → R v s) : ∀ (n : Nat) {x2 x3 : Int32} {v : Nat}, x3.toInt = v → v ≤ 12 → x2.toInt = fcn l v → pl_At n 298 4 [(0, .ref 1131), (1, .int x1), (2, .int x2), (3, .int x3)] [] s (ps_rI R)
  | 0, _, _, _, _, _, _ => pl_At_0
  | n + 1, x2, x3, v, h3, hv, h2 => by
    have c12 : (12 : Int32).toInt = 12 := by decide
    have c0 : (0 : Int32).toInt = 0 := by decide
    have hle := fcn_le (l := l) (v := v)
    refine pl_298_4 ⟨fun z => ?_, fun z => ?_⟩
    · have z := xle z
      have e : v = 12 := by omega
      subst e
      exact k x2 h2
    · have z := xlt z
      refine fm_223 hx hto W h3 (by omega) (fun hm => ⟨fun y => absurd y (by decide), fun _ => ?_⟩) (fun hm => ⟨fun _ => ?_, fun y => absurd rfl y⟩)
      · exact fm_298_4 hx hto W k n (xj1 h3 (by omega)) (by omega) (by rw [fcn_1 hm]; exact xj1 h2 (by omega))
      · exact fm_298_4 hx hto W k n (xj1 h3 (by omega)) (by omega) (by rw [fcn_0 hm, xIa (by omega) (by omega), h2, c0]; omega)
theorem fm_298 {n to : Nat} {l : List Nat} {x1 : Int32} {s : ps_S} {R : Int32 → ps_S → Prop} (hx : x1.toInt = to) (hto : to < 27400) (W : mv_W s to l) (k : ∀ v : Int32, v.toInt = fcn l 12 → R v s) : pl_Cl n 298 [.ref 1131, .int x1] s (ps_rI R) := by
  cases n with
  | zero => exact pl_At_0
  | succ n =>
  show pl_At (n + 1) 298 0 [(0, .ref 1131), (1, .int x1)] [] s (ps_rI R)
  exact pl_298_0 (fm_298_4 hx hto W k n (v := 0) rfl (Nat.zero_le _) rfl)
/-- a formula holds for every choice of free things -/
def FD (m : Nat) (g : tx_g) (D : Nat → Nat) (l : List Nat) : Prop := ∀ k, k < m ^ fcn l 12 → svg m g D (frc m l k) 13 [] l = 1
section M299
variable {b to m : Nat} {g : tx_g} {l : List Nat} {D : Nat → Nat} {x1 x2 : Int32} {s0 : ps_S} {R : Int32 → ps_S → Prop}
theorem fm_299_26 (hm : 1 ≤ m ∧ m ≤ 3) (H0 : MD s0 b to m g l D) (hf : wf (sg g) 5 l [(true, 0)]) (h1 : x1.toInt = to) (h2 : x2.toInt = m) {n0 kc : Nat} {x3 x4 : Int32} (hkc : kc < 1000000) (kk : ∀ n s', n ≤ n0 → kq [1150, 1173, 1174, 1175] [] s0 s' → ME s' b to m g l D (frc m l kc) → pl_Cl n 295 [.ref 1131, .int x1, .int x2] s' (ps_rI (fun v1 s1 => (v1 ≠ 0 → pl_At n 299 13 [(0, .ref 1131), (1, .int x1), (2, .int x2), (3, .int x3), (4, .int (x4 + 1))] [] s1 (ps_rI R)) ∧ (v1 = 0 → ps_rI R (some (.int 0)) s1)))) : ∀ (n : Nat) {s : ps_S} {x5 x6 : Int32} {v : Nat}, n ≤ n0 → x6.toInt = v → v ≤ 12 → x5.toInt = (kc / m ^ fcn l v : Nat) → kq [1150, 1173, 1174, 1175] [] s0 s → (∀ u, u < v → 60 + u ∈ l → (ps_a s 1175 u).toInt = frc m l kc u) → pl_At n 299 26 [(0, .ref 1131), (1, .int x1), (2, .int x2), (3, .int x3), (4, .int x4), (5, .int x5), (6, .int x6)] [] s (ps_rI R)
  | 0, _, _, _, _, _, _, _, _, _, _ => pl_At_0
  | n + 1, s, x5, x6, v, hn, h6, hv, h5, K, hu => by
    have c12 : (12 : Int32).toInt = 12 := by decide
    have H := MD_kq H0 K
    have hd : kc / m ^ fcn l v ≤ kc := Nat.div_le_self _ _
    refine pl_299_26 ⟨fun z => ?_, fun z => ?_⟩
    · have z := xle z
      refine kk n s (by omega) K (ME_of H (fun u hm2 => ?_))
      have := ws_72 (σ := sg g) ⟨H.1.2.2.2.2.1, H.1.2.2.2.2.2.1⟩ (wf_ws hf) _ hm2
      exact ⟨by omega, hu u (by omega) hm2, Nat.mod_lt _ hm.1⟩
    · have z := xlt z
      refine fm_223 h1 H.2.1.1 H.2.1.2 h6 (by omega) (fun hm2 => ⟨fun _ => ?_, fun y => absurd y (by decide)⟩) (fun hm2 => ⟨fun y => absurd rfl y, fun _ => ?_⟩)
      · refine pl_nk_i (fun _ => ?_)
        intro _
        refine pl_nk_i (fun _ => ?_)
        rw [xtn h6]
        have ed : (x5 / x2).toInt = (kc / m ^ fcn l (v + 1) : Nat) := by rw [xdivr (by rw [h5]; exact Int.natCast_nonneg _) (by omega), h5, h2, ← Int.natCast_ediv, fcn_1 hm2, Nat.div_div_eq_div_mul, Nat.pow_succ]
        have er : (x5 - (x5 / x2) * x2).toInt = (frc m l kc v : Nat) := by rw [xmodr (by rw [h5]; exact Int.natCast_nonneg _) (by omega), h5, h2, ← Int.natCast_emod]; rfl
        refine fm_299_26 hm H0 hf h1 h2 hkc kk n (by omega) (xj1 h6 (by omega)) (by omega) ed (kqa K rfl) (fun u hu2 hm3 => ?_)
        rw [ps_a_ua]
        by_cases e : u = v
        · rw [if_pos ⟨rfl, e⟩, e]
          exact er
        · rw [if_neg (fun w => e w.2)]
          exact hu u (by omega) hm3
      · refine fm_299_26 hm H0 hf h1 h2 hkc kk n (by omega) (xj1 h6 (by omega)) (by omega) (by rw [fcn_0 hm2]; exact h5) K (fun u hu2 hm3 => ?_)
        by_cases e : u = v
        · rw [e] at hm3
          exact absurd hm3 hm2
        · exact hu u (by omega) hm3
theorem fm_299_13 (hm : 1 ≤ m ∧ m ≤ 3) (H0 : MD s0 b to m g l D) (hf : wf (sg g) 5 l [(true, 0)]) (hbc : bc (arh g) [(0, 0)] l) (h1 : x1.toInt = to) (h2 : x2.toInt = m) (k1 : ∀ s', FD m g D l → kq [1150, 1173, 1174, 1175] [] s0 s' → R 1 s') (k0 : ∀ s', ¬ FD m g D l → kq [1150, 1173, 1174, 1175] [] s0 s' → R 0 s') : ∀ (n : Nat) {s : ps_S} {x3 x4 : Int32} {kc : Nat}, x3.toInt = (m ^ fcn l 12 : Nat) → x4.toInt = kc → kc ≤ m ^ fcn l 12 → kq [1150, 1173, 1174, 1175] [] s0 s → (∀ k, k < kc → svg m g D (frc m l k) 13 [] l = 1) → pl_At n 299 13 [(0, .ref 1131), (1, .int x1), (2, .int x2), (3, .int x3), (4, .int x4)] [] s (ps_rI R)
  | 0, _, _, _, _, _, _, _, _, _ => pl_At_0
  | n + 1, s, x3, x4, kc, h3, h4, hk, K, hj => by
    have hle := fcn_le (l := l) (v := 12)
    have hp : m ^ fcn l 12 ≤ 531441 := by
      have a1 : m ^ fcn l 12 ≤ 3 ^ fcn l 12 := Nat.pow_le_pow_left hm.2 _
      have a2 : 3 ^ fcn l 12 ≤ 3 ^ 12 := Nat.pow_le_pow_right (by decide) hle
      have a3 : 3 ^ 12 = 531441 := by decide
      omega
    refine pl_299_13 ⟨fun z => ?_, fun z => ?_⟩
    · have z := xle z
      exact k1 s (fun k hk2 => hj k (by omega)) K
    · have z := xlt z
      refine fm_299_26 (n0 := n) (kc := kc) hm H0 hf h1 h2 (by omega) (fun n1 s1 hn1 K1 H1 => ?_) n (v := 0) (Nat.le_refl _) rfl (Nat.zero_le _) (by rw [show fcn l 0 = 0 from rfl, Nat.pow_zero, Nat.div_one]; exact h4) K (fun u hu => absurd hu (Nat.not_lt_zero _))
      refine fm_295 hm H1 hf hbc h1 h2 (fun s2 a K2 => ⟨fun _ => ?_, fun y => absurd y (by decide)⟩) (fun s2 a K2 => ⟨fun y => absurd rfl y, fun _ => ?_⟩)
      · refine (fm_299_13 hm H0 hf hbc h1 h2 k1 k0 n h3 (xj1 h4 (by omega)) (by omega) (kqt K1 K2 (by decide) (by decide)) (fun k hk2 => ?_)).le hn1
        rcases Nat.lt_or_ge k kc with y | y
        · exact hj k y
        · rw [show k = kc from by omega]
          exact a
      · exact k0 s2 (fun y => a (y kc (by omega))) (kqt K1 K2 (by decide) (by decide))
theorem fm_299 {n : Nat} {s : ps_S} (hm : 1 ≤ m ∧ m ≤ 3) (H : MD s b to m g l D) (hf : wf (sg g) 5 l [(true, 0)]) (hbc : bc (arh g) [(0, 0)] l) (h1 : x1.toInt = to) (h2 : x2.toInt = m) (k1 : ∀ s', FD m g D l → kq [1150, 1173, 1174, 1175] [] s s' → R 1 s') (k0 : ∀ s', ¬ FD m g D l → kq [1150, 1173, 1174, 1175] [] s s' → R 0 s') : pl_Cl n 299 [.ref 1131, .int x1, .int x2] s (ps_rI R) := by
  cases n with
  | zero => exact pl_At_0
  | succ n =>
  show pl_At (n + 1) 299 0 [(0, .ref 1131), (1, .int x1), (2, .int x2)] [] s (ps_rI R)
  have hle := fcn_le (l := l) (v := 12)
  refine pl_299_0 ?_
  refine fm_298 h1 H.2.1.1 H.2.1.2 (fun v1 q1 => ?_)
  refine fm_290 (m := m) (a := fcn l 12) h2 q1 hm.2 (by omega) (fun v2 q2 => ?_)
  exact fm_299_13 hm H hf hbc h1 h2 k1 k0 n q2 (kc := 0) rfl (Nat.zero_le _) kq_refl (fun k hk => absurd hk (Nat.not_lt_zero _))
end M299
theorem fcn_z {l : List Nat} (h : ∀ p, p ∈ l → p < 60) : ∀ v, fcn l v = 0
  | 0 => rfl
  | v + 1 => by rw [fcn_0 (fun hm => by have := h _ hm; omega), fcn_z h v]
theorem FD_z {m : Nat} {g : tx_g} {D : Nat → Nat} {l : List Nat} (h : ∀ p, p ∈ l → p < 60) : FD m g D l ↔ svg m g D (fun _ => 0) 13 [] l = 1 := by
  have e : frc m l 0 = fun _ => 0 := by
    funext v
    unfold frc
    rw [Nat.zero_div, Nat.zero_mod]
  unfold FD
  rw [fcn_z h, Nat.pow_zero]
  constructor
  · intro a
    have := a 0 Nat.one_pos
    rw [e] at this
    exact this
  · intro a k hk
    rw [show k = 0 from by omega, e]
    exact a
/-- a theory and its digits' places -/
def MQj (s : ps_S) (b m : Nat) (h : tx_H) : Prop := (b < 2 ∧ (ps_i s 1131 21).toInt = b ∧ mv_H s b h) ∧ ML s m h.1
theorem MQj_kq {s s' : ps_S} {b m : Nat} {h : tx_H} (H : MQj s b m h) (K : kq [1150, 1169, 1173, 1174, 1175] [] s s') : MQj s' b m h := by
  obtain ⟨⟨h1, h2, h3⟩, h4⟩ := H
  exact ⟨⟨h1, by rw [kq_i K 21 rfl]; exact h2, mv_H_kq h3 K (by decide)⟩, ML_kq h4 K (by decide)⟩
/-- a model's digits -/
def MG (s : ps_S) (m M : Nat) (g : tx_g) : Prop := ∀ (j b : Nat), (md_B m (md_sy m g))[j]? = some b → (ps_a s 1169 j).toInt = dD (md_B m (md_sy m g)) M j
theorem MD_mk {s : ps_S} {b m M to : Nat} {h : tx_H} {l : List Nat} (hm : 1 ≤ m ∧ m ≤ 3) (H : MQj s b m h) (G : MG s m M h.1) (hto : to < 27400) (W : mv_W s to l) : MD s b to m h.1 l (dD (md_B m (md_sy m h.1)) M) := ⟨⟨H.1.1, H.1.2.1, H.1.2.2.1⟩, ⟨hto, W⟩, H.2, fun j x hx => ⟨G j x hx, dgo_d hm j x hx⟩⟩
section M300
variable {b m : Nat} {h : tx_H}
theorem fm_300_2 {M : Nat} {x1 : Int32} {s0 : ps_S} {R : Int32 → ps_S → Prop} (hm : 1 ≤ m ∧ m ≤ 3) (hw : WFt h) (hb : BTh h) (H0 : MQj s0 b m h) (G0 : MG s0 m M h.1) (h1 : x1.toInt = m) (k1 : ∀ s', AX h m M → kq [1150, 1173, 1174, 1175] [] s0 s' → R 1 s') (k0 : ∀ s', ¬ AX h m M → kq [1150, 1173, 1174, 1175] [] s0 s' → R 0 s') : ∀ (n : Nat) {s : ps_S} {x2 : Int32} {i : Nat}, x2.toInt = i → kq [1150, 1173, 1174, 1175] [] s0 s → (∀ (k : Nat) (w l : List Nat), k < i → h.2[k]? = some (w, l) → svg m h.1 (dD (md_B m (md_sy m h.1)) M) (fun _ => 0) 13 [] l = 1) → pl_At n 300 2 [(0, .ref 1131), (1, .int x1), (2, .int x2)] [] s (ps_rI R)
  | 0, _, _, _, _, _, _ => pl_At_0
  | n + 1, s, x2, i, h2, K, hj => by
    have H : MQj s b m h := MQj_kq H0 (kqt kq_refl K (by decide) (by decide))
    have G : MG s m M h.1 := by
      unfold MG
      rw [kq_a K 1169 (by decide)]
      exact G0
    have h8 := H.1.2.2.2.2.1
    have hb2 := H.1.1
    refine pl_300_2 ?_
    intro _
    rw [xtn H.1.2.1, show (ps_a s 1137 b) = ps_a s 1137 b from rfl]
    have e7 := H.1.2.2.2.1
    refine ⟨fun z => ?_, fun z => ?_⟩
    · have z := xle z
      exact k1 s (fun k w l hk => hj k w l (by have := (List.getElem?_eq_some_iff.mp hk).1; omega) hk) K
    · have z := xlt z
      refine fm_283 H.1.2.1 hb2 h2 (by omega) (fun x5 h5 => ?_)
      obtain ⟨⟨w, l⟩, hk⟩ : ∃ q, h.2[i]? = some q := ⟨_, List.getElem?_eq_getElem (by omega)⟩
      have W := (H.1.2.2.2.2.2 i w l hk).2.2
      obtain ⟨f1, f2, f3⟩ := hw.2.2 i w l hk
      refine fm_299 hm (MD_mk hm H G (by omega) W) f1 (hb.2.2 i w l hk).1 h5 h1 (fun s2 a K2 => ⟨fun _ => ?_, fun y => absurd y (by decide)⟩) (fun s2 a K2 => ⟨fun y => absurd rfl y, fun _ => ?_⟩)
      · refine fm_300_2 hm hw hb H0 G0 h1 k1 k0 n (xj1 h2 (by omega)) (kqt K K2 (by decide) (by decide)) (fun k w' l' hk2 hk3 => ?_)
        rcases Nat.lt_or_ge k i with y | y
        · exact hj k w' l' y hk3
        · rw [show k = i from by omega, hk] at hk3
          cases hk3
          exact (FD_z f3).mp a
      · exact k0 s2 (fun y => a ((FD_z f3).mpr (y i w l hk))) (kqt K K2 (by decide) (by decide))
theorem fm_300 {n M : Nat} {x1 : Int32} {s : ps_S} {R : Int32 → ps_S → Prop} (hm : 1 ≤ m ∧ m ≤ 3) (hw : WFt h) (hb : BTh h) (H : MQj s b m h) (G : MG s m M h.1) (h1 : x1.toInt = m) (k1 : ∀ s', AX h m M → kq [1150, 1173, 1174, 1175] [] s s' → R 1 s') (k0 : ∀ s', ¬ AX h m M → kq [1150, 1173, 1174, 1175] [] s s' → R 0 s') : pl_Cl n 300 [.ref 1131, .int x1] s (ps_rI R) := by
  cases n with
  | zero => exact pl_At_0
  | succ n =>
  show pl_At (n + 1) 300 0 [(0, .ref 1131), (1, .int x1)] [] s (ps_rI R)
  exact pl_300_0 (fm_300_2 hm hw hb H G h1 k1 k0 n (i := 0) rfl kq_refl (fun k w l hk => absurd hk (Nat.not_lt_zero _)))
/-- a model laid -/
theorem uar_ne {s : ps_S} {r r' i : Nat} {v : Int32} (h : r' ≠ r) : ps_a (ps_ua s r i v) r' = ps_a s r' := by
  funext j
  rw [ps_a_ua, if_neg (fun w => h w.1)]
theorem fm_293_9 {l : List Nat} {M : Nat} {s0 : ps_S} {R : ps_S → Prop} (hM : M < 100000) (hb : ∀ b, b ∈ l → 1 ≤ b ∧ b ≤ 3) (h90 : l.length ≤ 90) (D0 : mv_Dg s0 l) (k : ∀ s', kq [1169] [] s0 s' → (∀ (j b : Nat), l[j]? = some b → (ps_a s' 1169 j).toInt = dD l M j) → R s') : ∀ (n : Nat) {s : ps_S} {x2 x3 : Int32} {i : Nat}, x3.toInt = (i : Int) - 1 → i ≤ l.length → x2.toInt = rst (l.drop i) M → kq [1169] [] s0 s → (∀ (j b : Nat), i ≤ j → l[j]? = some b → (ps_a s 1169 j).toInt = dD l M j) → pl_At n 293 9 [(0, .ref 1131), (2, .int x2), (3, .int x3)] [] s (ps_rV R)
  | 0, _, _, _, _, _, _, _, _, _ => pl_At_0
  | n + 1, s, x2, x3, i, h3, hi, h2, K, hj => by
    have c0 : (0 : Int32).toInt = 0 := by decide
    refine pl_293_9 ⟨fun z => ?_, fun z => ?_⟩
    · have z := xlt z
      exact k s K (fun j b hb => hj j b (by omega) hb)
    · have z := xle z
      have h3' : x3.toInt = (i - 1 : Nat) := by omega
      obtain ⟨b, hb'⟩ : ∃ b, l[i - 1]? = some b := ⟨_, List.getElem?_eq_getElem (by omega)⟩
      have hbb := hb b (List.mem_of_getElem? hb')
      have hr : rst (l.drop i) M ≤ M := rst_le
      have ev : (ps_a s 1170 (i - 1)).toInt = b := by
        rw [kq_a K 1170 (by decide)]
        exact D0.2 _ _ hb'
      rw [xtn h3', uar_ne (by decide)]
      generalize ps_a s 1170 (i - 1) = v at ev ⊢
      intro _
      refine pl_nk_i (fun _ => ?_)
      intro _ _
      refine pl_nk_i (fun _ => ?_)
      have ed : (x2 - (x2 / v) * v).toInt = (rst (l.drop i) M % b : Nat) := by rw [xmodr (by omega) (by omega), h2, ev, Int.natCast_emod]
      refine fm_293_9 hM hb h90 D0 k n (xmin1 h3') (by omega) ?_ (kqa K rfl) (fun j b' hj2 hb2 => ?_)
      · rw [xdivr (by omega) (by omega), h2, ev, drop_c hb', show i - 1 + 1 = i from by omega, ← Int.natCast_ediv]
        rfl
      · rw [ps_a_ua]
        by_cases e : j = i - 1
        · rw [if_pos ⟨rfl, e⟩, ed, e]
          unfold dD
          rw [show i - 1 + 1 = i from by omega, List.getD_eq_getElem?_getD, hb']
          rfl
        · rw [if_neg (fun w => e w.2)]
          exact hj j b' (by omega) hb2
theorem fm_293 {n M : Nat} {l : List Nat} {x1 : Int32} {s : ps_S} {R : ps_S → Prop} (hM : M < 100000) (hb : ∀ b, b ∈ l → 1 ≤ b ∧ b ≤ 3) (h90 : l.length ≤ 90) (D0 : mv_Dg s l) (hx : x1.toInt = M) (k : ∀ s', kq [1169] [] s s' → (∀ (j b : Nat), l[j]? = some b → (ps_a s' 1169 j).toInt = dD l M j) → R s') : pl_Cl n 293 [.ref 1131, .int x1] s (ps_rV R) := by
  cases n with
  | zero => exact pl_At_0
  | succ n =>
  show pl_At (n + 1) 293 0 [(0, .ref 1131), (1, .int x1)] [] s (ps_rV R)
  have c1 : (1 : Int32).toInt = 1 := by decide
  have hl := D0.1
  refine pl_293_0 ?_
  refine fm_293_9 hM hb h90 D0 k n (i := l.length) (by rw [xIs (by omega) (by omega), hl, c1]) (Nat.le_refl _) ?_ kq_refl (fun j b a hb2 => ?_)
  · rw [List.drop_length]
    exact hx
  · have := (List.getElem?_eq_some_iff.mp hb2).1
    omega
theorem MQj_90 {s : ps_S} (hm : 1 ≤ m ∧ m ≤ 3) (H : MQj s b m h) : (md_B m (md_sy m h.1)).length ≤ 90 := by
  have hl := md_o_le hm.2 (mv_E_ar (m := m) H.1.2.2.1) (md_sy m h.1).length (Nat.le_refl _)
  unfold md_o at hl
  rw [List.take_length, md_sy_len] at hl
  have := H.1.2.2.1.2.2.1
  have := H.1.2.2.1.2.2.2.1
  omega
/-- hold() of the reference -/
theorem fm_302_11 {p : Nat} {x1 x2 : Int32} {R : Int32 → ps_S → Prop} (hm : 1 ≤ m ∧ m ≤ 3) (hw : WFt h) (hb : BTh h) (h1 : x1.toInt = m) (hv : x2.toInt = md_v p) (hn2 : ∀ v : Int32, ∀ s', ((4096 < p ∧ v.toInt = -2) ∨ (p ≤ 4096 ∧ v.toInt = lt_n (AX h m) p)) → R v s') : ∀ (n : Nat) {s : ps_S} {x3 x4 : Int32} {i : Nat}, x4.toInt = i → (i = 0 ∨ (i : Int) ≤ x2.toInt) → x3.toInt = lt_n (AX h m) i → MQj s b m h → pl_At n 302 11 [(0, .ref 1131), (1, .int x1), (2, .int x2), (3, .int x3), (4, .int x4)] [] s (ps_rI R)
  | 0, _, _, _, _, _, _, _, _ => pl_At_0
  | n + 1, s, x3, x4, i, h4, hi, h3, H => by
    have hle := lt_n_le (P := AX h m) (k := i)
    have c0 : (0 : Int32).toInt = 0 := by decide
    have hp : (x2.toInt = -2 ∧ 4096 < p) ∨ (x2.toInt = p ∧ p ≤ 4096) := by
      rw [hv]
      unfold md_v
      by_cases z : p ≤ 4096
      · rw [if_pos z]; exact Or.inr ⟨rfl, z⟩
      · rw [if_neg z]; exact Or.inl ⟨rfl, by omega⟩
    refine pl_302_11 ⟨fun z => ⟨fun y => ?_, fun y => ?_⟩, fun z => ?_⟩
    · have z := xle z
      have y := xle y
      have e : i = p := by omega
      exact hn2 _ _ (Or.inr ⟨by omega, by rw [h3, e]⟩)
    · have y := xlt y
      exact hn2 _ _ (Or.inl ⟨by omega, by omega⟩)
    · have z := xlt z
      refine fm_293 (M := i) (by omega) (fun b hb2 => md_b3 hm hb2) (MQj_90 hm H) H.2.1 h4 (fun s1 K1 G1 => ?_)
      have H1 : MQj s1 b m h := MQj_kq H (kqt kq_refl K1 (by decide) (by decide))
      refine fm_300 (M := i) hm hw hb H1 G1 h1 (fun s2 a K2 => ⟨fun y => absurd y (by decide), fun _ => ?_⟩) (fun s2 a K2 => ⟨fun _ => ?_, fun y => absurd rfl y⟩)
      · refine fm_302_11 hm hw hb h1 hv hn2 n (xj1 h4 (by omega)) (Or.inr (by omega)) ?_ (MQj_kq H1 (kqt kq_refl K2 (by decide) (by decide)))
        rw [lt_n_1 a]
        exact xj1 h3 (by omega)
      · refine fm_302_11 hm hw hb h1 hv hn2 n (xj1 h4 (by omega)) (Or.inr (by omega)) ?_ (MQj_kq H1 (kqt kq_refl K2 (by decide) (by decide)))
        rw [lt_n_0 a, xIa (by omega) (by omega), h3, c0]
        omega
theorem fm_302 {n : Nat} {s : ps_S} {l : List Nat} {x1 : Int32} (t : TRm s h l) (hw : WFt h) (hb : BTh h) : pl_Cl n 302 [.ref 1131, .int x1] s (ps_rI (fun v _ => HO_A h x1 v)) := by
  cases n with
  | zero => exact pl_At_0
  | succ n =>
  show pl_At (n + 1) 302 0 [(0, .ref 1131), (1, .int x1)] [] s _
  obtain ⟨b, t1, t2, t3, t4⟩ := t
  refine pl_302_0 ?_
  refine fm_301 t1 t2 t3.1 (fun v1 s1 a1 a2 e L K => ?_) (fun z => ?_)
  · refine fm_302_11 (b := b) (m := x1.toInt.toNat) (h := h) (by omega) hw hb (by omega) e (fun v s' a => Or.inr ⟨⟨a1, a2⟩, a⟩) n (i := 0) rfl (Or.inl rfl) rfl ⟨⟨t1, by rw [kq_i K 21 rfl]; exact t2, mv_H_kq t3 K (by decide)⟩, L⟩
  · cases n with
    | zero => exact pl_At_0
    | succ n =>
    exact pl_302_11 ⟨fun _ => ⟨fun y => absurd (xle y) (by decide), fun _ => Or.inl ⟨z, by decide⟩⟩, fun y => absurd (xlt y) (by decide)⟩
/-- counter() of the reference -/
theorem fm_304_47 {p : Nat} {l : List Nat} {x1 x2 : Int32} {R : Int32 → ps_S → Prop} (hm : 1 ≤ m ∧ m ≤ 3) (hw : WFt h) (hb : BTh h) (hf : wf (sg h.1) 5 l [(true, 0)]) (hbc : bc (arh h.1) [(0, 0)] l) (h1 : x1.toInt = m) (h2 : x2.toInt = p) (hp : p ≤ 4096) (k : ∀ (v : Int32) s', ((∃ M : Nat, v.toInt = M ∧ M < p ∧ (AX h m M ∧ ¬ FA h l m M) ∧ ∀ M', M' < M → ¬ (AX h m M' ∧ ¬ FA h l m M')) ∨ (v.toInt = -1 ∧ ∀ M', M' < p → ¬ (AX h m M' ∧ ¬ FA h l m M'))) → R v s') : ∀ (n : Nat) {s : ps_S} {x3 : Int32} {M : Nat}, x3.toInt = M → MQj s b m h → mv_W s 25748 l → (∀ M', M' < M → ¬ (AX h m M' ∧ ¬ FA h l m M')) → pl_At n 304 47 [(0, .ref 1131), (1, .int x1), (2, .int x2), (3, .int x3)] [] s (ps_rI R)
  | 0, _, _, _, _, _, _, _ => pl_At_0
  | n + 1, s, x3, M, h3, H, W, hj => by
    refine pl_304_47 ⟨fun z => ?_, fun z => ?_⟩
    · have z := xle z
      exact k _ _ (Or.inr ⟨by decide, fun M' hM => hj M' (by omega)⟩)
    · have z := xlt z
      refine fm_293 (M := M) (by omega) (fun b hb2 => md_b3 hm hb2) (MQj_90 hm H) H.2.1 h3 (fun s1 K1 G1 => ?_)
      have H1 : MQj s1 b m h := MQj_kq H (kqt kq_refl K1 (by decide) (by decide))
      have W1 := mv_W_kq W K1 (by decide)
      refine fm_300 (M := M) hm hw hb H1 G1 h1 (fun s2 a K2 => ⟨fun y => absurd y (by decide), fun _ => ?_⟩) (fun s2 a K2 => ⟨fun _ => ?_, fun y => absurd rfl y⟩)
      · have H2 : MQj s2 b m h := MQj_kq H1 (kqt kq_refl K2 (by decide) (by decide))
        have W2 := mv_W_kq W1 K2 (by decide)
        have G2 : MG s2 m M h.1 := by
          unfold MG
          rw [kq_a K2 1169 (by decide)]
          exact G1
        refine fm_299 hm (MD_mk hm H2 G2 (by decide) W2) hf hbc (by decide) h1 (fun s3 c K3 => ⟨fun _ => ?_, fun y => absurd y (by decide)⟩) (fun s3 c K3 => ⟨fun y => absurd rfl y, fun _ => ?_⟩)
        · refine fm_304_47 hm hw hb hf hbc h1 h2 hp k n (xj1 h3 (by omega)) (MQj_kq H2 (kqt kq_refl K3 (by decide) (by decide))) (mv_W_kq W2 K3 (by decide)) (fun M' hM => ?_)
          rcases Nat.lt_or_ge M' M with y | y
          · exact hj M' y
          · rw [show M' = M from by omega]
            exact fun w => w.2 c
        · exact k _ _ (Or.inl ⟨M, h3, by omega, ⟨a, c⟩, hj⟩)
      · refine fm_304_47 hm hw hb hf hbc h1 h2 hp k n (xj1 h3 (by omega)) (MQj_kq H1 (kqt kq_refl K2 (by decide) (by decide))) (mv_W_kq W1 K2 (by decide)) (fun M' hM => ?_)
        rcases Nat.lt_or_ge M' M with y | y
        · exact hj M' y
        · rw [show M' = M from by omega]
          exact fun w => a w.1
theorem fm_304 {n : Nat} {s : ps_S} {l : List Nat} {x1 : Int32} (t : TRm s h l) (hw : WFt h) (hb : BTh h) (hf : WFf h.1 l) (hbc : l ≠ [] → bc (arh h.1) [(0, 0)] l) : pl_Cl n 304 [.ref 1131, .int x1] s (ps_rI (fun v _ => CO_A h l x1 v)) := by
  cases n with
  | zero => exact pl_At_0
  | succ n =>
  show pl_At (n + 1) 304 0 [(0, .ref 1131), (1, .int x1)] [] s _
  obtain ⟨b, t1, t2, t3, t4⟩ := t
  have c1 : (1 : Int32).toInt = 1 := by decide
  have c3 : (3 : Int32).toInt = 3 := by decide
  have c4 : (4 : Int32).toInt = 4 := by decide
  have c0 : (0 : Int32).toInt = 0 := by decide
  refine pl_304_0 ?_
  refine fm_200 (fun h1 h2 => ⟨fun z => absurd z (by decide), fun _ => ?_⟩) (fun h0 => ⟨fun _ => Or.inl ⟨Or.inl (by omega), by decide⟩, fun z => absurd rfl z⟩)
  have h1 : 1 ≤ x1.toInt := by omega
  have h2 : x1.toInt ≤ 3 := by omega
  refine fm_219c (to := 25748) (by decide) t4 (fun v2 q2 => ⟨fun y => ?_, fun y => ?_⟩)
  · have y := xne y
    have hl : l ≠ [] := fun e => by rw [e] at q2; exact y q2
    have hf' : wf (sg h.1) 5 l [(true, 0)] := by
      rcases hf with hf | hf
      · exact absurd hf hl
      · exact hf
    refine fm_301 t1 t2 t3.1 (fun v3 s3 a1 a2 e L K => ⟨fun y => ?_, fun y => ?_⟩) (fun z => absurd ⟨h1, h2⟩ z)
    · have y := xlt y
      refine Or.inr ⟨⟨⟨h1, h2⟩, hl⟩, Or.inl ⟨Or.inl ?_, by decide⟩⟩
      rw [e] at y
      unfold md_v at y
      split at y <;> omega
    · have y := xle y
      have hp : md_p (md_B x1.toInt.toNat (md_sy x1.toInt.toNat h.1)) ≤ 4096 ∧ v3.toInt = md_p (md_B x1.toInt.toNat (md_sy x1.toInt.toNat h.1)) := by
        rw [e] at y ⊢
        unfold md_v at y ⊢
        split at y
        · next w => rw [if_pos w]; exact ⟨w, rfl⟩
        · omega
      have W3 := mv_W_kq t4 K (by decide)
      refine fm_298 (to := 25748) (by decide) (by decide) W3 (fun v4 q4 => ⟨fun y => ?_, fun y => ?_⟩)
      · have y := xle y
        exact fm_304_47 (b := b) (m := x1.toInt.toNat) (h := h) (l := l) (by omega) hw hb hf' (hbc hl) (by omega) hp.2 hp.1 (fun v s' a => Or.inr ⟨⟨⟨h1, h2⟩, hl⟩, Or.inr ⟨⟨hp.1, by omega⟩, a⟩⟩) n (M := 0) rfl ⟨⟨t1, by rw [kq_i K 21 rfl]; exact t2, mv_H_kq t3 K (by decide)⟩, L⟩ W3 (fun M' hM => absurd hM (Nat.not_lt_zero _))
      · have y := xlt y
        exact Or.inr ⟨⟨⟨h1, h2⟩, hl⟩, Or.inl ⟨Or.inr (by omega), by decide⟩⟩
  · have y := xeq y
    exact Or.inl ⟨Or.inr (List.eq_nil_of_length_eq_zero (by omega)), by decide⟩
end M300
end
section
set_option maxRecDepth 100000
/-! the judge's memory, call by call -/
theorem fs_1e_2 {s0 : ps_S} {R : ps_S → Prop} (k : ∀ s', cfr (fun q => q = 957) s0 s' → (∀ j, j < 192 → ps_b s' 957 j = 0) → R s') : ∀ (n : Nat) {s : ps_S} {x1 : Int32} {i : Nat}, x1.toInt = i → cfr (fun q => q = 957) s0 s → (∀ j, j < i → ps_b s 957 j = 0) → pl_At n 1 2 [(0, .ref 944), (1, .int x1)] [] s (ps_rV R)
  | 0, _, _, _, _, _, _ => pl_At_0
  | n + 1, s, x1, i, h1, K, hj => by
    have c192 : (nI 192).toInt = 192 := by decide
    refine pl_1_2 ⟨fun z => ?_, fun z => ?_⟩
    · have z := xle z
      exact k s K (fun j hj2 => hj j (by omega))
    · have z := xlt z
      intro _
      rw [xtn h1]
      refine fs_1e_2 k n (xj1 h1 (by omega)) (cfr_b K rfl) (fun j hj2 => ?_)
      rw [ps_b_ub]
      by_cases e : j = i
      · rw [if_pos ⟨rfl, e⟩]
      · rw [if_neg (fun w => e w.2)]
        exact hj j (by omega)
theorem fs_1e {n : Nat} {s : ps_S} {R : ps_S → Prop} (k : ∀ s', cfr (fun q => q = 957) s s' → (∀ j, j < 192 → ps_b s' 957 j = 0) → R s') : pl_Cl n 1 [.ref 944] s (ps_rV R) := by
  cases n with
  | zero => exact pl_At_0
  | succ n =>
  show pl_At (n + 1) 1 0 [(0, .ref 944)] [] s (ps_rV R)
  exact pl_1_0 (fs_1e_2 (s0 := s) k n (i := 0) rfl cfr_refl (fun j hj => absurd hj (Nat.not_lt_zero _)))
theorem fs_151e_65 {R : Int32 → ps_S → Prop} (k : ∀ (v : Int32) (s' : ps_S), (∀ j, j < 192 → ps_b s' 957 j = 0) → R v s') : ∀ (n : Nat) {s : ps_S} {x3 : Int32}, pl_At n 151 65 [(0, .ref 0), (3, .int x3)] [] s (ps_rI R)
  | 0, _, _ => pl_At_0
  | n + 1, s, x3 => by
    refine pl_151_65 ⟨fun _ => ?_, fun _ => ?_⟩
    · refine fs_91 ?_
      refine fs_81d (fun s2 q2 => ?_)
      refine fs_1e (fun s3 q3 z3 => ?_)
      refine pl_nk_i (fun _ => ?_)
      exact k _ s3 z3
    · refine fs_180 (fun v76 => ?_)
      refine fs_108d (fun s5 q5 => ?_)
      exact fs_151e_65 k n
/-- the judge's memory stands or is forgotten -/
def KJ (s : ps_S) (v : Int32) (s1 : ps_S) : Prop := (v.toInt = -1 ∧ (∀ j, j < 192 → ps_b s1 957 j = ps_b s 957 j) ∧ ∀ j, j < 192 → ps_b s1 958 j = ps_b s 958 j) ∨ ∀ j, j < 192 → ps_b s1 957 j = 0
theorem fs_151e {n : Nat} {s : ps_S} {t : Int32} (hI : LI s t) (hF : LF s t) (hG : LG s) : pl_Cl n 151 [.ref 0] s (ps_rI (fun v s1 => KJ s v s1)) := by
  cases n with
  | zero => exact pl_At_0
  | succ n =>
  show pl_At (n + 1) 151 0 [(0, .ref 0)] [] s _
  have ht := LI_t hI
  have e : (ps_i s 0 1).toInt = (t.toInt.toNat : Nat) := by rw [hI.2.1.2.1]; omega
  have main : ∀ th, (th = 2 ∨ th = 26) → ps_r s 0 3 = th → cv_base s th → pl_At (n + 1) 151 0 [(0, .ref 0)] [] s (ps_rI (fun v s1 => KJ s v s1)) := fun th hth h3 hb => by
    refine pl_151_0 ?_
    rw [h3]
    refine fs_58 hth hb e (by omega) (fun k _ => bytes_T) hF.2.1 (fun s16 q16 => ⟨fun _ => ?_, fun z => absurd z (by decide)⟩) (fun s16 q16 => ⟨fun z => absurd rfl z, fun _ => ?_⟩)
    · refine fs_31d (fun s53 q53 => ?_)
      refine fs_108d (fun s60 q60 => ?_)
      exact fs_151e_65 (fun v s' z => Or.inr z) n
    · obtain ⟨h, pl, k, g, e1, e2, F⟩ := q16
      have hn : ∀ q, q = 957 ∨ q = 958 → ¬ cv_HC th q := fun q a b => by unfold cv_HC at b; omega
      refine Or.inl ⟨by decide, fun j _ => ?_, fun j _ => ?_⟩
      · show ps_b s16 957 j = ps_b s 957 j
        rw [(F 957 (hn _ (Or.inl rfl))).2.2.2.2]
      · show ps_b s16 958 j = ps_b s 958 j
        rw [(F 958 (hn _ (Or.inr rfl))).2.2.2.2]
  obtain ⟨h0, l0, b0, -, -, -, -, hr, -, -⟩ := hG
  rcases hr with ⟨r2, r3⟩ | ⟨r2, r3⟩
  · exact main 26 (Or.inr rfl) r3 hF.2.2.2.1
  · exact main 2 (Or.inl rfl) r3 hF.2.2.1
theorem JG_eq {s s' : ps_S} {h : tx_H} (H : JG s h) (h7 : ∀ j, j < 192 → ps_b s' 957 j = ps_b s 957 j) (h8 : ∀ j, j < 192 → ps_b s' 958 j = ps_b s 958 j) : JG s' h := fun m M a1 a2 a3 a4 => by
  have hb : bx m M < 192 := by unfold bx; omega
  rw [h7 _ hb] at a4
  rw [h8 _ hb]
  exact H m M a1 a2 a3 a4
theorem JG_z {s : ps_S} {h : tx_H} (h7 : ∀ j, j < 192 → ps_b s 957 j = 0) : JG s h := fun m M a1 a2 a3 a4 => by
  have hb : bx m M < 192 := by unfold bx; omega
  rw [h7 _ hb] at a4
  have e : tb 0 (M % 64) = false := by
    unfold tb
    rw [show (0 : Int64).toBitVec = 0#64 from rfl]
    exact BitVec.getLsbD_zero
  rw [e] at a4
  cases a4
theorem JG_v {h : tx_H} : pdet (fun _ s => JG s h) := fun _ w s1 s2 r1 r2 z => JG_eq z (fun j hj => ps_det_b r1 r2 (r := 957) (n := 192) (by decide) rfl hj) (fun j hj => ps_det_b r1 r2 (r := 958) (n := 192) (by decide) rfl hj)
theorem KJ_v {s : ps_S} : pdet (KJ s) := fun v w s1 s2 r1 r2 z => by
  have d7 : ∀ j, j < 192 → ps_b s1 957 j = ps_b s2 957 j := fun j hj => ps_det_b r1 r2 (r := 957) (n := 192) (by decide) rfl hj
  have d8 : ∀ j, j < 192 → ps_b s1 958 j = ps_b s2 958 j := fun j hj => ps_det_b r1 r2 (r := 958) (n := 192) (by decide) rfl hj
  rcases z with ⟨z1, z2, z3⟩ | z
  · exact Or.inl ⟨z1, fun j hj => (d7 j hj).trans (z2 j hj), fun j hj => (d8 j hj).trans (z3 j hj)⟩
  · exact Or.inr (fun j hj => (d7 j hj).trans (z j hj))
theorem fs_172J {n : Nat} {s : ps_S} {h : tx_H} {l : List Nat} {x1 : Int32} (c : TRc s h l) (G : JG s h) : pl_Cl n 172 [.ref 0, .int x1] s (ps_rI (fun v s' => md_A h.1 x1 v ∧ JG s' h)) := by
  cases n with
  | zero => exact pl_At_0
  | succ n =>
  show pl_At (n + 1) 172 0 [(0, .ref 0), (1, .int x1)] [] s _
  refine pl_172_0 ?_
  have hth : ps_r s 0 2 = 2 ∨ ps_r s 0 2 = 26 := by have := c.2.1; omega
  refine fs_181 (fun h1 h2 => ⟨fun z => absurd z (by decide), fun _ => ?_⟩) (fun h0 => ⟨fun _ => ⟨⟨fun z => absurd z h0, fun _ => by decide⟩, G⟩, fun z => absurd rfl z⟩)
  exact fs_2 (m := x1.toInt.toNat) (by omega) hth c.1.1 (by omega) (fun v s2 e _ F => ⟨⟨fun _ => e, fun z => absurd ⟨h1, h2⟩ z⟩, JG_cfr G F (by unfold JC; omega) (by unfold JC; omega)⟩)
theorem lg_ltN {x : Int32} {c : Nat} (hc : c ≤ 1099511627776) : lg_cmp (Int32.toInt64 x) (Int64.ofNat c) < 0 → x.toInt < c := fun z => by
  have e1 : (Int64.ofNat c).toInt = (c : Nat) := Int64.toInt_ofNat_of_lt (by omega)
  have e2 : (Int32.toInt64 x).toInt = x.toInt := Int32.toInt_toInt64 x
  unfold lg_cmp at z
  by_cases h : Int32.toInt64 x > Int64.ofNat c
  · rw [if_pos h] at z
    exact absurd z (by decide)
  · rw [if_neg h] at z
    by_cases e : Int32.toInt64 x = Int64.ofNat c
    · rw [if_pos e] at z
      exact absurd z (by decide)
    · have h2 : ¬ (Int64.ofNat c).toInt < (Int32.toInt64 x).toInt := fun w => h (Int64.lt_iff_toInt_lt.mpr w)
      have h3 : (Int32.toInt64 x).toInt ≠ (Int64.ofNat c).toInt := fun w => e (Int64.toInt_inj.mp w)
      omega
/-- holds() leaves what is kept as it is -/
theorem fs_174 {n : Nat} {s : ps_S} {h : tx_H} {l : List Nat} {x1 x2 : Int32} (c : TRc s h l) (hf : WFf h.1 l) (hbc : l ≠ [] → bc (arh h.1) [(0, 0)] l) (G : JG s h) : pl_Cl n 174 [.ref 0, .int x1, .int x2] s (ps_rI (fun v s' => JG s' h)) := by
  cases n with
  | zero => exact pl_At_0
  | succ n =>
  show pl_At (n + 1) 174 0 [(0, .ref 0), (1, .int x1), (2, .int x2)] [] s _
  refine pl_174_0 ?_
  have hth : ps_r s 0 2 = 2 ∨ ps_r s 0 2 = 26 := by have := c.2.1; omega
  have h8 := c.1.2.2.1
  have hsz := c.2.2.1
  have hl40 := c.2.2.2.2.1
  have c0 : (0 : Int32).toInt = 0 := by decide
  have c4 : (4 : Int32).toInt = 4 := by decide
  refine fs_181 (fun h1 h2 => ⟨fun z => absurd z (by decide), fun _ => ⟨fun _ => G, fun z2 => ⟨fun z => ?_, fun _ => G⟩⟩⟩) (fun h0 => ⟨fun _ => G, fun z => absurd rfl z⟩)
  have z := xne z
  have z2 := xle z2
  have hl : l ≠ [] := fun y => by rw [y] at hsz; exact z hsz
  have hf : wf (sg h.1) 5 l [(true, 0)] := by
    rcases hf with hf | hf
    · exact absurd hf hl
    · exact hf
  cases n with
  | zero => exact pl_At_0
  | succ n =>
  show pl_At (n + 1) 4 0 [(0, .ref 944), (1, .ref (ps_r s 0 2)), (2, .ref 934), (3, .int x1), (4, .int x2)] [] s _
  refine pl_4_0 ?_
  refine fs_6 (m := x1.toInt.toNat) (by omega) hth c.1.1 (by omega) (fun s1 J K => ?_)
  have F := JC_of K
  have hq := lg4096 (c := min (md_p (md_B x1.toInt.toNat (md_sy x1.toInt.toNat h.1))) 1099511627776) (Nat.min_le_right _ _)
  have H1 := cv_H_cfr c.1 F (fun q a b => by unfold JC; omega)
  have W1 := cv_W_cfr c.2.2 F (by unfold JC; omega) (by unfold JC; omega)
  have G1 : JG s1 h := JG_cfr G F (by unfold JC; omega) (by unfold JC; omega)
  refine ⟨fun y0 => ?_, fun _ => G1⟩
  have y0 := lg_ltN (Nat.min_le_right _ _) y0
  refine fs_13 W1 (fun s2 FF2 K2 => ?_)
  have hne : ∀ q, q = 944 ∨ [956].contains q = true → q = 944 ∨ q = 956 := fun q b => by
    rcases b with b | b
    · exact Or.inl b
    · have := List.contains_iff_mem.mp b
      rw [List.mem_singleton] at this
      exact Or.inr this
  have F2 : cfr (fun q => q = 944 ∨ q = 956) s1 s2 := cfr_mono (jq_cfr K2) hne
  have G2 : JG s2 h := JG_cfr G1 F2 (by omega) (by omega)
  have H2 := cv_H_cfr H1 F2 (fun q a b => by omega)
  have W2 := cv_W_cfr W1 F2 (by omega) (by omega)
  have hff := FF2.1
  refine ⟨fun _ => G2, fun y => ⟨fun y2 => ?_, fun _ => G2⟩⟩
  have y := hq.1.mp y
  have y2 := xle y2
  have er2 : ps_r s2 944 16 = ps_r s 0 2 := by rw [jq_r K2]; exact J.1
  rw [er2]
  refine fs_103 (r := 950) (r1 := 934) (l := l) rfl rfl hth ⟨by omega, by omega⟩ (wf_ws hf) (Or.inl rfl) W2 H2.1 (fun s3 Z F3 => ?_)
  have G3 : JG s3 h := JG_cfr G2 F3 (by unfold CSh; omega) (by unfold CSh; omega)
  have W3 := cv_W_cfr W2 F3 (by unfold CSh; omega) (by unfold CSh; omega)
  have J2 : JB s2 (ps_r s 0 2) x1.toInt.toNat h := JB_cfr ⟨H1, J⟩ F2 hth (fun q a b => by omega) (by rw [jq_r K2]) (jq_i K2 2 rfl) (jq_i K2 11 rfl)
  have f3 := F3 944 (by unfold CSh; omega)
  have J3 : JB s3 (ps_r s 0 2) x1.toInt.toNat h := JB_cfr J2 F3 hth (fun q a b => by unfold CSh at b; omega) (f3.2.2.1 16) (f3.1 2) (f3.1 11)
  have FF3 : FF s3 l 12 := by
    unfold FF
    rw [f3.1, (F3 956 (by unfold CSh; omega)).2.2.2.1]
    exact FF2
  have h90 : (md_B x1.toInt.toNat (md_sy x1.toInt.toNat h.1)).length ≤ 90 := by
    have hl2 := md_o_le (m := x1.toInt.toNat) (by omega) (md_sy_ar (m := x1.toInt.toNat) c.1.1) (md_sy x1.toInt.toNat h.1).length (Nat.le_refl _)
    unfold md_o at hl2
    rw [List.take_length, md_sy_len] at hl2
    have := c.1.1.2.2.1
    have := c.1.1.2.2.2.1
    omega
  refine fs_8 (M := x2.toInt.toNat) (by omega) (fun b hb2 => md_b3 (by omega) hb2) h90 J3.2.2.2.1 (by omega) (fun s4 K4 D => ?_)
  have hne4 : ∀ q, q = 944 ∨ [946].contains q = true → q = 944 ∨ q = 946 := fun q b => by
    rcases b with b | b
    · exact Or.inl b
    · have := List.contains_iff_mem.mp b
      rw [List.mem_singleton] at this
      exact Or.inr this
  have F4 : cfr (fun q => q = 944 ∨ q = 946) s3 s4 := cfr_mono (jq_cfr K4) hne4
  have G4 : JG s4 h := JG_cfr G3 F4 (by omega) (by omega)
  have J4 : JB s4 (ps_r s 0 2) x1.toInt.toNat h := JB_cfr J3 F4 hth (fun q a b => by omega) (by rw [jq_r K4]) (jq_i K4 2 rfl) (jq_i K4 11 rfl)
  have W4 := cv_W_cfr W3 F4 (by omega) (by omega)
  have E4 : shE s4 950 (arh h.1) l 0 := fun j a b => by
    rw [(F4 951 (by omega)).2.2.2.1]
    exact Z.1 j a b
  have FF4 : FF s4 l 12 := by
    unfold FF
    rw [(funext fun f => jq_i K4 f rfl : ps_i s4 944 = ps_i s3 944), (F4 956 (by omega)).2.2.2.1]
    exact FF3
  refine fs_14 (M := x2.toInt.toNat) hth (by omega) hf (hbc hl) hl40 (by omega) ⟨J4, W4, E4, FF4, D⟩ (fun s5 q => ⟨fun y => absurd y (by decide), fun _ => ?_⟩) (fun s5 q => ⟨fun _ => ?_, fun y => absurd rfl y⟩)
  · exact JG_cfr G4 q.2.2.1 (by unfold CFo; omega) (by unfold CFo; omega)
  · exact JG_cfr G4 q.2.2.1 (by unfold CFo; omega) (by unfold CFo; omega)
end
section
set_option maxRecDepth 100000
/-! call by call: what holds before both sides' calls holds behind them -/
theorem ps_monoJ {d y : Nat} {args : List Value} {s : ps_S} {f g : Int64 → ps_S → Prop} (h : ps_Cl d y args s (ps_rJ f)) (k : ∀ v s', f v s' → g v s') : ps_Cl d y args s (ps_rJ g) := h.mono (fun _ s' z => rJ_mono z (fun v p => k v s' p))
theorem all_no {A : List Nat} {P : Nat → Bool} (hA : A.all P = true) {r : Nat} (hr : P r = false) : A.contains r = false := by
  cases e : A.contains r with
  | false => rfl
  | true =>
    rw [List.all_eq_true] at hA
    have := hA r (List.contains_iff_mem.mp e)
    rw [hr] at this
    cases this
def pA (a : Nat) : Bool := Nat.ble 1131 a && ![1132, 1135, 1136, 1137, 1138, 1139, 1140, 1141, 1142].contains a
theorem IMs_m {s s' : ps_S} {t : Int32} {u u' : Int} {A F : List Nat} (H : IMs s t u) (X : LX s' t u') (e : u' = t.toInt) (J : mJ s.1.2.2 t s') (K : kp A F s s') (hA : A.all pA = true) (hF : F.contains 21 = false) (hV : ∀ k, (21812 ≤ k ∧ k < 22468) ∨ (25748 ≤ k ∧ k < 25789) → ps_a s' 1134 k = ps_a s 1134 k) : ISt s' t := by
  refine ⟨LX_LI X e, LF_m H.2.1 J K (all_no hA rfl) (all_no hA rfl) (all_no hA rfl) (all_no hA rfl) (all_no hA rfl), LG_m H.2.2 J K ?_ hF hV⟩
  rw [List.all_eq_true] at hA ⊢
  intro a ha
  have z := hA a ha
  unfold pA at z
  rw [Bool.and_eq_true] at z ⊢
  refine ⟨z.1, ?_⟩
  have z2 := z.2
  rw [Bool.not_eq_true'] at z2 ⊢
  rw [Bool.eq_false_iff] at z2 ⊢
  intro q
  exact z2 (List.contains_iff_mem.mpr (List.mem_cons_of_mem _ (List.contains_iff_mem.mp q)))
theorem TRm_m {s s' : ps_S} {t : Int32} {A F : List Nat} {h : tx_H} {l : List Nat} (H : TRm s h l) (K : kp A F s s') (hA : A.all pA = true) (hF : F.contains 21 = false) (hV : ∀ k, (21812 ≤ k ∧ k < 22468) ∨ (25748 ≤ k ∧ k < 25789) → ps_a s' 1134 k = ps_a s 1134 k) : TRm s' h l := by
  obtain ⟨b, m1, m2, m3, m4⟩ := H
  refine ⟨b, m1, by rw [kp_i K 21 hF]; exact m2, mv_H_V m1 m3 (fun r hr => (K.2 r (all_no hA ?_)).1) (fun r hr => (K.2 r (all_no hA ?_)).2) (fun k a b => hV k (Or.inl ⟨a, b⟩)), mv_W_V m4 (fun k a b => hV k (Or.inr ⟨by omega, by omega⟩))⟩
  · exact (show ∀ r, r ∈ [1135, 1136, 1137, 1138, 1139] → pA r = false by decide) r hr
  · exact (show ∀ r, r ∈ [1140, 1141, 1142] → pA r = false by decide) r hr

theorem cx_152 {s : ps_S} {t : Int32} {x1 : Int32} (hI : LI s t) (hF : LF s t) : ps_Cl 299 152 [.ref 0, .int x1] s (ps_rI (fun _ s1 => XK t (fun _ => False) s s1)) :=
  xs_152 (d := 299) (LI_J hI) (fun v => ⟨LI_J hI, cfr_refl, ⟨rfl, rfl⟩, fun _ _ => rfl⟩)
theorem cm_199 {s : ps_S} {t : Int32} {u : Int} {x1 : Int32} (hM : IMs s t u) (hu : u = t.toInt) : ps_Cl 299 199 [.ref 1131, .int x1] s (ps_rI (fun _ s2 => ISt s2 t)) :=
  ms_199 (d := 299) hM.1.2.1 (fun v => IMs_L hM hu)
theorem cm_240 {s : ps_S} {t : Int32} {u : Int}  (hM : IMs s t u) (hu : (0 : Int) = t.toInt) : ps_Cl 299 240 [.ref 1131] s (ps_rI (fun _ s2 => ISt s2 t)) := by
  obtain ⟨σ, h4⟩ := hM.1.2.2.2.1
  exact mw_240 (d := 292) hM.1.2.1 h4 (gv := ps_a s 1134) (fun k _ => rfl) (fun v s2 J2 K2 p0 p1 pV => IMs_m hM (LX_mk hM.1 J2 (p1) (⟨σ, p0⟩) (LX_D hM.1 K2 rfl) (LX_F hM.1 K2 rfl)) hu J2 K2 rfl rfl (fun k hk => pV k (by omega)))
theorem cx_154 {s : ps_S} {t : Int32} {x1 : Int32} (hI : LI s t) (hF : LF s t) : ps_Cl 299 154 [.ref 0, .int x1] s (ps_rI (fun _ s1 => XK t (fun _ => False) s s1)) :=
  xs_154 (d := 299) (LI_J hI) (fun v => ⟨LI_J hI, cfr_refl, ⟨rfl, rfl⟩, fun _ _ => rfl⟩)
theorem cm_261 {s : ps_S} {t : Int32} {u : Int} {x1 : Int32} (hM : IMs s t u) (hu : u = t.toInt) : ps_Cl 299 261 [.ref 1131, .int x1] s (ps_rI (fun _ s2 => ISt s2 t)) :=
  ms_261 (d := 299) hM.1.2.1 (fun v => IMs_L hM hu)
theorem cx_155 {s : ps_S} {t : Int32} {x1 : Int32} {x2 : Int32} (hI : LI s t) (hF : LF s t) : ps_Cl 299 155 [.ref 0, .int x1, .int x2] s (ps_rI (fun _ s1 => XK t (fun _ => False) s s1)) :=
  xs_155 (d := 298) (LI_J hI) (fun v => ⟨LI_J hI, cfr_refl, ⟨rfl, rfl⟩, fun _ _ => rfl⟩)
theorem cm_263 {s : ps_S} {t : Int32} {u : Int} {x1 : Int32} {x2 : Int32} (hM : IMs s t u) (hu : u = t.toInt) : ps_Cl 299 263 [.ref 1131, .int x1, .int x2] s (ps_rI (fun _ s2 => ISt s2 t)) :=
  ms_263 (d := 297) hM.1.2.1 (fun v => IMs_L hM hu)
theorem cx_156 {s : ps_S} {t : Int32} {x1 : Int32} {x2 : Int32} (hI : LI s t) (hF : LF s t) : ps_Cl 299 156 [.ref 0, .int x1, .int x2] s (ps_rI (fun _ s1 => XK t (fun _ => False) s s1)) :=
  xs_156 (d := 298) (LI_J hI) (fun v => ⟨LI_J hI, cfr_refl, ⟨rfl, rfl⟩, fun _ _ => rfl⟩)
theorem cm_265 {s : ps_S} {t : Int32} {u : Int} {x1 : Int32} {x2 : Int32} (hM : IMs s t u) (hu : u = t.toInt) : ps_Cl 299 265 [.ref 1131, .int x1, .int x2] s (ps_rI (fun _ s2 => ISt s2 t)) :=
  ms_265 (d := 297) hM.1.2.1 (fun v => IMs_L hM hu)
theorem cx_157 {s : ps_S} {t : Int32} {x1 : Int32} {x2 : Int32} {x3 : Int32} (hI : LI s t) (hF : LF s t) : ps_Cl 299 157 [.ref 0, .int x1, .int x2, .int x3] s (ps_rI (fun _ s1 => XK t (fun _ => False) s s1)) :=
  xs_157 (d := 297) (LI_J hI) (fun v => ⟨LI_J hI, cfr_refl, ⟨rfl, rfl⟩, fun _ _ => rfl⟩)
theorem cm_266 {s : ps_S} {t : Int32} {u : Int} {x1 : Int32} {x2 : Int32} {x3 : Int32} (hM : IMs s t u) (hu : u = t.toInt) : ps_Cl 299 266 [.ref 1131, .int x1, .int x2, .int x3] s (ps_rI (fun _ s2 => ISt s2 t)) :=
  ms_266 (d := 297) hM.1.2.1 (fun v => IMs_L hM hu)
theorem cm_268 {s : ps_S} {t : Int32} {u : Int}  (hM : IMs s t u) (hu : u = t.toInt) : ps_Cl 299 268 [.ref 1131] s (ps_rI (fun _ s2 => ISt s2 t)) := by
  obtain ⟨σ, h4⟩ := hM.1.2.2.2.1
  exact mw_268 (d := 298) hM.1.2.1 h4 (gv := ps_a s 1134) (fun k _ => rfl) (fun v s2 J2 K2 p0 pV => IMs_m hM (LX_mk hM.1 J2 (LX_3 hM.1 K2 rfl) (⟨σ, p0⟩) (LX_D hM.1 K2 rfl) (LX_F hM.1 K2 rfl)) hu J2 K2 rfl rfl (fun k hk => pV k (by omega)))
theorem cx_159 {s : ps_S} {t : Int32} {x1 : Int32} {x2 : Int32} (hI : LI s t) (hF : LF s t) : ps_Cl 299 159 [.ref 0, .int x1, .int x2] s (ps_rI (fun _ s1 => XK t (fun _ => False) s s1)) :=
  xs_159 (d := 298) (LI_J hI) (fun v => ⟨LI_J hI, cfr_refl, ⟨rfl, rfl⟩, fun _ _ => rfl⟩)
theorem cm_269 {s : ps_S} {t : Int32} {u : Int} {x1 : Int32} {x2 : Int32} (hM : IMs s t u) (hu : u = t.toInt) : ps_Cl 299 269 [.ref 1131, .int x1, .int x2] s (ps_rI (fun _ s2 => ISt s2 t)) :=
  ms_269 (d := 297) hM.1.2.1 (fun v => IMs_L hM hu)
theorem cx_160 {s : ps_S} {t : Int32} {x1 : Int32} {x2 : Int32} (hI : LI s t) (hF : LF s t) : ps_Cl 299 160 [.ref 0, .int x1, .int x2] s (ps_rI (fun _ s1 => XK t (fun _ => False) s s1)) :=
  xs_160 (d := 298) (LI_J hI) (fun v => ⟨LI_J hI, cfr_refl, ⟨rfl, rfl⟩, fun _ _ => rfl⟩)
theorem cm_271 {s : ps_S} {t : Int32} {u : Int} {x1 : Int32} {x2 : Int32} (hM : IMs s t u) (hu : u = t.toInt) : ps_Cl 299 271 [.ref 1131, .int x1, .int x2] s (ps_rI (fun _ s2 => ISt s2 t)) :=
  ms_271 (d := 298) hM.1.2.1 (fun v => IMs_L hM hu)
theorem cm_273 {s : ps_S} {t : Int32} {u : Int}  (hM : IMs s t u) (hu : u = t.toInt) : ps_Cl 299 273 [.ref 1131] s (ps_rI (fun _ s2 => ISt s2 t)) := by
  obtain ⟨σ, h4⟩ := hM.1.2.2.2.1
  exact ms_273 (d := 298) hM.1.2.1 h4 (fun v s2 J2 K2 p0 => IMs_m hM (LX_mk hM.1 J2 (LX_3 hM.1 K2 rfl) (⟨σ, p0⟩) (LX_D hM.1 K2 rfl) (LX_F hM.1 K2 rfl)) hu J2 K2 rfl rfl (LG_p K2 rfl))
theorem cx_163 {s : ps_S} {t : Int32} {x1 : Int32} (hI : LI s t) (hF : LF s t) : ps_Cl 299 163 [.ref 0, .int x1] s (ps_rI (fun _ s1 => XK t (fun _ => False) s s1)) :=
  xs_163 (d := 298) (LI_J hI) (fun v => ⟨LI_J hI, cfr_refl, ⟨rfl, rfl⟩, fun _ _ => rfl⟩)
theorem cm_275 {s : ps_S} {t : Int32} {u : Int} {x1 : Int32} (hM : IMs s t u) (hu : u = t.toInt) : ps_Cl 299 275 [.ref 1131, .int x1] s (ps_rI (fun _ s2 => ISt s2 t)) :=
  ms_275 (d := 297) hM.1.2.1 (fun v => IMs_L hM hu)
theorem cx_164 {s : ps_S} {t : Int32}  (hI : LI s t) (hF : LF s t) : ps_Cl 299 164 [.ref 0] s (ps_rI (fun _ s1 => XK t (fun _ => False) s s1)) :=
  xs_164 (d := 297) (LI_J hI) (fun v => ⟨LI_J hI, cfr_refl, ⟨rfl, rfl⟩, fun _ _ => rfl⟩)
theorem cm_276 {s : ps_S} {t : Int32} {u : Int}  (hM : IMs s t u) (hu : u = t.toInt) : ps_Cl 299 276 [.ref 1131] s (ps_rI (fun _ s2 => ISt s2 t)) :=
  ms_276 (d := 297) hM.1.2.1 (fun v => IMs_L hM hu)
theorem cx_165 {s : ps_S} {t : Int32} {x1 : Int32} (hI : LI s t) (hF : LF s t) : ps_Cl 299 165 [.ref 0, .int x1] s (ps_rJ (fun _ s1 => XK t (fun _ => False) s s1)) :=
  xs_165 (d := 298) (LI_J hI) (fun v => ⟨LI_J hI, cfr_refl, ⟨rfl, rfl⟩, fun _ _ => rfl⟩)
theorem cm_267 {s : ps_S} {t : Int32} {u : Int} {x1 : Int32} (hM : IMs s t u) (hu : u = t.toInt) : ps_Cl 299 267 [.ref 1131, .int x1] s (ps_rJ (fun _ s2 => ISt s2 t)) :=
  ms_267 (d := 297) hM.1.2.1 (fun v => IMs_L hM hu)
theorem cm_280 {s : ps_S} {t : Int32} {u : Int}  (hM : IMs s t u) (hu : u = t.toInt) : ps_Cl 299 280 [.ref 1131] s (ps_rI (fun _ s2 => ISt s2 t)) := by
  obtain ⟨σ, h4⟩ := hM.1.2.2.2.1
  exact ms_280 (d := 295) hM.1.2.1 h4 (fun v s2 J2 K2 => IMs_m hM (LX_mk hM.1 J2 (LX_3 hM.1 K2 rfl) (LX_M hM.1 K2 rfl rfl rfl rfl rfl rfl rfl rfl rfl rfl rfl) (LX_D hM.1 K2 rfl) (LX_F hM.1 K2 rfl)) hu J2 K2 rfl rfl (LG_p K2 rfl))
theorem cm_281 {s : ps_S} {t : Int32} {u : Int}  (hM : IMs s t u) (hu : u = t.toInt) : ps_Cl 299 281 [.ref 1131] s (ps_rI (fun _ s2 => ISt s2 t)) := by
  obtain ⟨σ, h4⟩ := hM.1.2.2.2.1
  exact ms_281 (d := 295) hM.1.2.1 h4 (fun v s2 J2 K2 => IMs_m hM (LX_mk hM.1 J2 (LX_3 hM.1 K2 rfl) (LX_M hM.1 K2 rfl rfl rfl rfl rfl rfl rfl rfl rfl rfl rfl) (LX_D hM.1 K2 rfl) (LX_F hM.1 K2 rfl)) hu J2 K2 rfl rfl (LG_p K2 rfl))
theorem cm_282 {s : ps_S} {t : Int32} {u : Int}  (hM : IMs s t u) (hu : u = t.toInt) : ps_Cl 299 282 [.ref 1131] s (ps_rI (fun _ s2 => ISt s2 t)) := by
  obtain ⟨σ, h4⟩ := hM.1.2.2.2.1
  exact ms_282 (d := 295) hM.1.2.1 h4 (fun v s2 J2 K2 => IMs_m hM (LX_mk hM.1 J2 (LX_3 hM.1 K2 rfl) (LX_M hM.1 K2 rfl rfl rfl rfl rfl rfl rfl rfl rfl rfl rfl) (LX_D hM.1 K2 rfl) (LX_F hM.1 K2 rfl)) hu J2 K2 rfl rfl (LG_p K2 rfl))
theorem cm_288 {s : ps_S} {t : Int32} {u : Int}  (hM : IMs s t u) (hu : (0 : Int) = t.toInt) : ps_Cl 299 288 [.ref 1131] s (ps_rI (fun _ s2 => ISt s2 t)) := by
  obtain ⟨σ, h4⟩ := hM.1.2.2.2.1
  exact mw_288 (d := 293) hM.1.2.1 h4 (gv := ps_a s 1134) (fun k _ => rfl) (fun v s2 J2 K2 p0 p1 pV => IMs_m hM (LX_mk hM.1 J2 (p1) (⟨σ, p0⟩) (LX_D hM.1 K2 rfl) (LX_F hM.1 K2 rfl)) hu J2 K2 rfl rfl (fun k hk => pV k (by omega)))
theorem cx_170 {s : ps_S} {t : Int32} {x1 : Int32} (hI : LI s t) (hF : LF s t) : ps_Cl 299 170 [.ref 0, .int x1] s (ps_rI (fun _ s1 => XK t (fun _ => False) s s1)) :=
  xs_170 (d := 298) (LI_J hI) (fun v => ⟨LI_J hI, cfr_refl, ⟨rfl, rfl⟩, fun _ _ => rfl⟩)
theorem cm_289 {s : ps_S} {t : Int32} {u : Int} {x1 : Int32} (hM : IMs s t u) (hu : u = t.toInt) : ps_Cl 299 289 [.ref 1131, .int x1] s (ps_rI (fun _ s2 => ISt s2 t)) :=
  ms_289 (d := 297) hM.1.2.1 (fun v => IMs_L hM hu)
theorem cm_285 {s : ps_S} {t : Int32} {u : Int}  (hM : IMs s t u) (hu : u = t.toInt) : ps_Cl 299 285 [.ref 1131] s (ps_rI (fun _ s2 => ISt s2 t)) := by
  obtain ⟨σ, h4⟩ := hM.1.2.2.2.1
  exact ms_285 (d := 296) hM.1.2.1 h4 (fun v s2 J2 K2 => IMs_m hM (LX_mk hM.1 J2 (LX_3 hM.1 K2 rfl) (LX_M hM.1 K2 rfl rfl rfl rfl rfl rfl rfl rfl rfl rfl rfl) (LX_D hM.1 K2 rfl) (LX_F hM.1 K2 rfl)) hu J2 K2 rfl rfl (LG_p K2 rfl))
theorem cm_301 {s : ps_S} {t : Int32} {u : Int} {x1 : Int32} (hM : IMs s t u) (hu : u = t.toInt) : ps_Cl 299 301 [.ref 1131, .int x1] s (ps_rI (fun _ s2 => ISt s2 t)) := by
  obtain ⟨σ, h4⟩ := hM.1.2.2.2.1
  exact ms_301 (d := 297) hM.1.2.1 (MI_S h4) (fun v s2 J2 K2 p0 p1 p2 => IMs_m hM (LX_mk hM.1 J2 (LX_3 hM.1 K2 rfl) (LX_M hM.1 K2 rfl rfl rfl rfl rfl rfl rfl rfl rfl rfl rfl) (LX_D hM.1 K2 rfl) (LX_F hM.1 K2 rfl)) hu J2 K2 rfl rfl (LG_p K2 rfl))
theorem cm_302 {s : ps_S} {t : Int32} {u : Int} {x1 : Int32} (hM : IMs s t u) (hu : u = t.toInt) : ps_Cl 299 302 [.ref 1131, .int x1] s (ps_rI (fun _ s2 => ISt s2 t)) := by
  obtain ⟨σ, h4⟩ := hM.1.2.2.2.1
  exact ms_302 (d := 293) hM.1.2.1 h4 hM.1.2.2.2.2.1 hM.1.2.2.2.2.2 (fun v s2 J2 K2 p0 p1 => IMs_m hM (LX_mk hM.1 J2 (LX_3 hM.1 K2 rfl) (LX_M hM.1 K2 rfl rfl rfl rfl rfl rfl rfl rfl rfl rfl rfl) (p0) (p1)) hu J2 K2 rfl rfl (LG_p K2 rfl))
theorem cm_303 {s : ps_S} {t : Int32} {u : Int} {x1 : Int32} {x2 : Int32} (hM : IMs s t u) (hu : u = t.toInt) : ps_Cl 299 303 [.ref 1131, .int x1, .int x2] s (ps_rI (fun _ s2 => ISt s2 t)) := by
  obtain ⟨σ, h4⟩ := hM.1.2.2.2.1
  exact ms_303 (d := 294) hM.1.2.1 h4 hM.1.2.2.2.2.1 hM.1.2.2.2.2.2 (fun v s2 J2 K2 p0 p1 => IMs_m hM (LX_mk hM.1 J2 (LX_3 hM.1 K2 rfl) (LX_M hM.1 K2 rfl rfl rfl rfl rfl rfl rfl rfl rfl rfl rfl) (p0) (p1)) hu J2 K2 rfl rfl (LG_p K2 rfl))
theorem cm_304 {s : ps_S} {t : Int32} {u : Int} {x1 : Int32} (hM : IMs s t u) (hu : u = t.toInt) : ps_Cl 299 304 [.ref 1131, .int x1] s (ps_rI (fun _ s2 => ISt s2 t)) := by
  obtain ⟨σ, h4⟩ := hM.1.2.2.2.1
  exact ms_304 (d := 293) hM.1.2.1 h4 hM.1.2.2.2.2.1 hM.1.2.2.2.2.2 (fun v s2 J2 K2 p0 p1 => IMs_m hM (LX_mk hM.1 J2 (LX_3 hM.1 K2 rfl) (LX_M hM.1 K2 rfl rfl rfl rfl rfl rfl rfl rfl rfl rfl rfl) (p0) (p1)) hu J2 K2 rfl rfl (LG_p K2 rfl))
theorem cm_305 {s : ps_S} {t : Int32} {u : Int} {x1 : Int32} (hM : IMs s t u) (hu : u = t.toInt) : ps_Cl 299 305 [.ref 1131, .int x1] s (ps_rI (fun _ s2 => ISt s2 t)) := by
  obtain ⟨σ, h4⟩ := hM.1.2.2.2.1
  exact mw_305 (d := 298) hM.1.2.1 h4 (gv := ps_a s 1134) (fun k _ => rfl) (fun v s2 J2 K2 p0 pV => IMs_m hM (LX_mk hM.1 J2 (LX_3 hM.1 K2 rfl) (⟨σ, p0⟩) (LX_D hM.1 K2 rfl) (LX_F hM.1 K2 rfl)) hu J2 K2 rfl rfl (fun k hk => pV k (by omega)))
theorem cm_306 {s : ps_S} {t : Int32} {u : Int} {x1 : Int32} (hM : IMs s t u) (hu : u = t.toInt) : ps_Cl 299 306 [.ref 1131, .int x1] s (ps_rI (fun _ s2 => ISt s2 t)) := by
  obtain ⟨σ, h4⟩ := hM.1.2.2.2.1
  exact mw_306 (d := 298) hM.1.2.1 h4 (gv := ps_a s 1134) (fun k _ => rfl) (fun v s2 J2 K2 p0 pV => IMs_m hM (LX_mk hM.1 J2 (LX_3 hM.1 K2 rfl) (⟨σ, p0⟩) (LX_D hM.1 K2 rfl) (LX_F hM.1 K2 rfl)) hu J2 K2 rfl rfl (fun k hk => pV k (by omega)))
theorem cx_178 {s : ps_S} {t : Int32} {x1 : Int32} (hI : LI s t) (hF : LF s t) : ps_Cl 299 178 [.ref 0, .int x1] s (ps_rI (fun _ s1 => XK t (fun _ => False) s s1)) :=
  xs_178 (d := 299) (LI_J hI) (fun v => ⟨LI_J hI, cfr_refl, ⟨rfl, rfl⟩, fun _ _ => rfl⟩)
theorem cm_307 {s : ps_S} {t : Int32} {u : Int} {x1 : Int32} (hM : IMs s t u) (hu : u = t.toInt) : ps_Cl 299 307 [.ref 1131, .int x1] s (ps_rI (fun _ s2 => ISt s2 t)) :=
  ms_307 (d := 298) hM.1.2.1 (fun v => IMs_L hM hu)

/-- feed -/
theorem TRc_v {h : tx_H} {l : List Nat} : pdet (fun _ s => TRc s h l) := fun _ _ _ _ r1 r2 z => TRc_det r2 r1 z
theorem PR_0 {s : ps_S} {t : Int32} {x1 x2 x3 x4 x5 : Int32} (h : ISt s t) : ps_Cl 299 149 [.ref 0, .int x1, .int x2, .int x3, .int x4, .int x5] s (ps_rI (fun v s1 => ps_Cl 299 308 [.ref 1131, .int x1, .int x2, .int x3, .int x4, .int x5] s1 (ps_rI (fun v2 s2 => v = v2 ∧ ∃ t2, ISt s2 t2)))) := by
  obtain ⟨hI, hF, hG⟩ := h
  obtain ⟨g, l, c, m⟩ := LG_to hG
  have hb := LI_t hI
  have A : ps_Cl 299 149 [.ref 0, .int x1, .int x2, .int x3, .int x4, .int x5] s (ps_rI (fun v s1 => ∃ t1 : Int32, xJ s t1 s1 ∧ ((v.toInt = -1 ∧ t1 = t ∧ 1580 < t.toInt) ∨ (v = t1 ∧ t1.toInt = t.toInt + 20 ∧ t.toInt ≤ 1580)))) := xs_149 (d := 298) (LI_J hI) hb.1 hb.2 (fun v s1 t1 J p => ⟨t1, J, p⟩)
  have B : ∀ n, pl_Cl n 149 [.ref 0, .int x1, .int x2, .int x3, .int x4, .int x5] s (ps_rI (fun _ s1 => LM s1 t x1 x2 x3 x4 x5)) := fun n => LM_x hI hF n
  have D : ∀ n, pl_Cl n 149 [.ref 0, .int x1, .int x2, .int x3, .int x4, .int x5] s (ps_rI (fun _ s1 => TRc s1 g l)) := fun n => by
    have e : ps_i s 0 1 = t := hI.2.1.2.1
    refine fs_149 (t := t.toInt.toNat) (by omega) (by rw [e]; omega) (fun _ v s' q => ?_) (fun _ => c)
    obtain ⟨g1, g2, g3, g4, g5⟩ := q
    obtain ⟨c1, c2, c3⟩ := c
    have hl := c1.2.2.1
    exact ⟨by rw [g3]; exact cv_H_cfr c1 g2 (fun q a b z => by omega), by rw [g3]; exact c2, cv_W_cfr c3 g2 (by omega) (by omega)⟩
  refine ps_monoI (ps_andlI (ps_andlI A B (fun v w s1 s2 r1 r2 z => LM_det hb.1 hb.2 r2 r1 z)) D TRc_v) (fun v s1 z => ?_)
  obtain ⟨⟨⟨t1, J, q1⟩, hM1⟩, c1⟩ := z
  have m1 := TRm_x m J
  have hX := LI_x hI J
  obtain ⟨σ, h4⟩ := hX.2.2.2.1
  have A2 : ps_Cl 299 308 [.ref 1131, .int x1, .int x2, .int x3, .int x4, .int x5] s1 (ps_rI (fun v2 s2 => ∃ u2, LX s2 t1 u2 ∧ ((v2.toInt = -1 ∧ u2 = t.toInt ∧ 1580 < t.toInt) ∨ (v2.toInt = t.toInt + 20 ∧ u2 = t.toInt + 20 ∧ t.toInt ≤ 1580)) ∧ TRc s2 g l ∧ TRm s2 g l)) := ms_308 (d := 299) hX.2.1 (fun v s2 J2 K2 p0 => ⟨_, LX_mk hX J2 rfl (LX_M hX K2 rfl rfl rfl rfl rfl rfl rfl rfl rfl rfl rfl) (LX_D hX K2 rfl) (LX_F hX K2 rfl), by have e3 := hX.2.2.1; omega, TRc_m c1 J2 K2 rfl, by
    obtain ⟨b, y1, y2, y3, y4⟩ := m1
    exact ⟨b, y1, by rw [kp_i K2 21 rfl]; exact y2, mv_H_V y1 y3 (fun r hr => (K2.2 r ((show ∀ r, r ∈ [1135, 1136, 1137, 1138, 1139] → [1132].contains r = false by decide) r hr)).1) (fun r hr => (K2.2 r ((show ∀ r, r ∈ [1140, 1141, 1142] → [1132].contains r = false by decide) r hr)).2) (fun k _ _ => by rw [(K2.2 1134 rfl).1]), mv_W_V y4 (fun k _ _ => by rw [(K2.2 1134 rfl).1])⟩⟩)
  have B2 : ∀ n, pl_Cl n 308 [.ref 1131, .int x1, .int x2, .int x3, .int x4, .int x5] s1 (ps_rI (fun _ s2 => LF s2 t1)) := fun n => by
    refine pl_At.mono (LM_m hb.1 hb.2 hX.2.2.1 hM1 n) (fun o s2 z => rI_mono z (fun v y => ?_))
    exact y t1 (by rcases q1 with ⟨-, a2, a3⟩ | ⟨-, a2, a3⟩; exact Or.inl ⟨a2, a3⟩; exact Or.inr ⟨a2, a3⟩)
  refine ps_monoI (ps_andlI A2 B2 (fun v w y1 y2 r1 r2 z => LF_det (by rcases q1 with ⟨a1, a2, a3⟩ | ⟨a1, a2, a3⟩ <;> (try rw [a2]) <;> omega) r2 r1 z)) (fun v2 s2 z => ?_)
  obtain ⟨⟨u2, hL2, q2, c2, m2⟩, hF2⟩ := z
  refine ⟨Int32.toInt_inj.mp (by rcases q1 with ⟨a1, a2, a3⟩ | ⟨a1, a2, a3⟩ <;> rcases q2 with ⟨b1, b2, b3⟩ | ⟨b1, b2, b3⟩ <;> (try rw [a1]) <;> omega), t1, LX_LI hL2 (by rcases q1 with ⟨a1, a2, a3⟩ | ⟨a1, a2, a3⟩ <;> rcases q2 with ⟨b1, b2, b3⟩ | ⟨b1, b2, b3⟩ <;> (try rw [a2]) <;> omega), hF2, LG_of c2 m2⟩
/-- end -/
theorem PR_1 {s : ps_S} {t : Int32} {x1 : Int32} (h : ISt s t) : ps_Cl 299 150 [.ref 0, .int x1] s (ps_rI (fun v s1 => ps_Cl 299 309 [.ref 1131, .int x1] s1 (ps_rI (fun v2 s2 => v = v2 ∧ ∃ t2, ISt s2 t2)))) := by
  have hb := LI_t h.1
  refine ps_monoI (cx_150 h.1 h.2.1) (fun v s1 z => ?_)
  obtain ⟨t1, z, q1⟩ := z
  have hM := IMs_k h z (fun q a c => by omega) (by rcases q1 with ⟨-, e, -⟩ | ⟨-, e, -, e2⟩ <;> (rw [e]; omega))
  have hX := hM.1
  have A2 : ps_Cl 299 309 [.ref 1131, .int x1] s1 (ps_rI (fun v2 s2 => ∃ u2, ((v2.toInt = -1 ∧ u2 = t.toInt ∧ (x1.toInt < 0 ∨ t.toInt < x1.toInt)) ∨ (v2.toInt = x1.toInt ∧ u2 = x1.toInt ∧ 0 ≤ x1.toInt ∧ x1.toInt ≤ t.toInt)) ∧ (u2 = t1.toInt → ISt s2 t1))) := ms_309 (d := 299) hX.2.1 (fun v s2 J2 K2 p0 => ⟨(ps_i s2 1131 3).toInt, by have e3 := hX.2.2.1; omega, fun e => IMs_m hM (LX_mk hX J2 rfl (LX_M hX K2 rfl rfl rfl rfl rfl rfl rfl rfl rfl rfl rfl) (LX_D hX K2 rfl) (LX_F hX K2 rfl)) e J2 K2 rfl rfl (LG_p K2 rfl)⟩)
  refine ps_monoI A2 (fun v2 s2 y => ?_)
  obtain ⟨u2, q2, k⟩ := y
  refine ⟨Int32.toInt_inj.mp (by rcases q1 with ⟨a1, a2, a3⟩ | ⟨a1, a2, a3⟩ <;> rcases q2 with ⟨b1, b2, b3⟩ | ⟨b1, b2, b3⟩ <;> (try rw [a1]) <;> omega), t1, k (by rcases q1 with ⟨a1, a2, a3⟩ | ⟨a1, a2, a3⟩ <;> rcases q2 with ⟨b1, b2, b3⟩ | ⟨b1, b2, b3⟩ <;> (try rw [a2]) <;> omega)⟩
/-- theory -/
def KTc (s : ps_S) (t : Int32) (h0 : tx_H) (l0 : List Nat) (v : Int32) (s1 : ps_S) : Prop := (∃ (h : tx_H) (p : Nat), gt_go (tx_ln (TT s) t.toInt.toNat) (0, (([], []), []), 0, 0) (3, h, p, 0) ∧ v.toInt = h.2.length ∧ TRc s1 h []) ∨ ((∃ (h : tx_H) (pl k : Nat), gt_go (tx_ln (TT s) t.toInt.toNat) (0, (([], []), []), 0, 0) (4, h, pl, k) ∧ v.toInt = -1) ∧ TRc s1 h0 l0)
def KTm (s : ps_S) (t : Int32) (h0 : tx_H) (l0 : List Nat) (v : Int32) (s1 : ps_S) : Prop := (∃ (h : tx_H) (p : Nat), gt_go (tx_ln (TT s) t.toInt.toNat) (0, (([], []), []), 0, 0) (3, h, p, 0) ∧ v.toInt = h.2.length ∧ TRm s1 h []) ∨ ((∃ (h : tx_H) (pl k : Nat), gt_go (tx_ln (TT s) t.toInt.toNat) (0, (([], []), []), 0, 0) (4, h, pl, k) ∧ v.toInt = -1) ∧ TRm s1 h0 l0)
theorem KTc_v {s : ps_S} {t : Int32} {h0 : tx_H} {l0 : List Nat} : pdet (KTc s t h0 l0) := fun v w s1 s2 r1 r2 z => by
  rcases z with ⟨h, p, g, e, c⟩ | ⟨z, c⟩
  · exact Or.inl ⟨h, p, g, e, TRc_det r2 r1 c⟩
  · exact Or.inr ⟨z, TRc_det r2 r1 c⟩
theorem KTm_v {s : ps_S} {t : Int32} {h0 : tx_H} {l0 : List Nat} : pdet (KTm s t h0 l0) := fun v w s1 s2 r1 r2 z => by
  rcases z with ⟨h, p, g, e, c⟩ | ⟨z, c⟩
  · exact Or.inl ⟨h, p, g, e, TRm_det r2 r1 c⟩
  · exact Or.inr ⟨z, TRm_det r2 r1 c⟩
theorem KTm_m {s s1 : ps_S} {t t1 : Int32} {h0 : tx_H} {l0 : List Nat} (hI : LI s t) (hF : LF s t) (J : xJ s t1 s1) (hX : LX s1 t1 t.toInt) (m : TRm s1 h0 l0) (n : Nat) : pl_Cl n 201 [.ref 1131] s1 (ps_rI (fun v s2 => KTm s t h0 l0 v s2)) := by
  have ht := LI_t hI
  have h3 := hX.2.2.1
  obtain ⟨b, m1, m2, m3, m4⟩ := m
  refine fm_201x (b := b) (T := TT s) (N := t.toInt.toNat) m1 m2 (by omega) (by omega) (fun k hk => ?_) (fun v s2 z => ?_) (fun v s2 z => ?_)
  · rw [(J.2.2 1132 (by decide)).2.2.1, ← hF.1 k (by omega)]
    exact bytes_T
  · obtain ⟨⟨h, p, g, e, H, e21, -, -, -, -, -, -, e5, -, -⟩, -⟩ := z
    exact Or.inl ⟨h, p, g, e, 1 - b, by omega, e21, H, ⟨by rw [e5]; rfl, Nat.zero_le _, fun k c hk => by cases hk⟩⟩
  · obtain ⟨⟨h, p, k, g, e, -, -, -, e21, F⟩, V⟩ := z
    exact Or.inr ⟨⟨h, p, k, g, e⟩, b, m1, e21, F.2.1 h0 m3, mv_W_V m4 (fun k a c => V k (by omega))⟩
theorem PR_2 {s : ps_S} {t : Int32} (h : ISt s t) : ps_Cl 299 151 [.ref 0] s (ps_rI (fun v s1 => ps_Cl 299 201 [.ref 1131] s1 (ps_rI (fun v2 s2 => v = v2 ∧ ∃ t2, ISt s2 t2)))) := by
  obtain ⟨hI, hF, hG⟩ := h
  obtain ⟨h0, l0, c, m⟩ := LG_to hG
  have hb := LI_t hI
  have A : ps_Cl 299 151 [.ref 0] s (ps_rI (fun v s1 => yJ s 0 s1)) := ys_151 (d := 259) (LF_J hI hF) (fun v s1 J => J)
  have B : ∀ n, pl_Cl n 151 [.ref 0] s (ps_rI (fun v s1 => KTc s t h0 l0 v s1)) := fun n => pl_At.mono (KT_x hI hF hG n) (fun o s1 z => rI_mono z (fun v y => by
    rcases y with y | ⟨y1, y2⟩
    · exact Or.inl y
    · exact Or.inr ⟨y1, y2 _ _ c⟩))
  refine ps_monoI (ps_andlI A B KTc_v) (fun v s1 z => ?_)
  obtain ⟨J, c1⟩ := z
  have hX : LX s1 0 t.toInt := LI_x hI J.1
  have hF1 : LF s1 0 := LF_x hF J (by rw [Int32.toInt_zero]; exact hb.1)
  have m1 := TRm_x m J.1
  obtain ⟨σ, h4⟩ := hX.2.2.2.1
  have A2 : ps_Cl 299 201 [.ref 1131] s1 (ps_rI (fun _ s2 => LI s2 0 ∧ LF s2 0 ∧ ∀ h l, TRc s1 h l → TRc s2 h l)) := ms_201 (d := 292) hX.2.1 h4 (fun v s2 J2 K2 p0 p1 => ⟨LX_LI (LX_mk hX J2 (p1) (p0) (LX_D hX K2 rfl) (LX_F hX K2 rfl)) rfl, LF_m hF1 J2 K2 rfl rfl rfl rfl rfl, fun _ _ z => TRc_m z J2 K2 rfl⟩)
  have B2 : ∀ n, pl_Cl n 201 [.ref 1131] s1 (ps_rI (fun v s2 => KTm s t h0 l0 v s2)) := fun n => KTm_m hI hF J.1 hX m1 n
  refine ps_monoI (ps_andlI A2 B2 KTm_v) (fun v2 s2 z => ?_)
  obtain ⟨⟨hL, hF2, kc⟩, m2⟩ := z
  rcases c1 with ⟨ha, pa, ga, ea, ca⟩ | ⟨⟨ha, pa, ka, ga, ea⟩, ca⟩ <;> rcases m2 with ⟨hb', pb, gb, eb, mb⟩ | ⟨⟨hb', pb, kb, gb, eb⟩, mb⟩
  · have e := gt_det ga gb rfl rfl
    cases e
    exact ⟨Int32.toInt_inj.mp (by rw [ea, eb]), 0, hL, hF2, LG_of (kc _ _ ca) mb⟩
  · have e := gt_det ga gb rfl rfl
    cases e
  · have e := gt_det ga gb rfl rfl
    cases e
  · exact ⟨Int32.toInt_inj.mp (by rw [ea, eb]), 0, hL, hF2, LG_of (kc _ _ ca) mb⟩
/-- read -/
def KRc (s : ps_S) (t : Int32) (h0 : tx_H) (v : Int32) (s1 : ps_S) : Prop := (∃ l, rd_ok (TT s) t.toInt.toNat (h0.1, false) 1 l ∧ v.toInt = l.length ∧ cv_W s1 934 l) ∨ ((∃ k pl, rd_bad (TT s) t.toInt.toNat (h0.1, false) 1 k pl) ∧ v.toInt = -1 ∧ cv_W s1 934 [])
def KRm (s : ps_S) (t : Int32) (h0 : tx_H) (v : Int32) (s1 : ps_S) : Prop := (∃ l, rd_ok (TT s) t.toInt.toNat (h0.1, false) 1 l ∧ v.toInt = l.length ∧ TRm s1 h0 l) ∨ ((∃ k pl, rd_bad (TT s) t.toInt.toNat (h0.1, false) 1 k pl) ∧ v.toInt = -1 ∧ TRm s1 h0 [])
theorem KRc_v {s : ps_S} {t : Int32} {h0 : tx_H} : pdet (KRc s t h0) := fun v w s1 s2 r1 r2 z => by
  rcases z with ⟨l, g, e, c⟩ | ⟨z, e, c⟩
  · exact Or.inl ⟨l, g, e, cv_W_det r2 r1 (by decide) rfl rfl c⟩
  · exact Or.inr ⟨z, e, cv_W_det r2 r1 (by decide) rfl rfl c⟩
theorem KRm_v {s : ps_S} {t : Int32} {h0 : tx_H} : pdet (KRm s t h0) := fun v w s1 s2 r1 r2 z => by
  rcases z with ⟨l, g, e, c⟩ | ⟨z, e, c⟩
  · exact Or.inl ⟨l, g, e, TRm_det r2 r1 c⟩
  · exact Or.inr ⟨z, e, TRm_det r2 r1 c⟩
theorem TRm_po {s s' : ps_S} {h0 : tx_H} {l l' : List Nat} (m : TRm s h0 l) (K : kq [1133, 1134, 1143, 1144, 1145, 1146, 1147, 1148] [3, 4, 5, 6, 7, 8, 9, 10, 11, 22, 23, 29, 30, 31, 32] s s') (P : mv_po 25748 s s') (W : mv_W s' 25748 l') : TRm s' h0 l' := by
  obtain ⟨b, m1, m2, m3, m4⟩ := m
  exact ⟨b, m1, by rw [kq_i K 21 rfl]; exact m2, mv_H_V m1 m3 (fun r hr => kq_a K r ((show ∀ r, r ∈ [1135, 1136, 1137, 1138, 1139] → [1133, 1134, 1143, 1144, 1145, 1146, 1147, 1148].contains r = false by decide) r hr)) (fun r hr => kq_b K r ((show ∀ r, r ∈ [1140, 1141, 1142] → [1133, 1134, 1143, 1144, 1145, 1146, 1147, 1148].contains r = false by decide) r hr)) (fun k a b => P k (by omega)), W⟩
theorem PR_13 {s : ps_S} {t : Int32} (h : ISt s t) : ps_Cl 299 162 [.ref 0] s (ps_rI (fun v s1 => ps_Cl 299 274 [.ref 1131] s1 (ps_rI (fun v2 s2 => v = v2 ∧ ∃ t2, ISt s2 t2)))) := by
  obtain ⟨hI, hF, hG⟩ := h
  obtain ⟨h0, l0, c, m⟩ := LG_to hG
  have hb := LI_t hI
  have e : ps_i s 0 1 = t := hI.2.1.2.1
  have hth : ps_r s 0 2 = 2 ∨ ps_r s 0 2 = 26 := hF.2.2.2.2.1
  have B : ∀ n, pl_Cl n 162 [.ref 0] s (ps_rI (fun v s1 => KRc s t h0 v s1)) := fun n => fs_162 (th := ps_r s 0 2) (T := TT s) (N := t.toInt.toNat) hth rfl c.1.1 (by rw [e]; omega) (by omega) (fun k _ => bytes_T) hF.2.1 (fun v s1 l z1 z2 z3 _ _ => Or.inl ⟨l, z1, z2, z3⟩) (fun s1 k pl z1 z3 _ _ _ => Or.inr ⟨⟨k, pl, z1⟩, by decide, z3⟩)
  refine ps_monoI (ps_andlI (cx_162 hI hF) B KRc_v) (fun v s1 z => ?_)
  obtain ⟨J, c1⟩ := z
  have hX : LX s1 0 t.toInt := LI_x hI J.1
  have hF1 : LF s1 0 := LF_k hF J (by unfold C162; omega) (by unfold C162; omega) (by unfold C162; omega) (by rw [Int32.toInt_zero]; exact hb.1)
  have m1 := TRm_x m J.1
  have c1a : cv_H s1 (ps_r s1 0 2) h0 ∧ ((ps_r s1 0 2 = 2 ∧ ps_r s1 0 3 = 26) ∨ (ps_r s1 0 2 = 26 ∧ ps_r s1 0 3 = 2)) := by
    obtain ⟨d1, d2, d3⟩ := c
    have hl := d1.2.2.1
    obtain ⟨-, F, ⟨r2, r3⟩, -⟩ := J
    exact ⟨by rw [r2]; exact cv_H_cfr d1 F (fun q a b => by unfold C162; omega), by rw [r2, r3]; exact d2⟩
  obtain ⟨σ, h4⟩ := hX.2.2.2.1
  have A2 : ps_Cl 299 274 [.ref 1131] s1 (ps_rI (fun _ s2 => LI s2 0 ∧ LF s2 0 ∧ ∀ h l, TRc s1 h l → TRc s2 h l)) := ms_274 (d := 293) hX.2.1 h4 (fun v s2 J2 K2 p0 p1 => ⟨LX_LI (LX_mk hX J2 (p1) (⟨σ, p0⟩) (LX_D hX K2 rfl) (LX_F hX K2 rfl)) rfl, LF_m hF1 J2 K2 rfl rfl rfl rfl rfl, fun _ _ z => TRc_m z J2 K2 rfl⟩)
  have B2 : ∀ n, pl_Cl n 274 [.ref 1131] s1 (ps_rI (fun v s2 => KRm s t h0 v s2)) := fun n => by
    obtain ⟨b, y1, y2, y3, y4⟩ := id m1
    have h3 := hX.2.2.1
    refine fm_274 (b := b) (T := TT s) (N := t.toInt.toNat) y1 y2 y3.1 (by omega) (by omega) (fun k hk => ?_) (fun v s2 l z1 z2 z3 z4 => Or.inl ⟨l, z1, z2, TRm_po m1 z4.2.1 z4.2.2.1 z3⟩) (fun s2 z3 z4 => ?_)
    · rw [(J.1.2.2 1132 (by decide)).2.2.1, ← hF.1 k (by omega)]
      exact bytes_T
    · obtain ⟨⟨k, pl, z1, -, -⟩, z5⟩ := z4
      exact Or.inr ⟨⟨k, pl, z1⟩, by decide, TRm_po m1 z5.1 z5.2.1 z3⟩
  refine ps_monoI (ps_andlI A2 B2 KRm_v) (fun v2 s2 z => ?_)
  obtain ⟨⟨hL, hF2, kc⟩, m2⟩ := z
  rcases c1 with ⟨la, ga, ea, ca⟩ | ⟨⟨ka, pa, ga⟩, ea, ca⟩ <;> rcases m2 with ⟨lb, gb, eb, mb⟩ | ⟨⟨kb, pb, gb⟩, eb, mb⟩
  · have e := rd_oo ga gb
    subst e
    exact ⟨Int32.toInt_inj.mp (by rw [ea, eb]), 0, hL, hF2, LG_of (kc _ _ ⟨c1a.1, c1a.2, ca⟩) mb⟩
  · exact (rd_ob ga gb).elim
  · exact (rd_ob gb ga).elim
  · exact ⟨Int32.toInt_inj.mp (by rw [ea, eb]), 0, hL, hF2, LG_of (kc _ _ ⟨c1a.1, c1a.2, ca⟩) mb⟩
/-- piece -/
theorem pc_x {n : Nat} {s : ps_S} {h : tx_H} {l : List Nat} {x1 : Int32} (c : TRc s h l) : pl_Cl n 163 [.ref 0, .int x1] s (ps_rI (fun v _ => pc_is l x1 v)) := fs_163 c.2.2 (fun v z => z)
theorem pc_m {n : Nat} {s : ps_S} {h : tx_H} {l : List Nat} {x1 : Int32} (m : TRm s h l) : pl_Cl n 275 [.ref 1131, .int x1] s (ps_rI (fun v _ => pc_is l x1 v)) := by
  obtain ⟨b, -, -, -, m4⟩ := m
  exact fm_275 m4 (fun v z => z)

theorem PR_3 {s : ps_S} {t : Int32} {x1 : Int32} (h : ISt s t) : ps_Cl 299 152 [.ref 0, .int x1] s (ps_rI (fun _ s1 => ps_Cl 299 199 [.ref 1131, .int x1] s1 (ps_rI (fun _ s2 => ∃ t2, ISt s2 t2)))) :=
  ps_monoI (cx_152 h.1 h.2.1) (fun v s1 z => ps_monoI (cm_199 (IMs_k h z (fun q a c => c.elim) (Int.le_refl _)) rfl) (fun v2 s2 z2 => ⟨_, z2⟩))
theorem PR_4 {s : ps_S} {t : Int32}  (h : ISt s t) : ps_Cl 299 153 [.ref 0] s (ps_rI (fun _ s1 => ps_Cl 299 240 [.ref 1131] s1 (ps_rI (fun _ s2 => ∃ t2, ISt s2 t2)))) :=
  ps_monoI (cx_153 h.1 h.2.1) (fun v s1 z => ps_monoI (cm_240 (IMs_k h z (fun q a c => by unfold C153 at c; omega) (by rw [Int32.toInt_zero]; exact (LI_t h.1).1)) rfl) (fun v2 s2 z2 => ⟨_, z2⟩))
theorem PR_5 {s : ps_S} {t : Int32} {x1 : Int32} (h : ISt s t) : ps_Cl 299 154 [.ref 0, .int x1] s (ps_rI (fun _ s1 => ps_Cl 299 261 [.ref 1131, .int x1] s1 (ps_rI (fun _ s2 => ∃ t2, ISt s2 t2)))) :=
  ps_monoI (cx_154 h.1 h.2.1) (fun v s1 z => ps_monoI (cm_261 (IMs_k h z (fun q a c => c.elim) (Int.le_refl _)) rfl) (fun v2 s2 z2 => ⟨_, z2⟩))
theorem PR_6 {s : ps_S} {t : Int32} {x1 : Int32} {x2 : Int32} (h : ISt s t) : ps_Cl 299 155 [.ref 0, .int x1, .int x2] s (ps_rI (fun _ s1 => ps_Cl 299 263 [.ref 1131, .int x1, .int x2] s1 (ps_rI (fun _ s2 => ∃ t2, ISt s2 t2)))) :=
  ps_monoI (cx_155 h.1 h.2.1) (fun v s1 z => ps_monoI (cm_263 (IMs_k h z (fun q a c => c.elim) (Int.le_refl _)) rfl) (fun v2 s2 z2 => ⟨_, z2⟩))
theorem PR_7 {s : ps_S} {t : Int32} {x1 : Int32} {x2 : Int32} (h : ISt s t) : ps_Cl 299 156 [.ref 0, .int x1, .int x2] s (ps_rI (fun _ s1 => ps_Cl 299 265 [.ref 1131, .int x1, .int x2] s1 (ps_rI (fun _ s2 => ∃ t2, ISt s2 t2)))) :=
  ps_monoI (cx_156 h.1 h.2.1) (fun v s1 z => ps_monoI (cm_265 (IMs_k h z (fun q a c => c.elim) (Int.le_refl _)) rfl) (fun v2 s2 z2 => ⟨_, z2⟩))
theorem PR_8 {s : ps_S} {t : Int32} {x1 : Int32} {x2 : Int32} {x3 : Int32} (h : ISt s t) : ps_Cl 299 157 [.ref 0, .int x1, .int x2, .int x3] s (ps_rI (fun _ s1 => ps_Cl 299 266 [.ref 1131, .int x1, .int x2, .int x3] s1 (ps_rI (fun _ s2 => ∃ t2, ISt s2 t2)))) :=
  ps_monoI (cx_157 h.1 h.2.1) (fun v s1 z => ps_monoI (cm_266 (IMs_k h z (fun q a c => c.elim) (Int.le_refl _)) rfl) (fun v2 s2 z2 => ⟨_, z2⟩))
theorem PR_9 {s : ps_S} {t : Int32}  (h : ISt s t) : ps_Cl 299 158 [.ref 0] s (ps_rI (fun _ s1 => ps_Cl 299 268 [.ref 1131] s1 (ps_rI (fun _ s2 => ∃ t2, ISt s2 t2)))) :=
  ps_monoI (cx_158 h.1 h.2.1) (fun v s1 z => ps_monoI (cm_268 (IMs_k h z (fun q a c => by unfold C158 at c; omega) (Int.le_refl _)) rfl) (fun v2 s2 z2 => ⟨_, z2⟩))
theorem PR_10 {s : ps_S} {t : Int32} {x1 : Int32} {x2 : Int32} (h : ISt s t) : ps_Cl 299 159 [.ref 0, .int x1, .int x2] s (ps_rI (fun _ s1 => ps_Cl 299 269 [.ref 1131, .int x1, .int x2] s1 (ps_rI (fun _ s2 => ∃ t2, ISt s2 t2)))) :=
  ps_monoI (cx_159 h.1 h.2.1) (fun v s1 z => ps_monoI (cm_269 (IMs_k h z (fun q a c => c.elim) (Int.le_refl _)) rfl) (fun v2 s2 z2 => ⟨_, z2⟩))
theorem PR_11 {s : ps_S} {t : Int32} {x1 : Int32} {x2 : Int32} (h : ISt s t) : ps_Cl 299 160 [.ref 0, .int x1, .int x2] s (ps_rI (fun _ s1 => ps_Cl 299 271 [.ref 1131, .int x1, .int x2] s1 (ps_rI (fun _ s2 => ∃ t2, ISt s2 t2)))) :=
  ps_monoI (cx_160 h.1 h.2.1) (fun v s1 z => ps_monoI (cm_271 (IMs_k h z (fun q a c => c.elim) (Int.le_refl _)) rfl) (fun v2 s2 z2 => ⟨_, z2⟩))
theorem PR_12 {s : ps_S} {t : Int32}  (h : ISt s t) : ps_Cl 299 161 [.ref 0] s (ps_rI (fun _ s1 => ps_Cl 299 273 [.ref 1131] s1 (ps_rI (fun _ s2 => ∃ t2, ISt s2 t2)))) :=
  ps_monoI (cx_161 h.1 h.2.1) (fun v s1 z => ps_monoI (cm_273 (IMs_k h z (fun q a c => by unfold C161 at c; omega) (Int.le_refl _)) rfl) (fun v2 s2 z2 => ⟨_, z2⟩))
theorem PR_14 {s : ps_S} {t : Int32} {x1 : Int32} (h : ISt s t) : ps_Cl 299 163 [.ref 0, .int x1] s (ps_rI (fun v s1 => ps_Cl 299 275 [.ref 1131, .int x1] s1 (ps_rI (fun v2 s2 => v = v2 ∧ ∃ t2, ISt s2 t2)))) := by
  obtain ⟨g, l, c, m⟩ := LG_to h.2.2
  have wfc := WF_of (LI_LX h.1) m
  refine ps_monoI (ps_andlI (g := fun v _ => pc_is l x1 v) (cx_163 h.1 h.2.1) (fun n => pc_x c) pdet_v) (fun v s1 z => ?_)
  obtain ⟨z, e⟩ := z
  have m1 := TRm_x m z.1
  exact ps_monoI (ps_andlI (g := fun v _ => pc_is l x1 v) (cm_275 (IMs_k h z (fun q a c => c.elim) (Int.le_refl _)) rfl) (fun n => pc_m m1) pdet_v) (fun v2 s2 z2 => ⟨pc_eq e z2.2, _, z2.1⟩)
theorem PR_15 {s : ps_S} {t : Int32}  (h : ISt s t) : ps_Cl 299 164 [.ref 0] s (ps_rI (fun _ s1 => ps_Cl 299 276 [.ref 1131] s1 (ps_rI (fun _ s2 => ∃ t2, ISt s2 t2)))) :=
  ps_monoI (cx_164 h.1 h.2.1) (fun v s1 z => ps_monoI (cm_276 (IMs_k h z (fun q a c => c.elim) (Int.le_refl _)) rfl) (fun v2 s2 z2 => ⟨_, z2⟩))
theorem PR_16 {s : ps_S} {t : Int32} {x1 : Int32} (h : ISt s t) : ps_Cl 299 165 [.ref 0, .int x1] s (ps_rJ (fun _ s1 => ps_Cl 299 267 [.ref 1131, .int x1] s1 (ps_rJ (fun _ s2 => ∃ t2, ISt s2 t2)))) :=
  ps_monoJ (cx_165 h.1 h.2.1) (fun v s1 z => ps_monoJ (cm_267 (IMs_k h z (fun q a c => c.elim) (Int.le_refl _)) rfl) (fun v2 s2 z2 => ⟨_, z2⟩))
theorem PR_17 {s : ps_S} {t : Int32}  (h : ISt s t) : ps_Cl 299 166 [.ref 0] s (ps_rI (fun v s1 => ps_Cl 299 280 [.ref 1131] s1 (ps_rI (fun v2 s2 => v = v2 ∧ ∃ t2, ISt s2 t2)))) := by
  obtain ⟨g, l, c, m⟩ := LG_to h.2.2
  have wfc := WF_of (LI_LX h.1) m
  refine ps_monoI (ps_andlI (g := fun v _ => lt_A 0 g.1 l v) (cx_166 h.1 h.2.1) (fun n => fs_166 c wfc.2) pdet_v) (fun v s1 z => ?_)
  obtain ⟨z, e⟩ := z
  have m1 := TRm_x m z.1
  exact ps_monoI (ps_andlI (g := fun v _ => lt_A 0 g.1 l v) (cm_280 (IMs_k h z (fun q a c => by unfold C166 at c; omega) (Int.le_refl _)) rfl) (fun n => fm_280 m1 wfc.2) pdet_v) (fun v2 s2 z2 => ⟨lt_A_eq e z2.2, _, z2.1⟩)
theorem PR_18 {s : ps_S} {t : Int32}  (h : ISt s t) : ps_Cl 299 167 [.ref 0] s (ps_rI (fun v s1 => ps_Cl 299 281 [.ref 1131] s1 (ps_rI (fun v2 s2 => v = v2 ∧ ∃ t2, ISt s2 t2)))) := by
  obtain ⟨g, l, c, m⟩ := LG_to h.2.2
  have wfc := WF_of (LI_LX h.1) m
  refine ps_monoI (ps_andlI (g := fun v _ => lt_A 1 g.1 l v) (cx_167 h.1 h.2.1) (fun n => fs_167 c wfc.2) pdet_v) (fun v s1 z => ?_)
  obtain ⟨z, e⟩ := z
  have m1 := TRm_x m z.1
  exact ps_monoI (ps_andlI (g := fun v _ => lt_A 1 g.1 l v) (cm_281 (IMs_k h z (fun q a c => by unfold C166 at c; omega) (Int.le_refl _)) rfl) (fun n => fm_281 m1 wfc.2) pdet_v) (fun v2 s2 z2 => ⟨lt_A_eq e z2.2, _, z2.1⟩)
theorem PR_19 {s : ps_S} {t : Int32}  (h : ISt s t) : ps_Cl 299 168 [.ref 0] s (ps_rI (fun v s1 => ps_Cl 299 282 [.ref 1131] s1 (ps_rI (fun v2 s2 => v = v2 ∧ ∃ t2, ISt s2 t2)))) := by
  obtain ⟨g, l, c, m⟩ := LG_to h.2.2
  have wfc := WF_of (LI_LX h.1) m
  refine ps_monoI (ps_andlI (g := fun v _ => lt_A 2 g.1 l v) (cx_168 h.1 h.2.1) (fun n => fs_168 c wfc.2) pdet_v) (fun v s1 z => ?_)
  obtain ⟨z, e⟩ := z
  have m1 := TRm_x m z.1
  exact ps_monoI (ps_andlI (g := fun v _ => lt_A 2 g.1 l v) (cm_282 (IMs_k h z (fun q a c => by unfold C166 at c; omega) (Int.le_refl _)) rfl) (fun n => fm_282 m1 wfc.2) pdet_v) (fun v2 s2 z2 => ⟨lt_A_eq e z2.2, _, z2.1⟩)
theorem PR_20 {s : ps_S} {t : Int32}  (h : ISt s t) : ps_Cl 299 169 [.ref 0] s (ps_rI (fun _ s1 => ps_Cl 299 288 [.ref 1131] s1 (ps_rI (fun _ s2 => ∃ t2, ISt s2 t2)))) :=
  ps_monoI (cx_169 h.1 h.2.1) (fun v s1 z => ps_monoI (cm_288 (IMs_k h z (fun q a c => by unfold C169 at c; omega) (by rw [Int32.toInt_zero]; exact (LI_t h.1).1)) rfl) (fun v2 s2 z2 => ⟨_, z2⟩))
theorem PR_21 {s : ps_S} {t : Int32} {x1 : Int32} (h : ISt s t) : ps_Cl 299 170 [.ref 0, .int x1] s (ps_rI (fun _ s1 => ps_Cl 299 289 [.ref 1131, .int x1] s1 (ps_rI (fun _ s2 => ∃ t2, ISt s2 t2)))) :=
  ps_monoI (cx_170 h.1 h.2.1) (fun v s1 z => ps_monoI (cm_289 (IMs_k h z (fun q a c => c.elim) (Int.le_refl _)) rfl) (fun v2 s2 z2 => ⟨_, z2⟩))
theorem PR_22 {s : ps_S} {t : Int32}  (h : ISt s t) : ps_Cl 299 171 [.ref 0] s (ps_rI (fun v s1 => ps_Cl 299 285 [.ref 1131] s1 (ps_rI (fun v2 s2 => v = v2 ∧ ∃ t2, ISt s2 t2)))) := by
  obtain ⟨g, l, c, m⟩ := LG_to h.2.2
  have wfc := WF_of (LI_LX h.1) m
  refine ps_monoI (ps_andlI (g := fun v _ => rl_A g v) (cx_171 h.1 h.2.1) (fun n => fs_171 c wfc.1) pdet_v) (fun v s1 z => ?_)
  obtain ⟨z, e⟩ := z
  have m1 := TRm_x m z.1
  exact ps_monoI (ps_andlI (g := fun v _ => rl_A g v) (cm_285 (IMs_k h z (fun q a c => by unfold C171 at c; omega) (Int.le_refl _)) rfl) (fun n => fm_285 m1 wfc.1) pdet_v) (fun v2 s2 z2 => ⟨rl_A_eq e z2.2, _, z2.1⟩)
theorem PR_23 {s : ps_S} {t : Int32} {x1 : Int32} (h : ISt s t) : ps_Cl 299 172 [.ref 0, .int x1] s (ps_rI (fun v s1 => ps_Cl 299 301 [.ref 1131, .int x1] s1 (ps_rI (fun v2 s2 => v = v2 ∧ ∃ t2, ISt s2 t2)))) := by
  obtain ⟨g, l, c, m⟩ := LG_to h.2.2
  have wfc := WF_of (LI_LX h.1) m
  refine ps_monoI (ps_andlI (g := fun v _ => md_A g.1 x1 v) (cx_172 h.1 h.2.1) (fun n => fs_172 c) pdet_v) (fun v s1 z => ?_)
  obtain ⟨z, e⟩ := z
  have m1 := TRm_x m z.1
  exact ps_monoI (ps_andlI (g := fun v _ => md_A g.1 x1 v) (cm_301 (IMs_k h z (fun q a c => by unfold C172 at c; omega) (Int.le_refl _)) rfl) (fun n => fm_301a m1) pdet_v) (fun v2 s2 z2 => ⟨md_A_eq e z2.2, _, z2.1⟩)
theorem PR_24 {s : ps_S} {t : Int32} {x1 : Int32} (h : ISt s t) : ps_Cl 299 173 [.ref 0, .int x1] s (ps_rI (fun _ s1 => ps_Cl 299 302 [.ref 1131, .int x1] s1 (ps_rI (fun _ s2 => ∃ t2, ISt s2 t2)))) :=
  ps_monoI (cx_173 h.1 h.2.1) (fun v s1 z => ps_monoI (cm_302 (IMs_k h z (fun q a c => by unfold C172 at c; omega) (Int.le_refl _)) rfl) (fun v2 s2 z2 => ⟨_, z2⟩))
theorem PR_25 {s : ps_S} {t : Int32} {x1 : Int32} {x2 : Int32} (h : ISt s t) : ps_Cl 299 174 [.ref 0, .int x1, .int x2] s (ps_rI (fun _ s1 => ps_Cl 299 303 [.ref 1131, .int x1, .int x2] s1 (ps_rI (fun _ s2 => ∃ t2, ISt s2 t2)))) :=
  ps_monoI (cx_174 h.1 h.2.1) (fun v s1 z => ps_monoI (cm_303 (IMs_k h z (fun q a c => by unfold C172 at c; omega) (Int.le_refl _)) rfl) (fun v2 s2 z2 => ⟨_, z2⟩))
theorem PR_26 {s : ps_S} {t : Int32} {x1 : Int32} (h : ISt s t) : ps_Cl 299 175 [.ref 0, .int x1] s (ps_rI (fun _ s1 => ps_Cl 299 304 [.ref 1131, .int x1] s1 (ps_rI (fun _ s2 => ∃ t2, ISt s2 t2)))) :=
  ps_monoI (cx_175 h.1 h.2.1) (fun v s1 z => ps_monoI (cm_304 (IMs_k h z (fun q a c => by unfold C172 at c; omega) (Int.le_refl _)) rfl) (fun v2 s2 z2 => ⟨_, z2⟩))
theorem PR_27 {s : ps_S} {t : Int32} {x1 : Int32} (h : ISt s t) : ps_Cl 299 176 [.ref 0, .int x1] s (ps_rI (fun _ s1 => ps_Cl 299 305 [.ref 1131, .int x1] s1 (ps_rI (fun _ s2 => ∃ t2, ISt s2 t2)))) :=
  ps_monoI (cx_176 h.1 h.2.1) (fun v s1 z => ps_monoI (cm_305 (IMs_k h z (fun q a c => by unfold C176 at c; omega) (Int.le_refl _)) rfl) (fun v2 s2 z2 => ⟨_, z2⟩))
theorem PR_28 {s : ps_S} {t : Int32} {x1 : Int32} (h : ISt s t) : ps_Cl 299 177 [.ref 0, .int x1] s (ps_rI (fun _ s1 => ps_Cl 299 306 [.ref 1131, .int x1] s1 (ps_rI (fun _ s2 => ∃ t2, ISt s2 t2)))) :=
  ps_monoI (cx_177 h.1 h.2.1) (fun v s1 z => ps_monoI (cm_306 (IMs_k h z (fun q a c => by unfold C161 at c; omega) (Int.le_refl _)) rfl) (fun v2 s2 z2 => ⟨_, z2⟩))
theorem PR_29 {s : ps_S} {t : Int32} {x1 : Int32} (h : ISt s t) : ps_Cl 299 178 [.ref 0, .int x1] s (ps_rI (fun _ s1 => ps_Cl 299 307 [.ref 1131, .int x1] s1 (ps_rI (fun _ s2 => ∃ t2, ISt s2 t2)))) :=
  ps_monoI (cx_178 h.1 h.2.1) (fun v s1 z => ps_monoI (cm_307 (IMs_k h z (fun q a c => c.elim) (Int.le_refl _)) rfl) (fun v2 s2 z2 => ⟨_, z2⟩))
end
section
set_option maxRecDepth 100000
/-! call by call, what the judge keeps beside -/
/-- what lies below the reference stands -/
def LO (s s' : ps_S) : Prop := cfr (fun q => 1131 ≤ q) s s'
theorem LO_of {s s' : ps_S} {t : Int32} {A F : List Nat} (J : mJ s.1.2.2 t s') (K : kp A F s s') (hA : A.all (fun a => Nat.ble 1131 a) = true) : LO s s' := by
  have hr : ps_r s' = ps_r s := J.1
  rw [List.all_eq_true] at hA
  have hn : ∀ r, r < 1131 → A.contains r = false := fun r hr => by
    cases e : A.contains r with
    | false => rfl
    | true =>
      have := Nat.le_of_ble_eq_true (hA r (List.contains_iff_mem.mp e))
      omega
  exact fun q hq => by
    have hq : q < 1131 := by omega
    exact ⟨fun f => (K.1 q f (fun z => by omega)).1, fun f => (K.1 q f (fun z => by omega)).2, fun f => by rw [hr], (K.2 q (hn q hq)).1, (K.2 q (hn q hq)).2⟩
theorem TRc_lo {s s' : ps_S} {h : tx_H} {l : List Nat} (H : TRc s h l) (F : LO s s') : TRc s' h l := by
  obtain ⟨c1, c2, c3⟩ := H
  have hl := c1.2.2.1
  have r2 := (F 0 (by omega)).2.2.1 2
  have r3 := (F 0 (by omega)).2.2.1 3
  exact ⟨by rw [r2]; exact cv_H_cfr c1 F (fun q a b z => by omega), by rw [r2, r3]; exact c2, cv_W_cfr c3 F (by omega) (by omega)⟩
theorem JG_lo {s s' : ps_S} {h : tx_H} (H : JG s h) (F : LO s s') : JG s' h := JG_cfr H F (by omega) (by omega)
/-- what is told besides of a state between two calls -/
def XJ (s : ps_S) (h : tx_H) (l : List Nat) : Prop := TRc s h l ∧ TRm s h l ∧ BTh h ∧ (l ≠ [] → bc (arh h.1) [(0, 0)] l) ∧ JG s h
def JSt (s : ps_S) (t : Int32) : Prop := ISt s t ∧ ∃ h l, XJ s h l
theorem s1_JSt : JSt ps_s1 0 := by
  have e2 : ps_r ps_s1 0 2 = 2 := by decide +kernel
  have e3 : ps_r ps_s1 0 3 = 26 := by decide +kernel
  have hb : cv_base ps_s1 2 := s1_LF.2.2.1
  have hz : ∀ j, j < 192 → ps_b ps_s1 957 j = 0 := by decide +kernel
  refine ⟨⟨s1_LI, s1_LF, s1_LG⟩, (([], []), []), [], ⟨?_, Or.inl ⟨e2, e3⟩, ?_⟩, ⟨(ps_i ps_s1 1131 21).toInt.toNat, by decide +kernel, by decide +kernel, ?_, ?_⟩, BTh_0, fun y => absurd rfl y, JG_z hz⟩
  · rw [e2]
    exact ⟨⟨by decide +kernel, by decide +kernel, Nat.zero_le _, Nat.zero_le _, (fun k w a hk => by cases hk), (fun k w a hk => by cases hk), hb, (fun w m1 _ => by cases m1)⟩, by decide +kernel, Nat.zero_le _, (fun k w l hk => by cases hk)⟩
  · exact ⟨by decide +kernel, by decide +kernel, Nat.zero_le _, (fun k c hk => by cases hk)⟩
  · exact ⟨⟨by decide +kernel, by decide +kernel, Nat.zero_le _, Nat.zero_le _, (fun k w a hk => by cases hk), (fun k w a hk => by cases hk)⟩, by decide +kernel, Nat.zero_le _, (fun k w l hk => by cases hk)⟩
  · exact ⟨by decide +kernel, Nat.zero_le _, (fun k c hk => by cases hk)⟩
/-- the reference's call -/
def RMs (s s2 : ps_S) (t : Int32) : Prop := ISt s2 t ∧ LO s s2 ∧ ∀ h l, TRm s h l → TRm s2 h l
theorem cj_199 {s : ps_S} {t : Int32} {u : Int} {x1 : Int32} (hM : IMs s t u) (hu : u = t.toInt) : ps_Cl 299 199 [.ref 1131, .int x1] s (ps_rI (fun _ s2 => RMs s s2 t)) :=
  ms_199 (d := 299) hM.1.2.1 (fun v => ⟨IMs_L hM hu, cfr_refl, fun _ _ z => z⟩)
theorem cj_240 {s : ps_S} {t : Int32} {u : Int}  (hM : IMs s t u) (hu : (0 : Int) = t.toInt) : ps_Cl 299 240 [.ref 1131] s (ps_rI (fun _ s2 => RMs s s2 t)) := by
  obtain ⟨σ, h4⟩ := hM.1.2.2.2.1
  exact mw_240 (d := 292) hM.1.2.1 h4 (gv := ps_a s 1134) (fun k _ => rfl) (fun v s2 J2 K2 p0 p1 pV => ⟨IMs_m hM (LX_mk hM.1 J2 (p1) (⟨σ, p0⟩) (LX_D hM.1 K2 rfl) (LX_F hM.1 K2 rfl)) hu J2 K2 rfl rfl (fun k hk => pV k (by omega)), LO_of J2 K2 rfl, fun _ _ z => TRm_m (t := t) z K2 rfl rfl (fun k hk => pV k (by omega))⟩)
theorem cj_261 {s : ps_S} {t : Int32} {u : Int} {x1 : Int32} (hM : IMs s t u) (hu : u = t.toInt) : ps_Cl 299 261 [.ref 1131, .int x1] s (ps_rI (fun _ s2 => RMs s s2 t)) :=
  ms_261 (d := 299) hM.1.2.1 (fun v => ⟨IMs_L hM hu, cfr_refl, fun _ _ z => z⟩)
theorem cj_263 {s : ps_S} {t : Int32} {u : Int} {x1 : Int32} {x2 : Int32} (hM : IMs s t u) (hu : u = t.toInt) : ps_Cl 299 263 [.ref 1131, .int x1, .int x2] s (ps_rI (fun _ s2 => RMs s s2 t)) :=
  ms_263 (d := 297) hM.1.2.1 (fun v => ⟨IMs_L hM hu, cfr_refl, fun _ _ z => z⟩)
theorem cj_265 {s : ps_S} {t : Int32} {u : Int} {x1 : Int32} {x2 : Int32} (hM : IMs s t u) (hu : u = t.toInt) : ps_Cl 299 265 [.ref 1131, .int x1, .int x2] s (ps_rI (fun _ s2 => RMs s s2 t)) :=
  ms_265 (d := 297) hM.1.2.1 (fun v => ⟨IMs_L hM hu, cfr_refl, fun _ _ z => z⟩)
theorem cj_266 {s : ps_S} {t : Int32} {u : Int} {x1 : Int32} {x2 : Int32} {x3 : Int32} (hM : IMs s t u) (hu : u = t.toInt) : ps_Cl 299 266 [.ref 1131, .int x1, .int x2, .int x3] s (ps_rI (fun _ s2 => RMs s s2 t)) :=
  ms_266 (d := 297) hM.1.2.1 (fun v => ⟨IMs_L hM hu, cfr_refl, fun _ _ z => z⟩)
theorem cj_268 {s : ps_S} {t : Int32} {u : Int}  (hM : IMs s t u) (hu : u = t.toInt) : ps_Cl 299 268 [.ref 1131] s (ps_rI (fun _ s2 => RMs s s2 t)) := by
  obtain ⟨σ, h4⟩ := hM.1.2.2.2.1
  exact mw_268 (d := 298) hM.1.2.1 h4 (gv := ps_a s 1134) (fun k _ => rfl) (fun v s2 J2 K2 p0 pV => ⟨IMs_m hM (LX_mk hM.1 J2 (LX_3 hM.1 K2 rfl) (⟨σ, p0⟩) (LX_D hM.1 K2 rfl) (LX_F hM.1 K2 rfl)) hu J2 K2 rfl rfl (fun k hk => pV k (by omega)), LO_of J2 K2 rfl, fun _ _ z => TRm_m (t := t) z K2 rfl rfl (fun k hk => pV k (by omega))⟩)
theorem cj_269 {s : ps_S} {t : Int32} {u : Int} {x1 : Int32} {x2 : Int32} (hM : IMs s t u) (hu : u = t.toInt) : ps_Cl 299 269 [.ref 1131, .int x1, .int x2] s (ps_rI (fun _ s2 => RMs s s2 t)) :=
  ms_269 (d := 297) hM.1.2.1 (fun v => ⟨IMs_L hM hu, cfr_refl, fun _ _ z => z⟩)
theorem cj_271 {s : ps_S} {t : Int32} {u : Int} {x1 : Int32} {x2 : Int32} (hM : IMs s t u) (hu : u = t.toInt) : ps_Cl 299 271 [.ref 1131, .int x1, .int x2] s (ps_rI (fun _ s2 => RMs s s2 t)) :=
  ms_271 (d := 298) hM.1.2.1 (fun v => ⟨IMs_L hM hu, cfr_refl, fun _ _ z => z⟩)
theorem cj_273 {s : ps_S} {t : Int32} {u : Int}  (hM : IMs s t u) (hu : u = t.toInt) : ps_Cl 299 273 [.ref 1131] s (ps_rI (fun _ s2 => RMs s s2 t)) := by
  obtain ⟨σ, h4⟩ := hM.1.2.2.2.1
  exact ms_273 (d := 298) hM.1.2.1 h4 (fun v s2 J2 K2 p0 => ⟨IMs_m hM (LX_mk hM.1 J2 (LX_3 hM.1 K2 rfl) (⟨σ, p0⟩) (LX_D hM.1 K2 rfl) (LX_F hM.1 K2 rfl)) hu J2 K2 rfl rfl (LG_p K2 rfl), LO_of J2 K2 rfl, fun _ _ z => TRm_m (t := t) z K2 rfl rfl (LG_p K2 rfl)⟩)
theorem cj_275 {s : ps_S} {t : Int32} {u : Int} {x1 : Int32} (hM : IMs s t u) (hu : u = t.toInt) : ps_Cl 299 275 [.ref 1131, .int x1] s (ps_rI (fun _ s2 => RMs s s2 t)) :=
  ms_275 (d := 297) hM.1.2.1 (fun v => ⟨IMs_L hM hu, cfr_refl, fun _ _ z => z⟩)
theorem cj_276 {s : ps_S} {t : Int32} {u : Int}  (hM : IMs s t u) (hu : u = t.toInt) : ps_Cl 299 276 [.ref 1131] s (ps_rI (fun _ s2 => RMs s s2 t)) :=
  ms_276 (d := 297) hM.1.2.1 (fun v => ⟨IMs_L hM hu, cfr_refl, fun _ _ z => z⟩)
theorem cj_267 {s : ps_S} {t : Int32} {u : Int} {x1 : Int32} (hM : IMs s t u) (hu : u = t.toInt) : ps_Cl 299 267 [.ref 1131, .int x1] s (ps_rJ (fun _ s2 => RMs s s2 t)) :=
  ms_267 (d := 297) hM.1.2.1 (fun v => ⟨IMs_L hM hu, cfr_refl, fun _ _ z => z⟩)
theorem cj_280 {s : ps_S} {t : Int32} {u : Int}  (hM : IMs s t u) (hu : u = t.toInt) : ps_Cl 299 280 [.ref 1131] s (ps_rI (fun _ s2 => RMs s s2 t)) := by
  obtain ⟨σ, h4⟩ := hM.1.2.2.2.1
  exact ms_280 (d := 295) hM.1.2.1 h4 (fun v s2 J2 K2 => ⟨IMs_m hM (LX_mk hM.1 J2 (LX_3 hM.1 K2 rfl) (LX_M hM.1 K2 rfl rfl rfl rfl rfl rfl rfl rfl rfl rfl rfl) (LX_D hM.1 K2 rfl) (LX_F hM.1 K2 rfl)) hu J2 K2 rfl rfl (LG_p K2 rfl), LO_of J2 K2 rfl, fun _ _ z => TRm_m (t := t) z K2 rfl rfl (LG_p K2 rfl)⟩)
theorem cj_281 {s : ps_S} {t : Int32} {u : Int}  (hM : IMs s t u) (hu : u = t.toInt) : ps_Cl 299 281 [.ref 1131] s (ps_rI (fun _ s2 => RMs s s2 t)) := by
  obtain ⟨σ, h4⟩ := hM.1.2.2.2.1
  exact ms_281 (d := 295) hM.1.2.1 h4 (fun v s2 J2 K2 => ⟨IMs_m hM (LX_mk hM.1 J2 (LX_3 hM.1 K2 rfl) (LX_M hM.1 K2 rfl rfl rfl rfl rfl rfl rfl rfl rfl rfl rfl) (LX_D hM.1 K2 rfl) (LX_F hM.1 K2 rfl)) hu J2 K2 rfl rfl (LG_p K2 rfl), LO_of J2 K2 rfl, fun _ _ z => TRm_m (t := t) z K2 rfl rfl (LG_p K2 rfl)⟩)
theorem cj_282 {s : ps_S} {t : Int32} {u : Int}  (hM : IMs s t u) (hu : u = t.toInt) : ps_Cl 299 282 [.ref 1131] s (ps_rI (fun _ s2 => RMs s s2 t)) := by
  obtain ⟨σ, h4⟩ := hM.1.2.2.2.1
  exact ms_282 (d := 295) hM.1.2.1 h4 (fun v s2 J2 K2 => ⟨IMs_m hM (LX_mk hM.1 J2 (LX_3 hM.1 K2 rfl) (LX_M hM.1 K2 rfl rfl rfl rfl rfl rfl rfl rfl rfl rfl rfl) (LX_D hM.1 K2 rfl) (LX_F hM.1 K2 rfl)) hu J2 K2 rfl rfl (LG_p K2 rfl), LO_of J2 K2 rfl, fun _ _ z => TRm_m (t := t) z K2 rfl rfl (LG_p K2 rfl)⟩)
theorem cj_288 {s : ps_S} {t : Int32} {u : Int}  (hM : IMs s t u) (hu : (0 : Int) = t.toInt) : ps_Cl 299 288 [.ref 1131] s (ps_rI (fun _ s2 => RMs s s2 t)) := by
  obtain ⟨σ, h4⟩ := hM.1.2.2.2.1
  exact mw_288 (d := 293) hM.1.2.1 h4 (gv := ps_a s 1134) (fun k _ => rfl) (fun v s2 J2 K2 p0 p1 pV => ⟨IMs_m hM (LX_mk hM.1 J2 (p1) (⟨σ, p0⟩) (LX_D hM.1 K2 rfl) (LX_F hM.1 K2 rfl)) hu J2 K2 rfl rfl (fun k hk => pV k (by omega)), LO_of J2 K2 rfl, fun _ _ z => TRm_m (t := t) z K2 rfl rfl (fun k hk => pV k (by omega))⟩)
theorem cj_289 {s : ps_S} {t : Int32} {u : Int} {x1 : Int32} (hM : IMs s t u) (hu : u = t.toInt) : ps_Cl 299 289 [.ref 1131, .int x1] s (ps_rI (fun _ s2 => RMs s s2 t)) :=
  ms_289 (d := 297) hM.1.2.1 (fun v => ⟨IMs_L hM hu, cfr_refl, fun _ _ z => z⟩)
theorem cj_285 {s : ps_S} {t : Int32} {u : Int}  (hM : IMs s t u) (hu : u = t.toInt) : ps_Cl 299 285 [.ref 1131] s (ps_rI (fun _ s2 => RMs s s2 t)) := by
  obtain ⟨σ, h4⟩ := hM.1.2.2.2.1
  exact ms_285 (d := 296) hM.1.2.1 h4 (fun v s2 J2 K2 => ⟨IMs_m hM (LX_mk hM.1 J2 (LX_3 hM.1 K2 rfl) (LX_M hM.1 K2 rfl rfl rfl rfl rfl rfl rfl rfl rfl rfl rfl) (LX_D hM.1 K2 rfl) (LX_F hM.1 K2 rfl)) hu J2 K2 rfl rfl (LG_p K2 rfl), LO_of J2 K2 rfl, fun _ _ z => TRm_m (t := t) z K2 rfl rfl (LG_p K2 rfl)⟩)
theorem cj_301 {s : ps_S} {t : Int32} {u : Int} {x1 : Int32} (hM : IMs s t u) (hu : u = t.toInt) : ps_Cl 299 301 [.ref 1131, .int x1] s (ps_rI (fun _ s2 => RMs s s2 t)) := by
  obtain ⟨σ, h4⟩ := hM.1.2.2.2.1
  exact ms_301 (d := 297) hM.1.2.1 (MI_S h4) (fun v s2 J2 K2 p0 p1 p2 => ⟨IMs_m hM (LX_mk hM.1 J2 (LX_3 hM.1 K2 rfl) (LX_M hM.1 K2 rfl rfl rfl rfl rfl rfl rfl rfl rfl rfl rfl) (LX_D hM.1 K2 rfl) (LX_F hM.1 K2 rfl)) hu J2 K2 rfl rfl (LG_p K2 rfl), LO_of J2 K2 rfl, fun _ _ z => TRm_m (t := t) z K2 rfl rfl (LG_p K2 rfl)⟩)
theorem cj_302 {s : ps_S} {t : Int32} {u : Int} {x1 : Int32} (hM : IMs s t u) (hu : u = t.toInt) : ps_Cl 299 302 [.ref 1131, .int x1] s (ps_rI (fun _ s2 => RMs s s2 t)) := by
  obtain ⟨σ, h4⟩ := hM.1.2.2.2.1
  exact ms_302 (d := 293) hM.1.2.1 h4 hM.1.2.2.2.2.1 hM.1.2.2.2.2.2 (fun v s2 J2 K2 p0 p1 => ⟨IMs_m hM (LX_mk hM.1 J2 (LX_3 hM.1 K2 rfl) (LX_M hM.1 K2 rfl rfl rfl rfl rfl rfl rfl rfl rfl rfl rfl) (p0) (p1)) hu J2 K2 rfl rfl (LG_p K2 rfl), LO_of J2 K2 rfl, fun _ _ z => TRm_m (t := t) z K2 rfl rfl (LG_p K2 rfl)⟩)
theorem cj_303 {s : ps_S} {t : Int32} {u : Int} {x1 : Int32} {x2 : Int32} (hM : IMs s t u) (hu : u = t.toInt) : ps_Cl 299 303 [.ref 1131, .int x1, .int x2] s (ps_rI (fun _ s2 => RMs s s2 t)) := by
  obtain ⟨σ, h4⟩ := hM.1.2.2.2.1
  exact ms_303 (d := 294) hM.1.2.1 h4 hM.1.2.2.2.2.1 hM.1.2.2.2.2.2 (fun v s2 J2 K2 p0 p1 => ⟨IMs_m hM (LX_mk hM.1 J2 (LX_3 hM.1 K2 rfl) (LX_M hM.1 K2 rfl rfl rfl rfl rfl rfl rfl rfl rfl rfl rfl) (p0) (p1)) hu J2 K2 rfl rfl (LG_p K2 rfl), LO_of J2 K2 rfl, fun _ _ z => TRm_m (t := t) z K2 rfl rfl (LG_p K2 rfl)⟩)
theorem cj_304 {s : ps_S} {t : Int32} {u : Int} {x1 : Int32} (hM : IMs s t u) (hu : u = t.toInt) : ps_Cl 299 304 [.ref 1131, .int x1] s (ps_rI (fun _ s2 => RMs s s2 t)) := by
  obtain ⟨σ, h4⟩ := hM.1.2.2.2.1
  exact ms_304 (d := 293) hM.1.2.1 h4 hM.1.2.2.2.2.1 hM.1.2.2.2.2.2 (fun v s2 J2 K2 p0 p1 => ⟨IMs_m hM (LX_mk hM.1 J2 (LX_3 hM.1 K2 rfl) (LX_M hM.1 K2 rfl rfl rfl rfl rfl rfl rfl rfl rfl rfl rfl) (p0) (p1)) hu J2 K2 rfl rfl (LG_p K2 rfl), LO_of J2 K2 rfl, fun _ _ z => TRm_m (t := t) z K2 rfl rfl (LG_p K2 rfl)⟩)
theorem cj_305 {s : ps_S} {t : Int32} {u : Int} {x1 : Int32} (hM : IMs s t u) (hu : u = t.toInt) : ps_Cl 299 305 [.ref 1131, .int x1] s (ps_rI (fun _ s2 => RMs s s2 t)) := by
  obtain ⟨σ, h4⟩ := hM.1.2.2.2.1
  exact mw_305 (d := 298) hM.1.2.1 h4 (gv := ps_a s 1134) (fun k _ => rfl) (fun v s2 J2 K2 p0 pV => ⟨IMs_m hM (LX_mk hM.1 J2 (LX_3 hM.1 K2 rfl) (⟨σ, p0⟩) (LX_D hM.1 K2 rfl) (LX_F hM.1 K2 rfl)) hu J2 K2 rfl rfl (fun k hk => pV k (by omega)), LO_of J2 K2 rfl, fun _ _ z => TRm_m (t := t) z K2 rfl rfl (fun k hk => pV k (by omega))⟩)
theorem cj_306 {s : ps_S} {t : Int32} {u : Int} {x1 : Int32} (hM : IMs s t u) (hu : u = t.toInt) : ps_Cl 299 306 [.ref 1131, .int x1] s (ps_rI (fun _ s2 => RMs s s2 t)) := by
  obtain ⟨σ, h4⟩ := hM.1.2.2.2.1
  exact mw_306 (d := 298) hM.1.2.1 h4 (gv := ps_a s 1134) (fun k _ => rfl) (fun v s2 J2 K2 p0 pV => ⟨IMs_m hM (LX_mk hM.1 J2 (LX_3 hM.1 K2 rfl) (⟨σ, p0⟩) (LX_D hM.1 K2 rfl) (LX_F hM.1 K2 rfl)) hu J2 K2 rfl rfl (fun k hk => pV k (by omega)), LO_of J2 K2 rfl, fun _ _ z => TRm_m (t := t) z K2 rfl rfl (fun k hk => pV k (by omega))⟩)
theorem cj_307 {s : ps_S} {t : Int32} {u : Int} {x1 : Int32} (hM : IMs s t u) (hu : u = t.toInt) : ps_Cl 299 307 [.ref 1131, .int x1] s (ps_rI (fun _ s2 => RMs s s2 t)) :=
  ms_307 (d := 298) hM.1.2.1 (fun v => ⟨IMs_L hM hu, cfr_refl, fun _ _ z => z⟩)
theorem JP_0 {s : ps_S} {t : Int32} {x1 x2 x3 x4 x5 : Int32} (h : JSt s t) : ps_Cl 299 149 [.ref 0, .int x1, .int x2, .int x3, .int x4, .int x5] s (ps_rI (fun v s1 => ps_Cl 299 308 [.ref 1131, .int x1, .int x2, .int x3, .int x4, .int x5] s1 (ps_rI (fun v2 s2 => v = v2 ∧ ∃ t2, JSt s2 t2)))) := by
  obtain ⟨⟨hI, hF, hG⟩, g, l, c, m, hbt, hc, G⟩ := h
  have hb := LI_t hI
  have A : ps_Cl 299 149 [.ref 0, .int x1, .int x2, .int x3, .int x4, .int x5] s (ps_rI (fun v s1 => ∃ t1 : Int32, xJ s t1 s1 ∧ ((v.toInt = -1 ∧ t1 = t ∧ 1580 < t.toInt) ∨ (v = t1 ∧ t1.toInt = t.toInt + 20 ∧ t.toInt ≤ 1580)))) := xs_149 (d := 298) (LI_J hI) hb.1 hb.2 (fun v s1 t1 J p => ⟨t1, J, p⟩)
  have B : ∀ n, pl_Cl n 149 [.ref 0, .int x1, .int x2, .int x3, .int x4, .int x5] s (ps_rI (fun _ s1 => LM s1 t x1 x2 x3 x4 x5)) := fun n => LM_x hI hF n
  have D : ∀ n, pl_Cl n 149 [.ref 0, .int x1, .int x2, .int x3, .int x4, .int x5] s (ps_rI (fun _ s1 => TRc s1 g l ∧ JG s1 g)) := fun n => by
    have e : ps_i s 0 1 = t := hI.2.1.2.1
    refine fs_149 (t := t.toInt.toNat) (by omega) (by rw [e]; omega) (fun _ v s' q => ?_) (fun _ => ⟨c, G⟩)
    obtain ⟨g1, g2, g3, g4, g5⟩ := q
    obtain ⟨c1, c2, c3⟩ := c
    have hl := c1.2.2.1
    exact ⟨⟨by rw [g3]; exact cv_H_cfr c1 g2 (fun q a b z => by omega), by rw [g3]; exact c2, cv_W_cfr c3 g2 (by omega) (by omega)⟩, JG_cfr G g2 (by omega) (by omega)⟩
  refine ps_monoI (ps_andlI (ps_andlI A B (fun v w s1 s2 r1 r2 z => LM_det hb.1 hb.2 r2 r1 z)) D (pdet_and TRc_v JG_v)) (fun v s1 z => ?_)
  obtain ⟨⟨⟨t1, J, q1⟩, hM1⟩, c1, G1⟩ := z
  have m1 := TRm_x m J
  have hX := LI_x hI J
  obtain ⟨σ, h4⟩ := hX.2.2.2.1
  have A2 : ps_Cl 299 308 [.ref 1131, .int x1, .int x2, .int x3, .int x4, .int x5] s1 (ps_rI (fun v2 s2 => ∃ u2, LX s2 t1 u2 ∧ ((v2.toInt = -1 ∧ u2 = t.toInt ∧ 1580 < t.toInt) ∨ (v2.toInt = t.toInt + 20 ∧ u2 = t.toInt + 20 ∧ t.toInt ≤ 1580)) ∧ LO s1 s2 ∧ TRm s2 g l)) := ms_308 (d := 299) hX.2.1 (fun v s2 J2 K2 p0 => ⟨_, LX_mk hX J2 rfl (LX_M hX K2 rfl rfl rfl rfl rfl rfl rfl rfl rfl rfl rfl) (LX_D hX K2 rfl) (LX_F hX K2 rfl), by have e3 := hX.2.2.1; omega, LO_of J2 K2 rfl, by
    obtain ⟨b, y1, y2, y3, y4⟩ := m1
    exact ⟨b, y1, by rw [kp_i K2 21 rfl]; exact y2, mv_H_V y1 y3 (fun r hr => (K2.2 r ((show ∀ r, r ∈ [1135, 1136, 1137, 1138, 1139] → [1132].contains r = false by decide) r hr)).1) (fun r hr => (K2.2 r ((show ∀ r, r ∈ [1140, 1141, 1142] → [1132].contains r = false by decide) r hr)).2) (fun k _ _ => by rw [(K2.2 1134 rfl).1]), mv_W_V y4 (fun k _ _ => by rw [(K2.2 1134 rfl).1])⟩⟩)
  have B2 : ∀ n, pl_Cl n 308 [.ref 1131, .int x1, .int x2, .int x3, .int x4, .int x5] s1 (ps_rI (fun _ s2 => LF s2 t1)) := fun n => by
    refine pl_At.mono (LM_m hb.1 hb.2 hX.2.2.1 hM1 n) (fun o s2 z => rI_mono z (fun v y => ?_))
    exact y t1 (by rcases q1 with ⟨-, a2, a3⟩ | ⟨-, a2, a3⟩; exact Or.inl ⟨a2, a3⟩; exact Or.inr ⟨a2, a3⟩)
  refine ps_monoI (ps_andlI A2 B2 (fun v w y1 y2 r1 r2 z => LF_det (by rcases q1 with ⟨a1, a2, a3⟩ | ⟨a1, a2, a3⟩ <;> (try rw [a2]) <;> omega) r2 r1 z)) (fun v2 s2 z => ?_)
  obtain ⟨⟨u2, hL2, q2, lo, m2⟩, hF2⟩ := z
  refine ⟨Int32.toInt_inj.mp (by rcases q1 with ⟨a1, a2, a3⟩ | ⟨a1, a2, a3⟩ <;> rcases q2 with ⟨b1, b2, b3⟩ | ⟨b1, b2, b3⟩ <;> (try rw [a1]) <;> omega), t1, ⟨LX_LI hL2 (by rcases q1 with ⟨a1, a2, a3⟩ | ⟨a1, a2, a3⟩ <;> rcases q2 with ⟨b1, b2, b3⟩ | ⟨b1, b2, b3⟩ <;> (try rw [a2]) <;> omega), hF2, LG_of (TRc_lo c1 lo) m2⟩, g, l, TRc_lo c1 lo, m2, hbt, hc, JG_lo G1 lo⟩

theorem JP_1 {s : ps_S} {t : Int32} {x1 : Int32} (h : JSt s t) : ps_Cl 299 150 [.ref 0, .int x1] s (ps_rI (fun v s1 => ps_Cl 299 309 [.ref 1131, .int x1] s1 (ps_rI (fun v2 s2 => v = v2 ∧ ∃ t2, JSt s2 t2)))) := by
  obtain ⟨h, g, l, c, m, hbt, hc, G⟩ := h
  have hb := LI_t h.1
  refine ps_monoI (cx_150 h.1 h.2.1) (fun v s1 z => ?_)
  obtain ⟨t1, z, q1⟩ := z
  have hM := IMs_k h z (fun q a c => by omega) (by rcases q1 with ⟨-, e, -⟩ | ⟨-, e, -, e2⟩ <;> (rw [e]; omega))
  have hX := hM.1
  have c1 := TRc_x c z (fun q a c => by omega)
  have m1 := TRm_x m z.1
  have G1 : JG s1 g := JG_cfr G z.2.1 (by omega) (by omega)
  have A2 : ps_Cl 299 309 [.ref 1131, .int x1] s1 (ps_rI (fun v2 s2 => ∃ u2, ((v2.toInt = -1 ∧ u2 = t.toInt ∧ (x1.toInt < 0 ∨ t.toInt < x1.toInt)) ∨ (v2.toInt = x1.toInt ∧ u2 = x1.toInt ∧ 0 ≤ x1.toInt ∧ x1.toInt ≤ t.toInt)) ∧ (u2 = t1.toInt → JSt s2 t1))) := ms_309 (d := 299) hX.2.1 (fun v s2 J2 K2 p0 => ⟨(ps_i s2 1131 3).toInt, by have e3 := hX.2.2.1; omega, fun e => ⟨IMs_m hM (LX_mk hX J2 rfl (LX_M hX K2 rfl rfl rfl rfl rfl rfl rfl rfl rfl rfl rfl) (LX_D hX K2 rfl) (LX_F hX K2 rfl)) e J2 K2 rfl rfl (LG_p K2 rfl), g, l, TRc_lo c1 (LO_of J2 K2 rfl), TRm_m (t := t) m1 K2 rfl rfl (LG_p K2 rfl), hbt, hc, JG_lo G1 (LO_of J2 K2 rfl)⟩⟩)
  refine ps_monoI A2 (fun v2 s2 y => ?_)
  obtain ⟨u2, q2, k⟩ := y
  refine ⟨Int32.toInt_inj.mp (by rcases q1 with ⟨a1, a2, a3⟩ | ⟨a1, a2, a3⟩ <;> rcases q2 with ⟨b1, b2, b3⟩ | ⟨b1, b2, b3⟩ <;> (try rw [a1]) <;> omega), t1, k (by rcases q1 with ⟨a1, a2, a3⟩ | ⟨a1, a2, a3⟩ <;> rcases q2 with ⟨b1, b2, b3⟩ | ⟨b1, b2, b3⟩ <;> (try rw [a2]) <;> omega)⟩

theorem JP_2 {s : ps_S} {t : Int32} (h : JSt s t) : ps_Cl 299 151 [.ref 0] s (ps_rI (fun v s1 => ps_Cl 299 201 [.ref 1131] s1 (ps_rI (fun v2 s2 => v = v2 ∧ ∃ t2, JSt s2 t2)))) := by
  obtain ⟨⟨hI, hF, hG⟩, h0, l0, c, m, hbt, hc, G⟩ := h
  have hb := LI_t hI
  have A : ps_Cl 299 151 [.ref 0] s (ps_rI (fun v s1 => yJ s 0 s1)) := ys_151 (d := 259) (LF_J hI hF) (fun v s1 J => J)
  have B : ∀ n, pl_Cl n 151 [.ref 0] s (ps_rI (fun v s1 => KTc s t h0 l0 v s1)) := fun n => pl_At.mono (KT_x hI hF hG n) (fun o s1 z => rI_mono z (fun v y => by
    rcases y with y | ⟨y1, y2⟩
    · exact Or.inl y
    · exact Or.inr ⟨y1, y2 _ _ c⟩))
  refine ps_monoI (ps_andlI (ps_andlI A B KTc_v) (fun n => fs_151e hI hF hG) KJ_v) (fun v s1 z => ?_)
  obtain ⟨⟨J, c1⟩, kj⟩ := z
  have hX : LX s1 0 t.toInt := LI_x hI J.1
  have hF1 : LF s1 0 := LF_x hF J (by rw [Int32.toInt_zero]; exact hb.1)
  have m1 := TRm_x m J.1
  obtain ⟨σ, h4⟩ := hX.2.2.2.1
  have A2 : ps_Cl 299 201 [.ref 1131] s1 (ps_rI (fun _ s2 => LI s2 0 ∧ LF s2 0 ∧ LO s1 s2)) := ms_201 (d := 292) hX.2.1 h4 (fun v s2 J2 K2 p0 p1 => ⟨LX_LI (LX_mk hX J2 (p1) (p0) (LX_D hX K2 rfl) (LX_F hX K2 rfl)) rfl, LF_m hF1 J2 K2 rfl rfl rfl rfl rfl, LO_of J2 K2 rfl⟩)
  have B2 : ∀ n, pl_Cl n 201 [.ref 1131] s1 (ps_rI (fun v s2 => KTm s t h0 l0 v s2)) := fun n => KTm_m hI hF J.1 hX m1 n
  refine ps_monoI (ps_andlI A2 B2 KTm_v) (fun v2 s2 z => ?_)
  obtain ⟨⟨hL, hF2, lo⟩, m2⟩ := z
  rcases c1 with ⟨ha, pa, ga, ea, ca⟩ | ⟨⟨ha, pa, ka, ga, ea⟩, ca⟩ <;> rcases m2 with ⟨hb', pb, gb, eb, mb⟩ | ⟨⟨hb', pb, kb, gb, eb⟩, mb⟩
  · have e := gt_det ga gb rfl rfl
    cases e
    have G1 : JG s1 ha := by
      rcases kj with ⟨e, -, -⟩ | z
      · omega
      · exact JG_z z
    exact ⟨Int32.toInt_inj.mp (by rw [ea, eb]), 0, ⟨hL, hF2, LG_of (TRc_lo ca lo) mb⟩, ha, [], TRc_lo ca lo, mb, BTh_go ga, fun y => absurd rfl y, JG_lo G1 lo⟩
  · have e := gt_det ga gb rfl rfl
    cases e
  · have e := gt_det ga gb rfl rfl
    cases e
  · have G1 : JG s1 h0 := by
      rcases kj with ⟨-, z1, z2⟩ | z
      · exact JG_eq G z1 z2
      · exact JG_z z
    exact ⟨Int32.toInt_inj.mp (by rw [ea, eb]), 0, ⟨hL, hF2, LG_of (TRc_lo ca lo) mb⟩, h0, l0, TRc_lo ca lo, mb, hbt, hc, JG_lo G1 lo⟩

theorem JP_13 {s : ps_S} {t : Int32} (h : JSt s t) : ps_Cl 299 162 [.ref 0] s (ps_rI (fun v s1 => ps_Cl 299 274 [.ref 1131] s1 (ps_rI (fun v2 s2 => v = v2 ∧ ∃ t2, JSt s2 t2)))) := by
  obtain ⟨⟨hI, hF, hG⟩, h0, l0, c, m, hbt, hc, G⟩ := h
  have hb := LI_t hI
  have e : ps_i s 0 1 = t := hI.2.1.2.1
  have hth : ps_r s 0 2 = 2 ∨ ps_r s 0 2 = 26 := hF.2.2.2.2.1
  have B : ∀ n, pl_Cl n 162 [.ref 0] s (ps_rI (fun v s1 => KRc s t h0 v s1)) := fun n => fs_162 (th := ps_r s 0 2) (T := TT s) (N := t.toInt.toNat) hth rfl c.1.1 (by rw [e]; omega) (by omega) (fun k _ => bytes_T) hF.2.1 (fun v s1 l z1 z2 z3 _ _ => Or.inl ⟨l, z1, z2, z3⟩) (fun s1 k pl z1 z3 _ _ _ => Or.inr ⟨⟨k, pl, z1⟩, by decide, z3⟩)
  refine ps_monoI (ps_andlI (cx_162 hI hF) B KRc_v) (fun v s1 z => ?_)
  obtain ⟨J, c1⟩ := z
  have hX : LX s1 0 t.toInt := LI_x hI J.1
  have G1 : JG s1 h0 := JG_cfr G J.2.1 (by unfold C162; omega) (by unfold C162; omega)
  have hF1 : LF s1 0 := LF_k hF J (by unfold C162; omega) (by unfold C162; omega) (by unfold C162; omega) (by rw [Int32.toInt_zero]; exact hb.1)
  have m1 := TRm_x m J.1
  have c1a : cv_H s1 (ps_r s1 0 2) h0 ∧ ((ps_r s1 0 2 = 2 ∧ ps_r s1 0 3 = 26) ∨ (ps_r s1 0 2 = 26 ∧ ps_r s1 0 3 = 2)) := by
    obtain ⟨d1, d2, d3⟩ := c
    have hl := d1.2.2.1
    obtain ⟨-, F, ⟨r2, r3⟩, -⟩ := J
    exact ⟨by rw [r2]; exact cv_H_cfr d1 F (fun q a b => by unfold C162; omega), by rw [r2, r3]; exact d2⟩
  obtain ⟨σ, h4⟩ := hX.2.2.2.1
  have A2 : ps_Cl 299 274 [.ref 1131] s1 (ps_rI (fun _ s2 => LI s2 0 ∧ LF s2 0 ∧ LO s1 s2)) := ms_274 (d := 293) hX.2.1 h4 (fun v s2 J2 K2 p0 p1 => ⟨LX_LI (LX_mk hX J2 (p1) (⟨σ, p0⟩) (LX_D hX K2 rfl) (LX_F hX K2 rfl)) rfl, LF_m hF1 J2 K2 rfl rfl rfl rfl rfl, LO_of J2 K2 rfl⟩)
  have B2 : ∀ n, pl_Cl n 274 [.ref 1131] s1 (ps_rI (fun v s2 => KRm s t h0 v s2)) := fun n => by
    obtain ⟨b, y1, y2, y3, y4⟩ := id m1
    have h3 := hX.2.2.1
    refine fm_274 (b := b) (T := TT s) (N := t.toInt.toNat) y1 y2 y3.1 (by omega) (by omega) (fun k hk => ?_) (fun v s2 l z1 z2 z3 z4 => Or.inl ⟨l, z1, z2, TRm_po m1 z4.2.1 z4.2.2.1 z3⟩) (fun s2 z3 z4 => ?_)
    · rw [(J.1.2.2 1132 (by decide)).2.2.1, ← hF.1 k (by omega)]
      exact bytes_T
    · obtain ⟨⟨k, pl, z1, -, -⟩, z5⟩ := z4
      exact Or.inr ⟨⟨k, pl, z1⟩, by decide, TRm_po m1 z5.1 z5.2.1 z3⟩
  refine ps_monoI (ps_andlI A2 B2 KRm_v) (fun v2 s2 z => ?_)
  obtain ⟨⟨hL, hF2, lo⟩, m2⟩ := z
  rcases c1 with ⟨la, ga, ea, ca⟩ | ⟨⟨ka, pa, ga⟩, ea, ca⟩ <;> rcases m2 with ⟨lb, gb, eb, mb⟩ | ⟨⟨kb, pb, gb⟩, eb, mb⟩
  · have e := rd_oo ga gb
    subst e
    have c2 := TRc_lo ⟨c1a.1, c1a.2, ca⟩ lo
    exact ⟨Int32.toInt_inj.mp (by rw [ea, eb]), 0, ⟨hL, hF2, LG_of c2 mb⟩, h0, la, c2, mb, hbt, fun _ => (bc_rd hbt.1 hbt.2.1 (Or.inr rfl) ga).1, JG_lo G1 lo⟩
  · exact (rd_ob ga gb).elim
  · exact (rd_ob gb ga).elim
  · have c2 := TRc_lo ⟨c1a.1, c1a.2, ca⟩ lo
    exact ⟨Int32.toInt_inj.mp (by rw [ea, eb]), 0, ⟨hL, hF2, LG_of c2 mb⟩, h0, [], c2, mb, hbt, fun y => absurd rfl y, JG_lo G1 lo⟩

theorem JP_3 {s : ps_S} {t : Int32} {x1 : Int32} (h : JSt s t) : ps_Cl 299 152 [.ref 0, .int x1] s (ps_rI (fun v s1 => ps_Cl 299 199 [.ref 1131, .int x1] s1 (ps_rI (fun v2 s2 => ∃ t2, JSt s2 t2)))) := by
  obtain ⟨h, g, l, c, m, hb, hc, G⟩ := h
  have wfc := WF_of (LI_LX h.1) m
  refine ps_monoI (cx_152 h.1 h.2.1) (fun v s1 z => ?_)
  have c1 := TRc_x c z (fun q a c => c.elim)
  have m1 := TRm_x m z.1
  have G1 : JG s1 g := JG_cfr G z.2.1 (fun c => c.elim) (fun c => c.elim)
  exact ps_monoI (cj_199 (IMs_k h z (fun q a c => c.elim) (Int.le_refl _)) rfl) (fun v2 s2 z2 => ⟨_, z2.1, g, l, TRc_lo c1 z2.2.1, z2.2.2 _ _ m1, hb, hc, JG_lo G1 z2.2.1⟩)
theorem JP_4 {s : ps_S} {t : Int32}  (h : JSt s t) : ps_Cl 299 153 [.ref 0] s (ps_rI (fun v s1 => ps_Cl 299 240 [.ref 1131] s1 (ps_rI (fun v2 s2 => ∃ t2, JSt s2 t2)))) := by
  obtain ⟨h, g, l, c, m, hb, hc, G⟩ := h
  have wfc := WF_of (LI_LX h.1) m
  refine ps_monoI (cx_153 h.1 h.2.1) (fun v s1 z => ?_)
  have c1 := TRc_x c z (fun q a c => by unfold C153 at c; omega)
  have m1 := TRm_x m z.1
  have G1 : JG s1 g := JG_cfr G z.2.1 (fun c => by unfold C153 at c; omega) (fun c => by unfold C153 at c; omega)
  exact ps_monoI (cj_240 (IMs_k h z (fun q a c => by unfold C153 at c; omega) (by rw [Int32.toInt_zero]; exact (LI_t h.1).1)) rfl) (fun v2 s2 z2 => ⟨_, z2.1, g, l, TRc_lo c1 z2.2.1, z2.2.2 _ _ m1, hb, hc, JG_lo G1 z2.2.1⟩)
theorem JP_5 {s : ps_S} {t : Int32} {x1 : Int32} (h : JSt s t) : ps_Cl 299 154 [.ref 0, .int x1] s (ps_rI (fun v s1 => ps_Cl 299 261 [.ref 1131, .int x1] s1 (ps_rI (fun v2 s2 => ∃ t2, JSt s2 t2)))) := by
  obtain ⟨h, g, l, c, m, hb, hc, G⟩ := h
  have wfc := WF_of (LI_LX h.1) m
  refine ps_monoI (cx_154 h.1 h.2.1) (fun v s1 z => ?_)
  have c1 := TRc_x c z (fun q a c => c.elim)
  have m1 := TRm_x m z.1
  have G1 : JG s1 g := JG_cfr G z.2.1 (fun c => c.elim) (fun c => c.elim)
  exact ps_monoI (cj_261 (IMs_k h z (fun q a c => c.elim) (Int.le_refl _)) rfl) (fun v2 s2 z2 => ⟨_, z2.1, g, l, TRc_lo c1 z2.2.1, z2.2.2 _ _ m1, hb, hc, JG_lo G1 z2.2.1⟩)
theorem JP_6 {s : ps_S} {t : Int32} {x1 : Int32} {x2 : Int32} (h : JSt s t) : ps_Cl 299 155 [.ref 0, .int x1, .int x2] s (ps_rI (fun v s1 => ps_Cl 299 263 [.ref 1131, .int x1, .int x2] s1 (ps_rI (fun v2 s2 => ∃ t2, JSt s2 t2)))) := by
  obtain ⟨h, g, l, c, m, hb, hc, G⟩ := h
  have wfc := WF_of (LI_LX h.1) m
  refine ps_monoI (cx_155 h.1 h.2.1) (fun v s1 z => ?_)
  have c1 := TRc_x c z (fun q a c => c.elim)
  have m1 := TRm_x m z.1
  have G1 : JG s1 g := JG_cfr G z.2.1 (fun c => c.elim) (fun c => c.elim)
  exact ps_monoI (cj_263 (IMs_k h z (fun q a c => c.elim) (Int.le_refl _)) rfl) (fun v2 s2 z2 => ⟨_, z2.1, g, l, TRc_lo c1 z2.2.1, z2.2.2 _ _ m1, hb, hc, JG_lo G1 z2.2.1⟩)
theorem JP_7 {s : ps_S} {t : Int32} {x1 : Int32} {x2 : Int32} (h : JSt s t) : ps_Cl 299 156 [.ref 0, .int x1, .int x2] s (ps_rI (fun v s1 => ps_Cl 299 265 [.ref 1131, .int x1, .int x2] s1 (ps_rI (fun v2 s2 => ∃ t2, JSt s2 t2)))) := by
  obtain ⟨h, g, l, c, m, hb, hc, G⟩ := h
  have wfc := WF_of (LI_LX h.1) m
  refine ps_monoI (cx_156 h.1 h.2.1) (fun v s1 z => ?_)
  have c1 := TRc_x c z (fun q a c => c.elim)
  have m1 := TRm_x m z.1
  have G1 : JG s1 g := JG_cfr G z.2.1 (fun c => c.elim) (fun c => c.elim)
  exact ps_monoI (cj_265 (IMs_k h z (fun q a c => c.elim) (Int.le_refl _)) rfl) (fun v2 s2 z2 => ⟨_, z2.1, g, l, TRc_lo c1 z2.2.1, z2.2.2 _ _ m1, hb, hc, JG_lo G1 z2.2.1⟩)
theorem JP_8 {s : ps_S} {t : Int32} {x1 : Int32} {x2 : Int32} {x3 : Int32} (h : JSt s t) : ps_Cl 299 157 [.ref 0, .int x1, .int x2, .int x3] s (ps_rI (fun v s1 => ps_Cl 299 266 [.ref 1131, .int x1, .int x2, .int x3] s1 (ps_rI (fun v2 s2 => ∃ t2, JSt s2 t2)))) := by
  obtain ⟨h, g, l, c, m, hb, hc, G⟩ := h
  have wfc := WF_of (LI_LX h.1) m
  refine ps_monoI (cx_157 h.1 h.2.1) (fun v s1 z => ?_)
  have c1 := TRc_x c z (fun q a c => c.elim)
  have m1 := TRm_x m z.1
  have G1 : JG s1 g := JG_cfr G z.2.1 (fun c => c.elim) (fun c => c.elim)
  exact ps_monoI (cj_266 (IMs_k h z (fun q a c => c.elim) (Int.le_refl _)) rfl) (fun v2 s2 z2 => ⟨_, z2.1, g, l, TRc_lo c1 z2.2.1, z2.2.2 _ _ m1, hb, hc, JG_lo G1 z2.2.1⟩)
theorem JP_9 {s : ps_S} {t : Int32}  (h : JSt s t) : ps_Cl 299 158 [.ref 0] s (ps_rI (fun v s1 => ps_Cl 299 268 [.ref 1131] s1 (ps_rI (fun v2 s2 => ∃ t2, JSt s2 t2)))) := by
  obtain ⟨h, g, l, c, m, hb, hc, G⟩ := h
  have wfc := WF_of (LI_LX h.1) m
  refine ps_monoI (cx_158 h.1 h.2.1) (fun v s1 z => ?_)
  have c1 := TRc_x c z (fun q a c => by unfold C158 at c; omega)
  have m1 := TRm_x m z.1
  have G1 : JG s1 g := JG_cfr G z.2.1 (fun c => by unfold C158 at c; omega) (fun c => by unfold C158 at c; omega)
  exact ps_monoI (cj_268 (IMs_k h z (fun q a c => by unfold C158 at c; omega) (Int.le_refl _)) rfl) (fun v2 s2 z2 => ⟨_, z2.1, g, l, TRc_lo c1 z2.2.1, z2.2.2 _ _ m1, hb, hc, JG_lo G1 z2.2.1⟩)
theorem JP_10 {s : ps_S} {t : Int32} {x1 : Int32} {x2 : Int32} (h : JSt s t) : ps_Cl 299 159 [.ref 0, .int x1, .int x2] s (ps_rI (fun v s1 => ps_Cl 299 269 [.ref 1131, .int x1, .int x2] s1 (ps_rI (fun v2 s2 => ∃ t2, JSt s2 t2)))) := by
  obtain ⟨h, g, l, c, m, hb, hc, G⟩ := h
  have wfc := WF_of (LI_LX h.1) m
  refine ps_monoI (cx_159 h.1 h.2.1) (fun v s1 z => ?_)
  have c1 := TRc_x c z (fun q a c => c.elim)
  have m1 := TRm_x m z.1
  have G1 : JG s1 g := JG_cfr G z.2.1 (fun c => c.elim) (fun c => c.elim)
  exact ps_monoI (cj_269 (IMs_k h z (fun q a c => c.elim) (Int.le_refl _)) rfl) (fun v2 s2 z2 => ⟨_, z2.1, g, l, TRc_lo c1 z2.2.1, z2.2.2 _ _ m1, hb, hc, JG_lo G1 z2.2.1⟩)
theorem JP_11 {s : ps_S} {t : Int32} {x1 : Int32} {x2 : Int32} (h : JSt s t) : ps_Cl 299 160 [.ref 0, .int x1, .int x2] s (ps_rI (fun v s1 => ps_Cl 299 271 [.ref 1131, .int x1, .int x2] s1 (ps_rI (fun v2 s2 => ∃ t2, JSt s2 t2)))) := by
  obtain ⟨h, g, l, c, m, hb, hc, G⟩ := h
  have wfc := WF_of (LI_LX h.1) m
  refine ps_monoI (cx_160 h.1 h.2.1) (fun v s1 z => ?_)
  have c1 := TRc_x c z (fun q a c => c.elim)
  have m1 := TRm_x m z.1
  have G1 : JG s1 g := JG_cfr G z.2.1 (fun c => c.elim) (fun c => c.elim)
  exact ps_monoI (cj_271 (IMs_k h z (fun q a c => c.elim) (Int.le_refl _)) rfl) (fun v2 s2 z2 => ⟨_, z2.1, g, l, TRc_lo c1 z2.2.1, z2.2.2 _ _ m1, hb, hc, JG_lo G1 z2.2.1⟩)
theorem JP_12 {s : ps_S} {t : Int32}  (h : JSt s t) : ps_Cl 299 161 [.ref 0] s (ps_rI (fun v s1 => ps_Cl 299 273 [.ref 1131] s1 (ps_rI (fun v2 s2 => ∃ t2, JSt s2 t2)))) := by
  obtain ⟨h, g, l, c, m, hb, hc, G⟩ := h
  have wfc := WF_of (LI_LX h.1) m
  refine ps_monoI (cx_161 h.1 h.2.1) (fun v s1 z => ?_)
  have c1 := TRc_x c z (fun q a c => by unfold C161 at c; omega)
  have m1 := TRm_x m z.1
  have G1 : JG s1 g := JG_cfr G z.2.1 (fun c => by unfold C161 at c; omega) (fun c => by unfold C161 at c; omega)
  exact ps_monoI (cj_273 (IMs_k h z (fun q a c => by unfold C161 at c; omega) (Int.le_refl _)) rfl) (fun v2 s2 z2 => ⟨_, z2.1, g, l, TRc_lo c1 z2.2.1, z2.2.2 _ _ m1, hb, hc, JG_lo G1 z2.2.1⟩)
theorem JP_14 {s : ps_S} {t : Int32} {x1 : Int32} (h : JSt s t) : ps_Cl 299 163 [.ref 0, .int x1] s (ps_rI (fun v s1 => ps_Cl 299 275 [.ref 1131, .int x1] s1 (ps_rI (fun v2 s2 => ∃ t2, JSt s2 t2)))) := by
  obtain ⟨h, g, l, c, m, hb, hc, G⟩ := h
  have wfc := WF_of (LI_LX h.1) m
  refine ps_monoI (cx_163 h.1 h.2.1) (fun v s1 z => ?_)
  have c1 := TRc_x c z (fun q a c => c.elim)
  have m1 := TRm_x m z.1
  have G1 : JG s1 g := JG_cfr G z.2.1 (fun c => c.elim) (fun c => c.elim)
  exact ps_monoI (cj_275 (IMs_k h z (fun q a c => c.elim) (Int.le_refl _)) rfl) (fun v2 s2 z2 => ⟨_, z2.1, g, l, TRc_lo c1 z2.2.1, z2.2.2 _ _ m1, hb, hc, JG_lo G1 z2.2.1⟩)
theorem JP_15 {s : ps_S} {t : Int32}  (h : JSt s t) : ps_Cl 299 164 [.ref 0] s (ps_rI (fun v s1 => ps_Cl 299 276 [.ref 1131] s1 (ps_rI (fun v2 s2 => ∃ t2, JSt s2 t2)))) := by
  obtain ⟨h, g, l, c, m, hb, hc, G⟩ := h
  have wfc := WF_of (LI_LX h.1) m
  refine ps_monoI (cx_164 h.1 h.2.1) (fun v s1 z => ?_)
  have c1 := TRc_x c z (fun q a c => c.elim)
  have m1 := TRm_x m z.1
  have G1 : JG s1 g := JG_cfr G z.2.1 (fun c => c.elim) (fun c => c.elim)
  exact ps_monoI (cj_276 (IMs_k h z (fun q a c => c.elim) (Int.le_refl _)) rfl) (fun v2 s2 z2 => ⟨_, z2.1, g, l, TRc_lo c1 z2.2.1, z2.2.2 _ _ m1, hb, hc, JG_lo G1 z2.2.1⟩)
theorem JP_16 {s : ps_S} {t : Int32} {x1 : Int32} (h : JSt s t) : ps_Cl 299 165 [.ref 0, .int x1] s (ps_rJ (fun v s1 => ps_Cl 299 267 [.ref 1131, .int x1] s1 (ps_rJ (fun v2 s2 => ∃ t2, JSt s2 t2)))) := by
  obtain ⟨h, g, l, c, m, hb, hc, G⟩ := h
  have wfc := WF_of (LI_LX h.1) m
  refine ps_monoJ (cx_165 h.1 h.2.1) (fun v s1 z => ?_)
  have c1 := TRc_x c z (fun q a c => c.elim)
  have m1 := TRm_x m z.1
  have G1 : JG s1 g := JG_cfr G z.2.1 (fun c => c.elim) (fun c => c.elim)
  exact ps_monoJ (cj_267 (IMs_k h z (fun q a c => c.elim) (Int.le_refl _)) rfl) (fun v2 s2 z2 => ⟨_, z2.1, g, l, TRc_lo c1 z2.2.1, z2.2.2 _ _ m1, hb, hc, JG_lo G1 z2.2.1⟩)
theorem JP_17 {s : ps_S} {t : Int32}  (h : JSt s t) : ps_Cl 299 166 [.ref 0] s (ps_rI (fun v s1 => ps_Cl 299 280 [.ref 1131] s1 (ps_rI (fun v2 s2 => ∃ t2, JSt s2 t2)))) := by
  obtain ⟨h, g, l, c, m, hb, hc, G⟩ := h
  have wfc := WF_of (LI_LX h.1) m
  refine ps_monoI (cx_166 h.1 h.2.1) (fun v s1 z => ?_)
  have c1 := TRc_x c z (fun q a c => by unfold C166 at c; omega)
  have m1 := TRm_x m z.1
  have G1 : JG s1 g := JG_cfr G z.2.1 (fun c => by unfold C166 at c; omega) (fun c => by unfold C166 at c; omega)
  exact ps_monoI (cj_280 (IMs_k h z (fun q a c => by unfold C166 at c; omega) (Int.le_refl _)) rfl) (fun v2 s2 z2 => ⟨_, z2.1, g, l, TRc_lo c1 z2.2.1, z2.2.2 _ _ m1, hb, hc, JG_lo G1 z2.2.1⟩)
theorem JP_18 {s : ps_S} {t : Int32}  (h : JSt s t) : ps_Cl 299 167 [.ref 0] s (ps_rI (fun v s1 => ps_Cl 299 281 [.ref 1131] s1 (ps_rI (fun v2 s2 => ∃ t2, JSt s2 t2)))) := by
  obtain ⟨h, g, l, c, m, hb, hc, G⟩ := h
  have wfc := WF_of (LI_LX h.1) m
  refine ps_monoI (cx_167 h.1 h.2.1) (fun v s1 z => ?_)
  have c1 := TRc_x c z (fun q a c => by unfold C166 at c; omega)
  have m1 := TRm_x m z.1
  have G1 : JG s1 g := JG_cfr G z.2.1 (fun c => by unfold C166 at c; omega) (fun c => by unfold C166 at c; omega)
  exact ps_monoI (cj_281 (IMs_k h z (fun q a c => by unfold C166 at c; omega) (Int.le_refl _)) rfl) (fun v2 s2 z2 => ⟨_, z2.1, g, l, TRc_lo c1 z2.2.1, z2.2.2 _ _ m1, hb, hc, JG_lo G1 z2.2.1⟩)
theorem JP_19 {s : ps_S} {t : Int32}  (h : JSt s t) : ps_Cl 299 168 [.ref 0] s (ps_rI (fun v s1 => ps_Cl 299 282 [.ref 1131] s1 (ps_rI (fun v2 s2 => ∃ t2, JSt s2 t2)))) := by
  obtain ⟨h, g, l, c, m, hb, hc, G⟩ := h
  have wfc := WF_of (LI_LX h.1) m
  refine ps_monoI (cx_168 h.1 h.2.1) (fun v s1 z => ?_)
  have c1 := TRc_x c z (fun q a c => by unfold C166 at c; omega)
  have m1 := TRm_x m z.1
  have G1 : JG s1 g := JG_cfr G z.2.1 (fun c => by unfold C166 at c; omega) (fun c => by unfold C166 at c; omega)
  exact ps_monoI (cj_282 (IMs_k h z (fun q a c => by unfold C166 at c; omega) (Int.le_refl _)) rfl) (fun v2 s2 z2 => ⟨_, z2.1, g, l, TRc_lo c1 z2.2.1, z2.2.2 _ _ m1, hb, hc, JG_lo G1 z2.2.1⟩)
theorem JP_20 {s : ps_S} {t : Int32}  (h : JSt s t) : ps_Cl 299 169 [.ref 0] s (ps_rI (fun v s1 => ps_Cl 299 288 [.ref 1131] s1 (ps_rI (fun v2 s2 => ∃ t2, JSt s2 t2)))) := by
  obtain ⟨h, g, l, c, m, hb, hc, G⟩ := h
  have wfc := WF_of (LI_LX h.1) m
  refine ps_monoI (cx_169 h.1 h.2.1) (fun v s1 z => ?_)
  have c1 := TRc_x c z (fun q a c => by unfold C169 at c; omega)
  have m1 := TRm_x m z.1
  have G1 : JG s1 g := JG_cfr G z.2.1 (fun c => by unfold C169 at c; omega) (fun c => by unfold C169 at c; omega)
  exact ps_monoI (cj_288 (IMs_k h z (fun q a c => by unfold C169 at c; omega) (by rw [Int32.toInt_zero]; exact (LI_t h.1).1)) rfl) (fun v2 s2 z2 => ⟨_, z2.1, g, l, TRc_lo c1 z2.2.1, z2.2.2 _ _ m1, hb, hc, JG_lo G1 z2.2.1⟩)
theorem JP_21 {s : ps_S} {t : Int32} {x1 : Int32} (h : JSt s t) : ps_Cl 299 170 [.ref 0, .int x1] s (ps_rI (fun v s1 => ps_Cl 299 289 [.ref 1131, .int x1] s1 (ps_rI (fun v2 s2 => ∃ t2, JSt s2 t2)))) := by
  obtain ⟨h, g, l, c, m, hb, hc, G⟩ := h
  have wfc := WF_of (LI_LX h.1) m
  refine ps_monoI (cx_170 h.1 h.2.1) (fun v s1 z => ?_)
  have c1 := TRc_x c z (fun q a c => c.elim)
  have m1 := TRm_x m z.1
  have G1 : JG s1 g := JG_cfr G z.2.1 (fun c => c.elim) (fun c => c.elim)
  exact ps_monoI (cj_289 (IMs_k h z (fun q a c => c.elim) (Int.le_refl _)) rfl) (fun v2 s2 z2 => ⟨_, z2.1, g, l, TRc_lo c1 z2.2.1, z2.2.2 _ _ m1, hb, hc, JG_lo G1 z2.2.1⟩)
theorem JP_22 {s : ps_S} {t : Int32}  (h : JSt s t) : ps_Cl 299 171 [.ref 0] s (ps_rI (fun v s1 => ps_Cl 299 285 [.ref 1131] s1 (ps_rI (fun v2 s2 => ∃ t2, JSt s2 t2)))) := by
  obtain ⟨h, g, l, c, m, hb, hc, G⟩ := h
  have wfc := WF_of (LI_LX h.1) m
  refine ps_monoI (cx_171 h.1 h.2.1) (fun v s1 z => ?_)
  have c1 := TRc_x c z (fun q a c => by unfold C171 at c; omega)
  have m1 := TRm_x m z.1
  have G1 : JG s1 g := JG_cfr G z.2.1 (fun c => by unfold C171 at c; omega) (fun c => by unfold C171 at c; omega)
  exact ps_monoI (cj_285 (IMs_k h z (fun q a c => by unfold C171 at c; omega) (Int.le_refl _)) rfl) (fun v2 s2 z2 => ⟨_, z2.1, g, l, TRc_lo c1 z2.2.1, z2.2.2 _ _ m1, hb, hc, JG_lo G1 z2.2.1⟩)
theorem JP_23 {s : ps_S} {t : Int32} {x1 : Int32} (h : JSt s t) : ps_Cl 299 172 [.ref 0, .int x1] s (ps_rI (fun v s1 => ps_Cl 299 301 [.ref 1131, .int x1] s1 (ps_rI (fun v2 s2 => ∃ t2, JSt s2 t2)))) := by
  obtain ⟨h, g, l, c, m, hb, hc, G⟩ := h
  have wfc := WF_of (LI_LX h.1) m
  refine ps_monoI (ps_andlI (g := fun v s1 => md_A g.1 x1 v ∧ JG s1 g) (cx_172 h.1 h.2.1) (fun n => fs_172J c G) (pdet_and pdet_v JG_v)) (fun v s1 z => ?_)
  obtain ⟨z, e, G1⟩ := z
  have c1 := TRc_x c z (fun q a c => by unfold C172 at c; omega)
  have m1 := TRm_x m z.1
  exact ps_monoI (cj_301 (IMs_k h z (fun q a c => by unfold C172 at c; omega) (Int.le_refl _)) rfl) (fun v2 s2 z2 => ⟨_, z2.1, g, l, TRc_lo c1 z2.2.1, z2.2.2 _ _ m1, hb, hc, JG_lo G1 z2.2.1⟩)
theorem JP_24 {s : ps_S} {t : Int32} {x1 : Int32} (h : JSt s t) : ps_Cl 299 173 [.ref 0, .int x1] s (ps_rI (fun v s1 => ps_Cl 299 302 [.ref 1131, .int x1] s1 (ps_rI (fun v2 s2 => v = v2 ∧ ∃ t2, JSt s2 t2)))) := by
  obtain ⟨h, g, l, c, m, hb, hc, G⟩ := h
  have wfc := WF_of (LI_LX h.1) m
  refine ps_monoI (ps_andlI (g := fun v s1 => HO_A g x1 v ∧ JG s1 g) (cx_173 h.1 h.2.1) (fun n => fs_173 c wfc.1 hb G) (pdet_and pdet_v JG_v)) (fun v s1 z => ?_)
  obtain ⟨z, e, G1⟩ := z
  have c1 := TRc_x c z (fun q a c => by unfold C172 at c; omega)
  have m1 := TRm_x m z.1
  exact ps_monoI (ps_andlI (g := fun v _ => HO_A g x1 v) (cj_302 (IMs_k h z (fun q a c => by unfold C172 at c; omega) (Int.le_refl _)) rfl) (fun n => fm_302 m1 wfc.1 hb) pdet_v) (fun v2 s2 z2 => ⟨HO_A_eq e z2.2, ⟨_, z2.1.1, g, l, TRc_lo c1 z2.1.2.1, z2.1.2.2 _ _ m1, hb, hc, JG_lo G1 z2.1.2.1⟩⟩)
theorem JP_25 {s : ps_S} {t : Int32} {x1 : Int32} {x2 : Int32} (h : JSt s t) : ps_Cl 299 174 [.ref 0, .int x1, .int x2] s (ps_rI (fun v s1 => ps_Cl 299 303 [.ref 1131, .int x1, .int x2] s1 (ps_rI (fun v2 s2 => ∃ t2, JSt s2 t2)))) := by
  obtain ⟨h, g, l, c, m, hb, hc, G⟩ := h
  have wfc := WF_of (LI_LX h.1) m
  refine ps_monoI (ps_andlI (g := fun v s1 => JG s1 g) (cx_174 h.1 h.2.1) (fun n => fs_174 c wfc.2 hc G) (JG_v)) (fun v s1 z => ?_)
  obtain ⟨z, G1⟩ := z
  have c1 := TRc_x c z (fun q a c => by unfold C172 at c; omega)
  have m1 := TRm_x m z.1
  exact ps_monoI (cj_303 (IMs_k h z (fun q a c => by unfold C172 at c; omega) (Int.le_refl _)) rfl) (fun v2 s2 z2 => ⟨_, z2.1, g, l, TRc_lo c1 z2.2.1, z2.2.2 _ _ m1, hb, hc, JG_lo G1 z2.2.1⟩)
theorem JP_26 {s : ps_S} {t : Int32} {x1 : Int32} (h : JSt s t) : ps_Cl 299 175 [.ref 0, .int x1] s (ps_rI (fun v s1 => ps_Cl 299 304 [.ref 1131, .int x1] s1 (ps_rI (fun v2 s2 => v = v2 ∧ ∃ t2, JSt s2 t2)))) := by
  obtain ⟨h, g, l, c, m, hb, hc, G⟩ := h
  have wfc := WF_of (LI_LX h.1) m
  refine ps_monoI (ps_andlI (g := fun v s1 => CO_A g l x1 v ∧ JG s1 g) (cx_175 h.1 h.2.1) (fun n => fs_175 c wfc.1 hb wfc.2 hc G) (pdet_and pdet_v JG_v)) (fun v s1 z => ?_)
  obtain ⟨z, e, G1⟩ := z
  have c1 := TRc_x c z (fun q a c => by unfold C172 at c; omega)
  have m1 := TRm_x m z.1
  exact ps_monoI (ps_andlI (g := fun v _ => CO_A g l x1 v) (cj_304 (IMs_k h z (fun q a c => by unfold C172 at c; omega) (Int.le_refl _)) rfl) (fun n => fm_304 m1 wfc.1 hb wfc.2 hc) pdet_v) (fun v2 s2 z2 => ⟨CO_A_eq e z2.2, ⟨_, z2.1.1, g, l, TRc_lo c1 z2.1.2.1, z2.1.2.2 _ _ m1, hb, hc, JG_lo G1 z2.1.2.1⟩⟩)
theorem JP_27 {s : ps_S} {t : Int32} {x1 : Int32} (h : JSt s t) : ps_Cl 299 176 [.ref 0, .int x1] s (ps_rI (fun v s1 => ps_Cl 299 305 [.ref 1131, .int x1] s1 (ps_rI (fun v2 s2 => ∃ t2, JSt s2 t2)))) := by
  obtain ⟨h, g, l, c, m, hb, hc, G⟩ := h
  have wfc := WF_of (LI_LX h.1) m
  refine ps_monoI (cx_176 h.1 h.2.1) (fun v s1 z => ?_)
  have c1 := TRc_x c z (fun q a c => by unfold C176 at c; omega)
  have m1 := TRm_x m z.1
  have G1 : JG s1 g := JG_cfr G z.2.1 (fun c => by unfold C176 at c; omega) (fun c => by unfold C176 at c; omega)
  exact ps_monoI (cj_305 (IMs_k h z (fun q a c => by unfold C176 at c; omega) (Int.le_refl _)) rfl) (fun v2 s2 z2 => ⟨_, z2.1, g, l, TRc_lo c1 z2.2.1, z2.2.2 _ _ m1, hb, hc, JG_lo G1 z2.2.1⟩)
theorem JP_28 {s : ps_S} {t : Int32} {x1 : Int32} (h : JSt s t) : ps_Cl 299 177 [.ref 0, .int x1] s (ps_rI (fun v s1 => ps_Cl 299 306 [.ref 1131, .int x1] s1 (ps_rI (fun v2 s2 => ∃ t2, JSt s2 t2)))) := by
  obtain ⟨h, g, l, c, m, hb, hc, G⟩ := h
  have wfc := WF_of (LI_LX h.1) m
  refine ps_monoI (cx_177 h.1 h.2.1) (fun v s1 z => ?_)
  have c1 := TRc_x c z (fun q a c => by unfold C161 at c; omega)
  have m1 := TRm_x m z.1
  have G1 : JG s1 g := JG_cfr G z.2.1 (fun c => by unfold C161 at c; omega) (fun c => by unfold C161 at c; omega)
  exact ps_monoI (cj_306 (IMs_k h z (fun q a c => by unfold C161 at c; omega) (Int.le_refl _)) rfl) (fun v2 s2 z2 => ⟨_, z2.1, g, l, TRc_lo c1 z2.2.1, z2.2.2 _ _ m1, hb, hc, JG_lo G1 z2.2.1⟩)
theorem JP_29 {s : ps_S} {t : Int32} {x1 : Int32} (h : JSt s t) : ps_Cl 299 178 [.ref 0, .int x1] s (ps_rI (fun v s1 => ps_Cl 299 307 [.ref 1131, .int x1] s1 (ps_rI (fun v2 s2 => ∃ t2, JSt s2 t2)))) := by
  obtain ⟨h, g, l, c, m, hb, hc, G⟩ := h
  have wfc := WF_of (LI_LX h.1) m
  refine ps_monoI (cx_178 h.1 h.2.1) (fun v s1 z => ?_)
  have c1 := TRc_x c z (fun q a c => c.elim)
  have m1 := TRm_x m z.1
  have G1 : JG s1 g := JG_cfr G z.2.1 (fun c => c.elim) (fun c => c.elim)
  exact ps_monoI (cj_307 (IMs_k h z (fun q a c => c.elim) (Int.le_refl _)) rfl) (fun v2 s2 z2 => ⟨_, z2.1, g, l, TRc_lo c1 z2.2.1, z2.2.2 _ _ m1, hb, hc, JG_lo G1 z2.2.1⟩)
end
section
set_option maxRecDepth 100000
theorem l6_op0 {L : Nat} {xs : Nat → Int32} {x3 t : Int32} {w : pm_W} {s : ps_S} {Q : Option Value → pm_W → Prop} (ha : ∀ (k : Int32) (_ : pm_in k 6 = true), pm_in (x3 + k) L = true) (hw : ps_R w s) (h : JSt s t) (K : ∀ (w' : pm_W) (s' : ps_S) (t' : Int32), ps_R w' s' → JSt s' t' → pm_H (some (L, xs)) 300 310 858 [(3, .int x3), (2, .ref 1131), (1, .ref 0), (0, .ref pm_SC)] [] w' Q) : pm_H (some (L, xs)) 300 310 168 [(3, .int x3), (2, .ref 1131), (1, .ref 0), (0, .ref pm_SC)] [] w Q := by
  refine pm_H.go (pc' := 169) (st' := [.ref 0]) rfl rfl rfl rfl ?_
  refine pm_H.go (pc' := 170) (st' := [.ref pm_SC, .ref 0]) rfl rfl rfl rfl ?_
  refine pm_H.go (pc' := 171) (st' := [.int x3, .ref pm_SC, .ref 0]) rfl rfl rfl rfl ?_
  refine pm_H.go (pc' := 172) (st' := [.int 1, .int x3, .ref pm_SC, .ref 0]) rfl rfl rfl rfl ?_
  refine pm_H.go (pc' := 173) (st' := [.int (x3 + 1), .ref pm_SC, .ref 0]) rfl rfl rfl rfl ?_
  refine pm_H.sld (i := (x3 + 1)) rfl rfl (ha 1 rfl) ?_
  refine pm_H.go (pc' := 175) (st' := [.ref pm_SC, .int (xs (Int32.toNatClampNeg (x3 + 1))), .ref 0]) rfl rfl rfl rfl ?_
  refine pm_H.go (pc' := 176) (st' := [.int x3, .ref pm_SC, .int (xs (Int32.toNatClampNeg (x3 + 1))), .ref 0]) rfl rfl rfl rfl ?_
  refine pm_H.go (pc' := 177) (st' := [.int 2, .int x3, .ref pm_SC, .int (xs (Int32.toNatClampNeg (x3 + 1))), .ref 0]) rfl rfl rfl rfl ?_
  refine pm_H.go (pc' := 178) (st' := [.int (x3 + 2), .ref pm_SC, .int (xs (Int32.toNatClampNeg (x3 + 1))), .ref 0]) rfl rfl rfl rfl ?_
  refine pm_H.sld (i := (x3 + 2)) rfl rfl (ha 2 rfl) ?_
  refine pm_H.go (pc' := 180) (st' := [.ref pm_SC, .int (xs (Int32.toNatClampNeg (x3 + 2))), .int (xs (Int32.toNatClampNeg (x3 + 1))), .ref 0]) rfl rfl rfl rfl ?_
  refine pm_H.go (pc' := 181) (st' := [.int x3, .ref pm_SC, .int (xs (Int32.toNatClampNeg (x3 + 2))), .int (xs (Int32.toNatClampNeg (x3 + 1))), .ref 0]) rfl rfl rfl rfl ?_
  refine pm_H.go (pc' := 182) (st' := [.int 3, .int x3, .ref pm_SC, .int (xs (Int32.toNatClampNeg (x3 + 2))), .int (xs (Int32.toNatClampNeg (x3 + 1))), .ref 0]) rfl rfl rfl rfl ?_
  refine pm_H.go (pc' := 183) (st' := [.int (x3 + 3), .ref pm_SC, .int (xs (Int32.toNatClampNeg (x3 + 2))), .int (xs (Int32.toNatClampNeg (x3 + 1))), .ref 0]) rfl rfl rfl rfl ?_
  refine pm_H.sld (i := (x3 + 3)) rfl rfl (ha 3 rfl) ?_
  refine pm_H.go (pc' := 185) (st' := [.ref pm_SC, .int (xs (Int32.toNatClampNeg (x3 + 3))), .int (xs (Int32.toNatClampNeg (x3 + 2))), .int (xs (Int32.toNatClampNeg (x3 + 1))), .ref 0]) rfl rfl rfl rfl ?_
  refine pm_H.go (pc' := 186) (st' := [.int x3, .ref pm_SC, .int (xs (Int32.toNatClampNeg (x3 + 3))), .int (xs (Int32.toNatClampNeg (x3 + 2))), .int (xs (Int32.toNatClampNeg (x3 + 1))), .ref 0]) rfl rfl rfl rfl ?_
  refine pm_H.go (pc' := 187) (st' := [.int 4, .int x3, .ref pm_SC, .int (xs (Int32.toNatClampNeg (x3 + 3))), .int (xs (Int32.toNatClampNeg (x3 + 2))), .int (xs (Int32.toNatClampNeg (x3 + 1))), .ref 0]) rfl rfl rfl rfl ?_
  refine pm_H.go (pc' := 188) (st' := [.int (x3 + 4), .ref pm_SC, .int (xs (Int32.toNatClampNeg (x3 + 3))), .int (xs (Int32.toNatClampNeg (x3 + 2))), .int (xs (Int32.toNatClampNeg (x3 + 1))), .ref 0]) rfl rfl rfl rfl ?_
  refine pm_H.sld (i := (x3 + 4)) rfl rfl (ha 4 rfl) ?_
  refine pm_H.go (pc' := 190) (st' := [.ref pm_SC, .int (xs (Int32.toNatClampNeg (x3 + 4))), .int (xs (Int32.toNatClampNeg (x3 + 3))), .int (xs (Int32.toNatClampNeg (x3 + 2))), .int (xs (Int32.toNatClampNeg (x3 + 1))), .ref 0]) rfl rfl rfl rfl ?_
  refine pm_H.go (pc' := 191) (st' := [.int x3, .ref pm_SC, .int (xs (Int32.toNatClampNeg (x3 + 4))), .int (xs (Int32.toNatClampNeg (x3 + 3))), .int (xs (Int32.toNatClampNeg (x3 + 2))), .int (xs (Int32.toNatClampNeg (x3 + 1))), .ref 0]) rfl rfl rfl rfl ?_
  refine pm_H.go (pc' := 192) (st' := [.int 5, .int x3, .ref pm_SC, .int (xs (Int32.toNatClampNeg (x3 + 4))), .int (xs (Int32.toNatClampNeg (x3 + 3))), .int (xs (Int32.toNatClampNeg (x3 + 2))), .int (xs (Int32.toNatClampNeg (x3 + 1))), .ref 0]) rfl rfl rfl rfl ?_
  refine pm_H.go (pc' := 193) (st' := [.int (x3 + 5), .ref pm_SC, .int (xs (Int32.toNatClampNeg (x3 + 4))), .int (xs (Int32.toNatClampNeg (x3 + 3))), .int (xs (Int32.toNatClampNeg (x3 + 2))), .int (xs (Int32.toNatClampNeg (x3 + 1))), .ref 0]) rfl rfl rfl rfl ?_
  refine pm_H.sld (i := (x3 + 5)) rfl rfl (ha 5 rfl) ?_
  refine l2_call (c := 11) (q := 0) rfl rfl rfl (by decide) rfl (by decide) hw (by decide) rfl rfl rfl (JP_0 h) (fun o w1 s1 hw1 hp => ?_)
  obtain ⟨v1, rfl, hp⟩ := l2_int hp
  show pm_H (some (L, xs)) 300 310 197 [(3, .int x3), (2, .ref 1131), (1, .ref 0), (0, .ref pm_SC)] [.int v1] w1 Q
  refine pm_H.go (pc' := 198) (st' := []) rfl rfl rfl rfl ?_
  refine pm_H.go (pc' := 199) (st' := [.ref 1131]) rfl rfl rfl rfl ?_
  refine pm_H.go (pc' := 200) (st' := [.ref pm_SC, .ref 1131]) rfl rfl rfl rfl ?_
  refine pm_H.go (pc' := 201) (st' := [.int x3, .ref pm_SC, .ref 1131]) rfl rfl rfl rfl ?_
  refine pm_H.go (pc' := 202) (st' := [.int 1, .int x3, .ref pm_SC, .ref 1131]) rfl rfl rfl rfl ?_
  refine pm_H.go (pc' := 203) (st' := [.int (x3 + 1), .ref pm_SC, .ref 1131]) rfl rfl rfl rfl ?_
  refine pm_H.sld (i := (x3 + 1)) rfl rfl (ha 1 rfl) ?_
  refine pm_H.go (pc' := 205) (st' := [.ref pm_SC, .int (xs (Int32.toNatClampNeg (x3 + 1))), .ref 1131]) rfl rfl rfl rfl ?_
  refine pm_H.go (pc' := 206) (st' := [.int x3, .ref pm_SC, .int (xs (Int32.toNatClampNeg (x3 + 1))), .ref 1131]) rfl rfl rfl rfl ?_
  refine pm_H.go (pc' := 207) (st' := [.int 2, .int x3, .ref pm_SC, .int (xs (Int32.toNatClampNeg (x3 + 1))), .ref 1131]) rfl rfl rfl rfl ?_
  refine pm_H.go (pc' := 208) (st' := [.int (x3 + 2), .ref pm_SC, .int (xs (Int32.toNatClampNeg (x3 + 1))), .ref 1131]) rfl rfl rfl rfl ?_
  refine pm_H.sld (i := (x3 + 2)) rfl rfl (ha 2 rfl) ?_
  refine pm_H.go (pc' := 210) (st' := [.ref pm_SC, .int (xs (Int32.toNatClampNeg (x3 + 2))), .int (xs (Int32.toNatClampNeg (x3 + 1))), .ref 1131]) rfl rfl rfl rfl ?_
  refine pm_H.go (pc' := 211) (st' := [.int x3, .ref pm_SC, .int (xs (Int32.toNatClampNeg (x3 + 2))), .int (xs (Int32.toNatClampNeg (x3 + 1))), .ref 1131]) rfl rfl rfl rfl ?_
  refine pm_H.go (pc' := 212) (st' := [.int 3, .int x3, .ref pm_SC, .int (xs (Int32.toNatClampNeg (x3 + 2))), .int (xs (Int32.toNatClampNeg (x3 + 1))), .ref 1131]) rfl rfl rfl rfl ?_
  refine pm_H.go (pc' := 213) (st' := [.int (x3 + 3), .ref pm_SC, .int (xs (Int32.toNatClampNeg (x3 + 2))), .int (xs (Int32.toNatClampNeg (x3 + 1))), .ref 1131]) rfl rfl rfl rfl ?_
  refine pm_H.sld (i := (x3 + 3)) rfl rfl (ha 3 rfl) ?_
  refine pm_H.go (pc' := 215) (st' := [.ref pm_SC, .int (xs (Int32.toNatClampNeg (x3 + 3))), .int (xs (Int32.toNatClampNeg (x3 + 2))), .int (xs (Int32.toNatClampNeg (x3 + 1))), .ref 1131]) rfl rfl rfl rfl ?_
  refine pm_H.go (pc' := 216) (st' := [.int x3, .ref pm_SC, .int (xs (Int32.toNatClampNeg (x3 + 3))), .int (xs (Int32.toNatClampNeg (x3 + 2))), .int (xs (Int32.toNatClampNeg (x3 + 1))), .ref 1131]) rfl rfl rfl rfl ?_
  refine pm_H.go (pc' := 217) (st' := [.int 4, .int x3, .ref pm_SC, .int (xs (Int32.toNatClampNeg (x3 + 3))), .int (xs (Int32.toNatClampNeg (x3 + 2))), .int (xs (Int32.toNatClampNeg (x3 + 1))), .ref 1131]) rfl rfl rfl rfl ?_
  refine pm_H.go (pc' := 218) (st' := [.int (x3 + 4), .ref pm_SC, .int (xs (Int32.toNatClampNeg (x3 + 3))), .int (xs (Int32.toNatClampNeg (x3 + 2))), .int (xs (Int32.toNatClampNeg (x3 + 1))), .ref 1131]) rfl rfl rfl rfl ?_
  refine pm_H.sld (i := (x3 + 4)) rfl rfl (ha 4 rfl) ?_
  refine pm_H.go (pc' := 220) (st' := [.ref pm_SC, .int (xs (Int32.toNatClampNeg (x3 + 4))), .int (xs (Int32.toNatClampNeg (x3 + 3))), .int (xs (Int32.toNatClampNeg (x3 + 2))), .int (xs (Int32.toNatClampNeg (x3 + 1))), .ref 1131]) rfl rfl rfl rfl ?_
  refine pm_H.go (pc' := 221) (st' := [.int x3, .ref pm_SC, .int (xs (Int32.toNatClampNeg (x3 + 4))), .int (xs (Int32.toNatClampNeg (x3 + 3))), .int (xs (Int32.toNatClampNeg (x3 + 2))), .int (xs (Int32.toNatClampNeg (x3 + 1))), .ref 1131]) rfl rfl rfl rfl ?_
  refine pm_H.go (pc' := 222) (st' := [.int 5, .int x3, .ref pm_SC, .int (xs (Int32.toNatClampNeg (x3 + 4))), .int (xs (Int32.toNatClampNeg (x3 + 3))), .int (xs (Int32.toNatClampNeg (x3 + 2))), .int (xs (Int32.toNatClampNeg (x3 + 1))), .ref 1131]) rfl rfl rfl rfl ?_
  refine pm_H.go (pc' := 223) (st' := [.int (x3 + 5), .ref pm_SC, .int (xs (Int32.toNatClampNeg (x3 + 4))), .int (xs (Int32.toNatClampNeg (x3 + 3))), .int (xs (Int32.toNatClampNeg (x3 + 2))), .int (xs (Int32.toNatClampNeg (x3 + 1))), .ref 1131]) rfl rfl rfl rfl ?_
  refine pm_H.sld (i := (x3 + 5)) rfl rfl (ha 5 rfl) ?_
  refine l2_call (c := 12) (q := 1131) rfl rfl rfl (by decide) rfl (by decide) hw1 (by decide) rfl rfl rfl hp (fun o w2 s2 hw2 hp2 => ?_)
  obtain ⟨v2, rfl, hp2⟩ := l2_int hp2
  show pm_H (some (L, xs)) 300 310 227 [(3, .int x3), (2, .ref 1131), (1, .ref 0), (0, .ref pm_SC)] [.int v2] w2 Q
  refine pm_H.go (pc' := 228) (st' := []) rfl rfl rfl rfl ?_
  refine pm_H.go (pc' := 858) (st' := []) rfl rfl rfl rfl ?_
  obtain ⟨t2, hS⟩ := hp2.2
  exact K w2 s2 t2 hw2 hS

theorem l6_op1 {L : Nat} {xs : Nat → Int32} {x3 t : Int32} {w : pm_W} {s : ps_S} {Q : Option Value → pm_W → Prop} (ha : ∀ (k : Int32) (_ : pm_in k 6 = true), pm_in (x3 + k) L = true) (hw : ps_R w s) (h : JSt s t) (K : ∀ (w' : pm_W) (s' : ps_S) (t' : Int32), ps_R w' s' → JSt s' t' → pm_H (some (L, xs)) 300 310 858 [(3, .int x3), (2, .ref 1131), (1, .ref 0), (0, .ref pm_SC)] [] w' Q) : pm_H (some (L, xs)) 300 310 231 [(3, .int x3), (2, .ref 1131), (1, .ref 0), (0, .ref pm_SC)] [] w Q := by
  refine pm_H.go (pc' := 232) (st' := [.ref 0]) rfl rfl rfl rfl ?_
  refine pm_H.go (pc' := 233) (st' := [.ref pm_SC, .ref 0]) rfl rfl rfl rfl ?_
  refine pm_H.go (pc' := 234) (st' := [.int x3, .ref pm_SC, .ref 0]) rfl rfl rfl rfl ?_
  refine pm_H.go (pc' := 235) (st' := [.int 1, .int x3, .ref pm_SC, .ref 0]) rfl rfl rfl rfl ?_
  refine pm_H.go (pc' := 236) (st' := [.int (x3 + 1), .ref pm_SC, .ref 0]) rfl rfl rfl rfl ?_
  refine pm_H.sld (i := (x3 + 1)) rfl rfl (ha 1 rfl) ?_
  refine l2_call (c := 11) (q := 0) rfl rfl rfl (by decide) rfl (by decide) hw (by decide) rfl rfl rfl (JP_1 h) (fun o w1 s1 hw1 hp => ?_)
  obtain ⟨v1, rfl, hp⟩ := l2_int hp
  show pm_H (some (L, xs)) 300 310 240 [(3, .int x3), (2, .ref 1131), (1, .ref 0), (0, .ref pm_SC)] [.int v1] w1 Q
  refine pm_H.go (pc' := 241) (st' := []) rfl rfl rfl rfl ?_
  refine pm_H.go (pc' := 242) (st' := [.ref 1131]) rfl rfl rfl rfl ?_
  refine pm_H.go (pc' := 243) (st' := [.ref pm_SC, .ref 1131]) rfl rfl rfl rfl ?_
  refine pm_H.go (pc' := 244) (st' := [.int x3, .ref pm_SC, .ref 1131]) rfl rfl rfl rfl ?_
  refine pm_H.go (pc' := 245) (st' := [.int 1, .int x3, .ref pm_SC, .ref 1131]) rfl rfl rfl rfl ?_
  refine pm_H.go (pc' := 246) (st' := [.int (x3 + 1), .ref pm_SC, .ref 1131]) rfl rfl rfl rfl ?_
  refine pm_H.sld (i := (x3 + 1)) rfl rfl (ha 1 rfl) ?_
  refine l2_call (c := 12) (q := 1131) rfl rfl rfl (by decide) rfl (by decide) hw1 (by decide) rfl rfl rfl hp (fun o w2 s2 hw2 hp2 => ?_)
  obtain ⟨v2, rfl, hp2⟩ := l2_int hp2
  show pm_H (some (L, xs)) 300 310 250 [(3, .int x3), (2, .ref 1131), (1, .ref 0), (0, .ref pm_SC)] [.int v2] w2 Q
  refine pm_H.go (pc' := 251) (st' := []) rfl rfl rfl rfl ?_
  refine pm_H.go (pc' := 858) (st' := []) rfl rfl rfl rfl ?_
  obtain ⟨t2, hS⟩ := hp2.2
  exact K w2 s2 t2 hw2 hS

theorem l6_op2 {L : Nat} {xs : Nat → Int32} {x3 t : Int32} {w : pm_W} {s : ps_S} {Q : Option Value → pm_W → Prop} (ha : ∀ (k : Int32) (_ : pm_in k 6 = true), pm_in (x3 + k) L = true) (hw : ps_R w s) (h : JSt s t) (K : ∀ (w' : pm_W) (s' : ps_S) (t' : Int32), ps_R w' s' → JSt s' t' → pm_H (some (L, xs)) 300 310 858 [(3, .int x3), (2, .ref 1131), (1, .ref 0), (0, .ref pm_SC)] [] w' Q) : pm_H (some (L, xs)) 300 310 254 [(3, .int x3), (2, .ref 1131), (1, .ref 0), (0, .ref pm_SC)] [] w Q := by
  refine pm_H.go (pc' := 255) (st' := [.ref 0]) rfl rfl rfl rfl ?_
  refine l2_call (c := 11) (q := 0) rfl rfl rfl (by decide) rfl (by decide) hw (by decide) rfl rfl rfl (JP_2 h) (fun o w1 s1 hw1 hp => ?_)
  obtain ⟨v1, rfl, hp⟩ := l2_int hp
  show pm_H (some (L, xs)) 300 310 258 [(3, .int x3), (2, .ref 1131), (1, .ref 0), (0, .ref pm_SC)] [.int v1] w1 Q
  refine pm_H.go (pc' := 259) (st' := []) rfl rfl rfl rfl ?_
  refine pm_H.go (pc' := 260) (st' := [.ref 1131]) rfl rfl rfl rfl ?_
  refine l2_call (c := 12) (q := 1131) rfl rfl rfl (by decide) rfl (by decide) hw1 (by decide) rfl rfl rfl hp (fun o w2 s2 hw2 hp2 => ?_)
  obtain ⟨v2, rfl, hp2⟩ := l2_int hp2
  show pm_H (some (L, xs)) 300 310 263 [(3, .int x3), (2, .ref 1131), (1, .ref 0), (0, .ref pm_SC)] [.int v2] w2 Q
  refine pm_H.go (pc' := 264) (st' := []) rfl rfl rfl rfl ?_
  refine pm_H.go (pc' := 858) (st' := []) rfl rfl rfl rfl ?_
  obtain ⟨t2, hS⟩ := hp2.2
  exact K w2 s2 t2 hw2 hS

theorem l6_op3 {L : Nat} {xs : Nat → Int32} {x3 t : Int32} {w : pm_W} {s : ps_S} {Q : Option Value → pm_W → Prop} (ha : ∀ (k : Int32) (_ : pm_in k 6 = true), pm_in (x3 + k) L = true) (hw : ps_R w s) (h : JSt s t) (K : ∀ (w' : pm_W) (s' : ps_S) (t' : Int32), ps_R w' s' → JSt s' t' → pm_H (some (L, xs)) 300 310 858 [(3, .int x3), (2, .ref 1131), (1, .ref 0), (0, .ref pm_SC)] [] w' Q) : pm_H (some (L, xs)) 300 310 267 [(3, .int x3), (2, .ref 1131), (1, .ref 0), (0, .ref pm_SC)] [] w Q := by
  refine pm_H.go (pc' := 268) (st' := [.ref 0]) rfl rfl rfl rfl ?_
  refine pm_H.go (pc' := 269) (st' := [.ref pm_SC, .ref 0]) rfl rfl rfl rfl ?_
  refine pm_H.go (pc' := 270) (st' := [.int x3, .ref pm_SC, .ref 0]) rfl rfl rfl rfl ?_
  refine pm_H.go (pc' := 271) (st' := [.int 1, .int x3, .ref pm_SC, .ref 0]) rfl rfl rfl rfl ?_
  refine pm_H.go (pc' := 272) (st' := [.int (x3 + 1), .ref pm_SC, .ref 0]) rfl rfl rfl rfl ?_
  refine pm_H.sld (i := (x3 + 1)) rfl rfl (ha 1 rfl) ?_
  refine l2_call (c := 11) (q := 0) rfl rfl rfl (by decide) rfl (by decide) hw (by decide) rfl rfl rfl (JP_3 h) (fun o w1 s1 hw1 hp => ?_)
  obtain ⟨v1, rfl, hp⟩ := l2_int hp
  show pm_H (some (L, xs)) 300 310 276 [(3, .int x3), (2, .ref 1131), (1, .ref 0), (0, .ref pm_SC)] [.int v1] w1 Q
  refine pm_H.go (pc' := 277) (st' := []) rfl rfl rfl rfl ?_
  refine pm_H.go (pc' := 278) (st' := [.ref 1131]) rfl rfl rfl rfl ?_
  refine pm_H.go (pc' := 279) (st' := [.ref pm_SC, .ref 1131]) rfl rfl rfl rfl ?_
  refine pm_H.go (pc' := 280) (st' := [.int x3, .ref pm_SC, .ref 1131]) rfl rfl rfl rfl ?_
  refine pm_H.go (pc' := 281) (st' := [.int 1, .int x3, .ref pm_SC, .ref 1131]) rfl rfl rfl rfl ?_
  refine pm_H.go (pc' := 282) (st' := [.int (x3 + 1), .ref pm_SC, .ref 1131]) rfl rfl rfl rfl ?_
  refine pm_H.sld (i := (x3 + 1)) rfl rfl (ha 1 rfl) ?_
  refine l2_call (c := 12) (q := 1131) rfl rfl rfl (by decide) rfl (by decide) hw1 (by decide) rfl rfl rfl hp (fun o w2 s2 hw2 hp2 => ?_)
  obtain ⟨v2, rfl, hp2⟩ := l2_int hp2
  show pm_H (some (L, xs)) 300 310 286 [(3, .int x3), (2, .ref 1131), (1, .ref 0), (0, .ref pm_SC)] [.int v2] w2 Q
  refine pm_H.go (pc' := 287) (st' := []) rfl rfl rfl rfl ?_
  refine pm_H.go (pc' := 858) (st' := []) rfl rfl rfl rfl ?_
  obtain ⟨t2, hS⟩ := hp2
  exact K w2 s2 t2 hw2 hS

theorem l6_op4 {L : Nat} {xs : Nat → Int32} {x3 t : Int32} {w : pm_W} {s : ps_S} {Q : Option Value → pm_W → Prop} (ha : ∀ (k : Int32) (_ : pm_in k 6 = true), pm_in (x3 + k) L = true) (hw : ps_R w s) (h : JSt s t) (K : ∀ (w' : pm_W) (s' : ps_S) (t' : Int32), ps_R w' s' → JSt s' t' → pm_H (some (L, xs)) 300 310 858 [(3, .int x3), (2, .ref 1131), (1, .ref 0), (0, .ref pm_SC)] [] w' Q) : pm_H (some (L, xs)) 300 310 290 [(3, .int x3), (2, .ref 1131), (1, .ref 0), (0, .ref pm_SC)] [] w Q := by
  refine pm_H.go (pc' := 291) (st' := [.ref 0]) rfl rfl rfl rfl ?_
  refine l2_call (c := 11) (q := 0) rfl rfl rfl (by decide) rfl (by decide) hw (by decide) rfl rfl rfl (JP_4 h) (fun o w1 s1 hw1 hp => ?_)
  obtain ⟨v1, rfl, hp⟩ := l2_int hp
  show pm_H (some (L, xs)) 300 310 294 [(3, .int x3), (2, .ref 1131), (1, .ref 0), (0, .ref pm_SC)] [.int v1] w1 Q
  refine pm_H.go (pc' := 295) (st' := []) rfl rfl rfl rfl ?_
  refine pm_H.go (pc' := 296) (st' := [.ref 1131]) rfl rfl rfl rfl ?_
  refine l2_call (c := 12) (q := 1131) rfl rfl rfl (by decide) rfl (by decide) hw1 (by decide) rfl rfl rfl hp (fun o w2 s2 hw2 hp2 => ?_)
  obtain ⟨v2, rfl, hp2⟩ := l2_int hp2
  show pm_H (some (L, xs)) 300 310 299 [(3, .int x3), (2, .ref 1131), (1, .ref 0), (0, .ref pm_SC)] [.int v2] w2 Q
  refine pm_H.go (pc' := 300) (st' := []) rfl rfl rfl rfl ?_
  refine pm_H.go (pc' := 858) (st' := []) rfl rfl rfl rfl ?_
  obtain ⟨t2, hS⟩ := hp2
  exact K w2 s2 t2 hw2 hS

theorem l6_op5 {L : Nat} {xs : Nat → Int32} {x3 t : Int32} {w : pm_W} {s : ps_S} {Q : Option Value → pm_W → Prop} (ha : ∀ (k : Int32) (_ : pm_in k 6 = true), pm_in (x3 + k) L = true) (hw : ps_R w s) (h : JSt s t) (K : ∀ (w' : pm_W) (s' : ps_S) (t' : Int32), ps_R w' s' → JSt s' t' → pm_H (some (L, xs)) 300 310 858 [(3, .int x3), (2, .ref 1131), (1, .ref 0), (0, .ref pm_SC)] [] w' Q) : pm_H (some (L, xs)) 300 310 303 [(3, .int x3), (2, .ref 1131), (1, .ref 0), (0, .ref pm_SC)] [] w Q := by
  refine pm_H.go (pc' := 304) (st' := [.ref 0]) rfl rfl rfl rfl ?_
  refine pm_H.go (pc' := 305) (st' := [.ref pm_SC, .ref 0]) rfl rfl rfl rfl ?_
  refine pm_H.go (pc' := 306) (st' := [.int x3, .ref pm_SC, .ref 0]) rfl rfl rfl rfl ?_
  refine pm_H.go (pc' := 307) (st' := [.int 1, .int x3, .ref pm_SC, .ref 0]) rfl rfl rfl rfl ?_
  refine pm_H.go (pc' := 308) (st' := [.int (x3 + 1), .ref pm_SC, .ref 0]) rfl rfl rfl rfl ?_
  refine pm_H.sld (i := (x3 + 1)) rfl rfl (ha 1 rfl) ?_
  refine l2_call (c := 11) (q := 0) rfl rfl rfl (by decide) rfl (by decide) hw (by decide) rfl rfl rfl (JP_5 h) (fun o w1 s1 hw1 hp => ?_)
  obtain ⟨v1, rfl, hp⟩ := l2_int hp
  show pm_H (some (L, xs)) 300 310 312 [(3, .int x3), (2, .ref 1131), (1, .ref 0), (0, .ref pm_SC)] [.int v1] w1 Q
  refine pm_H.go (pc' := 313) (st' := []) rfl rfl rfl rfl ?_
  refine pm_H.go (pc' := 314) (st' := [.ref 1131]) rfl rfl rfl rfl ?_
  refine pm_H.go (pc' := 315) (st' := [.ref pm_SC, .ref 1131]) rfl rfl rfl rfl ?_
  refine pm_H.go (pc' := 316) (st' := [.int x3, .ref pm_SC, .ref 1131]) rfl rfl rfl rfl ?_
  refine pm_H.go (pc' := 317) (st' := [.int 1, .int x3, .ref pm_SC, .ref 1131]) rfl rfl rfl rfl ?_
  refine pm_H.go (pc' := 318) (st' := [.int (x3 + 1), .ref pm_SC, .ref 1131]) rfl rfl rfl rfl ?_
  refine pm_H.sld (i := (x3 + 1)) rfl rfl (ha 1 rfl) ?_
  refine l2_call (c := 12) (q := 1131) rfl rfl rfl (by decide) rfl (by decide) hw1 (by decide) rfl rfl rfl hp (fun o w2 s2 hw2 hp2 => ?_)
  obtain ⟨v2, rfl, hp2⟩ := l2_int hp2
  show pm_H (some (L, xs)) 300 310 322 [(3, .int x3), (2, .ref 1131), (1, .ref 0), (0, .ref pm_SC)] [.int v2] w2 Q
  refine pm_H.go (pc' := 323) (st' := []) rfl rfl rfl rfl ?_
  refine pm_H.go (pc' := 858) (st' := []) rfl rfl rfl rfl ?_
  obtain ⟨t2, hS⟩ := hp2
  exact K w2 s2 t2 hw2 hS

theorem l6_op6 {L : Nat} {xs : Nat → Int32} {x3 t : Int32} {w : pm_W} {s : ps_S} {Q : Option Value → pm_W → Prop} (ha : ∀ (k : Int32) (_ : pm_in k 6 = true), pm_in (x3 + k) L = true) (hw : ps_R w s) (h : JSt s t) (K : ∀ (w' : pm_W) (s' : ps_S) (t' : Int32), ps_R w' s' → JSt s' t' → pm_H (some (L, xs)) 300 310 858 [(3, .int x3), (2, .ref 1131), (1, .ref 0), (0, .ref pm_SC)] [] w' Q) : pm_H (some (L, xs)) 300 310 326 [(3, .int x3), (2, .ref 1131), (1, .ref 0), (0, .ref pm_SC)] [] w Q := by
  refine pm_H.go (pc' := 327) (st' := [.ref 0]) rfl rfl rfl rfl ?_
  refine pm_H.go (pc' := 328) (st' := [.ref pm_SC, .ref 0]) rfl rfl rfl rfl ?_
  refine pm_H.go (pc' := 329) (st' := [.int x3, .ref pm_SC, .ref 0]) rfl rfl rfl rfl ?_
  refine pm_H.go (pc' := 330) (st' := [.int 1, .int x3, .ref pm_SC, .ref 0]) rfl rfl rfl rfl ?_
  refine pm_H.go (pc' := 331) (st' := [.int (x3 + 1), .ref pm_SC, .ref 0]) rfl rfl rfl rfl ?_
  refine pm_H.sld (i := (x3 + 1)) rfl rfl (ha 1 rfl) ?_
  refine pm_H.go (pc' := 333) (st' := [.ref pm_SC, .int (xs (Int32.toNatClampNeg (x3 + 1))), .ref 0]) rfl rfl rfl rfl ?_
  refine pm_H.go (pc' := 334) (st' := [.int x3, .ref pm_SC, .int (xs (Int32.toNatClampNeg (x3 + 1))), .ref 0]) rfl rfl rfl rfl ?_
  refine pm_H.go (pc' := 335) (st' := [.int 2, .int x3, .ref pm_SC, .int (xs (Int32.toNatClampNeg (x3 + 1))), .ref 0]) rfl rfl rfl rfl ?_
  refine pm_H.go (pc' := 336) (st' := [.int (x3 + 2), .ref pm_SC, .int (xs (Int32.toNatClampNeg (x3 + 1))), .ref 0]) rfl rfl rfl rfl ?_
  refine pm_H.sld (i := (x3 + 2)) rfl rfl (ha 2 rfl) ?_
  refine l2_call (c := 11) (q := 0) rfl rfl rfl (by decide) rfl (by decide) hw (by decide) rfl rfl rfl (JP_6 h) (fun o w1 s1 hw1 hp => ?_)
  obtain ⟨v1, rfl, hp⟩ := l2_int hp
  show pm_H (some (L, xs)) 300 310 340 [(3, .int x3), (2, .ref 1131), (1, .ref 0), (0, .ref pm_SC)] [.int v1] w1 Q
  refine pm_H.go (pc' := 341) (st' := []) rfl rfl rfl rfl ?_
  refine pm_H.go (pc' := 342) (st' := [.ref 1131]) rfl rfl rfl rfl ?_
  refine pm_H.go (pc' := 343) (st' := [.ref pm_SC, .ref 1131]) rfl rfl rfl rfl ?_
  refine pm_H.go (pc' := 344) (st' := [.int x3, .ref pm_SC, .ref 1131]) rfl rfl rfl rfl ?_
  refine pm_H.go (pc' := 345) (st' := [.int 1, .int x3, .ref pm_SC, .ref 1131]) rfl rfl rfl rfl ?_
  refine pm_H.go (pc' := 346) (st' := [.int (x3 + 1), .ref pm_SC, .ref 1131]) rfl rfl rfl rfl ?_
  refine pm_H.sld (i := (x3 + 1)) rfl rfl (ha 1 rfl) ?_
  refine pm_H.go (pc' := 348) (st' := [.ref pm_SC, .int (xs (Int32.toNatClampNeg (x3 + 1))), .ref 1131]) rfl rfl rfl rfl ?_
  refine pm_H.go (pc' := 349) (st' := [.int x3, .ref pm_SC, .int (xs (Int32.toNatClampNeg (x3 + 1))), .ref 1131]) rfl rfl rfl rfl ?_
  refine pm_H.go (pc' := 350) (st' := [.int 2, .int x3, .ref pm_SC, .int (xs (Int32.toNatClampNeg (x3 + 1))), .ref 1131]) rfl rfl rfl rfl ?_
  refine pm_H.go (pc' := 351) (st' := [.int (x3 + 2), .ref pm_SC, .int (xs (Int32.toNatClampNeg (x3 + 1))), .ref 1131]) rfl rfl rfl rfl ?_
  refine pm_H.sld (i := (x3 + 2)) rfl rfl (ha 2 rfl) ?_
  refine l2_call (c := 12) (q := 1131) rfl rfl rfl (by decide) rfl (by decide) hw1 (by decide) rfl rfl rfl hp (fun o w2 s2 hw2 hp2 => ?_)
  obtain ⟨v2, rfl, hp2⟩ := l2_int hp2
  show pm_H (some (L, xs)) 300 310 355 [(3, .int x3), (2, .ref 1131), (1, .ref 0), (0, .ref pm_SC)] [.int v2] w2 Q
  refine pm_H.go (pc' := 356) (st' := []) rfl rfl rfl rfl ?_
  refine pm_H.go (pc' := 858) (st' := []) rfl rfl rfl rfl ?_
  obtain ⟨t2, hS⟩ := hp2
  exact K w2 s2 t2 hw2 hS

theorem l6_op7 {L : Nat} {xs : Nat → Int32} {x3 t : Int32} {w : pm_W} {s : ps_S} {Q : Option Value → pm_W → Prop} (ha : ∀ (k : Int32) (_ : pm_in k 6 = true), pm_in (x3 + k) L = true) (hw : ps_R w s) (h : JSt s t) (K : ∀ (w' : pm_W) (s' : ps_S) (t' : Int32), ps_R w' s' → JSt s' t' → pm_H (some (L, xs)) 300 310 858 [(3, .int x3), (2, .ref 1131), (1, .ref 0), (0, .ref pm_SC)] [] w' Q) : pm_H (some (L, xs)) 300 310 359 [(3, .int x3), (2, .ref 1131), (1, .ref 0), (0, .ref pm_SC)] [] w Q := by
  refine pm_H.go (pc' := 360) (st' := [.ref 0]) rfl rfl rfl rfl ?_
  refine pm_H.go (pc' := 361) (st' := [.ref pm_SC, .ref 0]) rfl rfl rfl rfl ?_
  refine pm_H.go (pc' := 362) (st' := [.int x3, .ref pm_SC, .ref 0]) rfl rfl rfl rfl ?_
  refine pm_H.go (pc' := 363) (st' := [.int 1, .int x3, .ref pm_SC, .ref 0]) rfl rfl rfl rfl ?_
  refine pm_H.go (pc' := 364) (st' := [.int (x3 + 1), .ref pm_SC, .ref 0]) rfl rfl rfl rfl ?_
  refine pm_H.sld (i := (x3 + 1)) rfl rfl (ha 1 rfl) ?_
  refine pm_H.go (pc' := 366) (st' := [.ref pm_SC, .int (xs (Int32.toNatClampNeg (x3 + 1))), .ref 0]) rfl rfl rfl rfl ?_
  refine pm_H.go (pc' := 367) (st' := [.int x3, .ref pm_SC, .int (xs (Int32.toNatClampNeg (x3 + 1))), .ref 0]) rfl rfl rfl rfl ?_
  refine pm_H.go (pc' := 368) (st' := [.int 2, .int x3, .ref pm_SC, .int (xs (Int32.toNatClampNeg (x3 + 1))), .ref 0]) rfl rfl rfl rfl ?_
  refine pm_H.go (pc' := 369) (st' := [.int (x3 + 2), .ref pm_SC, .int (xs (Int32.toNatClampNeg (x3 + 1))), .ref 0]) rfl rfl rfl rfl ?_
  refine pm_H.sld (i := (x3 + 2)) rfl rfl (ha 2 rfl) ?_
  refine l2_call (c := 11) (q := 0) rfl rfl rfl (by decide) rfl (by decide) hw (by decide) rfl rfl rfl (JP_7 h) (fun o w1 s1 hw1 hp => ?_)
  obtain ⟨v1, rfl, hp⟩ := l2_int hp
  show pm_H (some (L, xs)) 300 310 373 [(3, .int x3), (2, .ref 1131), (1, .ref 0), (0, .ref pm_SC)] [.int v1] w1 Q
  refine pm_H.go (pc' := 374) (st' := []) rfl rfl rfl rfl ?_
  refine pm_H.go (pc' := 375) (st' := [.ref 1131]) rfl rfl rfl rfl ?_
  refine pm_H.go (pc' := 376) (st' := [.ref pm_SC, .ref 1131]) rfl rfl rfl rfl ?_
  refine pm_H.go (pc' := 377) (st' := [.int x3, .ref pm_SC, .ref 1131]) rfl rfl rfl rfl ?_
  refine pm_H.go (pc' := 378) (st' := [.int 1, .int x3, .ref pm_SC, .ref 1131]) rfl rfl rfl rfl ?_
  refine pm_H.go (pc' := 379) (st' := [.int (x3 + 1), .ref pm_SC, .ref 1131]) rfl rfl rfl rfl ?_
  refine pm_H.sld (i := (x3 + 1)) rfl rfl (ha 1 rfl) ?_
  refine pm_H.go (pc' := 381) (st' := [.ref pm_SC, .int (xs (Int32.toNatClampNeg (x3 + 1))), .ref 1131]) rfl rfl rfl rfl ?_
  refine pm_H.go (pc' := 382) (st' := [.int x3, .ref pm_SC, .int (xs (Int32.toNatClampNeg (x3 + 1))), .ref 1131]) rfl rfl rfl rfl ?_
  refine pm_H.go (pc' := 383) (st' := [.int 2, .int x3, .ref pm_SC, .int (xs (Int32.toNatClampNeg (x3 + 1))), .ref 1131]) rfl rfl rfl rfl ?_
  refine pm_H.go (pc' := 384) (st' := [.int (x3 + 2), .ref pm_SC, .int (xs (Int32.toNatClampNeg (x3 + 1))), .ref 1131]) rfl rfl rfl rfl ?_
  refine pm_H.sld (i := (x3 + 2)) rfl rfl (ha 2 rfl) ?_
  refine l2_call (c := 12) (q := 1131) rfl rfl rfl (by decide) rfl (by decide) hw1 (by decide) rfl rfl rfl hp (fun o w2 s2 hw2 hp2 => ?_)
  obtain ⟨v2, rfl, hp2⟩ := l2_int hp2
  show pm_H (some (L, xs)) 300 310 388 [(3, .int x3), (2, .ref 1131), (1, .ref 0), (0, .ref pm_SC)] [.int v2] w2 Q
  refine pm_H.go (pc' := 389) (st' := []) rfl rfl rfl rfl ?_
  refine pm_H.go (pc' := 858) (st' := []) rfl rfl rfl rfl ?_
  obtain ⟨t2, hS⟩ := hp2
  exact K w2 s2 t2 hw2 hS

theorem l6_op8 {L : Nat} {xs : Nat → Int32} {x3 t : Int32} {w : pm_W} {s : ps_S} {Q : Option Value → pm_W → Prop} (ha : ∀ (k : Int32) (_ : pm_in k 6 = true), pm_in (x3 + k) L = true) (hw : ps_R w s) (h : JSt s t) (K : ∀ (w' : pm_W) (s' : ps_S) (t' : Int32), ps_R w' s' → JSt s' t' → pm_H (some (L, xs)) 300 310 858 [(3, .int x3), (2, .ref 1131), (1, .ref 0), (0, .ref pm_SC)] [] w' Q) : pm_H (some (L, xs)) 300 310 392 [(3, .int x3), (2, .ref 1131), (1, .ref 0), (0, .ref pm_SC)] [] w Q := by
  refine pm_H.go (pc' := 393) (st' := [.ref 0]) rfl rfl rfl rfl ?_
  refine pm_H.go (pc' := 394) (st' := [.ref pm_SC, .ref 0]) rfl rfl rfl rfl ?_
  refine pm_H.go (pc' := 395) (st' := [.int x3, .ref pm_SC, .ref 0]) rfl rfl rfl rfl ?_
  refine pm_H.go (pc' := 396) (st' := [.int 1, .int x3, .ref pm_SC, .ref 0]) rfl rfl rfl rfl ?_
  refine pm_H.go (pc' := 397) (st' := [.int (x3 + 1), .ref pm_SC, .ref 0]) rfl rfl rfl rfl ?_
  refine pm_H.sld (i := (x3 + 1)) rfl rfl (ha 1 rfl) ?_
  refine pm_H.go (pc' := 399) (st' := [.ref pm_SC, .int (xs (Int32.toNatClampNeg (x3 + 1))), .ref 0]) rfl rfl rfl rfl ?_
  refine pm_H.go (pc' := 400) (st' := [.int x3, .ref pm_SC, .int (xs (Int32.toNatClampNeg (x3 + 1))), .ref 0]) rfl rfl rfl rfl ?_
  refine pm_H.go (pc' := 401) (st' := [.int 2, .int x3, .ref pm_SC, .int (xs (Int32.toNatClampNeg (x3 + 1))), .ref 0]) rfl rfl rfl rfl ?_
  refine pm_H.go (pc' := 402) (st' := [.int (x3 + 2), .ref pm_SC, .int (xs (Int32.toNatClampNeg (x3 + 1))), .ref 0]) rfl rfl rfl rfl ?_
  refine pm_H.sld (i := (x3 + 2)) rfl rfl (ha 2 rfl) ?_
  refine pm_H.go (pc' := 404) (st' := [.ref pm_SC, .int (xs (Int32.toNatClampNeg (x3 + 2))), .int (xs (Int32.toNatClampNeg (x3 + 1))), .ref 0]) rfl rfl rfl rfl ?_
  refine pm_H.go (pc' := 405) (st' := [.int x3, .ref pm_SC, .int (xs (Int32.toNatClampNeg (x3 + 2))), .int (xs (Int32.toNatClampNeg (x3 + 1))), .ref 0]) rfl rfl rfl rfl ?_
  refine pm_H.go (pc' := 406) (st' := [.int 3, .int x3, .ref pm_SC, .int (xs (Int32.toNatClampNeg (x3 + 2))), .int (xs (Int32.toNatClampNeg (x3 + 1))), .ref 0]) rfl rfl rfl rfl ?_
  refine pm_H.go (pc' := 407) (st' := [.int (x3 + 3), .ref pm_SC, .int (xs (Int32.toNatClampNeg (x3 + 2))), .int (xs (Int32.toNatClampNeg (x3 + 1))), .ref 0]) rfl rfl rfl rfl ?_
  refine pm_H.sld (i := (x3 + 3)) rfl rfl (ha 3 rfl) ?_
  refine l2_call (c := 11) (q := 0) rfl rfl rfl (by decide) rfl (by decide) hw (by decide) rfl rfl rfl (JP_8 h) (fun o w1 s1 hw1 hp => ?_)
  obtain ⟨v1, rfl, hp⟩ := l2_int hp
  show pm_H (some (L, xs)) 300 310 411 [(3, .int x3), (2, .ref 1131), (1, .ref 0), (0, .ref pm_SC)] [.int v1] w1 Q
  refine pm_H.go (pc' := 412) (st' := []) rfl rfl rfl rfl ?_
  refine pm_H.go (pc' := 413) (st' := [.ref 1131]) rfl rfl rfl rfl ?_
  refine pm_H.go (pc' := 414) (st' := [.ref pm_SC, .ref 1131]) rfl rfl rfl rfl ?_
  refine pm_H.go (pc' := 415) (st' := [.int x3, .ref pm_SC, .ref 1131]) rfl rfl rfl rfl ?_
  refine pm_H.go (pc' := 416) (st' := [.int 1, .int x3, .ref pm_SC, .ref 1131]) rfl rfl rfl rfl ?_
  refine pm_H.go (pc' := 417) (st' := [.int (x3 + 1), .ref pm_SC, .ref 1131]) rfl rfl rfl rfl ?_
  refine pm_H.sld (i := (x3 + 1)) rfl rfl (ha 1 rfl) ?_
  refine pm_H.go (pc' := 419) (st' := [.ref pm_SC, .int (xs (Int32.toNatClampNeg (x3 + 1))), .ref 1131]) rfl rfl rfl rfl ?_
  refine pm_H.go (pc' := 420) (st' := [.int x3, .ref pm_SC, .int (xs (Int32.toNatClampNeg (x3 + 1))), .ref 1131]) rfl rfl rfl rfl ?_
  refine pm_H.go (pc' := 421) (st' := [.int 2, .int x3, .ref pm_SC, .int (xs (Int32.toNatClampNeg (x3 + 1))), .ref 1131]) rfl rfl rfl rfl ?_
  refine pm_H.go (pc' := 422) (st' := [.int (x3 + 2), .ref pm_SC, .int (xs (Int32.toNatClampNeg (x3 + 1))), .ref 1131]) rfl rfl rfl rfl ?_
  refine pm_H.sld (i := (x3 + 2)) rfl rfl (ha 2 rfl) ?_
  refine pm_H.go (pc' := 424) (st' := [.ref pm_SC, .int (xs (Int32.toNatClampNeg (x3 + 2))), .int (xs (Int32.toNatClampNeg (x3 + 1))), .ref 1131]) rfl rfl rfl rfl ?_
  refine pm_H.go (pc' := 425) (st' := [.int x3, .ref pm_SC, .int (xs (Int32.toNatClampNeg (x3 + 2))), .int (xs (Int32.toNatClampNeg (x3 + 1))), .ref 1131]) rfl rfl rfl rfl ?_
  refine pm_H.go (pc' := 426) (st' := [.int 3, .int x3, .ref pm_SC, .int (xs (Int32.toNatClampNeg (x3 + 2))), .int (xs (Int32.toNatClampNeg (x3 + 1))), .ref 1131]) rfl rfl rfl rfl ?_
  refine pm_H.go (pc' := 427) (st' := [.int (x3 + 3), .ref pm_SC, .int (xs (Int32.toNatClampNeg (x3 + 2))), .int (xs (Int32.toNatClampNeg (x3 + 1))), .ref 1131]) rfl rfl rfl rfl ?_
  refine pm_H.sld (i := (x3 + 3)) rfl rfl (ha 3 rfl) ?_
  refine l2_call (c := 12) (q := 1131) rfl rfl rfl (by decide) rfl (by decide) hw1 (by decide) rfl rfl rfl hp (fun o w2 s2 hw2 hp2 => ?_)
  obtain ⟨v2, rfl, hp2⟩ := l2_int hp2
  show pm_H (some (L, xs)) 300 310 431 [(3, .int x3), (2, .ref 1131), (1, .ref 0), (0, .ref pm_SC)] [.int v2] w2 Q
  refine pm_H.go (pc' := 432) (st' := []) rfl rfl rfl rfl ?_
  refine pm_H.go (pc' := 858) (st' := []) rfl rfl rfl rfl ?_
  obtain ⟨t2, hS⟩ := hp2
  exact K w2 s2 t2 hw2 hS

theorem l6_op9 {L : Nat} {xs : Nat → Int32} {x3 t : Int32} {w : pm_W} {s : ps_S} {Q : Option Value → pm_W → Prop} (ha : ∀ (k : Int32) (_ : pm_in k 6 = true), pm_in (x3 + k) L = true) (hw : ps_R w s) (h : JSt s t) (K : ∀ (w' : pm_W) (s' : ps_S) (t' : Int32), ps_R w' s' → JSt s' t' → pm_H (some (L, xs)) 300 310 858 [(3, .int x3), (2, .ref 1131), (1, .ref 0), (0, .ref pm_SC)] [] w' Q) : pm_H (some (L, xs)) 300 310 435 [(3, .int x3), (2, .ref 1131), (1, .ref 0), (0, .ref pm_SC)] [] w Q := by
  refine pm_H.go (pc' := 436) (st' := [.ref 0]) rfl rfl rfl rfl ?_
  refine l2_call (c := 11) (q := 0) rfl rfl rfl (by decide) rfl (by decide) hw (by decide) rfl rfl rfl (JP_9 h) (fun o w1 s1 hw1 hp => ?_)
  obtain ⟨v1, rfl, hp⟩ := l2_int hp
  show pm_H (some (L, xs)) 300 310 439 [(3, .int x3), (2, .ref 1131), (1, .ref 0), (0, .ref pm_SC)] [.int v1] w1 Q
  refine pm_H.go (pc' := 440) (st' := []) rfl rfl rfl rfl ?_
  refine pm_H.go (pc' := 441) (st' := [.ref 1131]) rfl rfl rfl rfl ?_
  refine l2_call (c := 12) (q := 1131) rfl rfl rfl (by decide) rfl (by decide) hw1 (by decide) rfl rfl rfl hp (fun o w2 s2 hw2 hp2 => ?_)
  obtain ⟨v2, rfl, hp2⟩ := l2_int hp2
  show pm_H (some (L, xs)) 300 310 444 [(3, .int x3), (2, .ref 1131), (1, .ref 0), (0, .ref pm_SC)] [.int v2] w2 Q
  refine pm_H.go (pc' := 445) (st' := []) rfl rfl rfl rfl ?_
  refine pm_H.go (pc' := 858) (st' := []) rfl rfl rfl rfl ?_
  obtain ⟨t2, hS⟩ := hp2
  exact K w2 s2 t2 hw2 hS

theorem l6_op10 {L : Nat} {xs : Nat → Int32} {x3 t : Int32} {w : pm_W} {s : ps_S} {Q : Option Value → pm_W → Prop} (ha : ∀ (k : Int32) (_ : pm_in k 6 = true), pm_in (x3 + k) L = true) (hw : ps_R w s) (h : JSt s t) (K : ∀ (w' : pm_W) (s' : ps_S) (t' : Int32), ps_R w' s' → JSt s' t' → pm_H (some (L, xs)) 300 310 858 [(3, .int x3), (2, .ref 1131), (1, .ref 0), (0, .ref pm_SC)] [] w' Q) : pm_H (some (L, xs)) 300 310 448 [(3, .int x3), (2, .ref 1131), (1, .ref 0), (0, .ref pm_SC)] [] w Q := by
  refine pm_H.go (pc' := 449) (st' := [.ref 0]) rfl rfl rfl rfl ?_
  refine pm_H.go (pc' := 450) (st' := [.ref pm_SC, .ref 0]) rfl rfl rfl rfl ?_
  refine pm_H.go (pc' := 451) (st' := [.int x3, .ref pm_SC, .ref 0]) rfl rfl rfl rfl ?_
  refine pm_H.go (pc' := 452) (st' := [.int 1, .int x3, .ref pm_SC, .ref 0]) rfl rfl rfl rfl ?_
  refine pm_H.go (pc' := 453) (st' := [.int (x3 + 1), .ref pm_SC, .ref 0]) rfl rfl rfl rfl ?_
  refine pm_H.sld (i := (x3 + 1)) rfl rfl (ha 1 rfl) ?_
  refine pm_H.go (pc' := 455) (st' := [.ref pm_SC, .int (xs (Int32.toNatClampNeg (x3 + 1))), .ref 0]) rfl rfl rfl rfl ?_
  refine pm_H.go (pc' := 456) (st' := [.int x3, .ref pm_SC, .int (xs (Int32.toNatClampNeg (x3 + 1))), .ref 0]) rfl rfl rfl rfl ?_
  refine pm_H.go (pc' := 457) (st' := [.int 2, .int x3, .ref pm_SC, .int (xs (Int32.toNatClampNeg (x3 + 1))), .ref 0]) rfl rfl rfl rfl ?_
  refine pm_H.go (pc' := 458) (st' := [.int (x3 + 2), .ref pm_SC, .int (xs (Int32.toNatClampNeg (x3 + 1))), .ref 0]) rfl rfl rfl rfl ?_
  refine pm_H.sld (i := (x3 + 2)) rfl rfl (ha 2 rfl) ?_
  refine l2_call (c := 11) (q := 0) rfl rfl rfl (by decide) rfl (by decide) hw (by decide) rfl rfl rfl (JP_10 h) (fun o w1 s1 hw1 hp => ?_)
  obtain ⟨v1, rfl, hp⟩ := l2_int hp
  show pm_H (some (L, xs)) 300 310 462 [(3, .int x3), (2, .ref 1131), (1, .ref 0), (0, .ref pm_SC)] [.int v1] w1 Q
  refine pm_H.go (pc' := 463) (st' := []) rfl rfl rfl rfl ?_
  refine pm_H.go (pc' := 464) (st' := [.ref 1131]) rfl rfl rfl rfl ?_
  refine pm_H.go (pc' := 465) (st' := [.ref pm_SC, .ref 1131]) rfl rfl rfl rfl ?_
  refine pm_H.go (pc' := 466) (st' := [.int x3, .ref pm_SC, .ref 1131]) rfl rfl rfl rfl ?_
  refine pm_H.go (pc' := 467) (st' := [.int 1, .int x3, .ref pm_SC, .ref 1131]) rfl rfl rfl rfl ?_
  refine pm_H.go (pc' := 468) (st' := [.int (x3 + 1), .ref pm_SC, .ref 1131]) rfl rfl rfl rfl ?_
  refine pm_H.sld (i := (x3 + 1)) rfl rfl (ha 1 rfl) ?_
  refine pm_H.go (pc' := 470) (st' := [.ref pm_SC, .int (xs (Int32.toNatClampNeg (x3 + 1))), .ref 1131]) rfl rfl rfl rfl ?_
  refine pm_H.go (pc' := 471) (st' := [.int x3, .ref pm_SC, .int (xs (Int32.toNatClampNeg (x3 + 1))), .ref 1131]) rfl rfl rfl rfl ?_
  refine pm_H.go (pc' := 472) (st' := [.int 2, .int x3, .ref pm_SC, .int (xs (Int32.toNatClampNeg (x3 + 1))), .ref 1131]) rfl rfl rfl rfl ?_
  refine pm_H.go (pc' := 473) (st' := [.int (x3 + 2), .ref pm_SC, .int (xs (Int32.toNatClampNeg (x3 + 1))), .ref 1131]) rfl rfl rfl rfl ?_
  refine pm_H.sld (i := (x3 + 2)) rfl rfl (ha 2 rfl) ?_
  refine l2_call (c := 12) (q := 1131) rfl rfl rfl (by decide) rfl (by decide) hw1 (by decide) rfl rfl rfl hp (fun o w2 s2 hw2 hp2 => ?_)
  obtain ⟨v2, rfl, hp2⟩ := l2_int hp2
  show pm_H (some (L, xs)) 300 310 477 [(3, .int x3), (2, .ref 1131), (1, .ref 0), (0, .ref pm_SC)] [.int v2] w2 Q
  refine pm_H.go (pc' := 478) (st' := []) rfl rfl rfl rfl ?_
  refine pm_H.go (pc' := 858) (st' := []) rfl rfl rfl rfl ?_
  obtain ⟨t2, hS⟩ := hp2
  exact K w2 s2 t2 hw2 hS

theorem l6_op11 {L : Nat} {xs : Nat → Int32} {x3 t : Int32} {w : pm_W} {s : ps_S} {Q : Option Value → pm_W → Prop} (ha : ∀ (k : Int32) (_ : pm_in k 6 = true), pm_in (x3 + k) L = true) (hw : ps_R w s) (h : JSt s t) (K : ∀ (w' : pm_W) (s' : ps_S) (t' : Int32), ps_R w' s' → JSt s' t' → pm_H (some (L, xs)) 300 310 858 [(3, .int x3), (2, .ref 1131), (1, .ref 0), (0, .ref pm_SC)] [] w' Q) : pm_H (some (L, xs)) 300 310 481 [(3, .int x3), (2, .ref 1131), (1, .ref 0), (0, .ref pm_SC)] [] w Q := by
  refine pm_H.go (pc' := 482) (st' := [.ref 0]) rfl rfl rfl rfl ?_
  refine pm_H.go (pc' := 483) (st' := [.ref pm_SC, .ref 0]) rfl rfl rfl rfl ?_
  refine pm_H.go (pc' := 484) (st' := [.int x3, .ref pm_SC, .ref 0]) rfl rfl rfl rfl ?_
  refine pm_H.go (pc' := 485) (st' := [.int 1, .int x3, .ref pm_SC, .ref 0]) rfl rfl rfl rfl ?_
  refine pm_H.go (pc' := 486) (st' := [.int (x3 + 1), .ref pm_SC, .ref 0]) rfl rfl rfl rfl ?_
  refine pm_H.sld (i := (x3 + 1)) rfl rfl (ha 1 rfl) ?_
  refine pm_H.go (pc' := 488) (st' := [.ref pm_SC, .int (xs (Int32.toNatClampNeg (x3 + 1))), .ref 0]) rfl rfl rfl rfl ?_
  refine pm_H.go (pc' := 489) (st' := [.int x3, .ref pm_SC, .int (xs (Int32.toNatClampNeg (x3 + 1))), .ref 0]) rfl rfl rfl rfl ?_
  refine pm_H.go (pc' := 490) (st' := [.int 2, .int x3, .ref pm_SC, .int (xs (Int32.toNatClampNeg (x3 + 1))), .ref 0]) rfl rfl rfl rfl ?_
  refine pm_H.go (pc' := 491) (st' := [.int (x3 + 2), .ref pm_SC, .int (xs (Int32.toNatClampNeg (x3 + 1))), .ref 0]) rfl rfl rfl rfl ?_
  refine pm_H.sld (i := (x3 + 2)) rfl rfl (ha 2 rfl) ?_
  refine l2_call (c := 11) (q := 0) rfl rfl rfl (by decide) rfl (by decide) hw (by decide) rfl rfl rfl (JP_11 h) (fun o w1 s1 hw1 hp => ?_)
  obtain ⟨v1, rfl, hp⟩ := l2_int hp
  show pm_H (some (L, xs)) 300 310 495 [(3, .int x3), (2, .ref 1131), (1, .ref 0), (0, .ref pm_SC)] [.int v1] w1 Q
  refine pm_H.go (pc' := 496) (st' := []) rfl rfl rfl rfl ?_
  refine pm_H.go (pc' := 497) (st' := [.ref 1131]) rfl rfl rfl rfl ?_
  refine pm_H.go (pc' := 498) (st' := [.ref pm_SC, .ref 1131]) rfl rfl rfl rfl ?_
  refine pm_H.go (pc' := 499) (st' := [.int x3, .ref pm_SC, .ref 1131]) rfl rfl rfl rfl ?_
  refine pm_H.go (pc' := 500) (st' := [.int 1, .int x3, .ref pm_SC, .ref 1131]) rfl rfl rfl rfl ?_
  refine pm_H.go (pc' := 501) (st' := [.int (x3 + 1), .ref pm_SC, .ref 1131]) rfl rfl rfl rfl ?_
  refine pm_H.sld (i := (x3 + 1)) rfl rfl (ha 1 rfl) ?_
  refine pm_H.go (pc' := 503) (st' := [.ref pm_SC, .int (xs (Int32.toNatClampNeg (x3 + 1))), .ref 1131]) rfl rfl rfl rfl ?_
  refine pm_H.go (pc' := 504) (st' := [.int x3, .ref pm_SC, .int (xs (Int32.toNatClampNeg (x3 + 1))), .ref 1131]) rfl rfl rfl rfl ?_
  refine pm_H.go (pc' := 505) (st' := [.int 2, .int x3, .ref pm_SC, .int (xs (Int32.toNatClampNeg (x3 + 1))), .ref 1131]) rfl rfl rfl rfl ?_
  refine pm_H.go (pc' := 506) (st' := [.int (x3 + 2), .ref pm_SC, .int (xs (Int32.toNatClampNeg (x3 + 1))), .ref 1131]) rfl rfl rfl rfl ?_
  refine pm_H.sld (i := (x3 + 2)) rfl rfl (ha 2 rfl) ?_
  refine l2_call (c := 12) (q := 1131) rfl rfl rfl (by decide) rfl (by decide) hw1 (by decide) rfl rfl rfl hp (fun o w2 s2 hw2 hp2 => ?_)
  obtain ⟨v2, rfl, hp2⟩ := l2_int hp2
  show pm_H (some (L, xs)) 300 310 510 [(3, .int x3), (2, .ref 1131), (1, .ref 0), (0, .ref pm_SC)] [.int v2] w2 Q
  refine pm_H.go (pc' := 511) (st' := []) rfl rfl rfl rfl ?_
  refine pm_H.go (pc' := 858) (st' := []) rfl rfl rfl rfl ?_
  obtain ⟨t2, hS⟩ := hp2
  exact K w2 s2 t2 hw2 hS

theorem l6_op12 {L : Nat} {xs : Nat → Int32} {x3 t : Int32} {w : pm_W} {s : ps_S} {Q : Option Value → pm_W → Prop} (ha : ∀ (k : Int32) (_ : pm_in k 6 = true), pm_in (x3 + k) L = true) (hw : ps_R w s) (h : JSt s t) (K : ∀ (w' : pm_W) (s' : ps_S) (t' : Int32), ps_R w' s' → JSt s' t' → pm_H (some (L, xs)) 300 310 858 [(3, .int x3), (2, .ref 1131), (1, .ref 0), (0, .ref pm_SC)] [] w' Q) : pm_H (some (L, xs)) 300 310 514 [(3, .int x3), (2, .ref 1131), (1, .ref 0), (0, .ref pm_SC)] [] w Q := by
  refine pm_H.go (pc' := 515) (st' := [.ref 0]) rfl rfl rfl rfl ?_
  refine l2_call (c := 11) (q := 0) rfl rfl rfl (by decide) rfl (by decide) hw (by decide) rfl rfl rfl (JP_12 h) (fun o w1 s1 hw1 hp => ?_)
  obtain ⟨v1, rfl, hp⟩ := l2_int hp
  show pm_H (some (L, xs)) 300 310 518 [(3, .int x3), (2, .ref 1131), (1, .ref 0), (0, .ref pm_SC)] [.int v1] w1 Q
  refine pm_H.go (pc' := 519) (st' := []) rfl rfl rfl rfl ?_
  refine pm_H.go (pc' := 520) (st' := [.ref 1131]) rfl rfl rfl rfl ?_
  refine l2_call (c := 12) (q := 1131) rfl rfl rfl (by decide) rfl (by decide) hw1 (by decide) rfl rfl rfl hp (fun o w2 s2 hw2 hp2 => ?_)
  obtain ⟨v2, rfl, hp2⟩ := l2_int hp2
  show pm_H (some (L, xs)) 300 310 523 [(3, .int x3), (2, .ref 1131), (1, .ref 0), (0, .ref pm_SC)] [.int v2] w2 Q
  refine pm_H.go (pc' := 524) (st' := []) rfl rfl rfl rfl ?_
  refine pm_H.go (pc' := 858) (st' := []) rfl rfl rfl rfl ?_
  obtain ⟨t2, hS⟩ := hp2
  exact K w2 s2 t2 hw2 hS

theorem l6_op13 {L : Nat} {xs : Nat → Int32} {x3 t : Int32} {w : pm_W} {s : ps_S} {Q : Option Value → pm_W → Prop} (ha : ∀ (k : Int32) (_ : pm_in k 6 = true), pm_in (x3 + k) L = true) (hw : ps_R w s) (h : JSt s t) (K : ∀ (w' : pm_W) (s' : ps_S) (t' : Int32), ps_R w' s' → JSt s' t' → pm_H (some (L, xs)) 300 310 858 [(3, .int x3), (2, .ref 1131), (1, .ref 0), (0, .ref pm_SC)] [] w' Q) : pm_H (some (L, xs)) 300 310 527 [(3, .int x3), (2, .ref 1131), (1, .ref 0), (0, .ref pm_SC)] [] w Q := by
  refine pm_H.go (pc' := 528) (st' := [.ref 0]) rfl rfl rfl rfl ?_
  refine l2_call (c := 11) (q := 0) rfl rfl rfl (by decide) rfl (by decide) hw (by decide) rfl rfl rfl (JP_13 h) (fun o w1 s1 hw1 hp => ?_)
  obtain ⟨v1, rfl, hp⟩ := l2_int hp
  show pm_H (some (L, xs)) 300 310 531 [(3, .int x3), (2, .ref 1131), (1, .ref 0), (0, .ref pm_SC)] [.int v1] w1 Q
  refine pm_H.go (pc' := 532) (st' := []) rfl rfl rfl rfl ?_
  refine pm_H.go (pc' := 533) (st' := [.ref 1131]) rfl rfl rfl rfl ?_
  refine l2_call (c := 12) (q := 1131) rfl rfl rfl (by decide) rfl (by decide) hw1 (by decide) rfl rfl rfl hp (fun o w2 s2 hw2 hp2 => ?_)
  obtain ⟨v2, rfl, hp2⟩ := l2_int hp2
  show pm_H (some (L, xs)) 300 310 536 [(3, .int x3), (2, .ref 1131), (1, .ref 0), (0, .ref pm_SC)] [.int v2] w2 Q
  refine pm_H.go (pc' := 537) (st' := []) rfl rfl rfl rfl ?_
  refine pm_H.go (pc' := 858) (st' := []) rfl rfl rfl rfl ?_
  obtain ⟨t2, hS⟩ := hp2.2
  exact K w2 s2 t2 hw2 hS

theorem l6_op14 {L : Nat} {xs : Nat → Int32} {x3 t : Int32} {w : pm_W} {s : ps_S} {Q : Option Value → pm_W → Prop} (ha : ∀ (k : Int32) (_ : pm_in k 6 = true), pm_in (x3 + k) L = true) (hw : ps_R w s) (h : JSt s t) (K : ∀ (w' : pm_W) (s' : ps_S) (t' : Int32), ps_R w' s' → JSt s' t' → pm_H (some (L, xs)) 300 310 858 [(3, .int x3), (2, .ref 1131), (1, .ref 0), (0, .ref pm_SC)] [] w' Q) : pm_H (some (L, xs)) 300 310 540 [(3, .int x3), (2, .ref 1131), (1, .ref 0), (0, .ref pm_SC)] [] w Q := by
  refine pm_H.go (pc' := 541) (st' := [.ref 0]) rfl rfl rfl rfl ?_
  refine pm_H.go (pc' := 542) (st' := [.ref pm_SC, .ref 0]) rfl rfl rfl rfl ?_
  refine pm_H.go (pc' := 543) (st' := [.int x3, .ref pm_SC, .ref 0]) rfl rfl rfl rfl ?_
  refine pm_H.go (pc' := 544) (st' := [.int 1, .int x3, .ref pm_SC, .ref 0]) rfl rfl rfl rfl ?_
  refine pm_H.go (pc' := 545) (st' := [.int (x3 + 1), .ref pm_SC, .ref 0]) rfl rfl rfl rfl ?_
  refine pm_H.sld (i := (x3 + 1)) rfl rfl (ha 1 rfl) ?_
  refine l2_call (c := 11) (q := 0) rfl rfl rfl (by decide) rfl (by decide) hw (by decide) rfl rfl rfl (JP_14 h) (fun o w1 s1 hw1 hp => ?_)
  obtain ⟨v1, rfl, hp⟩ := l2_int hp
  show pm_H (some (L, xs)) 300 310 549 [(3, .int x3), (2, .ref 1131), (1, .ref 0), (0, .ref pm_SC)] [.int v1] w1 Q
  refine pm_H.go (pc' := 550) (st' := []) rfl rfl rfl rfl ?_
  refine pm_H.go (pc' := 551) (st' := [.ref 1131]) rfl rfl rfl rfl ?_
  refine pm_H.go (pc' := 552) (st' := [.ref pm_SC, .ref 1131]) rfl rfl rfl rfl ?_
  refine pm_H.go (pc' := 553) (st' := [.int x3, .ref pm_SC, .ref 1131]) rfl rfl rfl rfl ?_
  refine pm_H.go (pc' := 554) (st' := [.int 1, .int x3, .ref pm_SC, .ref 1131]) rfl rfl rfl rfl ?_
  refine pm_H.go (pc' := 555) (st' := [.int (x3 + 1), .ref pm_SC, .ref 1131]) rfl rfl rfl rfl ?_
  refine pm_H.sld (i := (x3 + 1)) rfl rfl (ha 1 rfl) ?_
  refine l2_call (c := 12) (q := 1131) rfl rfl rfl (by decide) rfl (by decide) hw1 (by decide) rfl rfl rfl hp (fun o w2 s2 hw2 hp2 => ?_)
  obtain ⟨v2, rfl, hp2⟩ := l2_int hp2
  show pm_H (some (L, xs)) 300 310 559 [(3, .int x3), (2, .ref 1131), (1, .ref 0), (0, .ref pm_SC)] [.int v2] w2 Q
  refine pm_H.go (pc' := 560) (st' := []) rfl rfl rfl rfl ?_
  refine pm_H.go (pc' := 858) (st' := []) rfl rfl rfl rfl ?_
  obtain ⟨t2, hS⟩ := hp2
  exact K w2 s2 t2 hw2 hS

theorem l6_op15 {L : Nat} {xs : Nat → Int32} {x3 t : Int32} {w : pm_W} {s : ps_S} {Q : Option Value → pm_W → Prop} (ha : ∀ (k : Int32) (_ : pm_in k 6 = true), pm_in (x3 + k) L = true) (hw : ps_R w s) (h : JSt s t) (K : ∀ (w' : pm_W) (s' : ps_S) (t' : Int32), ps_R w' s' → JSt s' t' → pm_H (some (L, xs)) 300 310 858 [(3, .int x3), (2, .ref 1131), (1, .ref 0), (0, .ref pm_SC)] [] w' Q) : pm_H (some (L, xs)) 300 310 563 [(3, .int x3), (2, .ref 1131), (1, .ref 0), (0, .ref pm_SC)] [] w Q := by
  refine pm_H.go (pc' := 564) (st' := [.ref 0]) rfl rfl rfl rfl ?_
  refine l2_call (c := 11) (q := 0) rfl rfl rfl (by decide) rfl (by decide) hw (by decide) rfl rfl rfl (JP_15 h) (fun o w1 s1 hw1 hp => ?_)
  obtain ⟨v1, rfl, hp⟩ := l2_int hp
  show pm_H (some (L, xs)) 300 310 567 [(3, .int x3), (2, .ref 1131), (1, .ref 0), (0, .ref pm_SC)] [.int v1] w1 Q
  refine pm_H.go (pc' := 568) (st' := []) rfl rfl rfl rfl ?_
  refine pm_H.go (pc' := 569) (st' := [.ref 1131]) rfl rfl rfl rfl ?_
  refine l2_call (c := 12) (q := 1131) rfl rfl rfl (by decide) rfl (by decide) hw1 (by decide) rfl rfl rfl hp (fun o w2 s2 hw2 hp2 => ?_)
  obtain ⟨v2, rfl, hp2⟩ := l2_int hp2
  show pm_H (some (L, xs)) 300 310 572 [(3, .int x3), (2, .ref 1131), (1, .ref 0), (0, .ref pm_SC)] [.int v2] w2 Q
  refine pm_H.go (pc' := 573) (st' := []) rfl rfl rfl rfl ?_
  refine pm_H.go (pc' := 858) (st' := []) rfl rfl rfl rfl ?_
  obtain ⟨t2, hS⟩ := hp2
  exact K w2 s2 t2 hw2 hS

theorem l6_op16 {L : Nat} {xs : Nat → Int32} {x3 t : Int32} {w : pm_W} {s : ps_S} {Q : Option Value → pm_W → Prop} (ha : ∀ (k : Int32) (_ : pm_in k 6 = true), pm_in (x3 + k) L = true) (hw : ps_R w s) (h : JSt s t) (K : ∀ (w' : pm_W) (s' : ps_S) (t' : Int32), ps_R w' s' → JSt s' t' → pm_H (some (L, xs)) 300 310 858 [(3, .int x3), (2, .ref 1131), (1, .ref 0), (0, .ref pm_SC)] [] w' Q) : pm_H (some (L, xs)) 300 310 576 [(3, .int x3), (2, .ref 1131), (1, .ref 0), (0, .ref pm_SC)] [] w Q := by
  refine pm_H.go (pc' := 577) (st' := [.ref 0]) rfl rfl rfl rfl ?_
  refine pm_H.go (pc' := 578) (st' := [.ref pm_SC, .ref 0]) rfl rfl rfl rfl ?_
  refine pm_H.go (pc' := 579) (st' := [.int x3, .ref pm_SC, .ref 0]) rfl rfl rfl rfl ?_
  refine pm_H.go (pc' := 580) (st' := [.int 1, .int x3, .ref pm_SC, .ref 0]) rfl rfl rfl rfl ?_
  refine pm_H.go (pc' := 581) (st' := [.int (x3 + 1), .ref pm_SC, .ref 0]) rfl rfl rfl rfl ?_
  refine pm_H.sld (i := (x3 + 1)) rfl rfl (ha 1 rfl) ?_
  refine l2_call (c := 11) (q := 0) rfl rfl rfl (by decide) rfl (by decide) hw (by decide) rfl rfl rfl (JP_16 h) (fun o w1 s1 hw1 hp => ?_)
  obtain ⟨v1, rfl, hp⟩ := l2_lng hp
  show pm_H (some (L, xs)) 300 310 585 [(3, .int x3), (2, .ref 1131), (1, .ref 0), (0, .ref pm_SC)] [.long v1] w1 Q
  refine pm_H.go (pc' := 586) (st' := []) rfl rfl rfl rfl ?_
  refine pm_H.go (pc' := 587) (st' := [.ref 1131]) rfl rfl rfl rfl ?_
  refine pm_H.go (pc' := 588) (st' := [.ref pm_SC, .ref 1131]) rfl rfl rfl rfl ?_
  refine pm_H.go (pc' := 589) (st' := [.int x3, .ref pm_SC, .ref 1131]) rfl rfl rfl rfl ?_
  refine pm_H.go (pc' := 590) (st' := [.int 1, .int x3, .ref pm_SC, .ref 1131]) rfl rfl rfl rfl ?_
  refine pm_H.go (pc' := 591) (st' := [.int (x3 + 1), .ref pm_SC, .ref 1131]) rfl rfl rfl rfl ?_
  refine pm_H.sld (i := (x3 + 1)) rfl rfl (ha 1 rfl) ?_
  refine l2_call (c := 12) (q := 1131) rfl rfl rfl (by decide) rfl (by decide) hw1 (by decide) rfl rfl rfl hp (fun o w2 s2 hw2 hp2 => ?_)
  obtain ⟨v2, rfl, hp2⟩ := l2_lng hp2
  show pm_H (some (L, xs)) 300 310 595 [(3, .int x3), (2, .ref 1131), (1, .ref 0), (0, .ref pm_SC)] [.long v2] w2 Q
  refine pm_H.go (pc' := 596) (st' := []) rfl rfl rfl rfl ?_
  refine pm_H.go (pc' := 858) (st' := []) rfl rfl rfl rfl ?_
  obtain ⟨t2, hS⟩ := hp2
  exact K w2 s2 t2 hw2 hS

theorem l6_op17 {L : Nat} {xs : Nat → Int32} {x3 t : Int32} {w : pm_W} {s : ps_S} {Q : Option Value → pm_W → Prop} (ha : ∀ (k : Int32) (_ : pm_in k 6 = true), pm_in (x3 + k) L = true) (hw : ps_R w s) (h : JSt s t) (K : ∀ (w' : pm_W) (s' : ps_S) (t' : Int32), ps_R w' s' → JSt s' t' → pm_H (some (L, xs)) 300 310 858 [(3, .int x3), (2, .ref 1131), (1, .ref 0), (0, .ref pm_SC)] [] w' Q) : pm_H (some (L, xs)) 300 310 599 [(3, .int x3), (2, .ref 1131), (1, .ref 0), (0, .ref pm_SC)] [] w Q := by
  refine pm_H.go (pc' := 600) (st' := [.ref 0]) rfl rfl rfl rfl ?_
  refine l2_call (c := 11) (q := 0) rfl rfl rfl (by decide) rfl (by decide) hw (by decide) rfl rfl rfl (JP_17 h) (fun o w1 s1 hw1 hp => ?_)
  obtain ⟨v1, rfl, hp⟩ := l2_int hp
  show pm_H (some (L, xs)) 300 310 603 [(3, .int x3), (2, .ref 1131), (1, .ref 0), (0, .ref pm_SC)] [.int v1] w1 Q
  refine pm_H.go (pc' := 604) (st' := []) rfl rfl rfl rfl ?_
  refine pm_H.go (pc' := 605) (st' := [.ref 1131]) rfl rfl rfl rfl ?_
  refine l2_call (c := 12) (q := 1131) rfl rfl rfl (by decide) rfl (by decide) hw1 (by decide) rfl rfl rfl hp (fun o w2 s2 hw2 hp2 => ?_)
  obtain ⟨v2, rfl, hp2⟩ := l2_int hp2
  show pm_H (some (L, xs)) 300 310 608 [(3, .int x3), (2, .ref 1131), (1, .ref 0), (0, .ref pm_SC)] [.int v2] w2 Q
  refine pm_H.go (pc' := 609) (st' := []) rfl rfl rfl rfl ?_
  refine pm_H.go (pc' := 858) (st' := []) rfl rfl rfl rfl ?_
  obtain ⟨t2, hS⟩ := hp2
  exact K w2 s2 t2 hw2 hS

theorem l6_op18 {L : Nat} {xs : Nat → Int32} {x3 t : Int32} {w : pm_W} {s : ps_S} {Q : Option Value → pm_W → Prop} (ha : ∀ (k : Int32) (_ : pm_in k 6 = true), pm_in (x3 + k) L = true) (hw : ps_R w s) (h : JSt s t) (K : ∀ (w' : pm_W) (s' : ps_S) (t' : Int32), ps_R w' s' → JSt s' t' → pm_H (some (L, xs)) 300 310 858 [(3, .int x3), (2, .ref 1131), (1, .ref 0), (0, .ref pm_SC)] [] w' Q) : pm_H (some (L, xs)) 300 310 612 [(3, .int x3), (2, .ref 1131), (1, .ref 0), (0, .ref pm_SC)] [] w Q := by
  refine pm_H.go (pc' := 613) (st' := [.ref 0]) rfl rfl rfl rfl ?_
  refine l2_call (c := 11) (q := 0) rfl rfl rfl (by decide) rfl (by decide) hw (by decide) rfl rfl rfl (JP_18 h) (fun o w1 s1 hw1 hp => ?_)
  obtain ⟨v1, rfl, hp⟩ := l2_int hp
  show pm_H (some (L, xs)) 300 310 616 [(3, .int x3), (2, .ref 1131), (1, .ref 0), (0, .ref pm_SC)] [.int v1] w1 Q
  refine pm_H.go (pc' := 617) (st' := []) rfl rfl rfl rfl ?_
  refine pm_H.go (pc' := 618) (st' := [.ref 1131]) rfl rfl rfl rfl ?_
  refine l2_call (c := 12) (q := 1131) rfl rfl rfl (by decide) rfl (by decide) hw1 (by decide) rfl rfl rfl hp (fun o w2 s2 hw2 hp2 => ?_)
  obtain ⟨v2, rfl, hp2⟩ := l2_int hp2
  show pm_H (some (L, xs)) 300 310 621 [(3, .int x3), (2, .ref 1131), (1, .ref 0), (0, .ref pm_SC)] [.int v2] w2 Q
  refine pm_H.go (pc' := 622) (st' := []) rfl rfl rfl rfl ?_
  refine pm_H.go (pc' := 858) (st' := []) rfl rfl rfl rfl ?_
  obtain ⟨t2, hS⟩ := hp2
  exact K w2 s2 t2 hw2 hS

theorem l6_op19 {L : Nat} {xs : Nat → Int32} {x3 t : Int32} {w : pm_W} {s : ps_S} {Q : Option Value → pm_W → Prop} (ha : ∀ (k : Int32) (_ : pm_in k 6 = true), pm_in (x3 + k) L = true) (hw : ps_R w s) (h : JSt s t) (K : ∀ (w' : pm_W) (s' : ps_S) (t' : Int32), ps_R w' s' → JSt s' t' → pm_H (some (L, xs)) 300 310 858 [(3, .int x3), (2, .ref 1131), (1, .ref 0), (0, .ref pm_SC)] [] w' Q) : pm_H (some (L, xs)) 300 310 625 [(3, .int x3), (2, .ref 1131), (1, .ref 0), (0, .ref pm_SC)] [] w Q := by
  refine pm_H.go (pc' := 626) (st' := [.ref 0]) rfl rfl rfl rfl ?_
  refine l2_call (c := 11) (q := 0) rfl rfl rfl (by decide) rfl (by decide) hw (by decide) rfl rfl rfl (JP_19 h) (fun o w1 s1 hw1 hp => ?_)
  obtain ⟨v1, rfl, hp⟩ := l2_int hp
  show pm_H (some (L, xs)) 300 310 629 [(3, .int x3), (2, .ref 1131), (1, .ref 0), (0, .ref pm_SC)] [.int v1] w1 Q
  refine pm_H.go (pc' := 630) (st' := []) rfl rfl rfl rfl ?_
  refine pm_H.go (pc' := 631) (st' := [.ref 1131]) rfl rfl rfl rfl ?_
  refine l2_call (c := 12) (q := 1131) rfl rfl rfl (by decide) rfl (by decide) hw1 (by decide) rfl rfl rfl hp (fun o w2 s2 hw2 hp2 => ?_)
  obtain ⟨v2, rfl, hp2⟩ := l2_int hp2
  show pm_H (some (L, xs)) 300 310 634 [(3, .int x3), (2, .ref 1131), (1, .ref 0), (0, .ref pm_SC)] [.int v2] w2 Q
  refine pm_H.go (pc' := 635) (st' := []) rfl rfl rfl rfl ?_
  refine pm_H.go (pc' := 858) (st' := []) rfl rfl rfl rfl ?_
  obtain ⟨t2, hS⟩ := hp2
  exact K w2 s2 t2 hw2 hS

theorem l6_op20 {L : Nat} {xs : Nat → Int32} {x3 t : Int32} {w : pm_W} {s : ps_S} {Q : Option Value → pm_W → Prop} (ha : ∀ (k : Int32) (_ : pm_in k 6 = true), pm_in (x3 + k) L = true) (hw : ps_R w s) (h : JSt s t) (K : ∀ (w' : pm_W) (s' : ps_S) (t' : Int32), ps_R w' s' → JSt s' t' → pm_H (some (L, xs)) 300 310 858 [(3, .int x3), (2, .ref 1131), (1, .ref 0), (0, .ref pm_SC)] [] w' Q) : pm_H (some (L, xs)) 300 310 638 [(3, .int x3), (2, .ref 1131), (1, .ref 0), (0, .ref pm_SC)] [] w Q := by
  refine pm_H.go (pc' := 639) (st' := [.ref 0]) rfl rfl rfl rfl ?_
  refine l2_call (c := 11) (q := 0) rfl rfl rfl (by decide) rfl (by decide) hw (by decide) rfl rfl rfl (JP_20 h) (fun o w1 s1 hw1 hp => ?_)
  obtain ⟨v1, rfl, hp⟩ := l2_int hp
  show pm_H (some (L, xs)) 300 310 642 [(3, .int x3), (2, .ref 1131), (1, .ref 0), (0, .ref pm_SC)] [.int v1] w1 Q
  refine pm_H.go (pc' := 643) (st' := []) rfl rfl rfl rfl ?_
  refine pm_H.go (pc' := 644) (st' := [.ref 1131]) rfl rfl rfl rfl ?_
  refine l2_call (c := 12) (q := 1131) rfl rfl rfl (by decide) rfl (by decide) hw1 (by decide) rfl rfl rfl hp (fun o w2 s2 hw2 hp2 => ?_)
  obtain ⟨v2, rfl, hp2⟩ := l2_int hp2
  show pm_H (some (L, xs)) 300 310 647 [(3, .int x3), (2, .ref 1131), (1, .ref 0), (0, .ref pm_SC)] [.int v2] w2 Q
  refine pm_H.go (pc' := 648) (st' := []) rfl rfl rfl rfl ?_
  refine pm_H.go (pc' := 858) (st' := []) rfl rfl rfl rfl ?_
  obtain ⟨t2, hS⟩ := hp2
  exact K w2 s2 t2 hw2 hS

theorem l6_op21 {L : Nat} {xs : Nat → Int32} {x3 t : Int32} {w : pm_W} {s : ps_S} {Q : Option Value → pm_W → Prop} (ha : ∀ (k : Int32) (_ : pm_in k 6 = true), pm_in (x3 + k) L = true) (hw : ps_R w s) (h : JSt s t) (K : ∀ (w' : pm_W) (s' : ps_S) (t' : Int32), ps_R w' s' → JSt s' t' → pm_H (some (L, xs)) 300 310 858 [(3, .int x3), (2, .ref 1131), (1, .ref 0), (0, .ref pm_SC)] [] w' Q) : pm_H (some (L, xs)) 300 310 651 [(3, .int x3), (2, .ref 1131), (1, .ref 0), (0, .ref pm_SC)] [] w Q := by
  refine pm_H.go (pc' := 652) (st' := [.ref 0]) rfl rfl rfl rfl ?_
  refine pm_H.go (pc' := 653) (st' := [.ref pm_SC, .ref 0]) rfl rfl rfl rfl ?_
  refine pm_H.go (pc' := 654) (st' := [.int x3, .ref pm_SC, .ref 0]) rfl rfl rfl rfl ?_
  refine pm_H.go (pc' := 655) (st' := [.int 1, .int x3, .ref pm_SC, .ref 0]) rfl rfl rfl rfl ?_
  refine pm_H.go (pc' := 656) (st' := [.int (x3 + 1), .ref pm_SC, .ref 0]) rfl rfl rfl rfl ?_
  refine pm_H.sld (i := (x3 + 1)) rfl rfl (ha 1 rfl) ?_
  refine l2_call (c := 11) (q := 0) rfl rfl rfl (by decide) rfl (by decide) hw (by decide) rfl rfl rfl (JP_21 h) (fun o w1 s1 hw1 hp => ?_)
  obtain ⟨v1, rfl, hp⟩ := l2_int hp
  show pm_H (some (L, xs)) 300 310 660 [(3, .int x3), (2, .ref 1131), (1, .ref 0), (0, .ref pm_SC)] [.int v1] w1 Q
  refine pm_H.go (pc' := 661) (st' := []) rfl rfl rfl rfl ?_
  refine pm_H.go (pc' := 662) (st' := [.ref 1131]) rfl rfl rfl rfl ?_
  refine pm_H.go (pc' := 663) (st' := [.ref pm_SC, .ref 1131]) rfl rfl rfl rfl ?_
  refine pm_H.go (pc' := 664) (st' := [.int x3, .ref pm_SC, .ref 1131]) rfl rfl rfl rfl ?_
  refine pm_H.go (pc' := 665) (st' := [.int 1, .int x3, .ref pm_SC, .ref 1131]) rfl rfl rfl rfl ?_
  refine pm_H.go (pc' := 666) (st' := [.int (x3 + 1), .ref pm_SC, .ref 1131]) rfl rfl rfl rfl ?_
  refine pm_H.sld (i := (x3 + 1)) rfl rfl (ha 1 rfl) ?_
  refine l2_call (c := 12) (q := 1131) rfl rfl rfl (by decide) rfl (by decide) hw1 (by decide) rfl rfl rfl hp (fun o w2 s2 hw2 hp2 => ?_)
  obtain ⟨v2, rfl, hp2⟩ := l2_int hp2
  show pm_H (some (L, xs)) 300 310 670 [(3, .int x3), (2, .ref 1131), (1, .ref 0), (0, .ref pm_SC)] [.int v2] w2 Q
  refine pm_H.go (pc' := 671) (st' := []) rfl rfl rfl rfl ?_
  refine pm_H.go (pc' := 858) (st' := []) rfl rfl rfl rfl ?_
  obtain ⟨t2, hS⟩ := hp2
  exact K w2 s2 t2 hw2 hS

theorem l6_op22 {L : Nat} {xs : Nat → Int32} {x3 t : Int32} {w : pm_W} {s : ps_S} {Q : Option Value → pm_W → Prop} (ha : ∀ (k : Int32) (_ : pm_in k 6 = true), pm_in (x3 + k) L = true) (hw : ps_R w s) (h : JSt s t) (K : ∀ (w' : pm_W) (s' : ps_S) (t' : Int32), ps_R w' s' → JSt s' t' → pm_H (some (L, xs)) 300 310 858 [(3, .int x3), (2, .ref 1131), (1, .ref 0), (0, .ref pm_SC)] [] w' Q) : pm_H (some (L, xs)) 300 310 674 [(3, .int x3), (2, .ref 1131), (1, .ref 0), (0, .ref pm_SC)] [] w Q := by
  refine pm_H.go (pc' := 675) (st' := [.ref 0]) rfl rfl rfl rfl ?_
  refine l2_call (c := 11) (q := 0) rfl rfl rfl (by decide) rfl (by decide) hw (by decide) rfl rfl rfl (JP_22 h) (fun o w1 s1 hw1 hp => ?_)
  obtain ⟨v1, rfl, hp⟩ := l2_int hp
  show pm_H (some (L, xs)) 300 310 678 [(3, .int x3), (2, .ref 1131), (1, .ref 0), (0, .ref pm_SC)] [.int v1] w1 Q
  refine pm_H.go (pc' := 679) (st' := []) rfl rfl rfl rfl ?_
  refine pm_H.go (pc' := 680) (st' := [.ref 1131]) rfl rfl rfl rfl ?_
  refine l2_call (c := 12) (q := 1131) rfl rfl rfl (by decide) rfl (by decide) hw1 (by decide) rfl rfl rfl hp (fun o w2 s2 hw2 hp2 => ?_)
  obtain ⟨v2, rfl, hp2⟩ := l2_int hp2
  show pm_H (some (L, xs)) 300 310 683 [(3, .int x3), (2, .ref 1131), (1, .ref 0), (0, .ref pm_SC)] [.int v2] w2 Q
  refine pm_H.go (pc' := 684) (st' := []) rfl rfl rfl rfl ?_
  refine pm_H.go (pc' := 858) (st' := []) rfl rfl rfl rfl ?_
  obtain ⟨t2, hS⟩ := hp2
  exact K w2 s2 t2 hw2 hS

theorem l6_op23 {L : Nat} {xs : Nat → Int32} {x3 t : Int32} {w : pm_W} {s : ps_S} {Q : Option Value → pm_W → Prop} (ha : ∀ (k : Int32) (_ : pm_in k 6 = true), pm_in (x3 + k) L = true) (hw : ps_R w s) (h : JSt s t) (K : ∀ (w' : pm_W) (s' : ps_S) (t' : Int32), ps_R w' s' → JSt s' t' → pm_H (some (L, xs)) 300 310 858 [(3, .int x3), (2, .ref 1131), (1, .ref 0), (0, .ref pm_SC)] [] w' Q) : pm_H (some (L, xs)) 300 310 687 [(3, .int x3), (2, .ref 1131), (1, .ref 0), (0, .ref pm_SC)] [] w Q := by
  refine pm_H.go (pc' := 688) (st' := [.ref 0]) rfl rfl rfl rfl ?_
  refine pm_H.go (pc' := 689) (st' := [.ref pm_SC, .ref 0]) rfl rfl rfl rfl ?_
  refine pm_H.go (pc' := 690) (st' := [.int x3, .ref pm_SC, .ref 0]) rfl rfl rfl rfl ?_
  refine pm_H.go (pc' := 691) (st' := [.int 1, .int x3, .ref pm_SC, .ref 0]) rfl rfl rfl rfl ?_
  refine pm_H.go (pc' := 692) (st' := [.int (x3 + 1), .ref pm_SC, .ref 0]) rfl rfl rfl rfl ?_
  refine pm_H.sld (i := (x3 + 1)) rfl rfl (ha 1 rfl) ?_
  refine l2_call (c := 11) (q := 0) rfl rfl rfl (by decide) rfl (by decide) hw (by decide) rfl rfl rfl (JP_23 h) (fun o w1 s1 hw1 hp => ?_)
  obtain ⟨v1, rfl, hp⟩ := l2_int hp
  show pm_H (some (L, xs)) 300 310 696 [(3, .int x3), (2, .ref 1131), (1, .ref 0), (0, .ref pm_SC)] [.int v1] w1 Q
  refine pm_H.go (pc' := 697) (st' := []) rfl rfl rfl rfl ?_
  refine pm_H.go (pc' := 698) (st' := [.ref 1131]) rfl rfl rfl rfl ?_
  refine pm_H.go (pc' := 699) (st' := [.ref pm_SC, .ref 1131]) rfl rfl rfl rfl ?_
  refine pm_H.go (pc' := 700) (st' := [.int x3, .ref pm_SC, .ref 1131]) rfl rfl rfl rfl ?_
  refine pm_H.go (pc' := 701) (st' := [.int 1, .int x3, .ref pm_SC, .ref 1131]) rfl rfl rfl rfl ?_
  refine pm_H.go (pc' := 702) (st' := [.int (x3 + 1), .ref pm_SC, .ref 1131]) rfl rfl rfl rfl ?_
  refine pm_H.sld (i := (x3 + 1)) rfl rfl (ha 1 rfl) ?_
  refine l2_call (c := 12) (q := 1131) rfl rfl rfl (by decide) rfl (by decide) hw1 (by decide) rfl rfl rfl hp (fun o w2 s2 hw2 hp2 => ?_)
  obtain ⟨v2, rfl, hp2⟩ := l2_int hp2
  show pm_H (some (L, xs)) 300 310 706 [(3, .int x3), (2, .ref 1131), (1, .ref 0), (0, .ref pm_SC)] [.int v2] w2 Q
  refine pm_H.go (pc' := 707) (st' := []) rfl rfl rfl rfl ?_
  refine pm_H.go (pc' := 858) (st' := []) rfl rfl rfl rfl ?_
  obtain ⟨t2, hS⟩ := hp2
  exact K w2 s2 t2 hw2 hS

theorem l6_op24 {L : Nat} {xs : Nat → Int32} {x3 t : Int32} {w : pm_W} {s : ps_S} {Q : Option Value → pm_W → Prop} (ha : ∀ (k : Int32) (_ : pm_in k 6 = true), pm_in (x3 + k) L = true) (hw : ps_R w s) (h : JSt s t) (K : ∀ (w' : pm_W) (s' : ps_S) (t' : Int32), ps_R w' s' → JSt s' t' → pm_H (some (L, xs)) 300 310 858 [(3, .int x3), (2, .ref 1131), (1, .ref 0), (0, .ref pm_SC)] [] w' Q) : pm_H (some (L, xs)) 300 310 710 [(3, .int x3), (2, .ref 1131), (1, .ref 0), (0, .ref pm_SC)] [] w Q := by
  refine pm_H.go (pc' := 711) (st' := [.ref 0]) rfl rfl rfl rfl ?_
  refine pm_H.go (pc' := 712) (st' := [.ref pm_SC, .ref 0]) rfl rfl rfl rfl ?_
  refine pm_H.go (pc' := 713) (st' := [.int x3, .ref pm_SC, .ref 0]) rfl rfl rfl rfl ?_
  refine pm_H.go (pc' := 714) (st' := [.int 1, .int x3, .ref pm_SC, .ref 0]) rfl rfl rfl rfl ?_
  refine pm_H.go (pc' := 715) (st' := [.int (x3 + 1), .ref pm_SC, .ref 0]) rfl rfl rfl rfl ?_
  refine pm_H.sld (i := (x3 + 1)) rfl rfl (ha 1 rfl) ?_
  refine l2_call (c := 11) (q := 0) rfl rfl rfl (by decide) rfl (by decide) hw (by decide) rfl rfl rfl (JP_24 h) (fun o w1 s1 hw1 hp => ?_)
  obtain ⟨v1, rfl, hp⟩ := l2_int hp
  show pm_H (some (L, xs)) 300 310 719 [(3, .int x3), (2, .ref 1131), (1, .ref 0), (0, .ref pm_SC)] [.int v1] w1 Q
  refine pm_H.go (pc' := 720) (st' := [.ref 1131, .int v1]) rfl rfl rfl rfl ?_
  refine pm_H.go (pc' := 721) (st' := [.ref pm_SC, .ref 1131, .int v1]) rfl rfl rfl rfl ?_
  refine pm_H.go (pc' := 722) (st' := [.int x3, .ref pm_SC, .ref 1131, .int v1]) rfl rfl rfl rfl ?_
  refine pm_H.go (pc' := 723) (st' := [.int 1, .int x3, .ref pm_SC, .ref 1131, .int v1]) rfl rfl rfl rfl ?_
  refine pm_H.go (pc' := 724) (st' := [.int (x3 + 1), .ref pm_SC, .ref 1131, .int v1]) rfl rfl rfl rfl ?_
  refine pm_H.sld (i := (x3 + 1)) rfl rfl (ha 1 rfl) ?_
  refine l2_call (c := 12) (q := 1131) rfl rfl rfl (by decide) rfl (by decide) hw1 (by decide) rfl rfl rfl hp (fun o w2 s2 hw2 hp2 => ?_)
  obtain ⟨v2, rfl, hp2⟩ := l2_int hp2
  show pm_H (some (L, xs)) 300 310 728 [(3, .int x3), (2, .ref 1131), (1, .ref 0), (0, .ref pm_SC)] [.int v2, .int v1] w2 Q
  refine pm_H.bricmp (b := true) (pc' := 858) rfl rfl (decide_eq_true hp2.1) rfl rfl ?_
  obtain ⟨t2, hS⟩ := hp2.2
  exact K w2 s2 t2 hw2 hS

theorem l6_op25 {L : Nat} {xs : Nat → Int32} {x3 t : Int32} {w : pm_W} {s : ps_S} {Q : Option Value → pm_W → Prop} (ha : ∀ (k : Int32) (_ : pm_in k 6 = true), pm_in (x3 + k) L = true) (hw : ps_R w s) (h : JSt s t) (K : ∀ (w' : pm_W) (s' : ps_S) (t' : Int32), ps_R w' s' → JSt s' t' → pm_H (some (L, xs)) 300 310 858 [(3, .int x3), (2, .ref 1131), (1, .ref 0), (0, .ref pm_SC)] [] w' Q) : pm_H (some (L, xs)) 300 310 733 [(3, .int x3), (2, .ref 1131), (1, .ref 0), (0, .ref pm_SC)] [] w Q := by
  refine pm_H.go (pc' := 734) (st' := [.ref 0]) rfl rfl rfl rfl ?_
  refine pm_H.go (pc' := 735) (st' := [.ref pm_SC, .ref 0]) rfl rfl rfl rfl ?_
  refine pm_H.go (pc' := 736) (st' := [.int x3, .ref pm_SC, .ref 0]) rfl rfl rfl rfl ?_
  refine pm_H.go (pc' := 737) (st' := [.int 1, .int x3, .ref pm_SC, .ref 0]) rfl rfl rfl rfl ?_
  refine pm_H.go (pc' := 738) (st' := [.int (x3 + 1), .ref pm_SC, .ref 0]) rfl rfl rfl rfl ?_
  refine pm_H.sld (i := (x3 + 1)) rfl rfl (ha 1 rfl) ?_
  refine pm_H.go (pc' := 740) (st' := [.ref pm_SC, .int (xs (Int32.toNatClampNeg (x3 + 1))), .ref 0]) rfl rfl rfl rfl ?_
  refine pm_H.go (pc' := 741) (st' := [.int x3, .ref pm_SC, .int (xs (Int32.toNatClampNeg (x3 + 1))), .ref 0]) rfl rfl rfl rfl ?_
  refine pm_H.go (pc' := 742) (st' := [.int 2, .int x3, .ref pm_SC, .int (xs (Int32.toNatClampNeg (x3 + 1))), .ref 0]) rfl rfl rfl rfl ?_
  refine pm_H.go (pc' := 743) (st' := [.int (x3 + 2), .ref pm_SC, .int (xs (Int32.toNatClampNeg (x3 + 1))), .ref 0]) rfl rfl rfl rfl ?_
  refine pm_H.sld (i := (x3 + 2)) rfl rfl (ha 2 rfl) ?_
  refine l2_call (c := 11) (q := 0) rfl rfl rfl (by decide) rfl (by decide) hw (by decide) rfl rfl rfl (JP_25 h) (fun o w1 s1 hw1 hp => ?_)
  obtain ⟨v1, rfl, hp⟩ := l2_int hp
  show pm_H (some (L, xs)) 300 310 747 [(3, .int x3), (2, .ref 1131), (1, .ref 0), (0, .ref pm_SC)] [.int v1] w1 Q
  refine pm_H.go (pc' := 748) (st' := []) rfl rfl rfl rfl ?_
  refine pm_H.go (pc' := 749) (st' := [.ref 1131]) rfl rfl rfl rfl ?_
  refine pm_H.go (pc' := 750) (st' := [.ref pm_SC, .ref 1131]) rfl rfl rfl rfl ?_
  refine pm_H.go (pc' := 751) (st' := [.int x3, .ref pm_SC, .ref 1131]) rfl rfl rfl rfl ?_
  refine pm_H.go (pc' := 752) (st' := [.int 1, .int x3, .ref pm_SC, .ref 1131]) rfl rfl rfl rfl ?_
  refine pm_H.go (pc' := 753) (st' := [.int (x3 + 1), .ref pm_SC, .ref 1131]) rfl rfl rfl rfl ?_
  refine pm_H.sld (i := (x3 + 1)) rfl rfl (ha 1 rfl) ?_
  refine pm_H.go (pc' := 755) (st' := [.ref pm_SC, .int (xs (Int32.toNatClampNeg (x3 + 1))), .ref 1131]) rfl rfl rfl rfl ?_
  refine pm_H.go (pc' := 756) (st' := [.int x3, .ref pm_SC, .int (xs (Int32.toNatClampNeg (x3 + 1))), .ref 1131]) rfl rfl rfl rfl ?_
  refine pm_H.go (pc' := 757) (st' := [.int 2, .int x3, .ref pm_SC, .int (xs (Int32.toNatClampNeg (x3 + 1))), .ref 1131]) rfl rfl rfl rfl ?_
  refine pm_H.go (pc' := 758) (st' := [.int (x3 + 2), .ref pm_SC, .int (xs (Int32.toNatClampNeg (x3 + 1))), .ref 1131]) rfl rfl rfl rfl ?_
  refine pm_H.sld (i := (x3 + 2)) rfl rfl (ha 2 rfl) ?_
  refine l2_call (c := 12) (q := 1131) rfl rfl rfl (by decide) rfl (by decide) hw1 (by decide) rfl rfl rfl hp (fun o w2 s2 hw2 hp2 => ?_)
  obtain ⟨v2, rfl, hp2⟩ := l2_int hp2
  show pm_H (some (L, xs)) 300 310 762 [(3, .int x3), (2, .ref 1131), (1, .ref 0), (0, .ref pm_SC)] [.int v2] w2 Q
  refine pm_H.go (pc' := 763) (st' := []) rfl rfl rfl rfl ?_
  refine pm_H.go (pc' := 858) (st' := []) rfl rfl rfl rfl ?_
  obtain ⟨t2, hS⟩ := hp2
  exact K w2 s2 t2 hw2 hS

theorem l6_op26 {L : Nat} {xs : Nat → Int32} {x3 t : Int32} {w : pm_W} {s : ps_S} {Q : Option Value → pm_W → Prop} (ha : ∀ (k : Int32) (_ : pm_in k 6 = true), pm_in (x3 + k) L = true) (hw : ps_R w s) (h : JSt s t) (K : ∀ (w' : pm_W) (s' : ps_S) (t' : Int32), ps_R w' s' → JSt s' t' → pm_H (some (L, xs)) 300 310 858 [(3, .int x3), (2, .ref 1131), (1, .ref 0), (0, .ref pm_SC)] [] w' Q) : pm_H (some (L, xs)) 300 310 766 [(3, .int x3), (2, .ref 1131), (1, .ref 0), (0, .ref pm_SC)] [] w Q := by
  refine pm_H.go (pc' := 767) (st' := [.ref 0]) rfl rfl rfl rfl ?_
  refine pm_H.go (pc' := 768) (st' := [.ref pm_SC, .ref 0]) rfl rfl rfl rfl ?_
  refine pm_H.go (pc' := 769) (st' := [.int x3, .ref pm_SC, .ref 0]) rfl rfl rfl rfl ?_
  refine pm_H.go (pc' := 770) (st' := [.int 1, .int x3, .ref pm_SC, .ref 0]) rfl rfl rfl rfl ?_
  refine pm_H.go (pc' := 771) (st' := [.int (x3 + 1), .ref pm_SC, .ref 0]) rfl rfl rfl rfl ?_
  refine pm_H.sld (i := (x3 + 1)) rfl rfl (ha 1 rfl) ?_
  refine l2_call (c := 11) (q := 0) rfl rfl rfl (by decide) rfl (by decide) hw (by decide) rfl rfl rfl (JP_26 h) (fun o w1 s1 hw1 hp => ?_)
  obtain ⟨v1, rfl, hp⟩ := l2_int hp
  show pm_H (some (L, xs)) 300 310 775 [(3, .int x3), (2, .ref 1131), (1, .ref 0), (0, .ref pm_SC)] [.int v1] w1 Q
  refine pm_H.go (pc' := 776) (st' := []) rfl rfl rfl rfl ?_
  refine pm_H.go (pc' := 777) (st' := [.ref 1131]) rfl rfl rfl rfl ?_
  refine pm_H.go (pc' := 778) (st' := [.ref pm_SC, .ref 1131]) rfl rfl rfl rfl ?_
  refine pm_H.go (pc' := 779) (st' := [.int x3, .ref pm_SC, .ref 1131]) rfl rfl rfl rfl ?_
  refine pm_H.go (pc' := 780) (st' := [.int 1, .int x3, .ref pm_SC, .ref 1131]) rfl rfl rfl rfl ?_
  refine pm_H.go (pc' := 781) (st' := [.int (x3 + 1), .ref pm_SC, .ref 1131]) rfl rfl rfl rfl ?_
  refine pm_H.sld (i := (x3 + 1)) rfl rfl (ha 1 rfl) ?_
  refine l2_call (c := 12) (q := 1131) rfl rfl rfl (by decide) rfl (by decide) hw1 (by decide) rfl rfl rfl hp (fun o w2 s2 hw2 hp2 => ?_)
  obtain ⟨v2, rfl, hp2⟩ := l2_int hp2
  show pm_H (some (L, xs)) 300 310 785 [(3, .int x3), (2, .ref 1131), (1, .ref 0), (0, .ref pm_SC)] [.int v2] w2 Q
  refine pm_H.go (pc' := 786) (st' := []) rfl rfl rfl rfl ?_
  refine pm_H.go (pc' := 858) (st' := []) rfl rfl rfl rfl ?_
  obtain ⟨t2, hS⟩ := hp2.2
  exact K w2 s2 t2 hw2 hS

theorem l6_op27 {L : Nat} {xs : Nat → Int32} {x3 t : Int32} {w : pm_W} {s : ps_S} {Q : Option Value → pm_W → Prop} (ha : ∀ (k : Int32) (_ : pm_in k 6 = true), pm_in (x3 + k) L = true) (hw : ps_R w s) (h : JSt s t) (K : ∀ (w' : pm_W) (s' : ps_S) (t' : Int32), ps_R w' s' → JSt s' t' → pm_H (some (L, xs)) 300 310 858 [(3, .int x3), (2, .ref 1131), (1, .ref 0), (0, .ref pm_SC)] [] w' Q) : pm_H (some (L, xs)) 300 310 789 [(3, .int x3), (2, .ref 1131), (1, .ref 0), (0, .ref pm_SC)] [] w Q := by
  refine pm_H.go (pc' := 790) (st' := [.ref 0]) rfl rfl rfl rfl ?_
  refine pm_H.go (pc' := 791) (st' := [.ref pm_SC, .ref 0]) rfl rfl rfl rfl ?_
  refine pm_H.go (pc' := 792) (st' := [.int x3, .ref pm_SC, .ref 0]) rfl rfl rfl rfl ?_
  refine pm_H.go (pc' := 793) (st' := [.int 1, .int x3, .ref pm_SC, .ref 0]) rfl rfl rfl rfl ?_
  refine pm_H.go (pc' := 794) (st' := [.int (x3 + 1), .ref pm_SC, .ref 0]) rfl rfl rfl rfl ?_
  refine pm_H.sld (i := (x3 + 1)) rfl rfl (ha 1 rfl) ?_
  refine l2_call (c := 11) (q := 0) rfl rfl rfl (by decide) rfl (by decide) hw (by decide) rfl rfl rfl (JP_27 h) (fun o w1 s1 hw1 hp => ?_)
  obtain ⟨v1, rfl, hp⟩ := l2_int hp
  show pm_H (some (L, xs)) 300 310 798 [(3, .int x3), (2, .ref 1131), (1, .ref 0), (0, .ref pm_SC)] [.int v1] w1 Q
  refine pm_H.go (pc' := 799) (st' := []) rfl rfl rfl rfl ?_
  refine pm_H.go (pc' := 800) (st' := [.ref 1131]) rfl rfl rfl rfl ?_
  refine pm_H.go (pc' := 801) (st' := [.ref pm_SC, .ref 1131]) rfl rfl rfl rfl ?_
  refine pm_H.go (pc' := 802) (st' := [.int x3, .ref pm_SC, .ref 1131]) rfl rfl rfl rfl ?_
  refine pm_H.go (pc' := 803) (st' := [.int 1, .int x3, .ref pm_SC, .ref 1131]) rfl rfl rfl rfl ?_
  refine pm_H.go (pc' := 804) (st' := [.int (x3 + 1), .ref pm_SC, .ref 1131]) rfl rfl rfl rfl ?_
  refine pm_H.sld (i := (x3 + 1)) rfl rfl (ha 1 rfl) ?_
  refine l2_call (c := 12) (q := 1131) rfl rfl rfl (by decide) rfl (by decide) hw1 (by decide) rfl rfl rfl hp (fun o w2 s2 hw2 hp2 => ?_)
  obtain ⟨v2, rfl, hp2⟩ := l2_int hp2
  show pm_H (some (L, xs)) 300 310 808 [(3, .int x3), (2, .ref 1131), (1, .ref 0), (0, .ref pm_SC)] [.int v2] w2 Q
  refine pm_H.go (pc' := 809) (st' := []) rfl rfl rfl rfl ?_
  refine pm_H.go (pc' := 858) (st' := []) rfl rfl rfl rfl ?_
  obtain ⟨t2, hS⟩ := hp2
  exact K w2 s2 t2 hw2 hS

theorem l6_op28 {L : Nat} {xs : Nat → Int32} {x3 t : Int32} {w : pm_W} {s : ps_S} {Q : Option Value → pm_W → Prop} (ha : ∀ (k : Int32) (_ : pm_in k 6 = true), pm_in (x3 + k) L = true) (hw : ps_R w s) (h : JSt s t) (K : ∀ (w' : pm_W) (s' : ps_S) (t' : Int32), ps_R w' s' → JSt s' t' → pm_H (some (L, xs)) 300 310 858 [(3, .int x3), (2, .ref 1131), (1, .ref 0), (0, .ref pm_SC)] [] w' Q) : pm_H (some (L, xs)) 300 310 812 [(3, .int x3), (2, .ref 1131), (1, .ref 0), (0, .ref pm_SC)] [] w Q := by
  refine pm_H.go (pc' := 813) (st' := [.ref 0]) rfl rfl rfl rfl ?_
  refine pm_H.go (pc' := 814) (st' := [.ref pm_SC, .ref 0]) rfl rfl rfl rfl ?_
  refine pm_H.go (pc' := 815) (st' := [.int x3, .ref pm_SC, .ref 0]) rfl rfl rfl rfl ?_
  refine pm_H.go (pc' := 816) (st' := [.int 1, .int x3, .ref pm_SC, .ref 0]) rfl rfl rfl rfl ?_
  refine pm_H.go (pc' := 817) (st' := [.int (x3 + 1), .ref pm_SC, .ref 0]) rfl rfl rfl rfl ?_
  refine pm_H.sld (i := (x3 + 1)) rfl rfl (ha 1 rfl) ?_
  refine l2_call (c := 11) (q := 0) rfl rfl rfl (by decide) rfl (by decide) hw (by decide) rfl rfl rfl (JP_28 h) (fun o w1 s1 hw1 hp => ?_)
  obtain ⟨v1, rfl, hp⟩ := l2_int hp
  show pm_H (some (L, xs)) 300 310 821 [(3, .int x3), (2, .ref 1131), (1, .ref 0), (0, .ref pm_SC)] [.int v1] w1 Q
  refine pm_H.go (pc' := 822) (st' := []) rfl rfl rfl rfl ?_
  refine pm_H.go (pc' := 823) (st' := [.ref 1131]) rfl rfl rfl rfl ?_
  refine pm_H.go (pc' := 824) (st' := [.ref pm_SC, .ref 1131]) rfl rfl rfl rfl ?_
  refine pm_H.go (pc' := 825) (st' := [.int x3, .ref pm_SC, .ref 1131]) rfl rfl rfl rfl ?_
  refine pm_H.go (pc' := 826) (st' := [.int 1, .int x3, .ref pm_SC, .ref 1131]) rfl rfl rfl rfl ?_
  refine pm_H.go (pc' := 827) (st' := [.int (x3 + 1), .ref pm_SC, .ref 1131]) rfl rfl rfl rfl ?_
  refine pm_H.sld (i := (x3 + 1)) rfl rfl (ha 1 rfl) ?_
  refine l2_call (c := 12) (q := 1131) rfl rfl rfl (by decide) rfl (by decide) hw1 (by decide) rfl rfl rfl hp (fun o w2 s2 hw2 hp2 => ?_)
  obtain ⟨v2, rfl, hp2⟩ := l2_int hp2
  show pm_H (some (L, xs)) 300 310 831 [(3, .int x3), (2, .ref 1131), (1, .ref 0), (0, .ref pm_SC)] [.int v2] w2 Q
  refine pm_H.go (pc' := 832) (st' := []) rfl rfl rfl rfl ?_
  refine pm_H.go (pc' := 858) (st' := []) rfl rfl rfl rfl ?_
  obtain ⟨t2, hS⟩ := hp2
  exact K w2 s2 t2 hw2 hS

theorem l6_op29 {L : Nat} {xs : Nat → Int32} {x3 t : Int32} {w : pm_W} {s : ps_S} {Q : Option Value → pm_W → Prop} (ha : ∀ (k : Int32) (_ : pm_in k 6 = true), pm_in (x3 + k) L = true) (hw : ps_R w s) (h : JSt s t) (K : ∀ (w' : pm_W) (s' : ps_S) (t' : Int32), ps_R w' s' → JSt s' t' → pm_H (some (L, xs)) 300 310 858 [(3, .int x3), (2, .ref 1131), (1, .ref 0), (0, .ref pm_SC)] [] w' Q) : pm_H (some (L, xs)) 300 310 835 [(3, .int x3), (2, .ref 1131), (1, .ref 0), (0, .ref pm_SC)] [] w Q := by
  refine pm_H.go (pc' := 836) (st' := [.ref 0]) rfl rfl rfl rfl ?_
  refine pm_H.go (pc' := 837) (st' := [.ref pm_SC, .ref 0]) rfl rfl rfl rfl ?_
  refine pm_H.go (pc' := 838) (st' := [.int x3, .ref pm_SC, .ref 0]) rfl rfl rfl rfl ?_
  refine pm_H.go (pc' := 839) (st' := [.int 1, .int x3, .ref pm_SC, .ref 0]) rfl rfl rfl rfl ?_
  refine pm_H.go (pc' := 840) (st' := [.int (x3 + 1), .ref pm_SC, .ref 0]) rfl rfl rfl rfl ?_
  refine pm_H.sld (i := (x3 + 1)) rfl rfl (ha 1 rfl) ?_
  refine l2_call (c := 11) (q := 0) rfl rfl rfl (by decide) rfl (by decide) hw (by decide) rfl rfl rfl (JP_29 h) (fun o w1 s1 hw1 hp => ?_)
  obtain ⟨v1, rfl, hp⟩ := l2_int hp
  show pm_H (some (L, xs)) 300 310 844 [(3, .int x3), (2, .ref 1131), (1, .ref 0), (0, .ref pm_SC)] [.int v1] w1 Q
  refine pm_H.go (pc' := 845) (st' := []) rfl rfl rfl rfl ?_
  refine pm_H.go (pc' := 846) (st' := [.ref 1131]) rfl rfl rfl rfl ?_
  refine pm_H.go (pc' := 847) (st' := [.ref pm_SC, .ref 1131]) rfl rfl rfl rfl ?_
  refine pm_H.go (pc' := 848) (st' := [.int x3, .ref pm_SC, .ref 1131]) rfl rfl rfl rfl ?_
  refine pm_H.go (pc' := 849) (st' := [.int 1, .int x3, .ref pm_SC, .ref 1131]) rfl rfl rfl rfl ?_
  refine pm_H.go (pc' := 850) (st' := [.int (x3 + 1), .ref pm_SC, .ref 1131]) rfl rfl rfl rfl ?_
  refine pm_H.sld (i := (x3 + 1)) rfl rfl (ha 1 rfl) ?_
  refine l2_call (c := 12) (q := 1131) rfl rfl rfl (by decide) rfl (by decide) hw1 (by decide) rfl rfl rfl hp (fun o w2 s2 hw2 hp2 => ?_)
  obtain ⟨v2, rfl, hp2⟩ := l2_int hp2
  show pm_H (some (L, xs)) 300 310 854 [(3, .int x3), (2, .ref 1131), (1, .ref 0), (0, .ref pm_SC)] [.int v2] w2 Q
  refine pm_H.go (pc' := 855) (st' := []) rfl rfl rfl rfl ?_
  refine pm_H.go (pc' := 858) (st' := []) rfl rfl rfl rfl ?_
  obtain ⟨t2, hS⟩ := hp2
  exact K w2 s2 t2 hw2 hS
end
section
/-! the law: both constructors, then call by call -/
theorem pm_Tk6 {X : Option (Nat × (Nat → Int32))} {d y pc k d' kd j a mm pl nest : Nat} {L : pm_L} {st : List Value} {w w1 : pm_W} {o1 : Option Value} {i : Instr} {Q : Option Value → pm_W → Prop} (hc : pm_code y pc = some (i, k)) (hR : pm_isR i = false) (hcal : pm_cal i = (kd, j)) (hkd : kd ≠ 0) (hl : pm_l4 (pm_ML (pm_own y)) j = some (a, mm, pl, nest)) (h6 : 5 < mm) (hd : d = d' + 1)
    (hck : pm_ckd kd mm nest st w = true) (hcall : pm_T none d' (mm - 6) 0 (lv_args 0 (st.take (pm_na kd mm)).reverse) [] w (o1, w1)) (h : pm_H X d y (pc + 3) L (o1.toList ++ st.drop (pm_na kd mm)) w1 Q) : pm_H X d y pc L st w Q :=
  pm_H.call (Q1 := fun o w' => o = o1 ∧ w' = w1) hc hR hcal hkd hl h6 hd hck ⟨o1, w1, hcall.lift, rfl, rfl⟩ (fun o w' hh => by obtain ⟨rfl, rfl⟩ := hh; exact h)
theorem pin_i6 {k : Int32} {n : Nat} (h : pm_in k n = true) : 0 ≤ k.toInt ∧ k.toInt < n := by
  unfold pm_in at h
  rw [Bool.and_eq_true] at h
  have h1 := Int32.le_iff_toInt_le.mp (of_decide_eq_true h.1)
  have h2 : k.toInt.toNat < n := Nat.le_of_ble_eq_true h.2
  rw [Int32.toInt_zero] at h1
  omega
set_option maxRecDepth 100000
theorem l6_loop {L : Nat} (hL : L ≤ 3072) {xs : Nat → Int32} : ∀ (n : Nat) (x3 t : Int32) (w : pm_W) (s : ps_S), 0 ≤ x3.toInt → x3.toInt ≤ 3078 → 3100 - x3.toInt ≤ (n : Int) → ps_R w s → JSt s t → pm_H (some (L, xs)) 300 310 18 [(3, .int x3), (2, .ref 1131), (1, .ref 0), (0, .ref pm_SC)] [] w (fun o w' => o = some (.int 1) ∧ w'.2 = (1179, 65954)) := by
  intro n
  induction n with
  | zero =>
    intro x3 t w s h0 h1 hn _ _
    omega
  | succ n ih =>
    intro x3 t w s h0 h1 hn hw hS
    have eL : (nI L).toInt = (L : Int) := nI_toInt (by omega)
    have e6 : (6 : Int32).toInt = 6 := by decide
    have eL6 : (nI L - 6).toInt = (L : Int) - 6 := by rw [xIs (by omega) (by omega), eL, e6]
    refine pm_H.go (pc' := 19) rfl rfl rfl rfl ?_
    refine pm_H.go (pc' := 20) rfl rfl rfl rfl ?_
    refine pm_H.go (pc' := 21) (st' := [.int (nI L), .int x3]) rfl rfl rfl rfl ?_
    refine pm_H.go (pc' := 23) (st' := [.int 6, .int (nI L), .int x3]) rfl rfl rfl rfl ?_
    refine pm_H.go (pc' := 24) (st' := [.int (nI L - 6), .int x3]) rfl rfl rfl rfl ?_
    by_cases h : (nI L - 6) < x3
    · refine pm_H.bricmp (b := true) (pc' := 864) rfl rfl (decide_eq_true h) rfl rfl ?_
      refine pm_H.go (pc' := 865) (st' := [.int 1]) rfl rfl rfl rfl ?_
      exact pm_H.ret rfl rfl rfl ⟨rfl, hw.1⟩
    · have h2 : x3.toInt + 6 ≤ (L : Int) := by
        have : ¬ ((nI L - 6).toInt < x3.toInt) := fun q => h (Int32.lt_iff_toInt_lt.mpr q)
        omega
      have ha : ∀ (k : Int32) (_ : pm_in k 6 = true), pm_in (x3 + k) L = true := fun k hk => by
        have q := pin_i6 hk
        have ek : (x3 + k).toInt = x3.toInt + k.toInt := xIa (by omega) (by omega)
        exact xgi (by omega) (by omega)
      have kk : ∀ (w' : pm_W) (s' : ps_S) (t' : Int32), ps_R w' s' → JSt s' t' → pm_H (some (L, xs)) 300 310 858 [(3, .int x3), (2, .ref 1131), (1, .ref 0), (0, .ref pm_SC)] [] w' (fun o w' => o = some (.int 1) ∧ w'.2 = (1179, 65954)) := fun w' s' t' hw' h' => by
        have e36 : (x3 + 6).toInt = x3.toInt + 6 := by rw [xIa (by omega) (by omega), e6]
        refine pm_H.go (pc' := 861) (L' := [(3, .int (x3 + 6)), (2, .ref 1131), (1, .ref 0), (0, .ref pm_SC)]) rfl rfl rfl rfl ?_
        refine pm_H.go (pc' := 18) rfl rfl rfl rfl ?_
        exact ih (x3 + 6) t' w' s' (by omega) (by omega) (by omega) hw' h'
      refine pm_H.bricmp (b := false) (pc' := 27) rfl rfl (decide_eq_false h) rfl rfl ?_
      refine pm_H.go (pc' := 28) (st' := [.ref pm_SC]) rfl rfl rfl rfl ?_
      refine pm_H.go (pc' := 29) (st' := [.int x3, .ref pm_SC]) rfl rfl rfl rfl ?_
      refine pm_H.sld (i := x3) rfl rfl (xgi h0 (by omega)) ?_
      refine pm_H.go (pc' := 32) (st' := [.int 31, .int (xs (Int32.toNatClampNeg x3))]) rfl rfl rfl rfl ?_
      refine pm_H.go (pc' := 33) (st' := [.int (xs (Int32.toNatClampNeg x3) &&& 31)]) rfl rfl rfl rfl ?_
      obtain ⟨j, hj, ej⟩ := pk_andE (xs (Int32.toNatClampNeg x3)) (m := 31) 5 (by decide)
      rw [ej]
      have hj' : j < 32 := hj
      rcases (show j = 0 ∨ j = 1 ∨ j = 2 ∨ j = 3 ∨ j = 4 ∨ j = 5 ∨ j = 6 ∨ j = 7 ∨ j = 8 ∨ j = 9 ∨ j = 10 ∨ j = 11 ∨ j = 12 ∨ j = 13 ∨ j = 14 ∨ j = 15 ∨ j = 16 ∨ j = 17 ∨ j = 18 ∨ j = 19 ∨ j = 20 ∨ j = 21 ∨ j = 22 ∨ j = 23 ∨ j = 24 ∨ j = 25 ∨ j = 26 ∨ j = 27 ∨ j = 28 ∨ j = 29 ∨ j = 30 ∨ j = 31 by omega) with rfl | rfl | rfl | rfl | rfl | rfl | rfl | rfl | rfl | rfl | rfl | rfl | rfl | rfl | rfl | rfl | rfl | rfl | rfl | rfl | rfl | rfl | rfl | rfl | rfl | rfl | rfl | rfl | rfl | rfl | rfl | rfl
      · exact pm_H.go (pc' := 168) rfl rfl rfl rfl (l6_op0 ha hw hS kk)
      · exact pm_H.go (pc' := 231) rfl rfl rfl rfl (l6_op1 ha hw hS kk)
      · exact pm_H.go (pc' := 254) rfl rfl rfl rfl (l6_op2 ha hw hS kk)
      · exact pm_H.go (pc' := 267) rfl rfl rfl rfl (l6_op3 ha hw hS kk)
      · exact pm_H.go (pc' := 290) rfl rfl rfl rfl (l6_op4 ha hw hS kk)
      · exact pm_H.go (pc' := 303) rfl rfl rfl rfl (l6_op5 ha hw hS kk)
      · exact pm_H.go (pc' := 326) rfl rfl rfl rfl (l6_op6 ha hw hS kk)
      · exact pm_H.go (pc' := 359) rfl rfl rfl rfl (l6_op7 ha hw hS kk)
      · exact pm_H.go (pc' := 392) rfl rfl rfl rfl (l6_op8 ha hw hS kk)
      · exact pm_H.go (pc' := 435) rfl rfl rfl rfl (l6_op9 ha hw hS kk)
      · exact pm_H.go (pc' := 448) rfl rfl rfl rfl (l6_op10 ha hw hS kk)
      · exact pm_H.go (pc' := 481) rfl rfl rfl rfl (l6_op11 ha hw hS kk)
      · exact pm_H.go (pc' := 514) rfl rfl rfl rfl (l6_op12 ha hw hS kk)
      · exact pm_H.go (pc' := 527) rfl rfl rfl rfl (l6_op13 ha hw hS kk)
      · exact pm_H.go (pc' := 540) rfl rfl rfl rfl (l6_op14 ha hw hS kk)
      · exact pm_H.go (pc' := 563) rfl rfl rfl rfl (l6_op15 ha hw hS kk)
      · exact pm_H.go (pc' := 576) rfl rfl rfl rfl (l6_op16 ha hw hS kk)
      · exact pm_H.go (pc' := 599) rfl rfl rfl rfl (l6_op17 ha hw hS kk)
      · exact pm_H.go (pc' := 612) rfl rfl rfl rfl (l6_op18 ha hw hS kk)
      · exact pm_H.go (pc' := 625) rfl rfl rfl rfl (l6_op19 ha hw hS kk)
      · exact pm_H.go (pc' := 638) rfl rfl rfl rfl (l6_op20 ha hw hS kk)
      · exact pm_H.go (pc' := 651) rfl rfl rfl rfl (l6_op21 ha hw hS kk)
      · exact pm_H.go (pc' := 674) rfl rfl rfl rfl (l6_op22 ha hw hS kk)
      · exact pm_H.go (pc' := 687) rfl rfl rfl rfl (l6_op23 ha hw hS kk)
      · exact pm_H.go (pc' := 710) rfl rfl rfl rfl (l6_op24 ha hw hS kk)
      · exact pm_H.go (pc' := 733) rfl rfl rfl rfl (l6_op25 ha hw hS kk)
      · exact pm_H.go (pc' := 766) rfl rfl rfl rfl (l6_op26 ha hw hS kk)
      · exact pm_H.go (pc' := 789) rfl rfl rfl rfl (l6_op27 ha hw hS kk)
      · exact pm_H.go (pc' := 812) rfl rfl rfl rfl (l6_op28 ha hw hS kk)
      · exact pm_H.go (pc' := 835) rfl rfl rfl rfl (l6_op29 ha hw hS kk)
      · exact pm_H.go (pc' := 858) rfl rfl rfl rfl (kk w s t hw hS)
      · exact pm_H.go (pc' := 858) rfl rfl rfl rfl (kk w s t hw hS)
theorem pm_law6 {L : Nat} (hL : L ≤ 3072) (xs : Nat → Int32) : ∃ (n : Nat) (w' : pm_W), pm_run (some (L, xs)) n 300 310 0 [(0, .ref pm_SC)] [] pm_w0 = some (some (.int 1), w') ∧ w'.2.1 - 0 ≤ room_1.cells ∧ w'.2.2 - 0 ≤ room_1.slots := by
  have key : pm_H (some (L, xs)) 300 310 0 [(0, .ref pm_SC)] [] pm_w0 (fun o w' => o = some (.int 1) ∧ w'.2 = (1179, 65954)) := by
    refine pm_H.go (pc' := 3) rfl rfl rfl rfl ?_
    refine pm_H.go (pc' := 4) rfl rfl rfl rfl ?_
    refine pm_Tk6 (d' := 299) rfl rfl rfl (by decide) rfl (by decide) rfl rfl ⟨_, pm_mA⟩ ?_
    refine pm_H.go (pc' := 8) (L' := [(1, .ref 0), (0, .ref pm_SC)]) (st' := []) rfl rfl rfl rfl ?_
    refine pm_H.go (pc' := 11) rfl rfl rfl rfl ?_
    refine pm_H.go (pc' := 12) rfl rfl rfl rfl ?_
    refine pm_Tk6 (d' := 299) rfl rfl rfl (by decide) rfl (by decide) rfl rfl ⟨_, pm_mB⟩ ?_
    refine pm_H.go (pc' := 16) (L' := [(2, .ref 1131), (1, .ref 0), (0, .ref pm_SC)]) (st' := []) rfl rfl rfl rfl ?_
    refine pm_H.go (pc' := 17) rfl rfl rfl rfl ?_
    refine pm_H.go (pc' := 18) (L' := [(3, .int 0), (2, .ref 1131), (1, .ref 0), (0, .ref pm_SC)]) (st' := []) rfl rfl rfl rfl ?_
    exact l6_loop hL 3100 0 0 pm_w1 ps_s1 (by decide) (by decide) (by decide) s1_R s1_JSt
  obtain ⟨o, w', ⟨n, hn⟩, rfl, hz⟩ := key
  refine ⟨n, w', hn, ?_, ?_⟩
  · rw [hz]
    decide
  · rw [hz]
    decide
end
