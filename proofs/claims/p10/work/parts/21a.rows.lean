set_option maxRecDepth 100000
-- ProofBenchModel.takes(I)I
theorem pg_218_0 {d : Nat} {x1 : Int32} {s : ps_S} {Q : Option Value → ps_S → Prop} (h :
  (x1 = 0 →
    Q (some (.int 0)) s) ∧
  (x1 ≠ 0 →
    (x1 < 40 →
      (x1 < 4 →
        Q (some (.int 2)) s) ∧
      (4 ≤ x1 →
        (x1 ≠ 6 →
          (6 ≤ x1 →
            (20 ≤ x1 →
              ps_nd (pm_in ((((4 : Int32) * (ps_i s 1131 21)) + x1) - 20) 8) (Q (some (.int (ps_a s 1139 (Int32.toNatClampNeg ((((4 : Int32) * (ps_i s 1131 21)) + x1) - 20))))) s)) ∧
            (x1 < 20 →
              ps_nd (pm_in ((((6 : Int32) * (ps_i s 1131 21)) + x1) - 10) 12) (Q (some (.int (ps_a s 1138 (Int32.toNatClampNeg ((((6 : Int32) * (ps_i s 1131 21)) + x1) - 10))))) s))) ∧
          (x1 < 6 →
            Q (some (.int 1)) s)) ∧
        (x1 = 6 →
          Q (some (.int 2)) s))) ∧
    (40 ≤ x1 →
      Q (some (.int 0)) s))) : ps_At d 218 0 [(0, .ref 1131), (1, .int x1)] [] s Q :=
  ps_wp_at (stops := []) (n := 54) h rfl

theorem ms_218 {x : Nat → Nat → Nat} {t : Int32} {s : ps_S} {d : Nat} {x1 : Int32} {f : Int32 → ps_S → Prop} (J : mJ x t s) {σ : mSig} {p : Nat} {b : Bool} {ks : List Bool} (hS : Sg (ps_a s 1135) (ps_a s 1136) (ps_a s 1138) (ps_a s 1139) (ps_i s 1131 21).toInt σ) (q1 : kS σ b p = some ks) (q2 : x1.toInt = (p : Int)) (k : ∀ (v : Int32), (v.toInt = (ks.length : Int)) → f v s) : ps_Cl d 218 [.ref 1131, .int x1] s (ps_rI f) := by
  refine pg_218_0 ?_
  obtain ⟨hb0, hb1, h5, hR, h6, hF, h8, h9⟩ := id hS
  have hn := kS_num q1
  have q2 : x1.toInt = (p : Int) := q2
  refine And.intro (fun h1 => ?_) (fun h1 => ?_)
  · have f2 : x1.toInt = (0 : Int) := xeq h1
    exact k (0 : Int32) ((show (0 : Int) = (ks.length : Int) from by omega))
  · have f3 : x1.toInt ≠ (0 : Int) := xne h1
    refine And.intro (fun h4 => ?_) (fun h4 => ?_)
    · have f5 : x1.toInt < (40 : Int) := xlt h4
      refine And.intro (fun h6 => ?_) (fun h6 => ?_)
      · have f7 : x1.toInt < (4 : Int) := xlt h6
        exact k (2 : Int32) ((show (2 : Int) = (ks.length : Int) from by omega))
      · have f8 : (4 : Int) ≤ x1.toInt := xle h6
        refine And.intro (fun h9 => ?_) (fun h9 => ?_)
        · have f10 : x1.toInt ≠ (6 : Int) := xne h9
          refine And.intro (fun h11 => ?_) (fun h11 => ?_)
          · have f12 : (6 : Int) ≤ x1.toInt := xle h11
            refine And.intro (fun h13 => ?_) (fun h13 => ?_)
            · have f14 : (20 : Int) ≤ x1.toInt := xle h13
              have r15 := mf_21 J
              have a16 : ((4 : Int32) * (ps_i s 1131 21)).toInt = (4 : Int) * (ps_i s 1131 21).toInt := xIm (show -2147483648 ≤ (4 : Int) * (ps_i s 1131 21).toInt from by omega) (show (4 : Int) * (ps_i s 1131 21).toInt < 2147483648 from by omega)
              have a17 : (((4 : Int32) * (ps_i s 1131 21)) + x1).toInt = ((4 : Int32) * (ps_i s 1131 21)).toInt + x1.toInt := xIa (show -2147483648 ≤ ((4 : Int32) * (ps_i s 1131 21)).toInt + x1.toInt from by omega) (show ((4 : Int32) * (ps_i s 1131 21)).toInt + x1.toInt < 2147483648 from by omega)
              have a18 : ((((4 : Int32) * (ps_i s 1131 21)) + x1) - 20).toInt = (((4 : Int32) * (ps_i s 1131 21)) + x1).toInt - (20 : Int) := xIs (show -2147483648 ≤ (((4 : Int32) * (ps_i s 1131 21)) + x1).toInt - (20 : Int) from by omega) (show (((4 : Int32) * (ps_i s 1131 21)) + x1).toInt - (20 : Int) < 2147483648 from by omega)
              refine ps_nd_i (show pm_in ((((4 : Int32) * (ps_i s 1131 21)) + x1) - 20) 8 = true from xgi (show 0 ≤ ((((4 : Int32) * (ps_i s 1131 21)) + x1) - 20).toInt from by omega) (show ((((4 : Int32) * (ps_i s 1131 21)) + x1) - 20).toInt < 8 from by omega)) ?_
              have r19 : 0 ≤ (ps_a s 1139 (Int32.toNatClampNeg ((((4 : Int32) * (ps_i s 1131 21)) + x1) - 20))).toInt ∧ (ps_a s 1139 (Int32.toNatClampNeg ((((4 : Int32) * (ps_i s 1131 21)) + x1) - 20))).toInt ≤ 9999 := ma_1139 (i := ((((4 : Int32) * (ps_i s 1131 21)) + x1) - 20)) J (show 0 ≤ ((((4 : Int32) * (ps_i s 1131 21)) + x1) - 20).toInt from by omega) (show ((((4 : Int32) * (ps_i s 1131 21)) + x1) - 20).toInt < 8 from by omega)
              try have e : ((ps_a s 1139 (Int32.toNatClampNeg ((((4 : Int32) * (ps_i s 1131 21)) + x1) - 20)))).toInt = σ.2.2 (p - 20) ∧ σ.2.2 (p - 20) ≤ 2 := Sg_f hS (by omega) (by omega)
              exact k (ps_a s 1139 (Int32.toNatClampNeg ((((4 : Int32) * (ps_i s 1131 21)) + x1) - 20))) ((show ((ps_a s 1139 (Int32.toNatClampNeg ((((4 : Int32) * (ps_i s 1131 21)) + x1) - 20)))).toInt = (ks.length : Int) from by omega))
            · have f20 : x1.toInt < (20 : Int) := xlt h13
              have r21 := mf_21 J
              have a22 : ((6 : Int32) * (ps_i s 1131 21)).toInt = (6 : Int) * (ps_i s 1131 21).toInt := xIm (show -2147483648 ≤ (6 : Int) * (ps_i s 1131 21).toInt from by omega) (show (6 : Int) * (ps_i s 1131 21).toInt < 2147483648 from by omega)
              have a23 : (((6 : Int32) * (ps_i s 1131 21)) + x1).toInt = ((6 : Int32) * (ps_i s 1131 21)).toInt + x1.toInt := xIa (show -2147483648 ≤ ((6 : Int32) * (ps_i s 1131 21)).toInt + x1.toInt from by omega) (show ((6 : Int32) * (ps_i s 1131 21)).toInt + x1.toInt < 2147483648 from by omega)
              have a24 : ((((6 : Int32) * (ps_i s 1131 21)) + x1) - 10).toInt = (((6 : Int32) * (ps_i s 1131 21)) + x1).toInt - (10 : Int) := xIs (show -2147483648 ≤ (((6 : Int32) * (ps_i s 1131 21)) + x1).toInt - (10 : Int) from by omega) (show (((6 : Int32) * (ps_i s 1131 21)) + x1).toInt - (10 : Int) < 2147483648 from by omega)
              refine ps_nd_i (show pm_in ((((6 : Int32) * (ps_i s 1131 21)) + x1) - 10) 12 = true from xgi (show 0 ≤ ((((6 : Int32) * (ps_i s 1131 21)) + x1) - 10).toInt from by omega) (show ((((6 : Int32) * (ps_i s 1131 21)) + x1) - 10).toInt < 12 from by omega)) ?_
              have r25 : 0 ≤ (ps_a s 1138 (Int32.toNatClampNeg ((((6 : Int32) * (ps_i s 1131 21)) + x1) - 10))).toInt ∧ (ps_a s 1138 (Int32.toNatClampNeg ((((6 : Int32) * (ps_i s 1131 21)) + x1) - 10))).toInt ≤ 9999 := ma_1138 (i := ((((6 : Int32) * (ps_i s 1131 21)) + x1) - 10)) J (show 0 ≤ ((((6 : Int32) * (ps_i s 1131 21)) + x1) - 10).toInt from by omega) (show ((((6 : Int32) * (ps_i s 1131 21)) + x1) - 10).toInt < 12 from by omega)
              have e : ((ps_a s 1138 (Int32.toNatClampNeg ((((6 : Int32) * (ps_i s 1131 21)) + x1) - 10)))).toInt = σ.2.1 (p - 10) ∧ σ.2.1 (p - 10) ≤ 2 := Sg_r hS (by omega) (by omega)
              try have e : ((ps_a s 1138 (Int32.toNatClampNeg ((((6 : Int32) * (ps_i s 1131 21)) + x1) - 10)))).toInt = σ.2.2 (p - 20) ∧ σ.2.2 (p - 20) ≤ 2 := Sg_f hS (by omega) (by omega)
              exact k (ps_a s 1138 (Int32.toNatClampNeg ((((6 : Int32) * (ps_i s 1131 21)) + x1) - 10))) ((show ((ps_a s 1138 (Int32.toNatClampNeg ((((6 : Int32) * (ps_i s 1131 21)) + x1) - 10)))).toInt = (ks.length : Int) from by omega))
          · have f26 : x1.toInt < (6 : Int) := xlt h11
            exact k (1 : Int32) ((show (1 : Int) = (ks.length : Int) from by omega))
        · have f27 : x1.toInt = (6 : Int) := xeq h9
          exact k (2 : Int32) ((show (2 : Int) = (ks.length : Int) from by omega))
    · have f28 : (40 : Int) ≤ x1.toInt := xle h4
      exact k (0 : Int32) ((show (0 : Int) = (ks.length : Int) from by omega))

-- ProofBenchModel.endOf(II)I
theorem pg_221_0 {d : Nat} {x1 : Int32} {x2 : Int32} {s : ps_S} {Q : Option Value → ps_S → Prop} (h :
  ps_At (d + 1) 221 5 [(0, .ref 1131), (1, .int x1), (3, .int x2), (4, .int 1)] [] s Q) : ps_At (d + 1) 221 0 [(0, .ref 1131), (1, .int x1), (2, .int x2)] [] s Q :=
  ps_wp_at (stops := [(5, [0, 1, 3, 4])]) (n := 6) h rfl

theorem pg_221_5 {d : Nat} {x1 : Int32} {x3 : Int32} {x4 : Int32} {s : ps_S} {Q : Option Value → ps_S → Prop} (h :
  (x4 ≤ 0 →
    Q (some (.int x3)) s) ∧
  (0 < x4 →
    ps_Cl d 220 [.ref 1131, .int x1, .int x3] s (ps_rI (fun v1 s1 =>
      ps_Cl d 218 [.ref 1131, .int v1] s1 (ps_rI (fun v2 s2 =>
        ps_At (d + 1) 221 5 [(0, .ref 1131), (1, .int x1), (3, .int (x3 + 1)), (4, .int (x4 + (v2 - 1)))] [] s2 Q)))))) : ps_At (d + 1) 221 5 [(0, .ref 1131), (1, .int x1), (3, .int x3), (4, .int x4)] [] s Q :=
  ps_wp_at (stops := [(5, [0, 1, 3, 4])]) (n := 19) h rfl

theorem ms_221_5 {x : Nat → Nat → Nat} {t : Int32} {d : Nat} {s : ps_S} {σ : mSig} {l1 p q : List Nat} {b : Bool} {x1 : Int32} {x2 : Int32} {Q : Option Value → ps_S → Prop} (k : ∀ (v : Int32), (v.toInt = (l1.length + p.length : Int)) → Q (some (.int v)) s) : ∀ (n : Nat) (x3 : Int32) (x4 : Int32) (p1 : List Nat) (p2 : List Nat) (W : List Bool), (mJ x t s) → (Sg (ps_a s 1135) (ps_a s 1136) (ps_a s 1138) (ps_a s 1139) (ps_i s 1131 21).toInt σ) → (Rw (ps_a s 1134) x1.toInt (l1 ++ (p ++ q))) → (p = p1 ++ p2) → (ws σ p2 W) → (x4.toInt = (W.length : Int)) → (x3.toInt = (l1.length + p1.length : Int)) → (p2.length : Int) ≤ (n : Int) → ps_At (d + 1) 221 5 [(0, .ref 1131), (1, .int x1), (3, .int x3), (4, .int x4)] [] s Q := by
  refine xstr (fun n ih => ?_)
  intro x3 x4 p1 p2 W J hS hR i2 i3 i4 i5 hm
  refine pg_221_5 (d := d) ?_
  have i4 : x4.toInt = (W.length : Int) := i4
  have i5 : x3.toInt = (l1.length + p1.length : Int) := i5
  obtain ⟨hr1, hr2, hr3, hr4, hr5, hr6⟩ := id hR
  rw [i2, List.length_append, List.length_append, List.length_append] at hr4
  have hr1 : x1.toInt % 41 = 0 := hr1
  have hr2 : 0 ≤ x1.toInt := hr2
  have hr3 : x1.toInt < 27306 := hr3
  refine And.intro (fun h1 => ?_) (fun h1 => ?_)
  · have f2 : x4.toInt ≤ (0 : Int) := xle h1
    have e0 := lnil (W := W) (by omega)
    subst e0
    have e2 := ws_nil i3
    subst e2
    rw [List.append_nil] at i2
    subst i2
    exact k x3 (i5)
  · have f3 : (0 : Int) < x4.toInt := xlt h1
    obtain ⟨b0, W0, rfl⟩ := lpos (W := W) (by omega)
    obtain ⟨c, p3, rfl⟩ := ws_ne i3
    obtain ⟨ks, hk, hw⟩ := ws_hd i3
    have hn := kS_le hS hk
    have hw1 := ws_le i3
    rw [List.length_cons, List.length_cons] at hw1
    rw [List.length_cons] at hr4
    rw [llenc] at i4 hm
    refine pg_220_0 ?_
    have a4 : (x1 + 1).toInt = x1.toInt + (1 : Int) := xIa (show -2147483648 ≤ x1.toInt + (1 : Int) from by omega) (show x1.toInt + (1 : Int) < 2147483648 from by omega)
    have a5 : ((x1 + 1) + x3).toInt = (x1 + 1).toInt + x3.toInt := xIa (show -2147483648 ≤ (x1 + 1).toInt + x3.toInt from by omega) (show (x1 + 1).toInt + x3.toInt < 2147483648 from by omega)
    refine ps_nd_i (show pm_in ((x1 + 1) + x3) 27400 = true from xgi (show 0 ≤ ((x1 + 1) + x3).toInt from by omega) (show ((x1 + 1) + x3).toInt < 27400 from by omega)) ?_
    have r6 : ((x1 + 1) + x3).toInt % 41 = 0 → ((x1 + 1) + x3).toInt < 27306 → 0 ≤ (ps_a s 1134 (Int32.toNatClampNeg ((x1 + 1) + x3))).toInt ∧ (ps_a s 1134 (Int32.toNatClampNeg ((x1 + 1) + x3))).toInt ≤ 40 := fun z1 z2 => mp_row (i := ((x1 + 1) + x3)) J z1 (show 0 ≤ ((x1 + 1) + x3).toInt from by omega) z2
    refine ms_218 J hS (hk) (Rw_p hR (l1 := l1 ++ p1) (p := c) (l2 := p3 ++ q) (by rw [i2]; simp) (by rw [llen]; exact i5)) (fun v7 p7_0 => ?_)
    have hv : v7.toInt = (ks.length : Int) := p7_0
    have a8 : (v7 - 1).toInt = v7.toInt - (1 : Int) := xIs (show -2147483648 ≤ v7.toInt - (1 : Int) from by omega) (show v7.toInt - (1 : Int) < 2147483648 from by omega)
    have a9 : (x4 + (v7 - 1)).toInt = x4.toInt + (v7 - 1).toInt := xIa (show -2147483648 ≤ x4.toInt + (v7 - 1).toInt from by omega) (show x4.toInt + (v7 - 1).toInt < 2147483648 from by omega)
    have a10 : (x3 + 1).toInt = x3.toInt + (1 : Int) := xIa (show -2147483648 ≤ x3.toInt + (1 : Int) from by omega) (show x3.toInt + (1 : Int) < 2147483648 from by omega)
    exact ih (n - 1) (show n - 1 < n from by omega) (x3 + 1) (x4 + (v7 - 1)) (p1 ++ [c]) p3 (ks ++ W0) J hS hR (i2.trans (lcat p1 c p3)) (hw) ((show ((x4 + (v7 - 1))).toInt = ((ks ++ W0).length : Int) from by rw [llen]; omega)) ((show ((x3 + 1)).toInt = (l1.length + (p1 ++ [c]).length : Int) from by rw [llen]; have : (([c] : List Nat).length : Int) = 1 := rfl; omega)) (show (p3.length : Int) ≤ ((n - 1 : Nat) : Int) from by omega)

theorem ms_221 {x : Nat → Nat → Nat} {t : Int32} {s : ps_S} {d : Nat} {x1 : Int32} {x2 : Int32} {f : Int32 → ps_S → Prop} (J : mJ x t s) {σ : mSig} {l1 p q : List Nat} {b : Bool} (hS : Sg (ps_a s 1135) (ps_a s 1136) (ps_a s 1138) (ps_a s 1139) (ps_i s 1131 21).toInt σ) (hR : Rw (ps_a s 1134) x1.toInt (l1 ++ (p ++ q))) (q2 : x2.toInt = (l1.length : Int)) (q3 : ws σ p [b]) (k : ∀ (v : Int32), (v.toInt = (l1.length + p.length : Int)) → f v s) : ps_Cl (d + 1) 221 [.ref 1131, .int x1, .int x2] s (ps_rI f) := by
  refine pg_221_0 (d := d) ?_
  exact ms_221_5 (x1 := x1) (x2 := x2) (σ := σ) (l1 := l1) (p := p) (q := q) (b := b) k  ((p.length : Int)).toNat x2 (1) [] p [b] J hS hR (rfl) (q3) (rfl) ((show x2.toInt = ((l1.length : Int) + (([] : List Nat).length : Int)) from by rw [List.length_nil]; exact q2.trans (Int.add_zero _).symm)) (show (p.length : Int) ≤ ((((p.length : Int)).toNat : Nat) : Int) from by omega)
