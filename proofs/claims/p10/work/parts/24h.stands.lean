set_option maxRecDepth 100000
-- ProofBenchModel.standsAt(II)Z
theorem pg_286_0 {d : Nat} {x1 : Int32} {x2 : Int32} {s : ps_S} {Q : Option Value → ps_S → Prop} (h :
  ps_Cl d 283 [.int (ps_i s 1131 21), .int x1] s (ps_rI (fun v1 s1 =>
    ps_At (d + 1) 286 12 [(0, .ref 1131), (2, .int x2), (3, .int v1), (4, .int 0)] [] s1 Q))) : ps_At (d + 1) 286 0 [(0, .ref 1131), (1, .int x1), (2, .int x2)] [] s Q :=
  ps_wp_at (stops := [(12, [0, 2, 3, 4]), (42, [0, 3, 4, 5])]) (n := 9) h rfl

theorem pg_286_12 {d : Nat} {x2 : Int32} {x3 : Int32} {x4 : Int32} {s : ps_S} {Q : Option Value → ps_S → Prop} (h :
  (20 ≤ x4 →
    ps_At (d + 1) 286 42 [(0, .ref 1131), (3, .int x3), (4, .int x2), (5, .int (ps_i s 1131 63))] [] s Q) ∧
  (x4 < 20 →
    ps_nd (pm_in x4 20) (ps_At (d + 1) 286 12 [(0, .ref 1131), (2, .int x2), (3, .int x3), (4, .int (x4 + 1))] [] (ps_ua s 1167 (Int32.toNatClampNeg x4) (-1)) Q))) : ps_At (d + 1) 286 12 [(0, .ref 1131), (2, .int x2), (3, .int x3), (4, .int x4)] [] s Q :=
  ps_wp_at (stops := [(12, [0, 2, 3, 4]), (42, [0, 3, 4, 5])]) (n := 17) h rfl

theorem pg_286_42 {d : Nat} {x3 : Int32} {x4 : Int32} {x5 : Int32} {s : ps_S} {Q : Option Value → ps_S → Prop} (h :
  ((ps_i s 1131 64) ≤ x5 →
    Q (some (.int 1)) (ps_ui s 1131 65 x4)) ∧
  (x5 < (ps_i s 1131 64) →
    ps_Cl d 220 [.ref 1131, .int x3, .int x5] s (ps_rI (fun v1 s1 =>
      (40 ≤ v1 →
        ps_Cl d 221 [.ref 1131, .int 25789, .int x4] s1 (ps_rI (fun v2 s2 =>
          ps_nd (pm_in (v1 - 40) 20) (((ps_a s2 1167 (Int32.toNatClampNeg (v1 - 40))) < 0 →
            ps_nd (pm_in (v1 - 40) 20) (ps_nd (pm_in (v1 - 40) 20) (ps_At (d + 1) 286 42 [(0, .ref 1131), (3, .int x3), (4, .int v2), (5, .int (x5 + 1))] [] (ps_ua (ps_ua s2 1167 (Int32.toNatClampNeg (v1 - 40)) x4) 1168 (Int32.toNatClampNeg (v1 - 40)) v2) Q))) ∧
          (0 ≤ (ps_a s2 1167 (Int32.toNatClampNeg (v1 - 40))) →
            ps_nd (pm_in (v1 - 40) 20) (ps_nd (pm_in (v1 - 40) 20) ((((ps_a s2 1168 (Int32.toNatClampNeg (v1 - 40))) - (ps_a s2 1167 (Int32.toNatClampNeg (v1 - 40)))) ≠ (v2 - x4) →
              Q (some (.int 0)) s2) ∧
            (((ps_a s2 1168 (Int32.toNatClampNeg (v1 - 40))) - (ps_a s2 1167 (Int32.toNatClampNeg (v1 - 40)))) = (v2 - x4) →
              ps_nd (pm_in (v1 - 40) 20) (ps_Cl d 259 [.ref 1131, .int 25789, .int x4, .int (v2 - x4), .int 25789, .int (ps_a s2 1167 (Int32.toNatClampNeg (v1 - 40)))] s2 (ps_rI (fun v3 s3 =>
                (v3 ≠ 0 →
                  ps_nd (pm_in (v1 - 40) 20) (ps_nd (pm_in (v1 - 40) 20) (ps_At (d + 1) 286 42 [(0, .ref 1131), (3, .int x3), (4, .int v2), (5, .int (x5 + 1))] [] (ps_ua (ps_ua s3 1167 (Int32.toNatClampNeg (v1 - 40)) x4) 1168 (Int32.toNatClampNeg (v1 - 40)) v2) Q))) ∧
                (v3 = 0 →
                  Q (some (.int 0)) s3)))))))))))) ∧
      (v1 < 40 →
        ps_Cl d 220 [.ref 1131, .int 25789, .int x4] s1 (ps_rI (fun v4 s4 =>
          (v4 = v1 →
            ps_At (d + 1) 286 42 [(0, .ref 1131), (3, .int x3), (4, .int (x4 + 1)), (5, .int (x5 + 1))] [] s4 Q) ∧
          (v4 ≠ v1 →
            Q (some (.int 0)) s4)))))))) : ps_At (d + 1) 286 42 [(0, .ref 1131), (3, .int x3), (4, .int x4), (5, .int x5)] [] s Q :=
  ps_wp_at (stops := [(12, [0, 2, 3, 4]), (42, [0, 3, 4, 5])]) (n := 103) h rfl

theorem ms_286_42 {x : Nat → Nat → Nat} {t : Int32} {d : Nat} {s0 : ps_S} {σ : mSig} {l nl l0 p q n1 n2 : List Nat} {W0 : List Bool} {x1 : Int32} {x2 : Int32} {Q : Option Value → ps_S → Prop} (k : ∀ (v : Int32) (s' : ps_S), mJ x t s' → kp [1167, 1168] [65] s0 s' → (v.toInt ≠ 0 → ∃ mt n3, n2 = mt ++ n3 ∧ ws σ n3 W0 ∧ (ps_i s' 1131 65).toInt = (n1.length : Int) + (mt.length : Int) ∧ BA σ nl (ps_a s' 1167) (ps_a s' 1168) ∧ BB (ps_a s' 1167) p) → v &&& 1 = v → Q (some (.int v)) s') : ∀ (n : Nat) (x3 : Int32) (x4 : Int32) (x5 : Int32) (ma : List Nat) (mb : List Nat) (p1 : List Nat) (p2 : List Nat) (W : List Bool) (s : ps_S), (mJ x t s) → (kp [1167, 1168] [65] s0 s) → (Sg (ps_a s 1135) (ps_a s 1136) (ps_a s 1138) (ps_a s 1139) (ps_i s 1131 21).toInt σ) → (Rw (ps_a s 1134) x3.toInt l) → (Rw (ps_a s 1134) (25789 : Int32).toInt nl) → (RL σ l l0 p q (ps_i s 1131 63).toInt (ps_i s 1131 64).toInt) → (∀ x, x ∈ l → x < 60) → (nl = n1 ++ n2) → (n2 = ma ++ mb) → (x4.toInt = (n1.length : Int) + (ma.length : Int)) → (p = p1 ++ p2) → (x5.toInt = (l0.length : Int) + 1 + (p1.length : Int)) → (ws σ p2 W) → (ws σ mb (W ++ W0)) → (BA σ nl (ps_a s 1167) (ps_a s 1168)) → (BB (ps_a s 1167) p1) → (p2.length : Int) ≤ (n : Int) → ps_At (d + 2) 286 42 [(0, .ref 1131), (3, .int x3), (4, .int x4), (5, .int x5)] [] s Q := by
  refine xstr (fun n ih => ?_)
  intro x3 x4 x5 ma mb p1 p2 W s J K hS hR hN i3 i4 i5 i6 i7 i8 i9 i10 i11 i12 i13 hm
  refine pg_286_42 (d := d + 1) ?_
  obtain ⟨hr1, hr2, hr3, hr4, hr5, hr6⟩ := id hR
  have hr1 : x3.toInt % 41 = 0 := hr1
  have hr2 : 0 ≤ x3.toInt := hr2
  have hr3 : x3.toInt < 27306 := hr3
  have hr4 : l.length ≤ 40 := hr4
  have hn : (ps_a s 1134 (Int32.toNatClampNeg x3)).toInt = (l.length : Int) := Rw_n hR
  obtain ⟨g1, g2, g3, g4, g5, g6⟩ := id i3
  have g2 : (ps_i s 1131 63).toInt = (l0.length : Int) + 1 := g2
  have g3 : (ps_i s 1131 64).toInt = (l0.length : Int) + 1 + (p.length : Int) := g3
  have hl : (l.length : Int) = l0.length + (p.length + q.length + 1) := by rw [g1, llen, llenc, llen]
  have hpl : (p.length : Int) = p1.length + p2.length := by rw [i8]; exact llen
  have hnl : (nl.length : Int) = n1.length + n2.length := by rw [i5]; exact llen
  have hn2 : (n2.length : Int) = ma.length + mb.length := by rw [i6]; exact llen
  have hN4 : nl.length ≤ 40 := hN.2.2.2.1
  have i7 : x4.toInt = (n1.length : Int) + (ma.length : Int) := i7
  have i9 : x5.toInt = (l0.length : Int) + 1 + (p1.length : Int) := i9
  have r1 := mf_64 J
  refine And.intro (fun h2 => ?_) (fun h2 => ?_)
  · have f3 : (ps_i s 1131 64).toInt ≤ x5.toInt := xle h2
    have e0 := lnil (W := p2) (by omega)
    subst e0
    rw [List.append_nil] at i8
    have eW : W = [] := i10
    subst eW
    have J4 := mwi_65 (v := x4) J (show 0 ≤ x4.toInt from by omega) (show x4.toInt ≤ 41 from by omega)
    have K5 := kpi K (q := 65) (v := x4) rfl
    exact k (1 : Int32) _ J4 K5 ((fun _ => ⟨ma, mb, i6, i11, (show x4.toInt = (n1.length : Int) + (ma.length : Int) from by omega), i12, (by rw [i8]; exact i13)⟩)) (by decide)
  · have f6 : x5.toInt < (ps_i s 1131 64).toInt := xlt h2
    obtain ⟨c, p3, rfl⟩ := lpos (W := p2) (by omega)
    rw [llenc] at hpl hm
    obtain ⟨bb, W2, rfl⟩ := ws_W i10
    obtain ⟨ks, hk, hw⟩ := ws_hd i10
    obtain ⟨d, mb2, hmb⟩ := ws_ne (show ws σ mb (bb :: (W2 ++ W0)) from i11)
    subst hmb
    rw [llenc] at hn2
    have hc60 : c < 60 := i4 c (by rw [g1, i8]; simp)
    refine pg_220_0 ?_
    have a7 : (x3 + 1).toInt = x3.toInt + (1 : Int) := xIa (show -2147483648 ≤ x3.toInt + (1 : Int) from by omega) (show x3.toInt + (1 : Int) < 2147483648 from by omega)
    have a8 : ((x3 + 1) + x5).toInt = (x3 + 1).toInt + x5.toInt := xIa (show -2147483648 ≤ (x3 + 1).toInt + x5.toInt from by omega) (show (x3 + 1).toInt + x5.toInt < 2147483648 from by omega)
    refine ps_nd_i (show pm_in ((x3 + 1) + x5) 27400 = true from xgi (show 0 ≤ ((x3 + 1) + x5).toInt from by omega) (show ((x3 + 1) + x5).toInt < 27400 from by omega)) ?_
    have r9 : ((x3 + 1) + x5).toInt % 41 = 0 → ((x3 + 1) + x5).toInt < 27306 → 0 ≤ (ps_a s 1134 (Int32.toNatClampNeg ((x3 + 1) + x5))).toInt ∧ (ps_a s 1134 (Int32.toNatClampNeg ((x3 + 1) + x5))).toInt ≤ 40 := fun z1 z2 => mp_row (i := ((x3 + 1) + x5)) J z1 (show 0 ≤ ((x3 + 1) + x5).toInt from by omega) z2
    have hp : ((ps_a s 1134 (Int32.toNatClampNeg ((x3 + 1) + x5)))).toInt = (c : Int) := Rw_p (l1 := l0 ++ 6 :: p1) (l2 := p3 ++ q) hR (by rw [g1, i8]; simp) (by rw [llen, llenc]; omega)
    refine And.intro (fun h10 => ?_) (fun h10 => ?_)
    · have f11 : (40 : Int) ≤ (ps_a s 1134 (Int32.toNatClampNeg ((x3 + 1) + x5))).toInt := xle h10
      obtain ⟨hbb, hks⟩ := kS_x (Sg_σ hS) hk (by omega)
      subst hbb
      subst hks
      obtain ⟨tm, mb3, htm, hw3, hw4⟩ := ws_split (W1 := [false]) (W2 := W2 ++ W0) i11
      have htl : ((d :: mb2).length : Int) = tm.length + mb3.length := by rw [htm]; exact llen
      rw [llenc] at htl
      have a12 : ((ps_a s 1134 (Int32.toNatClampNeg ((x3 + 1) + x5))) - 40).toInt = (ps_a s 1134 (Int32.toNatClampNeg ((x3 + 1) + x5))).toInt - (40 : Int) := xIs (show -2147483648 ≤ (ps_a s 1134 (Int32.toNatClampNeg ((x3 + 1) + x5))).toInt - (40 : Int) from by omega) (show (ps_a s 1134 (Int32.toNatClampNeg ((x3 + 1) + x5))).toInt - (40 : Int) < 2147483648 from by omega)
      refine ms_221 J hS ((show Rw (ps_a s 1134) ((25789 : Int32)).toInt ((n1 ++ ma) ++ (tm ++ mb3)) from by rw [← htm, List.append_assoc, ← i6, ← i5]; exact hN)) ((show (x4).toInt = ((n1 ++ ma).length : Int) from by rw [llen]; exact i7)) (hw3) (fun v13 p13_0 => ?_)
      have hv : _ := p13_0
      have hv2 : (v13).toInt = (n1.length : Int) + (ma.length : Int) + (tm.length : Int) := hv.trans (by rw [llen])
      refine ps_nd_i (show pm_in ((ps_a s 1134 (Int32.toNatClampNeg ((x3 + 1) + x5))) - 40) 20 = true from xgi (show 0 ≤ ((ps_a s 1134 (Int32.toNatClampNeg ((x3 + 1) + x5))) - 40).toInt from by omega) (show ((ps_a s 1134 (Int32.toNatClampNeg ((x3 + 1) + x5))) - 40).toInt < 20 from by omega)) ?_
      have r14 : -1 ≤ (ps_a s 1167 (Int32.toNatClampNeg ((ps_a s 1134 (Int32.toNatClampNeg ((x3 + 1) + x5))) - 40))).toInt ∧ (ps_a s 1167 (Int32.toNatClampNeg ((ps_a s 1134 (Int32.toNatClampNeg ((x3 + 1) + x5))) - 40))).toInt ≤ 40 := ma_1167 (i := ((ps_a s 1134 (Int32.toNatClampNeg ((x3 + 1) + x5))) - 40)) J (show 0 ≤ ((ps_a s 1134 (Int32.toNatClampNeg ((x3 + 1) + x5))) - 40).toInt from by omega) (show ((ps_a s 1134 (Int32.toNatClampNeg ((x3 + 1) + x5))) - 40).toInt < 20 from by omega)
      refine And.intro (fun h15 => ?_) (fun h15 => ?_)
      · have f16 : (ps_a s 1167 (Int32.toNatClampNeg ((ps_a s 1134 (Int32.toNatClampNeg ((x3 + 1) + x5))) - 40))).toInt < (0 : Int) := xlt h15
        refine ps_nd_i (show pm_in ((ps_a s 1134 (Int32.toNatClampNeg ((x3 + 1) + x5))) - 40) 20 = true from xgi (show 0 ≤ ((ps_a s 1134 (Int32.toNatClampNeg ((x3 + 1) + x5))) - 40).toInt from by omega) (show ((ps_a s 1134 (Int32.toNatClampNeg ((x3 + 1) + x5))) - 40).toInt < 20 from by omega)) ?_
        have J17 := mwa_1167 (i := (Int32.toNatClampNeg ((ps_a s 1134 (Int32.toNatClampNeg ((x3 + 1) + x5))) - 40))) (v := x4) J (show -1 ≤ x4.toInt from by omega) (show x4.toInt ≤ 40 from by omega)
        have K18 := kpa' K (r := 1167) (i := (Int32.toNatClampNeg ((ps_a s 1134 (Int32.toNatClampNeg ((x3 + 1) + x5))) - 40))) (v := x4) rfl
        have z1 : ps_a (ps_ua s 1167 (Int32.toNatClampNeg ((ps_a s 1134 (Int32.toNatClampNeg ((x3 + 1) + x5))) - 40)) x4) 1167 (Int32.toNatClampNeg ((ps_a s 1134 (Int32.toNatClampNeg ((x3 + 1) + x5))) - 40)) = x4 := ua_eq
        refine ps_nd_i (show pm_in ((ps_a s 1134 (Int32.toNatClampNeg ((x3 + 1) + x5))) - 40) 20 = true from xgi (show 0 ≤ ((ps_a s 1134 (Int32.toNatClampNeg ((x3 + 1) + x5))) - 40).toInt from by omega) (show ((ps_a s 1134 (Int32.toNatClampNeg ((x3 + 1) + x5))) - 40).toInt < 20 from by omega)) ?_
        have J19 := mwa_1168 (i := (Int32.toNatClampNeg ((ps_a s 1134 (Int32.toNatClampNeg ((x3 + 1) + x5))) - 40))) (v := v13) J17 (show 0 ≤ v13.toInt from by omega) (show v13.toInt ≤ 40 from by omega)
        have K20 := kpa' K18 (r := 1168) (i := (Int32.toNatClampNeg ((ps_a s 1134 (Int32.toNatClampNeg ((x3 + 1) + x5))) - 40))) (v := v13) rfl
        have z2 : ps_a (ps_ua (ps_ua s 1167 (Int32.toNatClampNeg ((ps_a s 1134 (Int32.toNatClampNeg ((x3 + 1) + x5))) - 40)) x4) 1168 (Int32.toNatClampNeg ((ps_a s 1134 (Int32.toNatClampNeg ((x3 + 1) + x5))) - 40)) v13) 1168 (Int32.toNatClampNeg ((ps_a s 1134 (Int32.toNatClampNeg ((x3 + 1) + x5))) - 40)) = v13 := ua_eq
        have z1b : ps_a (ps_ua (ps_ua s 1167 (Int32.toNatClampNeg ((ps_a s 1134 (Int32.toNatClampNeg ((x3 + 1) + x5))) - 40)) x4) 1168 (Int32.toNatClampNeg ((ps_a s 1134 (Int32.toNatClampNeg ((x3 + 1) + x5))) - 40)) v13) 1167 (Int32.toNatClampNeg ((ps_a s 1134 (Int32.toNatClampNeg ((x3 + 1) + x5))) - 40)) = x4 := z1
        have e7 : (Int32.toNatClampNeg ((ps_a s 1134 (Int32.toNatClampNeg ((x3 + 1) + x5))) - 40)) = c - 40 := by rw [nx (n := (c : Int) - 40) (by omega)]; omega
        have zf : ∀ j, j ≠ (Int32.toNatClampNeg ((ps_a s 1134 (Int32.toNatClampNeg ((x3 + 1) + x5))) - 40)) → ps_a (ps_ua (ps_ua s 1167 (Int32.toNatClampNeg ((ps_a s 1134 (Int32.toNatClampNeg ((x3 + 1) + x5))) - 40)) x4) 1168 (Int32.toNatClampNeg ((ps_a s 1134 (Int32.toNatClampNeg ((x3 + 1) + x5))) - 40)) v13) 1167 j = ps_a s 1167 j := fun j hj => (ua_ne hj).trans (ua_ne hj)
        have zt : ∀ j, j ≠ (Int32.toNatClampNeg ((ps_a s 1134 (Int32.toNatClampNeg ((x3 + 1) + x5))) - 40)) → ps_a (ps_ua (ps_ua s 1167 (Int32.toNatClampNeg ((ps_a s 1134 (Int32.toNatClampNeg ((x3 + 1) + x5))) - 40)) x4) 1168 (Int32.toNatClampNeg ((ps_a s 1134 (Int32.toNatClampNeg ((x3 + 1) + x5))) - 40)) v13) 1168 j = ps_a s 1168 j := fun j hj => (ua_ne hj).trans (ua_ne hj)
        have zb : BS σ nl (ps_a (ps_ua (ps_ua s 1167 (Int32.toNatClampNeg ((ps_a s 1134 (Int32.toNatClampNeg ((x3 + 1) + x5))) - 40)) x4) 1168 (Int32.toNatClampNeg ((ps_a s 1134 (Int32.toNatClampNeg ((x3 + 1) + x5))) - 40)) v13) 1167 (Int32.toNatClampNeg ((ps_a s 1134 (Int32.toNatClampNeg ((x3 + 1) + x5))) - 40))).toInt (ps_a (ps_ua (ps_ua s 1167 (Int32.toNatClampNeg ((ps_a s 1134 (Int32.toNatClampNeg ((x3 + 1) + x5))) - 40)) x4) 1168 (Int32.toNatClampNeg ((ps_a s 1134 (Int32.toNatClampNeg ((x3 + 1) + x5))) - 40)) v13) 1168 (Int32.toNatClampNeg ((ps_a s 1134 (Int32.toNatClampNeg ((x3 + 1) + x5))) - 40))).toInt := ⟨n1 ++ ma, tm, mb3, (by rw [i5, i6, htm]; simp), (by rw [z1b, llen]; exact i7), (by rw [z2, llen]; omega), hw3⟩
        have zg : ∀ j, 0 ≤ (ps_a s 1167 j).toInt → 0 ≤ (ps_a (ps_ua (ps_ua s 1167 (Int32.toNatClampNeg ((ps_a s 1134 (Int32.toNatClampNeg ((x3 + 1) + x5))) - 40)) x4) 1168 (Int32.toNatClampNeg ((ps_a s 1134 (Int32.toNatClampNeg ((x3 + 1) + x5))) - 40)) v13) 1167 j).toInt := fun j hj => (by by_cases e : j = (Int32.toNatClampNeg ((ps_a s 1134 (Int32.toNatClampNeg ((x3 + 1) + x5))) - 40)); (rw [e, z1b]; omega); (rw [zf j e]; exact hj))
        have zc : 0 ≤ (ps_a (ps_ua (ps_ua s 1167 (Int32.toNatClampNeg ((ps_a s 1134 (Int32.toNatClampNeg ((x3 + 1) + x5))) - 40)) x4) 1168 (Int32.toNatClampNeg ((ps_a s 1134 (Int32.toNatClampNeg ((x3 + 1) + x5))) - 40)) v13) 1167 (c - 40)).toInt := by rw [← e7, z1b]; omega
        have hnew : ∃ (ma9 mb9 p8 p9 : List Nat) (W9 : List Bool), n2 = ma9 ++ mb9 ∧ (n1.length : Int) + (ma9.length : Int) = v13.toInt ∧ p = p8 ++ p9 ∧ (p8.length : Int) = (p1.length : Int) + 1 ∧ ws σ p9 W9 ∧ ws σ mb9 (W9 ++ W0) ∧ BA σ nl (ps_a (ps_ua (ps_ua s 1167 (Int32.toNatClampNeg ((ps_a s 1134 (Int32.toNatClampNeg ((x3 + 1) + x5))) - 40)) x4) 1168 (Int32.toNatClampNeg ((ps_a s 1134 (Int32.toNatClampNeg ((x3 + 1) + x5))) - 40)) v13) 1167) (ps_a (ps_ua (ps_ua s 1167 (Int32.toNatClampNeg ((ps_a s 1134 (Int32.toNatClampNeg ((x3 + 1) + x5))) - 40)) x4) 1168 (Int32.toNatClampNeg ((ps_a s 1134 (Int32.toNatClampNeg ((x3 + 1) + x5))) - 40)) v13) 1168) ∧ BB (ps_a (ps_ua (ps_ua s 1167 (Int32.toNatClampNeg ((ps_a s 1134 (Int32.toNatClampNeg ((x3 + 1) + x5))) - 40)) x4) 1168 (Int32.toNatClampNeg ((ps_a s 1134 (Int32.toNatClampNeg ((x3 + 1) + x5))) - 40)) v13) 1167) p8 := ⟨ma ++ tm, mb3, p1 ++ [c], p3, W2, (by rw [i6, htm]; simp), (by rw [llen]; omega), i8.trans (lcat p1 c p3), l1c, hw, hw4, BA_put i12 zf zt zb, BB_snoc i13 zg (fun _ => zc)⟩
        have a21 : (x5 + 1).toInt = x5.toInt + (1 : Int) := xIa (show -2147483648 ≤ x5.toInt + (1 : Int) from by omega) (show x5.toInt + (1 : Int) < 2147483648 from by omega)
        obtain ⟨ma9, mb9, p8, p9, W9, e1, e2, e3, e4, e5, e6, e8, e9⟩ := hnew
        have hp9 : (p.length : Int) = p8.length + p9.length := by rw [e3]; exact llen
        exact ih (n - 1) (show n - 1 < n from by omega) x3 v13 (x5 + 1) ma9 mb9 p8 p9 W9 _ J19 K20 hS hR hN (i3) (by assumption) (by assumption) (e1) ((show (v13).toInt = (n1.length : Int) + (ma9.length : Int) from by omega)) (e3) ((show ((x5 + 1)).toInt = (l0.length : Int) + 1 + (p8.length : Int) from by omega)) (e5) (e6) (e8) (e9) (show (p9.length : Int) ≤ ((n - 1 : Nat) : Int) from by omega)
      · have f22 : (0 : Int) ≤ (ps_a s 1167 (Int32.toNatClampNeg ((ps_a s 1134 (Int32.toNatClampNeg ((x3 + 1) + x5))) - 40))).toInt := xle h15
        refine ps_nd_i (show pm_in ((ps_a s 1134 (Int32.toNatClampNeg ((x3 + 1) + x5))) - 40) 20 = true from xgi (show 0 ≤ ((ps_a s 1134 (Int32.toNatClampNeg ((x3 + 1) + x5))) - 40).toInt from by omega) (show ((ps_a s 1134 (Int32.toNatClampNeg ((x3 + 1) + x5))) - 40).toInt < 20 from by omega)) ?_
        have r23 : 0 ≤ (ps_a s 1168 (Int32.toNatClampNeg ((ps_a s 1134 (Int32.toNatClampNeg ((x3 + 1) + x5))) - 40))).toInt ∧ (ps_a s 1168 (Int32.toNatClampNeg ((ps_a s 1134 (Int32.toNatClampNeg ((x3 + 1) + x5))) - 40))).toInt ≤ 40 := ma_1168 (i := ((ps_a s 1134 (Int32.toNatClampNeg ((x3 + 1) + x5))) - 40)) J (show 0 ≤ ((ps_a s 1134 (Int32.toNatClampNeg ((x3 + 1) + x5))) - 40).toInt from by omega) (show ((ps_a s 1134 (Int32.toNatClampNeg ((x3 + 1) + x5))) - 40).toInt < 20 from by omega)
        refine ps_nd_i (show pm_in ((ps_a s 1134 (Int32.toNatClampNeg ((x3 + 1) + x5))) - 40) 20 = true from xgi (show 0 ≤ ((ps_a s 1134 (Int32.toNatClampNeg ((x3 + 1) + x5))) - 40).toInt from by omega) (show ((ps_a s 1134 (Int32.toNatClampNeg ((x3 + 1) + x5))) - 40).toInt < 20 from by omega)) ?_
        have a24 : ((ps_a s 1168 (Int32.toNatClampNeg ((ps_a s 1134 (Int32.toNatClampNeg ((x3 + 1) + x5))) - 40))) - (ps_a s 1167 (Int32.toNatClampNeg ((ps_a s 1134 (Int32.toNatClampNeg ((x3 + 1) + x5))) - 40)))).toInt = (ps_a s 1168 (Int32.toNatClampNeg ((ps_a s 1134 (Int32.toNatClampNeg ((x3 + 1) + x5))) - 40))).toInt - (ps_a s 1167 (Int32.toNatClampNeg ((ps_a s 1134 (Int32.toNatClampNeg ((x3 + 1) + x5))) - 40))).toInt := xIs (show -2147483648 ≤ (ps_a s 1168 (Int32.toNatClampNeg ((ps_a s 1134 (Int32.toNatClampNeg ((x3 + 1) + x5))) - 40))).toInt - (ps_a s 1167 (Int32.toNatClampNeg ((ps_a s 1134 (Int32.toNatClampNeg ((x3 + 1) + x5))) - 40))).toInt from by omega) (show (ps_a s 1168 (Int32.toNatClampNeg ((ps_a s 1134 (Int32.toNatClampNeg ((x3 + 1) + x5))) - 40))).toInt - (ps_a s 1167 (Int32.toNatClampNeg ((ps_a s 1134 (Int32.toNatClampNeg ((x3 + 1) + x5))) - 40))).toInt < 2147483648 from by omega)
        have a25 : (v13 - x4).toInt = v13.toInt - x4.toInt := xIs (show -2147483648 ≤ v13.toInt - x4.toInt from by omega) (show v13.toInt - x4.toInt < 2147483648 from by omega)
        refine And.intro (fun h26 => ?_) (fun h26 => ?_)
        · have f27 : ((ps_a s 1168 (Int32.toNatClampNeg ((ps_a s 1134 (Int32.toNatClampNeg ((x3 + 1) + x5))) - 40))) - (ps_a s 1167 (Int32.toNatClampNeg ((ps_a s 1134 (Int32.toNatClampNeg ((x3 + 1) + x5))) - 40)))).toInt ≠ (v13 - x4).toInt := xne h26
          exact k (0 : Int32) _ J K (fun z => absurd Int32.toInt_zero z) (by decide)
        · have f28 : ((ps_a s 1168 (Int32.toNatClampNeg ((ps_a s 1134 (Int32.toNatClampNeg ((x3 + 1) + x5))) - 40))) - (ps_a s 1167 (Int32.toNatClampNeg ((ps_a s 1134 (Int32.toNatClampNeg ((x3 + 1) + x5))) - 40)))).toInt = (v13 - x4).toInt := xeq h26
          refine ps_nd_i (show pm_in ((ps_a s 1134 (Int32.toNatClampNeg ((x3 + 1) + x5))) - 40) 20 = true from xgi (show 0 ≤ ((ps_a s 1134 (Int32.toNatClampNeg ((x3 + 1) + x5))) - 40).toInt from by omega) (show ((ps_a s 1134 (Int32.toNatClampNeg ((x3 + 1) + x5))) - 40).toInt < 20 from by omega)) ?_
          refine ms_259 J (show (25789 : Int) % 41 = 0 from by omega) (show 0 ≤ (25789 : Int) from by omega) (show (25789 : Int) < 27306 from by omega) (show (25789 : Int) % 41 = 0 from by omega) (show 0 ≤ (25789 : Int) from by omega) (show (25789 : Int) < 27306 from by omega) (show 0 ≤ x4.toInt from by omega) (show x4.toInt ≤ 41 from by omega) (show 0 ≤ (v13 - x4).toInt from by omega) (show (v13 - x4).toInt ≤ 41 from by omega) (show 0 ≤ (ps_a s 1167 (Int32.toNatClampNeg ((ps_a s 1134 (Int32.toNatClampNeg ((x3 + 1) + x5))) - 40))).toInt from by omega) (show (ps_a s 1167 (Int32.toNatClampNeg ((ps_a s 1134 (Int32.toNatClampNeg ((x3 + 1) + x5))) - 40))).toInt ≤ 41 from by omega) (fun v29 p29_0 b29 => ?_)
          have p29_0' : v29.toInt = 0 ∨ (ps_a s 1167 (Int32.toNatClampNeg ((ps_a s 1134 (Int32.toNatClampNeg ((x3 + 1) + x5))) - 40))).toInt + (v13 - x4).toInt ≤ (ps_a s 1134 (Int32.toNatClampNeg (25789 : Int32))).toInt := p29_0
          have r30 : (25789 : Int) % 41 = 0 → (25789 : Int) < 27306 → 0 ≤ (ps_a s 1134 (Int32.toNatClampNeg (25789 : Int32))).toInt ∧ (ps_a s 1134 (Int32.toNatClampNeg (25789 : Int32))).toInt ≤ 40 := fun z1 z2 => mp_row (i := (25789 : Int32)) J z1 (show 0 ≤ (25789 : Int) from by omega) z2
          refine And.intro (fun h31 => ?_) (fun h31 => ?_)
          · have f32 : v29.toInt ≠ (0 : Int) := xne h31
            refine ps_nd_i (show pm_in ((ps_a s 1134 (Int32.toNatClampNeg ((x3 + 1) + x5))) - 40) 20 = true from xgi (show 0 ≤ ((ps_a s 1134 (Int32.toNatClampNeg ((x3 + 1) + x5))) - 40).toInt from by omega) (show ((ps_a s 1134 (Int32.toNatClampNeg ((x3 + 1) + x5))) - 40).toInt < 20 from by omega)) ?_
            have J33 := mwa_1167 (i := (Int32.toNatClampNeg ((ps_a s 1134 (Int32.toNatClampNeg ((x3 + 1) + x5))) - 40))) (v := x4) J (show -1 ≤ x4.toInt from by omega) (show x4.toInt ≤ 40 from by omega)
            have K34 := kpa' K (r := 1167) (i := (Int32.toNatClampNeg ((ps_a s 1134 (Int32.toNatClampNeg ((x3 + 1) + x5))) - 40))) (v := x4) rfl
            have z1 : ps_a (ps_ua s 1167 (Int32.toNatClampNeg ((ps_a s 1134 (Int32.toNatClampNeg ((x3 + 1) + x5))) - 40)) x4) 1167 (Int32.toNatClampNeg ((ps_a s 1134 (Int32.toNatClampNeg ((x3 + 1) + x5))) - 40)) = x4 := ua_eq
            refine ps_nd_i (show pm_in ((ps_a s 1134 (Int32.toNatClampNeg ((x3 + 1) + x5))) - 40) 20 = true from xgi (show 0 ≤ ((ps_a s 1134 (Int32.toNatClampNeg ((x3 + 1) + x5))) - 40).toInt from by omega) (show ((ps_a s 1134 (Int32.toNatClampNeg ((x3 + 1) + x5))) - 40).toInt < 20 from by omega)) ?_
            have J35 := mwa_1168 (i := (Int32.toNatClampNeg ((ps_a s 1134 (Int32.toNatClampNeg ((x3 + 1) + x5))) - 40))) (v := v13) J33 (show 0 ≤ v13.toInt from by omega) (show v13.toInt ≤ 40 from by omega)
            have K36 := kpa' K34 (r := 1168) (i := (Int32.toNatClampNeg ((ps_a s 1134 (Int32.toNatClampNeg ((x3 + 1) + x5))) - 40))) (v := v13) rfl
            have z2 : ps_a (ps_ua (ps_ua s 1167 (Int32.toNatClampNeg ((ps_a s 1134 (Int32.toNatClampNeg ((x3 + 1) + x5))) - 40)) x4) 1168 (Int32.toNatClampNeg ((ps_a s 1134 (Int32.toNatClampNeg ((x3 + 1) + x5))) - 40)) v13) 1168 (Int32.toNatClampNeg ((ps_a s 1134 (Int32.toNatClampNeg ((x3 + 1) + x5))) - 40)) = v13 := ua_eq
            have z1b : ps_a (ps_ua (ps_ua s 1167 (Int32.toNatClampNeg ((ps_a s 1134 (Int32.toNatClampNeg ((x3 + 1) + x5))) - 40)) x4) 1168 (Int32.toNatClampNeg ((ps_a s 1134 (Int32.toNatClampNeg ((x3 + 1) + x5))) - 40)) v13) 1167 (Int32.toNatClampNeg ((ps_a s 1134 (Int32.toNatClampNeg ((x3 + 1) + x5))) - 40)) = x4 := z1
            have e7 : (Int32.toNatClampNeg ((ps_a s 1134 (Int32.toNatClampNeg ((x3 + 1) + x5))) - 40)) = c - 40 := by rw [nx (n := (c : Int) - 40) (by omega)]; omega
            have zf : ∀ j, j ≠ (Int32.toNatClampNeg ((ps_a s 1134 (Int32.toNatClampNeg ((x3 + 1) + x5))) - 40)) → ps_a (ps_ua (ps_ua s 1167 (Int32.toNatClampNeg ((ps_a s 1134 (Int32.toNatClampNeg ((x3 + 1) + x5))) - 40)) x4) 1168 (Int32.toNatClampNeg ((ps_a s 1134 (Int32.toNatClampNeg ((x3 + 1) + x5))) - 40)) v13) 1167 j = ps_a s 1167 j := fun j hj => (ua_ne hj).trans (ua_ne hj)
            have zt : ∀ j, j ≠ (Int32.toNatClampNeg ((ps_a s 1134 (Int32.toNatClampNeg ((x3 + 1) + x5))) - 40)) → ps_a (ps_ua (ps_ua s 1167 (Int32.toNatClampNeg ((ps_a s 1134 (Int32.toNatClampNeg ((x3 + 1) + x5))) - 40)) x4) 1168 (Int32.toNatClampNeg ((ps_a s 1134 (Int32.toNatClampNeg ((x3 + 1) + x5))) - 40)) v13) 1168 j = ps_a s 1168 j := fun j hj => (ua_ne hj).trans (ua_ne hj)
            have zb : BS σ nl (ps_a (ps_ua (ps_ua s 1167 (Int32.toNatClampNeg ((ps_a s 1134 (Int32.toNatClampNeg ((x3 + 1) + x5))) - 40)) x4) 1168 (Int32.toNatClampNeg ((ps_a s 1134 (Int32.toNatClampNeg ((x3 + 1) + x5))) - 40)) v13) 1167 (Int32.toNatClampNeg ((ps_a s 1134 (Int32.toNatClampNeg ((x3 + 1) + x5))) - 40))).toInt (ps_a (ps_ua (ps_ua s 1167 (Int32.toNatClampNeg ((ps_a s 1134 (Int32.toNatClampNeg ((x3 + 1) + x5))) - 40)) x4) 1168 (Int32.toNatClampNeg ((ps_a s 1134 (Int32.toNatClampNeg ((x3 + 1) + x5))) - 40)) v13) 1168 (Int32.toNatClampNeg ((ps_a s 1134 (Int32.toNatClampNeg ((x3 + 1) + x5))) - 40))).toInt := ⟨n1 ++ ma, tm, mb3, (by rw [i5, i6, htm]; simp), (by rw [z1b, llen]; exact i7), (by rw [z2, llen]; omega), hw3⟩
            have zg : ∀ j, 0 ≤ (ps_a s 1167 j).toInt → 0 ≤ (ps_a (ps_ua (ps_ua s 1167 (Int32.toNatClampNeg ((ps_a s 1134 (Int32.toNatClampNeg ((x3 + 1) + x5))) - 40)) x4) 1168 (Int32.toNatClampNeg ((ps_a s 1134 (Int32.toNatClampNeg ((x3 + 1) + x5))) - 40)) v13) 1167 j).toInt := fun j hj => (by by_cases e : j = (Int32.toNatClampNeg ((ps_a s 1134 (Int32.toNatClampNeg ((x3 + 1) + x5))) - 40)); (rw [e, z1b]; omega); (rw [zf j e]; exact hj))
            have zc : 0 ≤ (ps_a (ps_ua (ps_ua s 1167 (Int32.toNatClampNeg ((ps_a s 1134 (Int32.toNatClampNeg ((x3 + 1) + x5))) - 40)) x4) 1168 (Int32.toNatClampNeg ((ps_a s 1134 (Int32.toNatClampNeg ((x3 + 1) + x5))) - 40)) v13) 1167 (c - 40)).toInt := by rw [← e7, z1b]; omega
            have hnew : ∃ (ma9 mb9 p8 p9 : List Nat) (W9 : List Bool), n2 = ma9 ++ mb9 ∧ (n1.length : Int) + (ma9.length : Int) = v13.toInt ∧ p = p8 ++ p9 ∧ (p8.length : Int) = (p1.length : Int) + 1 ∧ ws σ p9 W9 ∧ ws σ mb9 (W9 ++ W0) ∧ BA σ nl (ps_a (ps_ua (ps_ua s 1167 (Int32.toNatClampNeg ((ps_a s 1134 (Int32.toNatClampNeg ((x3 + 1) + x5))) - 40)) x4) 1168 (Int32.toNatClampNeg ((ps_a s 1134 (Int32.toNatClampNeg ((x3 + 1) + x5))) - 40)) v13) 1167) (ps_a (ps_ua (ps_ua s 1167 (Int32.toNatClampNeg ((ps_a s 1134 (Int32.toNatClampNeg ((x3 + 1) + x5))) - 40)) x4) 1168 (Int32.toNatClampNeg ((ps_a s 1134 (Int32.toNatClampNeg ((x3 + 1) + x5))) - 40)) v13) 1168) ∧ BB (ps_a (ps_ua (ps_ua s 1167 (Int32.toNatClampNeg ((ps_a s 1134 (Int32.toNatClampNeg ((x3 + 1) + x5))) - 40)) x4) 1168 (Int32.toNatClampNeg ((ps_a s 1134 (Int32.toNatClampNeg ((x3 + 1) + x5))) - 40)) v13) 1167) p8 := ⟨ma ++ tm, mb3, p1 ++ [c], p3, W2, (by rw [i6, htm]; simp), (by rw [llen]; omega), i8.trans (lcat p1 c p3), l1c, hw, hw4, BA_put i12 zf zt zb, BB_snoc i13 zg (fun _ => zc)⟩
            have a37 : (x5 + 1).toInt = x5.toInt + (1 : Int) := xIa (show -2147483648 ≤ x5.toInt + (1 : Int) from by omega) (show x5.toInt + (1 : Int) < 2147483648 from by omega)
            obtain ⟨ma9, mb9, p8, p9, W9, e1, e2, e3, e4, e5, e6, e8, e9⟩ := hnew
            have hp9 : (p.length : Int) = p8.length + p9.length := by rw [e3]; exact llen
            exact ih (n - 1) (show n - 1 < n from by omega) x3 v13 (x5 + 1) ma9 mb9 p8 p9 W9 _ J35 K36 hS hR hN (i3) (by assumption) (by assumption) (e1) ((show (v13).toInt = (n1.length : Int) + (ma9.length : Int) from by omega)) (e3) ((show ((x5 + 1)).toInt = (l0.length : Int) + 1 + (p8.length : Int) from by omega)) (e5) (e6) (e8) (e9) (show (p9.length : Int) ≤ ((n - 1 : Nat) : Int) from by omega)
          · have f38 : v29.toInt = (0 : Int) := xeq h31
            exact k (0 : Int32) _ J K (fun z => absurd Int32.toInt_zero z) (by decide)
    · have f39 : (ps_a s 1134 (Int32.toNatClampNeg ((x3 + 1) + x5))).toInt < (40 : Int) := xlt h10
      refine pg_220_0 ?_
      have a40 : ((25789 : Int32) + 1).toInt = (25789 : Int) + (1 : Int) := xIa (show -2147483648 ≤ (25789 : Int) + (1 : Int) from by omega) (show (25789 : Int) + (1 : Int) < 2147483648 from by omega)
      have a41 : (((25789 : Int32) + 1) + x4).toInt = ((25789 : Int32) + 1).toInt + x4.toInt := xIa (show -2147483648 ≤ ((25789 : Int32) + 1).toInt + x4.toInt from by omega) (show ((25789 : Int32) + 1).toInt + x4.toInt < 2147483648 from by omega)
      refine ps_nd_i (show pm_in (((25789 : Int32) + 1) + x4) 27400 = true from xgi (show 0 ≤ (((25789 : Int32) + 1) + x4).toInt from by omega) (show (((25789 : Int32) + 1) + x4).toInt < 27400 from by omega)) ?_
      have r42 : (((25789 : Int32) + 1) + x4).toInt % 41 = 0 → (((25789 : Int32) + 1) + x4).toInt < 27306 → 0 ≤ (ps_a s 1134 (Int32.toNatClampNeg (((25789 : Int32) + 1) + x4))).toInt ∧ (ps_a s 1134 (Int32.toNatClampNeg (((25789 : Int32) + 1) + x4))).toInt ≤ 40 := fun z1 z2 => mp_row (i := (((25789 : Int32) + 1) + x4)) J z1 (show 0 ≤ (((25789 : Int32) + 1) + x4).toInt from by omega) z2
      have hd : ((ps_a s 1134 (Int32.toNatClampNeg (((25789 : Int32) + 1) + x4)))).toInt = (d : Int) := Rw_p (l1 := n1 ++ ma) (l2 := mb2) hN (by rw [i5, i6]; simp) (by rw [llen]; exact i7)
      refine And.intro (fun h43 => ?_) (fun h43 => ?_)
      · have f44 : (ps_a s 1134 (Int32.toNatClampNeg (((25789 : Int32) + 1) + x4))).toInt = (ps_a s 1134 (Int32.toNatClampNeg ((x3 + 1) + x5))).toInt := xeq h43
        have e : d = c := by omega
        subst e
        obtain ⟨ks2, hk2, hw2⟩ := ws_hd (show ws σ (d :: mb2) (bb :: (W2 ++ W0)) from i11)
        rw [hk] at hk2
        cases hk2
        have hnew : ∃ (ma9 mb9 p8 p9 : List Nat) (W9 : List Bool), n2 = ma9 ++ mb9 ∧ (n1.length : Int) + (ma9.length : Int) = x4.toInt + 1 ∧ p = p8 ++ p9 ∧ (p8.length : Int) = (p1.length : Int) + 1 ∧ ws σ p9 W9 ∧ ws σ mb9 (W9 ++ W0) ∧ BA σ nl (ps_a s 1167) (ps_a s 1168) ∧ BB (ps_a s 1167) p8 := ⟨ma ++ [d], mb2, p1 ++ [d], p3, ks ++ W2, i6.trans (lcat ma d mb2), (by rw [l1c]; omega), i8.trans (lcat p1 d p3), l1c, hw, (by rw [List.append_assoc]; exact hw2), i12, BB_snoc i13 (fun _ z => z) (fun z => by omega)⟩
        have a45 : (x4 + 1).toInt = x4.toInt + (1 : Int) := xIa (show -2147483648 ≤ x4.toInt + (1 : Int) from by omega) (show x4.toInt + (1 : Int) < 2147483648 from by omega)
        have a46 : (x5 + 1).toInt = x5.toInt + (1 : Int) := xIa (show -2147483648 ≤ x5.toInt + (1 : Int) from by omega) (show x5.toInt + (1 : Int) < 2147483648 from by omega)
        obtain ⟨ma9, mb9, p8, p9, W9, e1, e2, e3, e4, e5, e6, e8, e9⟩ := hnew
        have hp9 : (p.length : Int) = p8.length + p9.length := by rw [e3]; exact llen
        exact ih (n - 1) (show n - 1 < n from by omega) x3 (x4 + 1) (x5 + 1) ma9 mb9 p8 p9 W9 _ J K hS hR hN (i3) (by assumption) (by assumption) (e1) ((show ((x4 + 1)).toInt = (n1.length : Int) + (ma9.length : Int) from by omega)) (e3) ((show ((x5 + 1)).toInt = (l0.length : Int) + 1 + (p8.length : Int) from by omega)) (e5) (e6) (e8) (e9) (show (p9.length : Int) ≤ ((n - 1 : Nat) : Int) from by omega)
      · have f47 : (ps_a s 1134 (Int32.toNatClampNeg (((25789 : Int32) + 1) + x4))).toInt ≠ (ps_a s 1134 (Int32.toNatClampNeg ((x3 + 1) + x5))).toInt := xne h43
        exact k (0 : Int32) _ J K (fun z => absurd Int32.toInt_zero z) (by decide)

theorem ms_286_12 {x : Nat → Nat → Nat} {t : Int32} {d : Nat} {s0 : ps_S} {σ : mSig} {l nl l0 p q n1 n2 : List Nat} {W0 : List Bool} {x1 : Int32} {x2 : Int32} {Q : Option Value → ps_S → Prop} (k : ∀ (v : Int32) (s' : ps_S), mJ x t s' → kp [1167, 1168] [65] s0 s' → (v.toInt ≠ 0 → ∃ mt n3, n2 = mt ++ n3 ∧ ws σ n3 W0 ∧ (ps_i s' 1131 65).toInt = (n1.length : Int) + (mt.length : Int) ∧ BA σ nl (ps_a s' 1167) (ps_a s' 1168) ∧ BB (ps_a s' 1167) p) → v &&& 1 = v → Q (some (.int v)) s') : ∀ (n : Nat) (x3 : Int32) (x4 : Int32) (s : ps_S), (mJ x t s) → (kp [1167, 1168] [65] s0 s) → (Sg (ps_a s 1135) (ps_a s 1136) (ps_a s 1138) (ps_a s 1139) (ps_i s 1131 21).toInt σ) → (Rw (ps_a s 1134) x3.toInt l) → (Rw (ps_a s 1134) (25789 : Int32).toInt nl) → (RL σ l l0 p q (ps_i s 1131 63).toInt (ps_i s 1131 64).toInt) → (∀ x, x ∈ l → x < 60) → (nl = n1 ++ n2) → (x2.toInt = (n1.length : Int)) → (ws σ n2 (false :: W0)) → (0 ≤ x4.toInt) → (x4.toInt ≤ 20) → (∀ i : Nat, (i : Int) < x4.toInt → (ps_a s 1167 i).toInt = -1) → 30 - x4.toInt ≤ (n : Int) → ps_At (d + 2) 286 12 [(0, .ref 1131), (2, .int x2), (3, .int x3), (4, .int x4)] [] s Q := by
  refine xstr (fun n ih => ?_)
  intro x3 x4 s J K hS hR hN i3 i4 i5 i6 i7 i8 i9 i10 hm
  refine pg_286_12 (d := d + 1) ?_
  have ex : Int32.toNatClampNeg x4 = x4.toInt.toNat := rfl
  refine And.intro (fun h1 => ?_) (fun h1 => ?_)
  · have f2 : (20 : Int) ≤ x4.toInt := xle h1
    obtain ⟨g1, g2, g3, g4, g5, g6⟩ := id i3
    have g2 : (ps_i s 1131 63).toInt = (l0.length : Int) + 1 := g2
    have i6 : x2.toInt = (n1.length : Int) := i6
    have r3 := mf_63 J
    exact ms_286_42 (x1 := x1) (x2 := x2) (σ := σ) (l := l) (nl := nl) (l0 := l0) (p := p) (q := q) (n1 := n1) (n2 := n2) (W0 := W0) k  ((p.length : Int)).toNat x3 x2 (ps_i s 1131 63) [] n2 [] p [false] _ J K hS hR hN (i3) (by assumption) (by assumption) (rfl) ((show (x2).toInt = (n1.length : Int) + (([] : List Nat).length : Int) from by rw [List.length_nil]; omega)) (rfl) ((show ((ps_i s 1131 63)).toInt = (l0.length : Int) + 1 + (([] : List Nat).length : Int) from by rw [List.length_nil]; omega)) (g4) (i7) (BA_0 (fun i hi => i10 i (by omega))) ((fun x hx => by cases hx)) (show (p.length : Int) ≤ ((((p.length : Int)).toNat : Nat) : Int) from by omega)
  · have f4 : x4.toInt < (20 : Int) := xlt h1
    refine ps_nd_i (show pm_in x4 20 = true from xgi (show 0 ≤ x4.toInt from by omega) (show x4.toInt < 20 from by omega)) ?_
    have J5 := mwa_1167 (i := (Int32.toNatClampNeg x4)) (v := (-1 : Int32)) J (show -1 ≤ (-1 : Int) from by omega) (show (-1 : Int) ≤ 40 from by omega)
    have K6 := kpa' K (r := 1167) (i := (Int32.toNatClampNeg x4)) (v := (-1 : Int32)) rfl
    have a7 : (x4 + 1).toInt = x4.toInt + (1 : Int) := xIa (show -2147483648 ≤ x4.toInt + (1 : Int) from by omega) (show x4.toInt + (1 : Int) < 2147483648 from by omega)
    exact ih (n - 1) (show n - 1 < n from by omega) x3 (x4 + 1) _ J5 K6 hS hR hN (by assumption) (by assumption) (by assumption) (by assumption) (by assumption) (show 0 ≤ (x4 + 1).toInt from by omega) (show (x4 + 1).toInt ≤ 20 from by omega) (fun i hi => (by by_cases e : i = Int32.toNatClampNeg x4; (rw [e, ua_eq]; decide); exact (congrArg Int32.toInt (ua_ne e)).trans (i10 i (by omega)))) (show 30 - (x4 + 1).toInt ≤ ((n - 1 : Nat) : Int) from by omega)

theorem ms_286 {x : Nat → Nat → Nat} {t : Int32} {s : ps_S} {d : Nat} {x1 : Int32} {x2 : Int32} {f : Int32 → ps_S → Prop} (J : mJ x t s) {σ : mSig} {l nl l0 p q n1 n2 : List Nat} {W0 : List Bool} (hS : Sg (ps_a s 1135) (ps_a s 1136) (ps_a s 1138) (ps_a s 1139) (ps_i s 1131 21).toInt σ) (q1 : Rw (ps_a s 1134) (21812 + 41 * (8 * (ps_i s 1131 21).toInt + x1.toInt)) l) (q2 : RL σ l l0 p q (ps_i s 1131 63).toInt (ps_i s 1131 64).toInt) (q3 : ∀ x, x ∈ l → x < 60) (hN : Rw (ps_a s 1134) (25789 : Int32).toInt nl) (q5 : nl = n1 ++ n2) (q6 : x2.toInt = (n1.length : Int)) (q7 : ws σ n2 (false :: W0)) (q8 : 0 ≤ x1.toInt) (q9 : x1.toInt ≤ 7) (k : ∀ (v : Int32) (s' : ps_S), mJ x t s' → kp [1167, 1168] [65] s s' → (v.toInt ≠ 0 → ∃ mt n3, n2 = mt ++ n3 ∧ ws σ n3 W0 ∧ (ps_i s' 1131 65).toInt = (n1.length : Int) + (mt.length : Int) ∧ BA σ nl (ps_a s' 1167) (ps_a s' 1168) ∧ BB (ps_a s' 1167) p) → v &&& 1 = v → f v s') : ps_Cl (d + 2) 286 [.ref 1131, .int x1, .int x2] s (ps_rI f) := by
  have K : kp [1167, 1168] [65] s s := kp_refl
  refine pg_286_0 (d := d + 1) ?_
  have r1 := mf_21 J
  refine pg_283_0 ?_
  have a2 : ((8 : Int32) * (ps_i s 1131 21)).toInt = (8 : Int) * (ps_i s 1131 21).toInt := xIm (show -2147483648 ≤ (8 : Int) * (ps_i s 1131 21).toInt from by omega) (show (8 : Int) * (ps_i s 1131 21).toInt < 2147483648 from by omega)
  have a3 : (((8 : Int32) * (ps_i s 1131 21)) + x1).toInt = ((8 : Int32) * (ps_i s 1131 21)).toInt + x1.toInt := xIa (show -2147483648 ≤ ((8 : Int32) * (ps_i s 1131 21)).toInt + x1.toInt from by omega) (show ((8 : Int32) * (ps_i s 1131 21)).toInt + x1.toInt < 2147483648 from by omega)
  have a4 : ((41 : Int32) * (((8 : Int32) * (ps_i s 1131 21)) + x1)).toInt = (41 : Int) * (((8 : Int32) * (ps_i s 1131 21)) + x1).toInt := xIm (show -2147483648 ≤ (41 : Int) * (((8 : Int32) * (ps_i s 1131 21)) + x1).toInt from by omega) (show (41 : Int) * (((8 : Int32) * (ps_i s 1131 21)) + x1).toInt < 2147483648 from by omega)
  have a5 : ((21812 : Int32) + ((41 : Int32) * (((8 : Int32) * (ps_i s 1131 21)) + x1))).toInt = (21812 : Int) + ((41 : Int32) * (((8 : Int32) * (ps_i s 1131 21)) + x1)).toInt := xIa (show -2147483648 ≤ (21812 : Int) + ((41 : Int32) * (((8 : Int32) * (ps_i s 1131 21)) + x1)).toInt from by omega) (show (21812 : Int) + ((41 : Int32) * (((8 : Int32) * (ps_i s 1131 21)) + x1)).toInt < 2147483648 from by omega)
  exact ms_286_12 (x1 := x1) (x2 := x2) (σ := σ) (l := l) (nl := nl) (l0 := l0) (p := p) (q := q) (n1 := n1) (n2 := n2) (W0 := W0) k  (30 - (0 : Int)).toNat ((21812 : Int32) + ((41 : Int32) * (((8 : Int32) * (ps_i s 1131 21)) + x1))) (0) _ J K hS ((by rw [show (((21812 : Int32) + ((41 : Int32) * (((8 : Int32) * (ps_i s 1131 21)) + x1)))).toInt = 21812 + 41 * (8 * (ps_i s 1131 21).toInt + x1.toInt) from by omega]; exact q1)) hN (by assumption) (by assumption) (by assumption) (by assumption) (by assumption) (show 0 ≤ (0 : Int) from by omega) (show (0 : Int) ≤ 20 from by omega) (fun i hi => absurd hi (by rw [Int32.toInt_zero]; omega)) (show 30 - (0 : Int) ≤ (((30 - (0 : Int)).toNat : Nat) : Int) from by omega)
