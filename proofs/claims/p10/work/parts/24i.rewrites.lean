set_option maxRecDepth 100000
-- ProofBenchModel.rewrites()Z
theorem pg_287_0 {d : Nat} {s : ps_S} {Q : Option Value → ps_S → Prop} (h :
  ps_At (d + 1) 287 2 [(0, .ref 1131), (1, .int 0)] [] s Q) : ps_At (d + 1) 287 0 [(0, .ref 1131)] [] s Q :=
  ps_wp_at (stops := [(2, [0, 1]), (15, [0, 1, 2]), (77, [0, 3, 4])]) (n := 4) h rfl

theorem pg_287_2 {d : Nat} {x1 : Int32} {s : ps_S} {Q : Option Value → ps_S → Prop} (h :
  ps_Cl d 219 [.ref 1131, .int 25789] s (ps_rI (fun v1 s1 =>
    (v1 ≤ x1 →
      Q (some (.int 0)) s1) ∧
    (x1 < v1 →
      ps_At (d + 1) 287 15 [(0, .ref 1131), (1, .int x1), (2, .int 0)] [] s1 Q)))) : ps_At (d + 1) 287 2 [(0, .ref 1131), (1, .int x1)] [] s Q :=
  ps_wp_at (stops := [(2, [0, 1]), (15, [0, 1, 2]), (77, [0, 3, 4])]) (n := 11) h rfl

theorem pg_287_15 {d : Nat} {x1 : Int32} {x2 : Int32} {s : ps_S} {Q : Option Value → ps_S → Prop} (h :
  ps_nd (pm_in (ps_i s 1131 21) 2) (((ps_a s 1137 (Int32.toNatClampNeg (ps_i s 1131 21))) ≤ x2 →
    ps_At (d + 1) 287 2 [(0, .ref 1131), (1, .int (x1 + 1))] [] s Q) ∧
  (x2 < (ps_a s 1137 (Int32.toNatClampNeg (ps_i s 1131 21))) →
    ps_Cl d 284 [.ref 1131, .int x2] s (ps_rI (fun v1 s1 =>
      (v1 = 0 →
        ps_At (d + 1) 287 15 [(0, .ref 1131), (1, .int x1), (2, .int (x2 + 1))] [] s1 Q) ∧
      (v1 ≠ 0 →
        ps_Cl d 286 [.ref 1131, .int x2, .int x1] s1 (ps_rI (fun v2 s2 =>
          (v2 ≠ 0 →
            ps_Cl d 283 [.int (ps_i s2 1131 21), .int x2] s2 (ps_rI (fun v3 s3 =>
              ps_Cl d 226 [.ref 1131, .int 25789, .int 0, .int x1] (ps_ui s3 1131 34 0) (ps_rV (fun s4 =>
                ps_At (d + 1) 287 77 [(0, .ref 1131), (3, .int v3), (4, .int (ps_i s4 1131 64))] [] s4 Q))))) ∧
          (v2 = 0 →
            ps_At (d + 1) 287 15 [(0, .ref 1131), (1, .int x1), (2, .int (x2 + 1))] [] s2 Q))))))))) : ps_At (d + 1) 287 15 [(0, .ref 1131), (1, .int x1), (2, .int x2)] [] s Q :=
  ps_wp_at (stops := [(2, [0, 1]), (15, [0, 1, 2]), (77, [0, 3, 4])]) (n := 41) h rfl

theorem pg_287_77 {d : Nat} {x3 : Int32} {x4 : Int32} {s : ps_S} {Q : Option Value → ps_S → Prop} (h :
  ps_Cl d 219 [.ref 1131, .int x3] s (ps_rI (fun v1 s1 =>
    (v1 ≤ x4 →
      ps_Cl d 219 [.ref 1131, .int 25789] s1 (ps_rI (fun v2 s2 =>
        ps_Cl d 226 [.ref 1131, .int 25789, .int (ps_i s1 1131 65), .int v2] s2 (ps_rV (fun s3 =>
          Q (some (.int 1)) s3))))) ∧
    (x4 < v1 →
      ps_Cl d 220 [.ref 1131, .int x3, .int x4] s1 (ps_rI (fun v4 s4 =>
        (40 ≤ v4 →
          ps_nd (pm_in (v4 - 40) 20) (ps_nd (pm_in (v4 - 40) 20) (ps_Cl d 226 [.ref 1131, .int 25789, .int (ps_a s4 1167 (Int32.toNatClampNeg (v4 - 40))), .int (ps_a s4 1168 (Int32.toNatClampNeg (v4 - 40)))] s4 (ps_rV (fun s5 =>
            ps_At (d + 1) 287 77 [(0, .ref 1131), (3, .int x3), (4, .int (x4 + 1))] [] s5 Q))))) ∧
        (v4 < 40 →
          ps_Cl d 225 [.ref 1131, .int v4] s4 (ps_rV (fun s6 =>
            ps_At (d + 1) 287 77 [(0, .ref 1131), (3, .int x3), (4, .int (x4 + 1))] [] s6 Q))))))))) : ps_At (d + 1) 287 77 [(0, .ref 1131), (3, .int x3), (4, .int x4)] [] s Q :=
  ps_wp_at (stops := [(2, [0, 1]), (15, [0, 1, 2]), (77, [0, 3, 4])]) (n := 48) h rfl

theorem ms_287_77 {x : Nat → Nat → Nat} {t : Int32} {d : Nat} {s0 : ps_S} {σ : mSig} {nl : List Nat} {Q : Option Value → ps_S → Prop} (k : ∀ (v : Int32) (s' : ps_S), mJ x t s' → kp [1149, 1167, 1168] [34, 63, 64, 65] s0 s' → (v.toInt ≠ 0 → ∃ ml, Md (ps_a s' 1149) (ps_i s' 1131 34).toInt ml ∧ ml.length ≤ 9000 ∧ ws σ ml [false]) → v &&& 1 = v → Q (some (.int v)) s') : ∀ (n : Nat) (x3 : Int32) (x4 : Int32) (l : List Nat) (l0 : List Nat) (p : List Nat) (q : List Nat) (y1 : List Nat) (mt : List Nat) (y3 : List Nat) (W0 : List Bool) (q1 : List Nat) (q2 : List Nat) (m1 : List Nat) (s : ps_S), (mJ x t s) → (kp [1149, 1167, 1168] [34, 63, 64, 65] s0 s) → (Sg (ps_a s 1135) (ps_a s 1136) (ps_a s 1138) (ps_a s 1139) (ps_i s 1131 21).toInt σ) → (Rw (ps_a s 1134) x3.toInt l) → (Rw (ps_a s 1134) (25789 : Int32).toInt nl) → (RL σ l l0 p q (ps_i s 1131 63).toInt (ps_i s 1131 64).toInt) → (∀ x, x ∈ l → x < 60) → (nl = y1 ++ (mt ++ y3)) → ((ps_i s 1131 65).toInt = (y1.length : Int) + (mt.length : Int)) → (BA σ nl (ps_a s 1167) (ps_a s 1168)) → (BB (ps_a s 1167) p) → (q = q1 ++ q2) → (x4.toInt = (l0.length : Int) + 1 + (p.length : Int) + (q1.length : Int)) → (rp σ q1 m1) → ((m1.length : Int) ≤ 40 * (q1.length : Int)) → (Md (ps_a s 1149) (ps_i s 1131 34).toInt (y1 ++ m1)) → (ws σ y3 W0) → (∀ m, ws σ m (false :: W0) → ws σ (y1 ++ m) [false]) → (q2.length : Int) ≤ (n : Int) → ps_At (d + 3) 287 77 [(0, .ref 1131), (3, .int x3), (4, .int x4)] [] s Q := by
  refine xstr (fun n ih => ?_)
  intro x3 x4 l l0 p q y1 mt y3 W0 q1 q2 m1 s J K hS hR hN hRLf i4 i5 h65 hBA hBB i9 i10 i11 i12 i13 i14 i15 hm
  refine pg_287_77 (d := d + 2) ?_
  obtain ⟨hr1, hr2, hr3, hr4, hr5, hr6⟩ := id hR
  have hr1 : x3.toInt % 41 = 0 := hr1
  have hr2 : 0 ≤ x3.toInt := hr2
  have hr3 : x3.toInt < 27306 := hr3
  have hr4 : l.length ≤ 40 := hr4
  have hn : (ps_a s 1134 (Int32.toNatClampNeg x3)).toInt = (l.length : Int) := Rw_n hR
  obtain ⟨g1, g2, g3, g4, g5, g6⟩ := id hRLf
  have g2 : (ps_i s 1131 63).toInt = (l0.length : Int) + 1 := g2
  have g3 : (ps_i s 1131 64).toInt = (l0.length : Int) + 1 + (p.length : Int) := g3
  have hl : (l.length : Int) = l0.length + (p.length + q.length + 1) := by rw [g1, llen, llenc, llen]
  have hq : (q.length : Int) = q1.length + q2.length := by rw [i9]; exact llen
  have hnl : (nl.length : Int) = y1.length + (mt.length + y3.length) := by rw [i5, llen, llen]
  have hN4 : nl.length ≤ 40 := hN.2.2.2.1
  have i10 : x4.toInt = (l0.length : Int) + 1 + (p.length : Int) + (q1.length : Int) := i10
  have hnm : ((y1 ++ m1).length : Int) = y1.length + m1.length := llen
  have h34 := i13.1
  refine pg_219_0 ?_
  refine ps_nd_i (show pm_in x3 27400 = true from xgi (show 0 ≤ x3.toInt from by omega) (show x3.toInt < 27400 from by omega)) ?_
  have r1 : x3.toInt % 41 = 0 → x3.toInt < 27306 → 0 ≤ (ps_a s 1134 (Int32.toNatClampNeg x3)).toInt ∧ (ps_a s 1134 (Int32.toNatClampNeg x3)).toInt ≤ 40 := fun z1 z2 => mp_row (i := x3) J z1 (show 0 ≤ x3.toInt from by omega) z2
  refine And.intro (fun h2 => ?_) (fun h2 => ?_)
  · have f3 : (ps_a s 1134 (Int32.toNatClampNeg x3)).toInt ≤ x4.toInt := xle h2
    have e0 := lnil (W := q2) (by omega)
    subst e0
    rw [List.append_nil] at i9
    subst i9
    have r4 := mf_65 J
    refine pg_219_0 ?_
    refine ps_nd_i (show pm_in (25789 : Int32) 27400 = true from xgi (show 0 ≤ (25789 : Int) from by omega) (show (25789 : Int) < 27400 from by omega)) ?_
    have r5 : (25789 : Int) % 41 = 0 → (25789 : Int) < 27306 → 0 ≤ (ps_a s 1134 (Int32.toNatClampNeg (25789 : Int32))).toInt ∧ (ps_a s 1134 (Int32.toNatClampNeg (25789 : Int32))).toInt ≤ 40 := fun z1 z2 => mp_row (i := (25789 : Int32)) J z1 (show 0 ≤ (25789 : Int) from by omega) z2
    refine ms_226 J ((show Rw (ps_a s 1134) ((25789 : Int32)).toInt ((y1 ++ mt) ++ (y3 ++ [])) from by rw [List.append_nil, List.append_assoc, ← i5]; exact hN)) (i13) ((show ((ps_i s 1131 65)).toInt = ((y1 ++ mt).length : Int) from by rw [llen]; exact h65)) ((Or.inl ((Rw_n hN).trans (by rw [i5, llen, llen, llen]; omega)))) ((by omega)) (fun s6 J6 K6 p6_0 => ?_)
    have K7 := kpt K K6 rfl rfl
    have hS : Sg (ps_a s6 1135) (ps_a s6 1136) (ps_a s6 1138) (ps_a s6 1139) (ps_i s6 1131 21).toInt σ := by rw [show ps_a s6 1135 = ps_a s 1135 from (K6.2 1135 rfl).1, show ps_a s6 1136 = ps_a s 1136 from (K6.2 1136 rfl).1, show ps_a s6 1138 = ps_a s 1138 from (K6.2 1138 rfl).1, show ps_a s6 1139 = ps_a s 1139 from (K6.2 1139 rfl).1, show ps_i s6 1131 21 = ps_i s 1131 21 from kp_i K6 21 rfl]; exact hS
    have hR : Rw (ps_a s6 1134) x3.toInt l := by rw [show ps_a s6 1134 = ps_a s 1134 from (K6.2 1134 rfl).1]; exact hR
    have hN : Rw (ps_a s6 1134) (25789 : Int32).toInt nl := by rw [show ps_a s6 1134 = ps_a s 1134 from (K6.2 1134 rfl).1]; exact hN
    have hRLf : RL σ l l0 p q (ps_i s6 1131 63).toInt (ps_i s6 1131 64).toInt := by rw [show ps_i s6 1131 63 = ps_i s 1131 63 from kp_i K6 63 rfl, show ps_i s6 1131 64 = ps_i s 1131 64 from kp_i K6 64 rfl]; exact hRLf
    have h65 : (ps_i s6 1131 65).toInt = (y1.length : Int) + (mt.length : Int) := by rw [show ps_i s6 1131 65 = ps_i s 1131 65 from kp_i K6 65 rfl]; exact h65
    have hBA : BA σ nl (ps_a s6 1167) (ps_a s6 1168) := by rw [show ps_a s6 1167 = ps_a s 1167 from (K6.2 1167 rfl).1, show ps_a s6 1168 = ps_a s 1168 from (K6.2 1168 rfl).1]; exact hBA
    have hBB : BB (ps_a s6 1167) p := by rw [show ps_a s6 1167 = ps_a s 1167 from (K6.2 1167 rfl).1]; exact hBB
    have hM3 : Md (ps_a s6 1149) (ps_i s6 1131 34).toInt ((y1 ++ m1) ++ y3) := p6_0
    exact k (1 : Int32) _ J6 K7 ((fun _ => ⟨_, hM3, (by simp only [List.length_append]; omega), (by rw [List.append_assoc]; exact i15 _ (ws_app (W1 := [false]) (rp_ws (Sg_σ hS) i11 g5) i14))⟩)) (by decide)
  · have f8 : x4.toInt < (ps_a s 1134 (Int32.toNatClampNeg x3)).toInt := xlt h2
    obtain ⟨c, q3, rfl⟩ := lpos (W := q2) (by omega)
    rw [llenc] at hq hm
    have hc60 : c < 60 := i4 c (by rw [g1, i9]; simp)
    have hcq : c ∈ q := by rw [i9]; simp
    refine pg_220_0 ?_
    have a9 : (x3 + 1).toInt = x3.toInt + (1 : Int) := xIa (show -2147483648 ≤ x3.toInt + (1 : Int) from by omega) (show x3.toInt + (1 : Int) < 2147483648 from by omega)
    have a10 : ((x3 + 1) + x4).toInt = (x3 + 1).toInt + x4.toInt := xIa (show -2147483648 ≤ (x3 + 1).toInt + x4.toInt from by omega) (show (x3 + 1).toInt + x4.toInt < 2147483648 from by omega)
    refine ps_nd_i (show pm_in ((x3 + 1) + x4) 27400 = true from xgi (show 0 ≤ ((x3 + 1) + x4).toInt from by omega) (show ((x3 + 1) + x4).toInt < 27400 from by omega)) ?_
    have r11 : ((x3 + 1) + x4).toInt % 41 = 0 → ((x3 + 1) + x4).toInt < 27306 → 0 ≤ (ps_a s 1134 (Int32.toNatClampNeg ((x3 + 1) + x4))).toInt ∧ (ps_a s 1134 (Int32.toNatClampNeg ((x3 + 1) + x4))).toInt ≤ 40 := fun z1 z2 => mp_row (i := ((x3 + 1) + x4)) J z1 (show 0 ≤ ((x3 + 1) + x4).toInt from by omega) z2
    have hp : ((ps_a s 1134 (Int32.toNatClampNeg ((x3 + 1) + x4)))).toInt = (c : Int) := Rw_p (l1 := l0 ++ 6 :: (p ++ q1)) (l2 := q3) hR (by rw [g1, i9]; simp) (by rw [llen, llenc, llen]; omega)
    refine And.intro (fun h12 => ?_) (fun h12 => ?_)
    · have f13 : (40 : Int) ≤ (ps_a s 1134 (Int32.toNatClampNeg ((x3 + 1) + x4))).toInt := xle h12
      have a14 : ((ps_a s 1134 (Int32.toNatClampNeg ((x3 + 1) + x4))) - 40).toInt = (ps_a s 1134 (Int32.toNatClampNeg ((x3 + 1) + x4))).toInt - (40 : Int) := xIs (show -2147483648 ≤ (ps_a s 1134 (Int32.toNatClampNeg ((x3 + 1) + x4))).toInt - (40 : Int) from by omega) (show (ps_a s 1134 (Int32.toNatClampNeg ((x3 + 1) + x4))).toInt - (40 : Int) < 2147483648 from by omega)
      have e7 : Int32.toNatClampNeg (((ps_a s 1134 (Int32.toNatClampNeg ((x3 + 1) + x4))) - 40)) = c - 40 := by rw [nx (n := (c : Int) - 40) (by omega)]; omega
      refine ps_nd_i (show pm_in ((ps_a s 1134 (Int32.toNatClampNeg ((x3 + 1) + x4))) - 40) 20 = true from xgi (show 0 ≤ ((ps_a s 1134 (Int32.toNatClampNeg ((x3 + 1) + x4))) - 40).toInt from by omega) (show ((ps_a s 1134 (Int32.toNatClampNeg ((x3 + 1) + x4))) - 40).toInt < 20 from by omega)) ?_
      have r15 : -1 ≤ (ps_a s 1167 (Int32.toNatClampNeg ((ps_a s 1134 (Int32.toNatClampNeg ((x3 + 1) + x4))) - 40))).toInt ∧ (ps_a s 1167 (Int32.toNatClampNeg ((ps_a s 1134 (Int32.toNatClampNeg ((x3 + 1) + x4))) - 40))).toInt ≤ 40 := ma_1167 (i := ((ps_a s 1134 (Int32.toNatClampNeg ((x3 + 1) + x4))) - 40)) J (show 0 ≤ ((ps_a s 1134 (Int32.toNatClampNeg ((x3 + 1) + x4))) - 40).toInt from by omega) (show ((ps_a s 1134 (Int32.toNatClampNeg ((x3 + 1) + x4))) - 40).toInt < 20 from by omega)
      refine ps_nd_i (show pm_in ((ps_a s 1134 (Int32.toNatClampNeg ((x3 + 1) + x4))) - 40) 20 = true from xgi (show 0 ≤ ((ps_a s 1134 (Int32.toNatClampNeg ((x3 + 1) + x4))) - 40).toInt from by omega) (show ((ps_a s 1134 (Int32.toNatClampNeg ((x3 + 1) + x4))) - 40).toInt < 20 from by omega)) ?_
      have r16 : 0 ≤ (ps_a s 1168 (Int32.toNatClampNeg ((ps_a s 1134 (Int32.toNatClampNeg ((x3 + 1) + x4))) - 40))).toInt ∧ (ps_a s 1168 (Int32.toNatClampNeg ((ps_a s 1134 (Int32.toNatClampNeg ((x3 + 1) + x4))) - 40))).toInt ≤ 40 := ma_1168 (i := ((ps_a s 1134 (Int32.toNatClampNeg ((x3 + 1) + x4))) - 40)) J (show 0 ≤ ((ps_a s 1134 (Int32.toNatClampNeg ((x3 + 1) + x4))) - 40).toInt from by omega) (show ((ps_a s 1134 (Int32.toNatClampNeg ((x3 + 1) + x4))) - 40).toInt < 20 from by omega)
      obtain ⟨a, tm, d, hb1, hb2, hb3, hb4⟩ := hBA (c - 40) (by omega) (hBB c (g6 c hcq (by omega)) (by omega))
      have htd : (nl.length : Int) = a.length + (tm.length + d.length) := by rw [hb1, llen, llen]
      refine ms_226 J ((show Rw (ps_a s 1134) ((25789 : Int32)).toInt (a ++ (tm ++ d)) from by rw [← hb1]; exact hN)) (i13) ((show ((ps_a s 1167 (Int32.toNatClampNeg ((ps_a s 1134 (Int32.toNatClampNeg ((x3 + 1) + x4))) - 40)))).toInt = (a.length : Int) from by rw [e7]; exact hb2)) ((Or.inl (show ((ps_a s 1168 (Int32.toNatClampNeg ((ps_a s 1134 (Int32.toNatClampNeg ((x3 + 1) + x4))) - 40)))).toInt = (a.length : Int) + (tm.length : Int) from by rw [e7]; exact hb3))) ((by omega)) (fun s17 J17 K17 p17_0 => ?_)
      have K18 := kpt K K17 rfl rfl
      have hS : Sg (ps_a s17 1135) (ps_a s17 1136) (ps_a s17 1138) (ps_a s17 1139) (ps_i s17 1131 21).toInt σ := by rw [show ps_a s17 1135 = ps_a s 1135 from (K17.2 1135 rfl).1, show ps_a s17 1136 = ps_a s 1136 from (K17.2 1136 rfl).1, show ps_a s17 1138 = ps_a s 1138 from (K17.2 1138 rfl).1, show ps_a s17 1139 = ps_a s 1139 from (K17.2 1139 rfl).1, show ps_i s17 1131 21 = ps_i s 1131 21 from kp_i K17 21 rfl]; exact hS
      have hR : Rw (ps_a s17 1134) x3.toInt l := by rw [show ps_a s17 1134 = ps_a s 1134 from (K17.2 1134 rfl).1]; exact hR
      have hN : Rw (ps_a s17 1134) (25789 : Int32).toInt nl := by rw [show ps_a s17 1134 = ps_a s 1134 from (K17.2 1134 rfl).1]; exact hN
      have hRLf : RL σ l l0 p q (ps_i s17 1131 63).toInt (ps_i s17 1131 64).toInt := by rw [show ps_i s17 1131 63 = ps_i s 1131 63 from kp_i K17 63 rfl, show ps_i s17 1131 64 = ps_i s 1131 64 from kp_i K17 64 rfl]; exact hRLf
      have h65 : (ps_i s17 1131 65).toInt = (y1.length : Int) + (mt.length : Int) := by rw [show ps_i s17 1131 65 = ps_i s 1131 65 from kp_i K17 65 rfl]; exact h65
      have hBA : BA σ nl (ps_a s17 1167) (ps_a s17 1168) := by rw [show ps_a s17 1167 = ps_a s 1167 from (K17.2 1167 rfl).1, show ps_a s17 1168 = ps_a s 1168 from (K17.2 1168 rfl).1]; exact hBA
      have hBB : BB (ps_a s17 1167) p := by rw [show ps_a s17 1167 = ps_a s 1167 from (K17.2 1167 rfl).1]; exact hBB
      have hM2 : Md (ps_a s17 1149) (ps_i s17 1131 34).toInt ((y1 ++ m1) ++ tm) := p17_0
      have hnew : ∃ m9 : List Nat, rp σ (q1 ++ [c]) m9 ∧ (m9.length : Int) ≤ 40 * ((q1 ++ [c]).length : Int) ∧ Md (ps_a s17 1149) (ps_i s17 1131 34).toInt (y1 ++ m9) := by first | exact hnew0 | exact ⟨m1 ++ tm, rp_snoc i11 (Or.inr ⟨by omega, by omega, hb4⟩), rp_len (σ := σ) i12 (by omega), (by rw [← List.append_assoc]; exact hM2)⟩
      have a19 : (x4 + 1).toInt = x4.toInt + (1 : Int) := xIa (show -2147483648 ≤ x4.toInt + (1 : Int) from by omega) (show x4.toInt + (1 : Int) < 2147483648 from by omega)
      obtain ⟨m9, e1, e2, e3⟩ := hnew
      exact ih (n - 1) (show n - 1 < n from by omega) x3 (x4 + 1) l l0 p q y1 mt y3 W0 (q1 ++ [c]) q3 m9 _ J17 K18 hS hR hN hRLf (i4) (i5) h65 hBA hBB (i9.trans (lcat q1 c q3)) ((show ((x4 + 1)).toInt = (l0.length : Int) + 1 + (p.length : Int) + ((q1 ++ [c]).length : Int) from by rw [l1c]; omega)) (e1) (e2) (e3) (i14) (i15) (show (q3.length : Int) ≤ ((n - 1 : Nat) : Int) from by omega)
    · have f20 : (ps_a s 1134 (Int32.toNatClampNeg ((x3 + 1) + x4))).toInt < (40 : Int) := xlt h12
      refine pg_225_0 ?_
      have r21 := mf_34 J
      refine And.intro (fun h22 => ?_) (fun h22 => ?_)
      · have f23 : (260 : Int) ≤ (ps_i s 1131 34).toInt := xle h22
        have a24 : ((ps_i s 1131 34) + 1).toInt = (ps_i s 1131 34).toInt + (1 : Int) := xIa (show -2147483648 ≤ (ps_i s 1131 34).toInt + (1 : Int) from by omega) (show (ps_i s 1131 34).toInt + (1 : Int) < 2147483648 from by omega)
        have J25 := mwi_34 (v := ((ps_i s 1131 34) + 1)) J (show 0 ≤ ((ps_i s 1131 34) + 1).toInt from by omega) (show ((ps_i s 1131 34) + 1).toInt ≤ 100000 from by omega)
        have K26 := kpi K (q := 34) (v := ((ps_i s 1131 34) + 1)) rfl
        have hnew0 : ∃ m9 : List Nat, rp σ (q1 ++ [c]) m9 ∧ (m9.length : Int) ≤ 40 * ((q1 ++ [c]).length : Int) ∧ Md (ps_a (ps_ui s 1131 34 ((ps_i s 1131 34) + 1)) 1149) (ps_i (ps_ui s 1131 34 ((ps_i s 1131 34) + 1)) 1131 34).toInt (y1 ++ m9) := ⟨m1 ++ [c], rp_snoc i11 (Or.inl rfl), rp_len (σ := σ) i12 (by rw [List.length_singleton]; decide), (by rw [← List.append_assoc]; first | exact Md_make i13 hp (by omega) | exact Md_make' i13 (by omega) (by omega))⟩
        have hnew : ∃ m9 : List Nat, rp σ (q1 ++ [c]) m9 ∧ (m9.length : Int) ≤ 40 * ((q1 ++ [c]).length : Int) ∧ Md (ps_a (ps_ui s 1131 34 ((ps_i s 1131 34) + 1)) 1149) (ps_i (ps_ui s 1131 34 ((ps_i s 1131 34) + 1)) 1131 34).toInt (y1 ++ m9) := by first | exact hnew0 | exact ⟨m1 ++ tm, rp_snoc i11 (Or.inr ⟨by omega, by omega, hb4⟩), rp_len (σ := σ) i12 (by omega), (by rw [← List.append_assoc]; exact hM2)⟩
        have a27 : (x4 + 1).toInt = x4.toInt + (1 : Int) := xIa (show -2147483648 ≤ x4.toInt + (1 : Int) from by omega) (show x4.toInt + (1 : Int) < 2147483648 from by omega)
        obtain ⟨m9, e1, e2, e3⟩ := hnew
        exact ih (n - 1) (show n - 1 < n from by omega) x3 (x4 + 1) l l0 p q y1 mt y3 W0 (q1 ++ [c]) q3 m9 _ J25 K26 hS hR hN hRLf (i4) (i5) h65 hBA hBB (i9.trans (lcat q1 c q3)) ((show ((x4 + 1)).toInt = (l0.length : Int) + 1 + (p.length : Int) + ((q1 ++ [c]).length : Int) from by rw [l1c]; omega)) (e1) (e2) (e3) (i14) (i15) (show (q3.length : Int) ≤ ((n - 1 : Nat) : Int) from by omega)
      · have f28 : (ps_i s 1131 34).toInt < (260 : Int) := xlt h22
        refine ps_nd_i (show pm_in (ps_i s 1131 34) 260 = true from xgi (show 0 ≤ (ps_i s 1131 34).toInt from by omega) (show (ps_i s 1131 34).toInt < 260 from by omega)) ?_
        have J29 := mwa_n 1149 (i := (Int32.toNatClampNeg (ps_i s 1131 34))) (v := (ps_a s 1134 (Int32.toNatClampNeg ((x3 + 1) + x4)))) J rfl (by decide)
        have K30 := kpa' K (r := 1149) (i := (Int32.toNatClampNeg (ps_i s 1131 34))) (v := (ps_a s 1134 (Int32.toNatClampNeg ((x3 + 1) + x4)))) rfl
        have a31 : ((ps_i s 1131 34) + 1).toInt = (ps_i s 1131 34).toInt + (1 : Int) := xIa (show -2147483648 ≤ (ps_i s 1131 34).toInt + (1 : Int) from by omega) (show (ps_i s 1131 34).toInt + (1 : Int) < 2147483648 from by omega)
        have J32 := mwi_34 (v := ((ps_i s 1131 34) + 1)) J29 (show 0 ≤ ((ps_i s 1131 34) + 1).toInt from by omega) (show ((ps_i s 1131 34) + 1).toInt ≤ 100000 from by omega)
        have K33 := kpi K30 (q := 34) (v := ((ps_i s 1131 34) + 1)) rfl
        have hnew0 : ∃ m9 : List Nat, rp σ (q1 ++ [c]) m9 ∧ (m9.length : Int) ≤ 40 * ((q1 ++ [c]).length : Int) ∧ Md (ps_a (ps_ui (ps_ua s 1149 (Int32.toNatClampNeg (ps_i s 1131 34)) (ps_a s 1134 (Int32.toNatClampNeg ((x3 + 1) + x4)))) 1131 34 ((ps_i s 1131 34) + 1)) 1149) (ps_i (ps_ui (ps_ua s 1149 (Int32.toNatClampNeg (ps_i s 1131 34)) (ps_a s 1134 (Int32.toNatClampNeg ((x3 + 1) + x4)))) 1131 34 ((ps_i s 1131 34) + 1)) 1131 34).toInt (y1 ++ m9) := ⟨m1 ++ [c], rp_snoc i11 (Or.inl rfl), rp_len (σ := σ) i12 (by rw [List.length_singleton]; decide), (by rw [← List.append_assoc]; first | exact Md_make i13 hp (by omega) | exact Md_make' i13 (by omega) (by omega))⟩
        have hnew : ∃ m9 : List Nat, rp σ (q1 ++ [c]) m9 ∧ (m9.length : Int) ≤ 40 * ((q1 ++ [c]).length : Int) ∧ Md (ps_a (ps_ui (ps_ua s 1149 (Int32.toNatClampNeg (ps_i s 1131 34)) (ps_a s 1134 (Int32.toNatClampNeg ((x3 + 1) + x4)))) 1131 34 ((ps_i s 1131 34) + 1)) 1149) (ps_i (ps_ui (ps_ua s 1149 (Int32.toNatClampNeg (ps_i s 1131 34)) (ps_a s 1134 (Int32.toNatClampNeg ((x3 + 1) + x4)))) 1131 34 ((ps_i s 1131 34) + 1)) 1131 34).toInt (y1 ++ m9) := by first | exact hnew0 | exact ⟨m1 ++ tm, rp_snoc i11 (Or.inr ⟨by omega, by omega, hb4⟩), rp_len (σ := σ) i12 (by omega), (by rw [← List.append_assoc]; exact hM2)⟩
        have a34 : (x4 + 1).toInt = x4.toInt + (1 : Int) := xIa (show -2147483648 ≤ x4.toInt + (1 : Int) from by omega) (show x4.toInt + (1 : Int) < 2147483648 from by omega)
        obtain ⟨m9, e1, e2, e3⟩ := hnew
        exact ih (n - 1) (show n - 1 < n from by omega) x3 (x4 + 1) l l0 p q y1 mt y3 W0 (q1 ++ [c]) q3 m9 _ J32 K33 hS hR hN hRLf (i4) (i5) h65 hBA hBB (i9.trans (lcat q1 c q3)) ((show ((x4 + 1)).toInt = (l0.length : Int) + 1 + (p.length : Int) + ((q1 ++ [c]).length : Int) from by rw [l1c]; omega)) (e1) (e2) (e3) (i14) (i15) (show (q3.length : Int) ≤ ((n - 1 : Nat) : Int) from by omega)

theorem ms_287_15 {x : Nat → Nat → Nat} {t : Int32} {d : Nat} {s0 : ps_S} {σ : mSig} {nl : List Nat} {Q : Option Value → ps_S → Prop} (k : ∀ (v : Int32) (s' : ps_S), mJ x t s' → kp [1149, 1167, 1168] [34, 63, 64, 65] s0 s' → (v.toInt ≠ 0 → ∃ ml, Md (ps_a s' 1149) (ps_i s' 1131 34).toInt ml ∧ ml.length ≤ 9000 ∧ ws σ ml [false]) → v &&& 1 = v → Q (some (.int v)) s') (n2 : Nat) (KH2 : ∀ (x1 : Int32) (s : ps_S), (mJ x t s) → (kp [1149, 1167, 1168] [34, 63, 64, 65] s0 s) → (MI σ (ps_a s 1134) (ps_a s 1135) (ps_a s 1136) (ps_a s 1137) (ps_a s 1138) (ps_a s 1139) (ps_a s 1157) (ps_a s 1176) (ps_i s 1131 21).toInt (ps_i s 1131 47).toInt (ps_i s 1131 54).toInt) → (Rw (ps_a s 1134) (25789 : Int32).toInt nl) → (ws σ nl [false]) → (0 ≤ x1.toInt) → (x1.toInt ≤ 40) → (50 - x1.toInt ≤ (n2 : Int) - 1) → ps_At (d + 3) 287 2 [(0, .ref 1131), (1, .int x1)] [] s Q) : ∀ (n : Nat) (x1 : Int32) (x2 : Int32) (s : ps_S), (mJ x t s) → (kp [1149, 1167, 1168] [34, 63, 64, 65] s0 s) → (MI σ (ps_a s 1134) (ps_a s 1135) (ps_a s 1136) (ps_a s 1137) (ps_a s 1138) (ps_a s 1139) (ps_a s 1157) (ps_a s 1176) (ps_i s 1131 21).toInt (ps_i s 1131 47).toInt (ps_i s 1131 54).toInt) → (Rw (ps_a s 1134) (25789 : Int32).toInt nl) → (ws σ nl [false]) → (0 ≤ x1.toInt) → (x1.toInt ≤ 40) → (0 ≤ x2.toInt) → (x2.toInt ≤ 8) → (x1.toInt < (nl.length : Int)) → (50 - x1.toInt ≤ (n2 : Int)) → 20 - x2.toInt ≤ (n : Int) → ps_At (d + 3) 287 15 [(0, .ref 1131), (1, .int x1), (2, .int x2)] [] s Q := by
  refine xstr (fun n ih => ?_)
  intro x1 x2 s J K hMI hN i2 i3 i4 i5 i6 i7 hm2 hm
  refine pg_287_15 (d := d + 2) ?_
  have hN4 := hN.2.2.2.1
  have i7 : x1.toInt < (nl.length : Int) := i7
  have r1 := mf_21 J
  refine ps_nd_i (show pm_in (ps_i s 1131 21) 2 = true from xgi (show 0 ≤ (ps_i s 1131 21).toInt from by omega) (show (ps_i s 1131 21).toInt < 2 from by omega)) ?_
  have r2 : 0 ≤ (ps_a s 1137 (Int32.toNatClampNeg (ps_i s 1131 21))).toInt ∧ (ps_a s 1137 (Int32.toNatClampNeg (ps_i s 1131 21))).toInt ≤ 8 := ma_1137 (i := (ps_i s 1131 21)) J (show 0 ≤ (ps_i s 1131 21).toInt from by omega) (show (ps_i s 1131 21).toInt < 2 from by omega)
  refine And.intro (fun h3 => ?_) (fun h3 => ?_)
  · have f4 : (ps_a s 1137 (Int32.toNatClampNeg (ps_i s 1131 21))).toInt ≤ x2.toInt := xle h3
    have a5 : (x1 + 1).toInt = x1.toInt + (1 : Int) := xIa (show -2147483648 ≤ x1.toInt + (1 : Int) from by omega) (show x1.toInt + (1 : Int) < 2147483648 from by omega)
    exact KH2 (x1 + 1) _ J K hMI hN (by assumption) (show 0 ≤ (x1 + 1).toInt from by omega) (show (x1 + 1).toInt ≤ 40 from by omega) (show 50 - (x1 + 1).toInt ≤ (n2 : Int) - 1 from by omega)
  · have f6 : x2.toInt < (ps_a s 1137 (Int32.toNatClampNeg (ps_i s 1131 21))).toInt := xlt h3
    obtain ⟨l, hl1, hl2, hl3⟩ := MI_ax (k := x2) hMI (by omega) (show (x2).toInt < (ps_a s 1137 (Int32.toNatClampNeg (ps_i s 1131 21))).toInt from by omega) (by omega) rfl
    have hS := MI_S hMI
    have hRl : Rw (ps_a s 1134) (21812 + 41 * (8 * (ps_i s 1131 21).toInt + x2.toInt)) l := hl1
    obtain ⟨bk0, hbk⟩ : ∃ bk0 : Int, (ps_i s 1131 21).toInt = bk0 := ⟨_, rfl⟩
    refine ms_284 J hS (hRl) ((wf_ws hl2)) (show 0 ≤ x2.toInt from by omega) (show x2.toInt ≤ 7 from by omega) (fun v7 s7 J7 K7 p7_0 b7 => ?_)
    have K8 := kpt K K7 rfl rfl
    have hMI : MI σ (ps_a s7 1134) (ps_a s7 1135) (ps_a s7 1136) (ps_a s7 1137) (ps_a s7 1138) (ps_a s7 1139) (ps_a s7 1157) (ps_a s7 1176) (ps_i s7 1131 21).toInt (ps_i s7 1131 47).toInt (ps_i s7 1131 54).toInt := by rw [show ps_a s7 1134 = ps_a s 1134 from (K7.2 1134 rfl).1, show ps_a s7 1135 = ps_a s 1135 from (K7.2 1135 rfl).1, show ps_a s7 1136 = ps_a s 1136 from (K7.2 1136 rfl).1, show ps_a s7 1137 = ps_a s 1137 from (K7.2 1137 rfl).1, show ps_a s7 1138 = ps_a s 1138 from (K7.2 1138 rfl).1, show ps_a s7 1139 = ps_a s 1139 from (K7.2 1139 rfl).1, show ps_a s7 1157 = ps_a s 1157 from (K7.2 1157 rfl).1, show ps_a s7 1176 = ps_a s 1176 from (K7.2 1176 rfl).1, show ps_i s7 1131 21 = ps_i s 1131 21 from kp_i K7 21 rfl, show ps_i s7 1131 47 = ps_i s 1131 47 from kp_i K7 47 rfl, show ps_i s7 1131 54 = ps_i s 1131 54 from kp_i K7 54 rfl]; exact hMI
    have hN : Rw (ps_a s7 1134) (25789 : Int32).toInt nl := by rw [show ps_a s7 1134 = ps_a s 1134 from (K7.2 1134 rfl).1]; exact hN
    have hS : Sg (ps_a s7 1135) (ps_a s7 1136) (ps_a s7 1138) (ps_a s7 1139) (ps_i s7 1131 21).toInt σ := by rw [show ps_a s7 1135 = ps_a s 1135 from (K7.2 1135 rfl).1, show ps_a s7 1136 = ps_a s 1136 from (K7.2 1136 rfl).1, show ps_a s7 1138 = ps_a s 1138 from (K7.2 1138 rfl).1, show ps_a s7 1139 = ps_a s 1139 from (K7.2 1139 rfl).1, show ps_i s7 1131 21 = ps_i s 1131 21 from kp_i K7 21 rfl]; exact hS
    have hRl : Rw (ps_a s7 1134) (21812 + 41 * (8 * (ps_i s7 1131 21).toInt + x2.toInt)) l := by rw [show ps_a s7 1134 = ps_a s 1134 from (K7.2 1134 rfl).1, show ps_i s7 1131 21 = ps_i s 1131 21 from kp_i K7 21 rfl]; exact hRl
    have hbk : (ps_i s7 1131 21).toInt = bk0 := by rw [show ps_i s7 1131 21 = ps_i s 1131 21 from kp_i K7 21 rfl]; exact hbk
    have hrl : _ := p7_0
    refine And.intro (fun h9 => ?_) (fun h9 => ?_)
    · have f10 : v7.toInt = (0 : Int) := xeq h9
      have a11 : (x2 + 1).toInt = x2.toInt + (1 : Int) := xIa (show -2147483648 ≤ x2.toInt + (1 : Int) from by omega) (show x2.toInt + (1 : Int) < 2147483648 from by omega)
      exact ih (n - 1) (show n - 1 < n from by omega) x1 (x2 + 1) _ J7 K8 hMI hN (by assumption) (show 0 ≤ x1.toInt from by omega) (show x1.toInt ≤ 40 from by omega) (show 0 ≤ (x2 + 1).toInt from by omega) (show (x2 + 1).toInt ≤ 8 from by omega) (by assumption) (show 50 - x1.toInt ≤ (n2 : Int) from by omega) (show 20 - (x2 + 1).toInt ≤ ((n - 1 : Nat) : Int) from by omega)
    · have f12 : v7.toInt ≠ (0 : Int) := xne h9
      obtain ⟨l0, p, q, hRLf⟩ := hrl (by omega)
      obtain ⟨y1, y2, hn12, hi1⟩ := lsplit (l := nl) (i := x1.toInt) (by omega) (by omega)
      have hn2l : (nl.length : Int) = y1.length + y2.length := by rw [hn12]; exact llen
      obtain ⟨W0, hw0, hctx⟩ := ws_at (by rw [← hn12]; exact i2) (show 0 < (y2.length : Int) from by omega)
      refine ms_286 J7 hS (hRl) (hRLf) (hl3) hN (hn12) (hi1) (hw0) (show 0 ≤ x2.toInt from by omega) (show x2.toInt ≤ 7 from by omega) (fun v13 s13 J13 K13 p13_0 b13 => ?_)
      have K14 := kpt K8 K13 rfl rfl
      have hMI : MI σ (ps_a s13 1134) (ps_a s13 1135) (ps_a s13 1136) (ps_a s13 1137) (ps_a s13 1138) (ps_a s13 1139) (ps_a s13 1157) (ps_a s13 1176) (ps_i s13 1131 21).toInt (ps_i s13 1131 47).toInt (ps_i s13 1131 54).toInt := by rw [show ps_a s13 1134 = ps_a s7 1134 from (K13.2 1134 rfl).1, show ps_a s13 1135 = ps_a s7 1135 from (K13.2 1135 rfl).1, show ps_a s13 1136 = ps_a s7 1136 from (K13.2 1136 rfl).1, show ps_a s13 1137 = ps_a s7 1137 from (K13.2 1137 rfl).1, show ps_a s13 1138 = ps_a s7 1138 from (K13.2 1138 rfl).1, show ps_a s13 1139 = ps_a s7 1139 from (K13.2 1139 rfl).1, show ps_a s13 1157 = ps_a s7 1157 from (K13.2 1157 rfl).1, show ps_a s13 1176 = ps_a s7 1176 from (K13.2 1176 rfl).1, show ps_i s13 1131 21 = ps_i s7 1131 21 from kp_i K13 21 rfl, show ps_i s13 1131 47 = ps_i s7 1131 47 from kp_i K13 47 rfl, show ps_i s13 1131 54 = ps_i s7 1131 54 from kp_i K13 54 rfl]; exact hMI
      have hN : Rw (ps_a s13 1134) (25789 : Int32).toInt nl := by rw [show ps_a s13 1134 = ps_a s7 1134 from (K13.2 1134 rfl).1]; exact hN
      have hS : Sg (ps_a s13 1135) (ps_a s13 1136) (ps_a s13 1138) (ps_a s13 1139) (ps_i s13 1131 21).toInt σ := by rw [show ps_a s13 1135 = ps_a s7 1135 from (K13.2 1135 rfl).1, show ps_a s13 1136 = ps_a s7 1136 from (K13.2 1136 rfl).1, show ps_a s13 1138 = ps_a s7 1138 from (K13.2 1138 rfl).1, show ps_a s13 1139 = ps_a s7 1139 from (K13.2 1139 rfl).1, show ps_i s13 1131 21 = ps_i s7 1131 21 from kp_i K13 21 rfl]; exact hS
      have hRl : Rw (ps_a s13 1134) (21812 + 41 * (8 * (ps_i s13 1131 21).toInt + x2.toInt)) l := by rw [show ps_a s13 1134 = ps_a s7 1134 from (K13.2 1134 rfl).1, show ps_i s13 1131 21 = ps_i s7 1131 21 from kp_i K13 21 rfl]; exact hRl
      have hbk : (ps_i s13 1131 21).toInt = bk0 := by rw [show ps_i s13 1131 21 = ps_i s7 1131 21 from kp_i K13 21 rfl]; exact hbk
      have hRLf : RL σ l l0 p q (ps_i s13 1131 63).toInt (ps_i s13 1131 64).toInt := by rw [show ps_i s13 1131 63 = ps_i s7 1131 63 from kp_i K13 63 rfl, show ps_i s13 1131 64 = ps_i s7 1131 64 from kp_i K13 64 rfl]; exact hRLf
      have hst : _ := p13_0
      refine And.intro (fun h15 => ?_) (fun h15 => ?_)
      · have f16 : v13.toInt ≠ (0 : Int) := xne h15
        obtain ⟨mt, y3, hm1, hm2, h65, hBA, hBB⟩ := hst (by omega)
        have hm1l : (y2.length : Int) = mt.length + y3.length := by rw [hm1]; exact llen
        obtain ⟨g1, g2, g3, g4, g5, g6⟩ := id hRLf
        have r17 := mf_21 J13
        have u18 : (ps_i s13 1131 21).toInt = (ps_i s7 1131 21).toInt := xeq (kp_i K13 21 rfl)
        have r19 := mf_21 J7
        have u20 : (ps_i s7 1131 21).toInt = (ps_i s 1131 21).toInt := xeq (kp_i K7 21 rfl)
        refine pg_283_0 ?_
        have a21 : ((8 : Int32) * (ps_i s13 1131 21)).toInt = (8 : Int) * (ps_i s13 1131 21).toInt := xIm (show -2147483648 ≤ (8 : Int) * (ps_i s13 1131 21).toInt from by omega) (show (8 : Int) * (ps_i s13 1131 21).toInt < 2147483648 from by omega)
        have a22 : (((8 : Int32) * (ps_i s13 1131 21)) + x2).toInt = ((8 : Int32) * (ps_i s13 1131 21)).toInt + x2.toInt := xIa (show -2147483648 ≤ ((8 : Int32) * (ps_i s13 1131 21)).toInt + x2.toInt from by omega) (show ((8 : Int32) * (ps_i s13 1131 21)).toInt + x2.toInt < 2147483648 from by omega)
        have a23 : ((41 : Int32) * (((8 : Int32) * (ps_i s13 1131 21)) + x2)).toInt = (41 : Int) * (((8 : Int32) * (ps_i s13 1131 21)) + x2).toInt := xIm (show -2147483648 ≤ (41 : Int) * (((8 : Int32) * (ps_i s13 1131 21)) + x2).toInt from by omega) (show (41 : Int) * (((8 : Int32) * (ps_i s13 1131 21)) + x2).toInt < 2147483648 from by omega)
        have a24 : ((21812 : Int32) + ((41 : Int32) * (((8 : Int32) * (ps_i s13 1131 21)) + x2))).toInt = (21812 : Int) + ((41 : Int32) * (((8 : Int32) * (ps_i s13 1131 21)) + x2)).toInt := xIa (show -2147483648 ≤ (21812 : Int) + ((41 : Int32) * (((8 : Int32) * (ps_i s13 1131 21)) + x2)).toInt from by omega) (show (21812 : Int) + ((41 : Int32) * (((8 : Int32) * (ps_i s13 1131 21)) + x2)).toInt < 2147483648 from by omega)
        have J25 := mwi_34 (v := (0 : Int32)) J13 (show 0 ≤ (0 : Int) from by omega) (show (0 : Int) ≤ 100000 from by omega)
        have K26 := kpi K14 (q := 34) (v := (0 : Int32)) rfl
        have hM : Md (ps_a (ps_ui s13 1131 34 0) 1149) (ps_i (ps_ui s13 1131 34 0) 1131 34).toInt ([] : List Nat) := Md_nil rfl
        refine ms_226 J25 ((show Rw (ps_a (ps_ui s13 1131 34 0) 1134) ((25789 : Int32)).toInt ([] ++ (y1 ++ y2)) from by rw [List.nil_append, ← hn12]; exact hN)) (hM) (rfl) ((Or.inl (show (x1).toInt = (([] : List Nat).length : Int) + (y1.length : Int) from by rw [List.length_nil]; omega))) ((by rw [List.length_nil]; omega)) (fun s27 J27 K27 p27_0 => ?_)
        have K28 := kpt K26 K27 rfl rfl
        have hMI : MI σ (ps_a s27 1134) (ps_a s27 1135) (ps_a s27 1136) (ps_a s27 1137) (ps_a s27 1138) (ps_a s27 1139) (ps_a s27 1157) (ps_a s27 1176) (ps_i s27 1131 21).toInt (ps_i s27 1131 47).toInt (ps_i s27 1131 54).toInt := by rw [show ps_a s27 1134 = ps_a (ps_ui s13 1131 34 0) 1134 from (K27.2 1134 rfl).1, show ps_a s27 1135 = ps_a (ps_ui s13 1131 34 0) 1135 from (K27.2 1135 rfl).1, show ps_a s27 1136 = ps_a (ps_ui s13 1131 34 0) 1136 from (K27.2 1136 rfl).1, show ps_a s27 1137 = ps_a (ps_ui s13 1131 34 0) 1137 from (K27.2 1137 rfl).1, show ps_a s27 1138 = ps_a (ps_ui s13 1131 34 0) 1138 from (K27.2 1138 rfl).1, show ps_a s27 1139 = ps_a (ps_ui s13 1131 34 0) 1139 from (K27.2 1139 rfl).1, show ps_a s27 1157 = ps_a (ps_ui s13 1131 34 0) 1157 from (K27.2 1157 rfl).1, show ps_a s27 1176 = ps_a (ps_ui s13 1131 34 0) 1176 from (K27.2 1176 rfl).1, show ps_i s27 1131 21 = ps_i (ps_ui s13 1131 34 0) 1131 21 from kp_i K27 21 rfl, show ps_i s27 1131 47 = ps_i (ps_ui s13 1131 34 0) 1131 47 from kp_i K27 47 rfl, show ps_i s27 1131 54 = ps_i (ps_ui s13 1131 34 0) 1131 54 from kp_i K27 54 rfl]; exact hMI
        have hN : Rw (ps_a s27 1134) (25789 : Int32).toInt nl := by rw [show ps_a s27 1134 = ps_a (ps_ui s13 1131 34 0) 1134 from (K27.2 1134 rfl).1]; exact hN
        have hS : Sg (ps_a s27 1135) (ps_a s27 1136) (ps_a s27 1138) (ps_a s27 1139) (ps_i s27 1131 21).toInt σ := by rw [show ps_a s27 1135 = ps_a (ps_ui s13 1131 34 0) 1135 from (K27.2 1135 rfl).1, show ps_a s27 1136 = ps_a (ps_ui s13 1131 34 0) 1136 from (K27.2 1136 rfl).1, show ps_a s27 1138 = ps_a (ps_ui s13 1131 34 0) 1138 from (K27.2 1138 rfl).1, show ps_a s27 1139 = ps_a (ps_ui s13 1131 34 0) 1139 from (K27.2 1139 rfl).1, show ps_i s27 1131 21 = ps_i (ps_ui s13 1131 34 0) 1131 21 from kp_i K27 21 rfl]; exact hS
        have hRl : Rw (ps_a s27 1134) (21812 + 41 * (8 * (ps_i s27 1131 21).toInt + x2.toInt)) l := by rw [show ps_a s27 1134 = ps_a (ps_ui s13 1131 34 0) 1134 from (K27.2 1134 rfl).1, show ps_i s27 1131 21 = ps_i (ps_ui s13 1131 34 0) 1131 21 from kp_i K27 21 rfl]; exact hRl
        have hbk : (ps_i s27 1131 21).toInt = bk0 := by rw [show ps_i s27 1131 21 = ps_i (ps_ui s13 1131 34 0) 1131 21 from kp_i K27 21 rfl]; exact hbk
        have hRLf : RL σ l l0 p q (ps_i s27 1131 63).toInt (ps_i s27 1131 64).toInt := by rw [show ps_i s27 1131 63 = ps_i (ps_ui s13 1131 34 0) 1131 63 from kp_i K27 63 rfl, show ps_i s27 1131 64 = ps_i (ps_ui s13 1131 34 0) 1131 64 from kp_i K27 64 rfl]; exact hRLf
        have h65 : (ps_i s27 1131 65).toInt = (y1.length : Int) + (mt.length : Int) := by rw [show ps_i s27 1131 65 = ps_i (ps_ui s13 1131 34 0) 1131 65 from kp_i K27 65 rfl]; exact h65
        have hBA : BA σ nl (ps_a s27 1167) (ps_a s27 1168) := by rw [show ps_a s27 1167 = ps_a (ps_ui s13 1131 34 0) 1167 from (K27.2 1167 rfl).1, show ps_a s27 1168 = ps_a (ps_ui s13 1131 34 0) 1168 from (K27.2 1168 rfl).1]; exact hBA
        have hBB : BB (ps_a s27 1167) p := by rw [show ps_a s27 1167 = ps_a (ps_ui s13 1131 34 0) 1167 from (K27.2 1167 rfl).1]; exact hBB
        have hM1 : Md (ps_a s27 1149) (ps_i s27 1131 34).toInt ([] ++ y1) := p27_0
        have r29 := mf_64 J27
        have u30 : (ps_i s27 1131 64).toInt = (ps_i s13 1131 64).toInt := xeq (kp_i K27 64 rfl)
        have r31 := mf_64 J13
        have u32 : (ps_i s13 1131 64).toInt = (ps_i s7 1131 64).toInt := xeq (kp_i K13 64 rfl)
        have r33 := mf_64 J7
        exact ms_287_77 (σ := σ) (nl := nl) k  ((q.length : Int)).toNat ((21812 : Int32) + ((41 : Int32) * (((8 : Int32) * (ps_i s13 1131 21)) + x2))) (ps_i s27 1131 64) l l0 p q y1 mt y3 W0 [] q [] _ J27 K28 hS ((by rw [show (((21812 : Int32) + ((41 : Int32) * (((8 : Int32) * (ps_i s13 1131 21)) + x2)))).toInt = 21812 + 41 * (8 * (ps_i s27 1131 21).toInt + x2.toInt) from by omega]; exact hRl)) hN hRLf (hl3) ((by rw [hn12, hm1])) h65 hBA hBB (rfl) ((show ((ps_i s27 1131 64)).toInt = (l0.length : Int) + 1 + (p.length : Int) + (([] : List Nat).length : Int) from by rw [List.length_nil]; omega)) (rfl) ((by decide)) ((by rw [List.append_nil]; exact hM1)) (hm2) (hctx) (show (q.length : Int) ≤ ((((q.length : Int)).toNat : Nat) : Int) from by omega)
      · have f34 : v13.toInt = (0 : Int) := xeq h15
        have a35 : (x2 + 1).toInt = x2.toInt + (1 : Int) := xIa (show -2147483648 ≤ x2.toInt + (1 : Int) from by omega) (show x2.toInt + (1 : Int) < 2147483648 from by omega)
        exact ih (n - 1) (show n - 1 < n from by omega) x1 (x2 + 1) _ J13 K14 hMI hN (by assumption) (show 0 ≤ x1.toInt from by omega) (show x1.toInt ≤ 40 from by omega) (show 0 ≤ (x2 + 1).toInt from by omega) (show (x2 + 1).toInt ≤ 8 from by omega) (by assumption) (show 50 - x1.toInt ≤ (n2 : Int) from by omega) (show 20 - (x2 + 1).toInt ≤ ((n - 1 : Nat) : Int) from by omega)

theorem ms_287_2 {x : Nat → Nat → Nat} {t : Int32} {d : Nat} {s0 : ps_S} {σ : mSig} {nl : List Nat} {Q : Option Value → ps_S → Prop} (k : ∀ (v : Int32) (s' : ps_S), mJ x t s' → kp [1149, 1167, 1168] [34, 63, 64, 65] s0 s' → (v.toInt ≠ 0 → ∃ ml, Md (ps_a s' 1149) (ps_i s' 1131 34).toInt ml ∧ ml.length ≤ 9000 ∧ ws σ ml [false]) → v &&& 1 = v → Q (some (.int v)) s') : ∀ (n : Nat) (x1 : Int32) (s : ps_S), (mJ x t s) → (kp [1149, 1167, 1168] [34, 63, 64, 65] s0 s) → (MI σ (ps_a s 1134) (ps_a s 1135) (ps_a s 1136) (ps_a s 1137) (ps_a s 1138) (ps_a s 1139) (ps_a s 1157) (ps_a s 1176) (ps_i s 1131 21).toInt (ps_i s 1131 47).toInt (ps_i s 1131 54).toInt) → (Rw (ps_a s 1134) (25789 : Int32).toInt nl) → (ws σ nl [false]) → (0 ≤ x1.toInt) → (x1.toInt ≤ 40) → 50 - x1.toInt ≤ (n : Int) → ps_At (d + 3) 287 2 [(0, .ref 1131), (1, .int x1)] [] s Q := by
  refine xstr (fun n ih => ?_)
  intro x1 s J K hMI hN i2 i3 i4 hm
  refine pg_287_2 (d := d + 2) ?_
  have hn : (ps_a s 1134 (Int32.toNatClampNeg (25789 : Int32))).toInt = (nl.length : Int) := Rw_n hN
  have hN4 := hN.2.2.2.1
  refine pg_219_0 ?_
  refine ps_nd_i (show pm_in (25789 : Int32) 27400 = true from xgi (show 0 ≤ (25789 : Int) from by omega) (show (25789 : Int) < 27400 from by omega)) ?_
  have r1 : (25789 : Int) % 41 = 0 → (25789 : Int) < 27306 → 0 ≤ (ps_a s 1134 (Int32.toNatClampNeg (25789 : Int32))).toInt ∧ (ps_a s 1134 (Int32.toNatClampNeg (25789 : Int32))).toInt ≤ 40 := fun z1 z2 => mp_row (i := (25789 : Int32)) J z1 (show 0 ≤ (25789 : Int) from by omega) z2
  refine And.intro (fun h2 => ?_) (fun h2 => ?_)
  · have f3 : (ps_a s 1134 (Int32.toNatClampNeg (25789 : Int32))).toInt ≤ x1.toInt := xle h2
    exact k (0 : Int32) _ J K (fun z => absurd Int32.toInt_zero z) (by decide)
  · have f4 : x1.toInt < (ps_a s 1134 (Int32.toNatClampNeg (25789 : Int32))).toInt := xlt h2
    exact ms_287_15 (σ := σ) (nl := nl) k n (fun x1z sz Jz Kz i0z i1z i2z i3z i4z hm => ih (n - 1) (show n - 1 < n from by omega) x1z sz Jz Kz i0z i1z i2z i3z i4z (show _ ≤ ((n - 1 : Nat) : Int) from by omega)) (20 - (0 : Int)).toNat x1 (0) _ J K hMI hN (by assumption) (show 0 ≤ x1.toInt from by omega) (show x1.toInt ≤ 40 from by omega) (show 0 ≤ (0 : Int) from by omega) (show (0 : Int) ≤ 8 from by omega) ((show (x1).toInt < (nl.length : Int) from by omega)) (show 50 - x1.toInt ≤ ((n : Nat) : Int) from by omega) (show 20 - (0 : Int) ≤ (((20 - (0 : Int)).toNat : Nat) : Int) from by omega)

theorem ms_287 {x : Nat → Nat → Nat} {t : Int32} {s : ps_S} {d : Nat} {f : Int32 → ps_S → Prop} (J : mJ x t s) {σ : mSig} {nl : List Nat} (hMI : MI σ (ps_a s 1134) (ps_a s 1135) (ps_a s 1136) (ps_a s 1137) (ps_a s 1138) (ps_a s 1139) (ps_a s 1157) (ps_a s 1176) (ps_i s 1131 21).toInt (ps_i s 1131 47).toInt (ps_i s 1131 54).toInt) (hN : Rw (ps_a s 1134) (25789 : Int32).toInt nl) (q2 : ws σ nl [false]) (k : ∀ (v : Int32) (s' : ps_S), mJ x t s' → kp [1149, 1167, 1168] [34, 63, 64, 65] s s' → (v.toInt ≠ 0 → ∃ ml, Md (ps_a s' 1149) (ps_i s' 1131 34).toInt ml ∧ ml.length ≤ 9000 ∧ ws σ ml [false]) → v &&& 1 = v → f v s') : ps_Cl (d + 3) 287 [.ref 1131] s (ps_rI f) := by
  have K : kp [1149, 1167, 1168] [34, 63, 64, 65] s s := kp_refl
  refine pg_287_0 (d := d + 2) ?_
  exact ms_287_2 (σ := σ) (nl := nl) k  (50 - (0 : Int)).toNat (0) _ J K hMI hN (q2) (show 0 ≤ (0 : Int) from by omega) (show (0 : Int) ≤ 40 from by omega) (show 50 - (0 : Int) ≤ (((50 - (0 : Int)).toNat : Nat) : Int) from by omega)
