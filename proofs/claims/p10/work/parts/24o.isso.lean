set_option maxRecDepth 100000
-- ProofBenchModel.isSo(II)Z
theorem pg_295_0 {d : Nat} {x1 : Int32} {x2 : Int32} {s : ps_S} {Q : Option Value → ps_S → Prop} (h :
  ps_Cl d 294 [.ref 1131, .int x1] s (ps_rV (fun s1 =>
    ps_Cl d 219 [.ref 1131, .int x1] s1 (ps_rI (fun v2 s2 =>
      ps_At (d + 1) 295 16 [(0, .ref 1131), (1, .int x1), (2, .int x2), (3, .int 0), (4, .int (v2 - 1))] [] s2 Q))))) : ps_At (d + 1) 295 0 [(0, .ref 1131), (1, .int x1), (2, .int x2)] [] s Q :=
  ps_wp_at (stops := [(16, [0, 1, 2, 3, 4]), (70, [0, 1, 2, 3, 4, 5, 6, 7, 8, 9])]) (n := 13) h rfl

theorem pg_295_16 {d : Nat} {x1 : Int32} {x2 : Int32} {x3 : Int32} {x4 : Int32} {s : ps_S} {Q : Option Value → ps_S → Prop} (h :
  (x4 < 0 →
    ps_nd (pm_in 0 10206) (((ps_a s 1174 (Int32.toNatClampNeg (0 : Int32))) ≠ 1 →
      Q (some (.int 0)) s) ∧
    ((ps_a s 1174 (Int32.toNatClampNeg (0 : Int32))) = 1 →
      Q (some (.int 1)) s))) ∧
  (0 ≤ x4 →
    ps_Cl d 220 [.ref 1131, .int x1, .int x4] s (ps_rI (fun v1 s1 =>
      ps_Cl d 218 [.ref 1131, .int v1] s1 (ps_rI (fun v2 s2 =>
        ps_nd (pm_in x4 41) (ps_Cl d 290 [.int x2, .int (ps_a s2 1173 (Int32.toNatClampNeg x4))] s2 (ps_rI (fun v3 s3 =>
          ps_At (d + 1) 295 70 [(0, .ref 1131), (1, .int x1), (2, .int x2), (3, .int (x3 + ((1 : Int32) - v2))), (4, .int x4), (5, .int v1), (6, .int v2), (7, .int ((243 : Int32) * ((x3 + ((1 : Int32) - v2)) - 1))), (8, .int v3), (9, .int 0)] [] s3 Q))))))))) : ps_At (d + 1) 295 16 [(0, .ref 1131), (1, .int x1), (2, .int x2), (3, .int x3), (4, .int x4)] [] s Q :=
  ps_wp_at (stops := [(16, [0, 1, 2, 3, 4]), (70, [0, 1, 2, 3, 4, 5, 6, 7, 8, 9])]) (n := 45) h rfl

theorem pg_295_70 {d : Nat} {x1 : Int32} {x2 : Int32} {x3 : Int32} {x4 : Int32} {x5 : Int32} {x6 : Int32} {x7 : Int32} {x8 : Int32} {x9 : Int32} {s : ps_S} {Q : Option Value → ps_S → Prop} (h :
  (x8 ≤ x9 →
    ps_At (d + 1) 295 16 [(0, .ref 1131), (1, .int x1), (2, .int x2), (3, .int x3), (4, .int (x4 + (Int32.ofInt (-1))))] [] s Q) ∧
  (x9 < x8 →
    ps_Cl d 296 [.ref 1131, .int x5, .int x6, .int x3, .int x9, .int x2] s (ps_rI (fun v1 s1 =>
      ps_nd (pm_in (x7 + x9) 10206) (ps_At (d + 1) 295 70 [(0, .ref 1131), (1, .int x1), (2, .int x2), (3, .int x3), (4, .int x4), (5, .int x5), (6, .int x6), (7, .int x7), (8, .int x8), (9, .int (x9 + 1))] [] (ps_ua s1 1174 (Int32.toNatClampNeg (x7 + x9)) v1) Q))))) : ps_At (d + 1) 295 70 [(0, .ref 1131), (1, .int x1), (2, .int x2), (3, .int x3), (4, .int x4), (5, .int x5), (6, .int x6), (7, .int x7), (8, .int x8), (9, .int x9)] [] s Q :=
  ps_wp_at (stops := [(16, [0, 1, 2, 3, 4]), (70, [0, 1, 2, 3, 4, 5, 6, 7, 8, 9])]) (n := 22) h rfl

theorem ms_295_70 {x : Nat → Nat → Nat} {t : Int32} {d : Nat} {s0 : ps_S} {σ : mSig} {l : List Nat} {x1 : Int32} {x2 : Int32} {Q : Option Value → ps_S → Prop} (k : ∀ (v : Int32) (s' : ps_S), mJ x t s' → kp [1150, 1173, 1174] [] s0 s' → v &&& 1 = v → Q (some (.int v)) s') (n16 : Nat) (KH16 : ∀ (x3 : Int32) (x4 : Int32) (l1 : List Nat) (m2 : List Nat) (W : List (Bool × Nat)) (s : ps_S), (mJ x t s) → (kp [1150, 1173, 1174] [] s0 s) → (Sg (ps_a s 1135) (ps_a s 1136) (ps_a s 1138) (ps_a s 1139) (ps_i s 1131 21).toInt σ) → (Rw (ps_a s 1134) x1.toInt l) → (DLn σ (ps_a s 1173) l (l.length : Int)) → (∀ j : Nat, j < 96 → 0 ≤ (ps_a s 1169 j).toInt ∧ (ps_a s 1169 j).toInt ≤ 2) → (∀ j : Nat, j < 12 → 0 ≤ (ps_a s 1175 j).toInt ∧ (ps_a s 1175 j).toInt ≤ 2) → (∀ f : Nat, (f : Int) < (σ.1.2 : Int) → (ps_a s 1172 f).toInt ≤ 87) → (l = l1 ++ m2) → (wf σ 5 l [(true, 0)]) → (x4.toInt + 1 = (l1.length : Int)) → (wr σ l1 [(true, 0)] W) → (x3.toInt = (W.length : Int)) → (W.length ≤ 40) → (VS (ps_a s 1174) x2.toInt W) → (1 ≤ x2.toInt) → (x2.toInt ≤ 3) → (-1 ≤ x4.toInt) → (x4.toInt + 1 ≤ (n16 : Int) - 1) → ps_At (d + 3) 295 16 [(0, .ref 1131), (1, .int x1), (2, .int x2), (3, .int x3), (4, .int x4)] [] s Q) : ∀ (n : Nat) (x3 : Int32) (x4 : Int32) (x5 : Int32) (x6 : Int32) (x7 : Int32) (x8 : Int32) (x9 : Int32) (a : List Nat) (c : Nat) (m2 : List Nat) (b : Bool) (kk : Nat) (U : List (Bool × Nat)) (ks : List Bool) (s : ps_S), (mJ x t s) → (kp [1150, 1173, 1174] [] s0 s) → (Sg (ps_a s 1135) (ps_a s 1136) (ps_a s 1138) (ps_a s 1139) (ps_i s 1131 21).toInt σ) → (Rw (ps_a s 1134) x1.toInt l) → (DLn σ (ps_a s 1173) l (l.length : Int)) → (∀ j : Nat, j < 96 → 0 ≤ (ps_a s 1169 j).toInt ∧ (ps_a s 1169 j).toInt ≤ 2) → (∀ j : Nat, j < 12 → 0 ≤ (ps_a s 1175 j).toInt ∧ (ps_a s 1175 j).toInt ≤ 2) → (∀ f : Nat, (f : Int) < (σ.1.2 : Int) → (ps_a s 1172 f).toInt ≤ 87) → (l = a ++ c :: m2) → (wf σ 5 l [(true, 0)]) → (x4.toInt = (a.length : Int)) → (wr σ a [(true, 0)] ((b, kk) :: U)) → (kS σ b c = some ks) → (x3.toInt = (U.length : Int) + 1) → (U.length + ks.length ≤ 40) → (1 ≤ x2.toInt) → (x2.toInt ≤ 3) → (x5.toInt = (c : Int)) → (x6.toInt = (ks.length : Int)) → (x7.toInt = 243 * (U.length : Int)) → (x8.toInt = x2.toInt ^ kk) → (kk ≤ 5) → (0 ≤ x9.toInt) → (VS (ps_a s 1174) x2.toInt U) → (b = false → ∀ e : Nat, (e : Int) < x9.toInt → 0 ≤ (ps_a s 1174 (243 * U.length + e)).toInt ∧ (ps_a s 1174 (243 * U.length + e)).toInt ≤ 2) → (10 ≤ c → ks.length ≠ 0 → ∀ e : Nat, x9.toInt ≤ (e : Int) → (e : Int) < x2.toInt ^ kk → 0 ≤ (ps_a s 1174 (243 * (U.length + ks.length - 1) + e)).toInt ∧ (ps_a s 1174 (243 * (U.length + ks.length - 1) + e)).toInt ≤ 2) → (10 ≤ c → ks.length = 2 → ∀ e : Nat, x9.toInt ≤ (e : Int) → (e : Int) < x2.toInt ^ kk → 0 ≤ (ps_a s 1174 (243 * U.length + e)).toInt ∧ (ps_a s 1174 (243 * U.length + e)).toInt ≤ 2) → (U.length ≤ 39) → (x4.toInt + 1 ≤ (n16 : Int)) → x8.toInt - x9.toInt ≤ (n : Int) → ps_At (d + 3) 295 70 [(0, .ref 1131), (1, .int x1), (2, .int x2), (3, .int x3), (4, .int x4), (5, .int x5), (6, .int x6), (7, .int x7), (8, .int x8), (9, .int x9)] [] s Q := by
  refine xstr (fun n ih => ?_)
  intro x3 x4 x5 x6 x7 x8 x9 a c m2 b kk U ks s J K hS hR hDL hDg hFt hFa i6 i7 i8 i9 i10 i11 i12 i13 i14 i15 i16 i17 i18 i19 i20 i21 i22 i23 i24 i25 hm16 hm
  refine pg_295_70 (d := d + 2) ?_
  obtain ⟨hr1, hr2, hr3, hr4, hr5, hr6⟩ := id hR
  have hr1 : x1.toInt % 41 = 0 := hr1
  have hr2 : 0 ≤ x1.toInt := hr2
  have hr3 : x1.toInt < 27306 := hr3
  have hr4 : l.length ≤ 40 := hr4
  have hn : (ps_a s 1134 (Int32.toNatClampNeg x1)).toInt = (l.length : Int) := Rw_n hR
  have i8 : x4.toInt = (a.length : Int) := i8
  have i11 : x3.toInt = (U.length : Int) + 1 := i11
  have i15 : x5.toInt = (c : Int) := i15
  have i16 : x6.toInt = (ks.length : Int) := i16
  have i17 : x7.toInt = 243 * (U.length : Int) := i17
  have i18 : x8.toInt = x2.toInt ^ kk := i18
  have h243 := pw243 (n := x2.toInt) (k := kk) (by omega) (by omega) i19
  have hwf : wf σ 5 (c :: m2) ((b, kk) :: U) := wr_wf (by rw [← i6]; exact i7) i9
  have hks2 := kS_le hS i10
  refine And.intro (fun h1 => ?_) (fun h1 => ?_)
  · have f2 : x8.toInt ≤ x9.toInt := xle h1
    generalize hx4 : (x4 + (Int32.ofInt (-1))) = xd3
    have a5 : xd3.toInt = x4.toInt + (-1) := by rw [← hx4]; exact xdec (show -2147483648 < x4.toInt from by omega)
    clear hx4
    exact KH16 x3 xd3 a (c :: m2) ((b, kk) :: U) _ J K hS hR hDL hDg hFt hFa (i6) (i7) ((show (xd3).toInt + 1 = (a.length : Int) from by omega)) (i9) ((show (x3).toInt = (((b, kk) :: U).length : Int) from by rw [llenc]; omega)) ((by rw [List.length_cons]; omega)) ((show VS (ps_a s 1174) x2.toInt ((b, kk) :: U) from ⟨fun hb e he => i22 hb e (show (e : Int) < x9.toInt from by have he : (e : Int) < x2.toInt ^ kk := he; omega), i21⟩)) (show 1 ≤ x2.toInt from by omega) (show x2.toInt ≤ 3 from by omega) (show -1 ≤ xd3.toInt from by omega) (show xd3.toInt + 1 ≤ (n16 : Int) - 1 from by omega)
  · have f6 : x9.toInt < x8.toInt := xlt h1
    have he9 : ((x9.toInt.toNat : Nat) : Int) = x9.toInt := by omega
    have a7 : (x7 + x9).toInt = x7.toInt + x9.toInt := xIa (show -2147483648 ≤ x7.toInt + x9.toInt from by omega) (show x7.toInt + x9.toInt < 2147483648 from by omega)
    refine ms_296 J hS hDg hFt hFa (i10) (i15) (i16) (show 1 ≤ x3.toInt from by omega) (show x3.toInt + x6.toInt ≤ 42 from by omega) (show 0 ≤ x9.toInt from by omega) (show x9.toInt ≤ 242 from by omega) (show 1 ≤ x2.toInt from by omega) (show x2.toInt ≤ 3 from by omega) ((fun hc => q243 (by omega) (by omega) (wf_qk hwf hc) (by omega))) ((fun h10 hz => (by rw [show (243 * ((x3).toInt + (x6).toInt - 2) + (x9).toInt).toNat = 243 * (U.length + ks.length - 1) + ((x9).toInt).toNat from by omega]; exact i23 h10 hz _ (by omega) (by omega)))) ((fun h10 hz => (by rw [show (243 * ((x3).toInt - 1) + (x9).toInt).toNat = 243 * U.length + ((x9).toInt).toNat from by omega]; exact i24 h10 hz _ (by omega) (by omega)))) (fun v8 p8_0 => ?_)
    have hv : _ := p8_0
    have hvf : b = false → 0 ≤ (v8).toInt ∧ (v8).toInt ≤ 2 := fun z => hv (kS_f20 i10 z)
    refine ps_nd_i (show pm_in (x7 + x9) 10206 = true from xgi (show 0 ≤ (x7 + x9).toInt from by omega) (show (x7 + x9).toInt < 10206 from by omega)) ?_
    have J9 := mwa_n 1174 (i := (Int32.toNatClampNeg (x7 + x9))) (v := v8) J rfl (by decide)
    have K10 := kpa' K (r := 1174) (i := (Int32.toNatClampNeg (x7 + x9))) (v := v8) rfl
    have e7 : Int32.toNatClampNeg (x7 + x9) = 243 * U.length + x9.toInt.toNat := by rw [nx (n := 243 * (U.length : Int) + x9.toInt) (by omega)]; omega
    have a11 : (x9 + 1).toInt = x9.toInt + (1 : Int) := xIa (show -2147483648 ≤ x9.toInt + (1 : Int) from by omega) (show x9.toInt + (1 : Int) < 2147483648 from by omega)
    exact ih (n - 1) (show n - 1 < n from by omega) x3 x4 x5 x6 x7 x8 (x9 + 1) a c m2 b kk U ks _ J9 K10 hS hR hDL hDg hFt hFa (by assumption) (by assumption) (by assumption) (by assumption) (by assumption) (by assumption) (by assumption) (show 1 ≤ x2.toInt from by omega) (show x2.toInt ≤ 3 from by omega) (by assumption) (by assumption) (by assumption) (by assumption) (by assumption) (show 0 ≤ (x9 + 1).toInt from by omega) (VS_ext (fun j hj => ua_ne (by omega)) (fun w hw => (pw243 (by omega) (by omega) (wf_lev hwf w (List.mem_cons_of_mem _ hw))).2) i21) ((fun hb => EL_put (i := Int32.toNatClampNeg (x7 + x9)) (i22 hb) e7 (show ((x9 + 1)).toInt = x9.toInt + 1 from by omega) (by omega) (by rw [ua_eq]; exact hvf hb) (fun j hj => ua_ne hj))) ((fun h10 hz => EL_keep (i := Int32.toNatClampNeg (x7 + x9)) (i23 h10 hz) (show x9.toInt ≤ ((x9 + 1)).toInt from by omega) (fun j hj => ua_ne hj) (fun e h1 h2 => by rw [e7]; omega))) ((fun h10 hz => EL_keep (i := Int32.toNatClampNeg (x7 + x9)) (i24 h10 hz) (show x9.toInt ≤ ((x9 + 1)).toInt from by omega) (fun j hj => ua_ne hj) (fun e h1 h2 => by rw [e7]; omega))) (by assumption) (show x4.toInt + 1 ≤ (n16 : Int) from by omega) (show x8.toInt - (x9 + 1).toInt ≤ ((n - 1 : Nat) : Int) from by omega)

theorem ms_295_16 {x : Nat → Nat → Nat} {t : Int32} {d : Nat} {s0 : ps_S} {σ : mSig} {l : List Nat} {x1 : Int32} {x2 : Int32} {Q : Option Value → ps_S → Prop} (k : ∀ (v : Int32) (s' : ps_S), mJ x t s' → kp [1150, 1173, 1174] [] s0 s' → v &&& 1 = v → Q (some (.int v)) s') : ∀ (n : Nat) (x3 : Int32) (x4 : Int32) (l1 : List Nat) (m2 : List Nat) (W : List (Bool × Nat)) (s : ps_S), (mJ x t s) → (kp [1150, 1173, 1174] [] s0 s) → (Sg (ps_a s 1135) (ps_a s 1136) (ps_a s 1138) (ps_a s 1139) (ps_i s 1131 21).toInt σ) → (Rw (ps_a s 1134) x1.toInt l) → (DLn σ (ps_a s 1173) l (l.length : Int)) → (∀ j : Nat, j < 96 → 0 ≤ (ps_a s 1169 j).toInt ∧ (ps_a s 1169 j).toInt ≤ 2) → (∀ j : Nat, j < 12 → 0 ≤ (ps_a s 1175 j).toInt ∧ (ps_a s 1175 j).toInt ≤ 2) → (∀ f : Nat, (f : Int) < (σ.1.2 : Int) → (ps_a s 1172 f).toInt ≤ 87) → (l = l1 ++ m2) → (wf σ 5 l [(true, 0)]) → (x4.toInt + 1 = (l1.length : Int)) → (wr σ l1 [(true, 0)] W) → (x3.toInt = (W.length : Int)) → (W.length ≤ 40) → (VS (ps_a s 1174) x2.toInt W) → (1 ≤ x2.toInt) → (x2.toInt ≤ 3) → (-1 ≤ x4.toInt) → x4.toInt + 1 ≤ (n : Int) → ps_At (d + 3) 295 16 [(0, .ref 1131), (1, .int x1), (2, .int x2), (3, .int x3), (4, .int x4)] [] s Q := by
  refine xstr (fun n ih => ?_)
  intro x3 x4 l1 m2 W s J K hS hR hDL hDg hFt hFa i6 i7 i8 i9 i10 i11 i12 i13 i14 i15 hm
  refine pg_295_16 (d := d + 2) ?_
  obtain ⟨hr1, hr2, hr3, hr4, hr5, hr6⟩ := id hR
  have hr1 : x1.toInt % 41 = 0 := hr1
  have hr2 : 0 ≤ x1.toInt := hr2
  have hr3 : x1.toInt < 27306 := hr3
  have hr4 : l.length ≤ 40 := hr4
  have hn : (ps_a s 1134 (Int32.toNatClampNeg x1)).toInt = (l.length : Int) := Rw_n hR
  have i8 : x4.toInt + 1 = (l1.length : Int) := i8
  have i10 : x3.toInt = (W.length : Int) := i10
  have hl : (l.length : Int) = l1.length + m2.length := by rw [i6]; exact llen
  refine And.intro (fun h1 => ?_) (fun h1 => ?_)
  · have f2 : x4.toInt < (0 : Int) := xlt h1
    refine ps_nd_i (show pm_in (0 : Int32) 10206 = true from xgi (show 0 ≤ (0 : Int) from by omega) (show (0 : Int) < 10206 from by omega)) ?_
    refine And.intro (fun h3 => ?_) (fun h3 => ?_)
    · have f4 : (ps_a s 1174 (Int32.toNatClampNeg (0 : Int32))).toInt ≠ (1 : Int) := xne h3
      exact k (0 : Int32) _ J K (by decide)
    · have f5 : (ps_a s 1174 (Int32.toNatClampNeg (0 : Int32))).toInt = (1 : Int) := xeq h3
      exact k (1 : Int32) _ J K (by decide)
  · have f6 : (0 : Int) ≤ x4.toInt := xle h1
    obtain ⟨a, c, rfl⟩ := lsnoc (l := l1) (by omega)
    rw [l1c] at i8 hl
    have hl6 : l = a ++ c :: m2 := i6.trans (by rw [List.append_assoc]; rfl)
    obtain ⟨b, kk, U, ks, hr, hk, hW⟩ := wr_last i9
    subst hW
    have hwf : wf σ 5 (c :: m2) ((b, kk) :: U) := wr_wf (by rw [← hl6]; exact i7) hr
    have hk5 : kk ≤ 5 := wf_lev hwf (b, kk) List.mem_cons_self
    have hwl := wf_le hwf
    rw [List.length_cons, List.length_cons] at hwl
    have hks2 := kS_le hS hk
    rw [List.length_append, kL_len] at i10 i11
    have h243 := pw243 (n := x2.toInt) (k := kk) (by omega) (by omega) hk5
    refine pg_220_0 ?_
    have a7 : (x1 + 1).toInt = x1.toInt + (1 : Int) := xIa (show -2147483648 ≤ x1.toInt + (1 : Int) from by omega) (show x1.toInt + (1 : Int) < 2147483648 from by omega)
    have a8 : ((x1 + 1) + x4).toInt = (x1 + 1).toInt + x4.toInt := xIa (show -2147483648 ≤ (x1 + 1).toInt + x4.toInt from by omega) (show (x1 + 1).toInt + x4.toInt < 2147483648 from by omega)
    refine ps_nd_i (show pm_in ((x1 + 1) + x4) 27400 = true from xgi (show 0 ≤ ((x1 + 1) + x4).toInt from by omega) (show ((x1 + 1) + x4).toInt < 27400 from by omega)) ?_
    have r9 : ((x1 + 1) + x4).toInt % 41 = 0 → ((x1 + 1) + x4).toInt < 27306 → 0 ≤ (ps_a s 1134 (Int32.toNatClampNeg ((x1 + 1) + x4))).toInt ∧ (ps_a s 1134 (Int32.toNatClampNeg ((x1 + 1) + x4))).toInt ≤ 40 := fun z1 z2 => mp_row (i := ((x1 + 1) + x4)) J z1 (show 0 ≤ ((x1 + 1) + x4).toInt from by omega) z2
    have hp : ((ps_a s 1134 (Int32.toNatClampNeg ((x1 + 1) + x4)))).toInt = (c : Int) := Rw_p hR hl6 (show (x4).toInt = (a.length : Int) from by omega)
    refine ms_218 J hS (hk) (hp) (fun v10 p10_0 => ?_)
    have hv : _ := p10_0
    have hv2 : (v10).toInt = (ks.length : Int) := hv
    have a11 : ((1 : Int32) - v10).toInt = (1 : Int) - v10.toInt := xIs (show -2147483648 ≤ (1 : Int) - v10.toInt from by omega) (show (1 : Int) - v10.toInt < 2147483648 from by omega)
    have a12 : (x3 + ((1 : Int32) - v10)).toInt = x3.toInt + ((1 : Int32) - v10).toInt := xIa (show -2147483648 ≤ x3.toInt + ((1 : Int32) - v10).toInt from by omega) (show x3.toInt + ((1 : Int32) - v10).toInt < 2147483648 from by omega)
    have a13 : ((x3 + ((1 : Int32) - v10)) - 1).toInt = (x3 + ((1 : Int32) - v10)).toInt - (1 : Int) := xIs (show -2147483648 ≤ (x3 + ((1 : Int32) - v10)).toInt - (1 : Int) from by omega) (show (x3 + ((1 : Int32) - v10)).toInt - (1 : Int) < 2147483648 from by omega)
    have a14 : ((243 : Int32) * ((x3 + ((1 : Int32) - v10)) - 1)).toInt = (243 : Int) * ((x3 + ((1 : Int32) - v10)) - 1).toInt := xIm (show -2147483648 ≤ (243 : Int) * ((x3 + ((1 : Int32) - v10)) - 1).toInt from by omega) (show (243 : Int) * ((x3 + ((1 : Int32) - v10)) - 1).toInt < 2147483648 from by omega)
    refine ps_nd_i (show pm_in x4 41 = true from xgi (show 0 ≤ x4.toInt from by omega) (show x4.toInt < 41 from by omega)) ?_
    have hkd : ((ps_a s 1173 (Int32.toNatClampNeg x4))).toInt = (kk : Int) := by rw [nx (n := (a.length : Int)) (show (x4).toInt = (a.length : Int) from by omega)]; exact hDL a c m2 b kk U hl6 (by omega) hr
    have hkt : ((ps_a s 1173 (Int32.toNatClampNeg x4))).toInt.toNat = kk := by omega
    refine ms_290 J (show 1 ≤ x2.toInt from by omega) (show x2.toInt ≤ 3 from by omega) (show 0 ≤ (ps_a s 1173 (Int32.toNatClampNeg x4)).toInt from by omega) (show (ps_a s 1173 (Int32.toNatClampNeg x4)).toInt ≤ 19 from by omega) (fun v15 p15_0 => ?_)
    have hpw : _ := p15_0
    have hpw2 : (v15).toInt = x2.toInt ^ kk := hpw.trans (by rw [hkt])
    exact ms_295_70 (x1 := x1) (x2 := x2) (σ := σ) (l := l) k n (fun x3z x4z l1z m2z Wz sz Jz Kz i0z i1z i2z i3z i4z i5z i6z i7z i8z i9z i10z i11z i12z i13z i14z i15z hm => ih (n - 1) (show n - 1 < n from by omega) x3z x4z l1z m2z Wz sz Jz Kz i0z i1z i2z i3z i4z i5z i6z i7z i8z i9z i10z i11z i12z i13z i14z i15z (show _ ≤ ((n - 1 : Nat) : Int) from by omega)) (v15.toInt - (0 : Int)).toNat (x3 + ((1 : Int32) - v10)) x4 (ps_a s 1134 (Int32.toNatClampNeg ((x1 + 1) + x4))) v10 ((243 : Int32) * ((x3 + ((1 : Int32) - v10)) - 1)) v15 (0) a c m2 b kk U ks _ J K hS hR hDL hDg hFt hFa (hl6) (i7) ((show (x4).toInt = (a.length : Int) from by omega)) (hr) (hk) ((show ((x3 + ((1 : Int32) - v10))).toInt = (U.length : Int) + 1 from by omega)) ((by omega)) (show 1 ≤ x2.toInt from by omega) (show x2.toInt ≤ 3 from by omega) (hp) (hv2) ((show (((243 : Int32) * ((x3 + ((1 : Int32) - v10)) - 1))).toInt = 243 * (U.length : Int) from by omega)) (hpw2) (hk5) (show 0 ≤ (0 : Int) from by omega) (VS_tail i12) ((fun _ e he => absurd he (by rw [Int32.toInt_zero]; omega))) ((fun h10 hz e _ he => (VS_12 i12 hk h10 hks2).1 hz e he)) ((fun h10 hz e _ he => (VS_12 i12 hk h10 hks2).2 hz e he)) ((by omega)) (show x4.toInt + 1 ≤ ((n : Nat) : Int) from by omega) (show v15.toInt - (0 : Int) ≤ (((v15.toInt - (0 : Int)).toNat : Nat) : Int) from by omega)

theorem ms_295 {x : Nat → Nat → Nat} {t : Int32} {s : ps_S} {d : Nat} {x1 : Int32} {x2 : Int32} {f : Int32 → ps_S → Prop} (J : mJ x t s) {σ : mSig} {l : List Nat} (hS : Sg (ps_a s 1135) (ps_a s 1136) (ps_a s 1138) (ps_a s 1139) (ps_i s 1131 21).toInt σ) (hR : Rw (ps_a s 1134) x1.toInt l) (q2 : wf σ 5 l [(true, 0)]) (q3 : 1 ≤ x2.toInt) (q4 : x2.toInt ≤ 3) (hDg : ∀ j : Nat, j < 96 → 0 ≤ (ps_a s 1169 j).toInt ∧ (ps_a s 1169 j).toInt ≤ 2) (hFt : ∀ j : Nat, j < 12 → 0 ≤ (ps_a s 1175 j).toInt ∧ (ps_a s 1175 j).toInt ≤ 2) (hFa : ∀ f : Nat, (f : Int) < (σ.1.2 : Int) → (ps_a s 1172 f).toInt ≤ 87) (k : ∀ (v : Int32) (s' : ps_S), mJ x t s' → kp [1150, 1173, 1174] [] s s' → v &&& 1 = v → f v s') : ps_Cl (d + 3) 295 [.ref 1131, .int x1, .int x2] s (ps_rI f) := by
  have K : kp [1150, 1173, 1174] [] s s := kp_refl
  refine pg_295_0 (d := d + 2) ?_
  obtain ⟨hr1, hr2, hr3, hr4, hr5, hr6⟩ := id hR
  have hr1 : x1.toInt % 41 = 0 := hr1
  have hr2 : 0 ≤ x1.toInt := hr2
  have hr3 : x1.toInt < 27306 := hr3
  have hr4 : l.length ≤ 40 := hr4
  have hn : (ps_a s 1134 (Int32.toNatClampNeg x1)).toInt = (l.length : Int) := Rw_n hR
  refine ms_294 J hS hR (q2) (fun s1 J1 K1 p1_0 => ?_)
  have K2 := kpt K K1 rfl rfl
  have hS : Sg (ps_a s1 1135) (ps_a s1 1136) (ps_a s1 1138) (ps_a s1 1139) (ps_i s1 1131 21).toInt σ := by rw [show ps_a s1 1135 = ps_a s 1135 from (K1.2 1135 rfl).1, show ps_a s1 1136 = ps_a s 1136 from (K1.2 1136 rfl).1, show ps_a s1 1138 = ps_a s 1138 from (K1.2 1138 rfl).1, show ps_a s1 1139 = ps_a s 1139 from (K1.2 1139 rfl).1, show ps_i s1 1131 21 = ps_i s 1131 21 from kp_i K1 21 rfl]; exact hS
  have hR : Rw (ps_a s1 1134) x1.toInt l := by rw [show ps_a s1 1134 = ps_a s 1134 from (K1.2 1134 rfl).1]; exact hR
  have hDg : ∀ j : Nat, j < 96 → 0 ≤ (ps_a s1 1169 j).toInt ∧ (ps_a s1 1169 j).toInt ≤ 2 := by rw [show ps_a s1 1169 = ps_a s 1169 from (K1.2 1169 rfl).1]; exact hDg
  have hFt : ∀ j : Nat, j < 12 → 0 ≤ (ps_a s1 1175 j).toInt ∧ (ps_a s1 1175 j).toInt ≤ 2 := by rw [show ps_a s1 1175 = ps_a s 1175 from (K1.2 1175 rfl).1]; exact hFt
  have hFa : ∀ f : Nat, (f : Int) < (σ.1.2 : Int) → (ps_a s1 1172 f).toInt ≤ 87 := by rw [show ps_a s1 1172 = ps_a s 1172 from (K1.2 1172 rfl).1]; exact hFa
  have hDL : DLn σ (ps_a s1 1173) l (l.length : Int) := p1_0
  refine pg_219_0 ?_
  refine ps_nd_i (show pm_in x1 27400 = true from xgi (show 0 ≤ x1.toInt from by omega) (show x1.toInt < 27400 from by omega)) ?_
  have r3 : x1.toInt % 41 = 0 → x1.toInt < 27306 → 0 ≤ (ps_a s1 1134 (Int32.toNatClampNeg x1)).toInt ∧ (ps_a s1 1134 (Int32.toNatClampNeg x1)).toInt ≤ 40 := fun z1 z2 => mp_row (i := x1) J1 z1 (show 0 ≤ x1.toInt from by omega) z2
  have u4 : (ps_a s1 1134 (Int32.toNatClampNeg x1)).toInt = (ps_a s 1134 (Int32.toNatClampNeg x1)).toInt := xeq (kp_a K1 1134 rfl _)
  have r5 : x1.toInt % 41 = 0 → x1.toInt < 27306 → 0 ≤ (ps_a s 1134 (Int32.toNatClampNeg x1)).toInt ∧ (ps_a s 1134 (Int32.toNatClampNeg x1)).toInt ≤ 40 := fun z1 z2 => mp_row (i := x1) J z1 (show 0 ≤ x1.toInt from by omega) z2
  have a6 : ((ps_a s1 1134 (Int32.toNatClampNeg x1)) - 1).toInt = (ps_a s1 1134 (Int32.toNatClampNeg x1)).toInt - (1 : Int) := xIs (show -2147483648 ≤ (ps_a s1 1134 (Int32.toNatClampNeg x1)).toInt - (1 : Int) from by omega) (show (ps_a s1 1134 (Int32.toNatClampNeg x1)).toInt - (1 : Int) < 2147483648 from by omega)
  exact ms_295_16 (x1 := x1) (x2 := x2) (σ := σ) (l := l) k  (((ps_a s1 1134 (Int32.toNatClampNeg x1)) - 1).toInt + 1).toNat (0) ((ps_a s1 1134 (Int32.toNatClampNeg x1)) - 1) l [] [] _ J1 K2 hS hR hDL hDg hFt hFa ((List.append_nil l).symm) (q2) ((show (((ps_a s1 1134 (Int32.toNatClampNeg x1)) - 1)).toInt + 1 = (l.length : Int) from by omega)) (wr_end q2) (rfl) ((by decide)) (trivial) (show 1 ≤ x2.toInt from by omega) (show x2.toInt ≤ 3 from by omega) (show -1 ≤ ((ps_a s1 1134 (Int32.toNatClampNeg x1)) - 1).toInt from by omega) (show ((ps_a s1 1134 (Int32.toNatClampNeg x1)) - 1).toInt + 1 ≤ (((((ps_a s1 1134 (Int32.toNatClampNeg x1)) - 1).toInt + 1).toNat : Nat) : Int) from by omega)
