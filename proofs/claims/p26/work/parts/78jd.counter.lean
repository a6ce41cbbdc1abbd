set_option maxRecDepth 100000
/-! the class: free things; counter() -/
/-- how many of the first v are free -/
def fcn (l : List Nat) : Nat → Nat
  | 0 => 0
  | v + 1 => fcn l v + (if 60 + v ∈ l then 1 else 0)
theorem fcn_1 {l : List Nat} {v : Nat} (h : 60 + v ∈ l) : fcn l (v + 1) = fcn l v + 1 := by
  show fcn l v + (if 60 + v ∈ l then 1 else 0) = _
  rw [if_pos h]
theorem fcn_0 {l : List Nat} {v : Nat} (h : ¬ 60 + v ∈ l) : fcn l (v + 1) = fcn l v := by
  show fcn l v + (if 60 + v ∈ l then 1 else 0) = _
  rw [if_neg h]
  rfl
theorem fcn_le {l : List Nat} : ∀ {v : Nat}, fcn l v ≤ v
  | 0 => Nat.le_refl _
  | v + 1 => by
    have := fcn_le (l := l) (v := v)
    by_cases h : 60 + v ∈ l
    · rw [fcn_1 h]; omega
    · rw [fcn_0 h]; omega
theorem fcn_mono {l : List Nat} : ∀ {v w : Nat}, v ≤ w → fcn l v ≤ fcn l w
  | v, 0, h => by rw [show v = 0 from by omega]; exact Nat.le_refl _
  | v, w + 1, h => by
    by_cases e : v = w + 1
    · rw [e]; exact Nat.le_refl _
    · have := fcn_mono (l := l) (v := v) (w := w) (by omega)
      by_cases h2 : 60 + w ∈ l
      · rw [fcn_1 h2]; omega
      · rw [fcn_0 h2]; omega
theorem fcn_lt {l : List Nat} {v w : Nat} (h : 60 + v ∈ l) (hv : v < w) : fcn l v < fcn l w := by
  have := fcn_mono (l := l) (v := v + 1) (w := w) (by omega)
  rw [fcn_1 h] at this
  omega
theorem fcn_at {l : List Nat} : ∀ {v i : Nat}, i < fcn l v → ∃ u, u < v ∧ 60 + u ∈ l ∧ fcn l u = i
  | 0, i, h => absurd h (Nat.not_lt_zero _)
  | v + 1, i, h => by
    by_cases h2 : 60 + v ∈ l
    · rw [fcn_1 h2] at h
      by_cases e : i = fcn l v
      · exact ⟨v, by omega, h2, e.symm⟩
      · obtain ⟨u, a, b, c⟩ := fcn_at (l := l) (v := v) (i := i) (by omega)
        exact ⟨u, by omega, b, c⟩
    · rw [fcn_0 h2] at h
      obtain ⟨u, a, b, c⟩ := fcn_at (l := l) (v := v) (i := i) h
      exact ⟨u, by omega, b, c⟩
/-- the k-th choice of free things -/
def frc (m : Nat) (l : List Nat) (k v : Nat) : Nat := k / m ^ fcn l v % m
/-- a formula holds in a model, whatever its free ones are -/
def FA (h : tx_H) (l : List Nat) (m M : Nat) : Prop := ∀ k, k < m ^ fcn l 12 → svg m h.1 (dD (md_B m (md_sy m h.1)) M) (frc m l k) 13 [] l = 1
theorem fs_100_2 {r c : Nat} {l : List Nat} {x1 : Int32} {s : ps_S} {R : Int32 → ps_S → Prop} (hr : ps_is r 5 = true) (W : cv_W s r l) (hx : x1.toInt = c) (k1 : c ∈ l → R 1 s) (k0 : ¬ c ∈ l → R 0 s) : ∀ (n : Nat) {x2 : Int32} {i : Nat}, x2.toInt = i → (∀ j, j < i → l[j]? ≠ some c) → pl_At n 100 2 [(0, .ref r), (1, .int x1), (2, .int x2)] [] s (ps_rI R)
  | 0, _, _, _, _ => pl_At_0
  | n + 1, x2, i, h2, hj => by
    have hsz := W.1
    have h40 := W.2.2.1
    refine pl_100_2 (pl_nk_i (fun _ => ⟨fun z => ?_, fun z => ?_⟩))
    · have z := xle z
      refine k0 (fun y => ?_)
      obtain ⟨j, hj2⟩ := List.mem_iff_getElem?.mp y
      have := (List.getElem?_eq_some_iff.mp hj2).1
      exact hj j (by omega) hj2
    · have z := xlt z
      obtain ⟨d, hd⟩ : ∃ d, l[i]? = some d := ⟨_, List.getElem?_eq_getElem (by omega)⟩
      refine fs_92c hr W h2 hd (fun v q => ⟨fun y => ?_, fun y => ?_⟩)
      · have y := xne y
        refine fs_100_2 hr W hx k1 k0 n (xj1 h2 (by omega)) (fun j hj2 => ?_)
        rcases Nat.lt_or_ge j i with a | a
        · exact hj j a
        · rw [show j = i from by omega, hd]
          exact fun b => by have := Option.some.inj b; omega
      · have y := xeq y
        exact k1 (by rw [show c = d from by omega]; exact List.mem_of_getElem? hd)
theorem fs_100 {n r c : Nat} {l : List Nat} {x1 : Int32} {s : ps_S} {R : Int32 → ps_S → Prop} (hr : ps_is r 5 = true) (W : cv_W s r l) (hx : x1.toInt = c) (k1 : c ∈ l → R 1 s) (k0 : ¬ c ∈ l → R 0 s) : pl_Cl n 100 [.ref r, .int x1] s (ps_rI R) := by
  cases n with
  | zero => exact pl_At_0
  | succ n =>
  show pl_At (n + 1) 100 0 [(0, .ref r), (1, .int x1)] [] s (ps_rI R)
  exact pl_100_0 (fs_100_2 hr W hx k1 k0 n (i := 0) rfl (fun j hj => absurd hj (Nat.not_lt_zero _)))
/-- the free ones are listed -/
def FF (s : ps_S) (l : List Nat) (v : Nat) : Prop := (ps_i s 944 10).toInt = fcn l v ∧ ∀ u, u < v → 60 + u ∈ l → (ps_a s 956 (fcn l u)).toInt = u
theorem fs_13_7 {l : List Nat} {s0 : ps_S} {R : ps_S → Prop} (W0 : cv_W s0 934 l) (k : ∀ s', FF s' l 12 → jq 944 [956] [10] s0 s' → R s') : ∀ (n : Nat) {s : ps_S} {x2 : Int32} {v : Nat}, x2.toInt = v → v ≤ 12 → FF s l v → jq 944 [956] [10] s0 s → pl_At n 13 7 [(0, .ref 944), (1, .ref 934), (2, .int x2)] [] s (ps_rV R)
  | 0, _, _, _, _, _, _, _ => pl_At_0
  | n + 1, s, x2, v, h2, hv, H, K => by
    have W := cv_W_jq W0 K (by decide) (by decide)
    have c12 : (12 : Int32).toInt = 12 := by decide
    have c60 : (60 : Int32).toInt = 60 := by decide
    have hle := fcn_le (l := l) (v := v)
    refine pl_13_7 ⟨fun z => ?_, fun z => ?_⟩
    · have z := xle z
      have e : v = 12 := by omega
      subst e
      exact k s H K
    · have z := xlt z
      refine fs_100 (r := 934) (c := 60 + v) rfl W (by rw [xIa (by omega) (by omega), c60, h2]; rfl) (fun y => ⟨fun a => absurd a (by decide), fun _ => ?_⟩) (fun y => ⟨fun _ => ?_, fun a => absurd rfl a⟩)
      · refine fs_183 (a := fcn l v) H.1 (show fcn l v < 12 from by omega) (by decide) ?_
        refine fs_13_7 W0 k n (xj1 h2 (by omega)) (by omega) ⟨?_, fun u hu hm => ?_⟩ (jqi (jqa K rfl) rfl)
        · rw [fcn_1 y]
          exact xj1 H.1 (by omega)
        · show (ps_a (ps_ua s 956 (fcn l v) x2) 956 (fcn l u)).toInt = u
          rw [ps_a_ua]
          by_cases e : u = v
          · rw [if_pos ⟨rfl, by rw [e]⟩, e]
            exact h2
          · have := fcn_lt hm (show u < v by omega)
            rw [if_neg (by omega)]
            exact H.2 u (by omega) hm
      · refine fs_13_7 W0 k n (xj1 h2 (by omega)) (by omega) ⟨by rw [fcn_0 y]; exact H.1, fun u hu hm => ?_⟩ K
        by_cases e : u = v
        · rw [e] at hm
          exact absurd hm y
        · exact H.2 u (by omega) hm
theorem fs_13 {n : Nat} {l : List Nat} {s : ps_S} {R : ps_S → Prop} (W0 : cv_W s 934 l) (k : ∀ s', FF s' l 12 → jq 944 [956] [10] s s' → R s') : pl_Cl n 13 [.ref 944, .ref 934] s (ps_rV R) := by
  cases n with
  | zero => exact pl_At_0
  | succ n =>
  show pl_At (n + 1) 13 0 [(0, .ref 944), (1, .ref 934)] [] s (ps_rV R)
  have K : jq 944 [956] [10] s (ps_ui s 944 10 0) := jqi jq_refl rfl
  exact pl_13_0 (fs_13_7 W0 k n (v := 0) rfl (Nat.zero_le _) ⟨rfl, fun u hu => absurd hu (Nat.not_lt_zero _)⟩ K)
/-- a theory and its digits' places alone -/
def JB (s : ps_S) (th m : Nat) (h : tx_H) : Prop := cv_H s th h ∧ JL s th m h.1
theorem JB_of {s : ps_S} {th m : Nat} {h : tx_H} (H : JA s th m h) : JB s th m h := ⟨H.1, H.2.1⟩
theorem JB_cfr {C : Nat → Prop} {s s' : ps_S} {th m : Nat} {h : tx_H} (H : JB s th m h) (F : cfr C s s') (hth : th = 2 ∨ th = 26) (hC : ∀ q, q < 944 ∨ q = 945 ∨ q = 947 ∨ q = 948 → ¬ C q) (r16 : ps_r s' 944 16 = ps_r s 944 16) (i2 : ps_i s' 944 2 = ps_i s 944 2) (i11 : ps_i s' 944 11 = ps_i s 944 11) : JB s' th m h := by
  obtain ⟨h1, ⟨j1, j2, ⟨j3, j3'⟩, j4, j5⟩⟩ := H
  have hl := h1.2.2.1
  refine ⟨cv_H_cfr h1 F (fun q a b => hC q (Or.inl (by omega))), ⟨by rw [r16]; exact j1, by rw [i11]; exact j2, ⟨by rw [i2]; exact j3, ?_⟩, ?_, ?_⟩⟩
  · unfold ar_L
    rw [(F 945 (hC _ (by omega))).2.2.2.1]
    exact j3'
  · rw [(F 947 (hC _ (by omega))).2.2.2.1]
    exact j4
  · rw [(F 948 (hC _ (by omega))).2.2.2.1]
    exact j5
/-- all that is laid for a formula in a model -/
def JFo (s : ps_S) (th m M : Nat) (h : tx_H) (l : List Nat) : Prop := JB s th m h ∧ cv_W s 934 l ∧ shE s 950 (arh h.1) l 0 ∧ FF s l 12 ∧ DG s m M h.1
/-- what evaluating the formula changes -/
def CFo (q : Nat) : Prop := q = 944 ∨ q = 954 ∨ q = 955
theorem JFo_cfr {s s' : ps_S} {th m M : Nat} {h : tx_H} {l : List Nat} (H : JFo s th m M h l) (F : cfr CFo s s') (hth : th = 2 ∨ th = 26) (r16 : ps_r s' 944 16 = ps_r s 944 16) (hi : ps_i s' 944 = ps_i s 944) : JFo s' th m M h l := by
  obtain ⟨h1, h2, h3, h4, h5⟩ := H
  refine ⟨JB_cfr h1 F hth (fun q a b => by unfold CFo at b; omega) r16 (by rw [hi]) (by rw [hi]), cv_W_cfr h2 F (by unfold CFo; omega) (by unfold CFo; omega), ?_, ?_, ?_⟩
  · intro j a b
    rw [(F 951 (by unfold CFo; omega)).2.2.2.1]
    exact h3 j a b
  · unfold FF
    rw [hi, (F 956 (by unfold CFo; omega)).2.2.2.1]
    exact h4
  · intro j b hb
    rw [(F 946 (by unfold CFo; omega)).2.2.2.1]
    exact h5 j b hb
section J14
variable {th m M : Nat} {h : tx_H} {l : List Nat} {s0 : ps_S} {R : Int32 → ps_S → Prop}
/-- a choice laid -/
theorem fs_14_51 {n0 kc : Nat} {x2 x3 : Int32} (hth : th = 2 ∨ th = 26) (hm : 1 ≤ m ∧ m ≤ 3) (hkc : kc < 100000) (kk : ∀ s', cfr CFo s0 s' → ps_i s' 944 = ps_i s0 944 → ps_r s' = ps_r s0 → (∀ v, v < 12 → 60 + v ∈ l → (ps_a s' 955 v).toInt = frc m l kc v) → pl_At n0 14 105 [(0, .ref 944), (2, .int x2), (3, .int x3)] [] s' (ps_rI R)) (H0 : JFo s0 th m M h l) : ∀ (n : Nat) {s : ps_S} {x4 x5 : Int32} {i : Nat}, n ≤ n0 → x5.toInt = i → i ≤ fcn l 12 → x4.toInt = (kc / m ^ i : Nat) → cfr CFo s0 s → ps_i s 944 = ps_i s0 944 → ps_r s = ps_r s0 → (∀ v, v < 12 → 60 + v ∈ l → fcn l v < i → (ps_a s 955 v).toInt = frc m l kc v) → pl_At n 14 51 [(0, .ref 944), (2, .int x2), (3, .int x3), (4, .int x4), (5, .int x5)] [] s (ps_rI R)
  | 0, _, _, _, _, _, _, _, _, _, _, _, _ => pl_At_0
  | n + 1, s, x4, x5, i, hn, h5, hi, h4, F, Fi, Fr, hv => by
    have e10 : (ps_i s 944 10).toInt = fcn l 12 := by rw [Fi]; exact H0.2.2.2.1.1
    have e11 : (ps_i s 944 11).toInt = m := by rw [Fi]; exact H0.1.2.2.1
    have c0 : (0 : Int32).toInt = 0 := by decide
    have hle := fcn_le (l := l) (v := 12)
    have hd : kc / m ^ i ≤ kc := Nat.div_le_self _ _
    refine pl_14_51 ⟨fun z => ?_, fun z => ⟨fun y => absurd (xle y) (by omega), fun y => ?_⟩⟩
    · have z := xle z
      exact (kk s F Fi Fr (fun v a b => hv v a b (by have := fcn_lt b a; omega))).le (by omega)
    · have z := xlt z
      obtain ⟨u, hu, hum, e⟩ := fcn_at (l := l) (v := 12) (i := i) (by omega)
      refine fs_182v (a := i) h5 (show i < 12 from by omega) (by decide) (fun v1 q1 => ?_)
      have ev : v1.toInt = u := by
        rw [q1, (F 956 (by unfold CFo; omega)).2.2.2.1, ← e]
        exact H0.2.2.2.1.2 u hu hum
      refine pl_nk_i (fun _ => ?_)
      refine fs_183 (a := u) ev (show u < 12 from hu) (by decide) (pl_nk_i (fun _ => ?_))
      have ed : (x4 - (x4 / (ps_i s 944 11)) * (ps_i s 944 11)).toInt = (frc m l kc u : Nat) := by
        rw [xmodr (by rw [h4]; exact Int.natCast_nonneg _) (by omega), h4, e11, ← Int.natCast_emod]
        unfold frc
        rw [e]
      refine fs_14_51 hth hm hkc kk H0 n (by omega) (xj1 h5 (by omega)) (by omega) ?_ (cfr_a F (Or.inr (Or.inr rfl))) Fi Fr (fun v a b c => ?_)
      · show (x4 / (ps_i s 944 11)).toInt = _
        rw [xdivr (by rw [h4]; exact Int.natCast_nonneg _) (by omega), h4, e11, ← Int.natCast_ediv, Nat.div_div_eq_div_mul, Nat.pow_succ]
      · rw [ps_a_ua]
        by_cases ev2 : v = u
        · rw [if_pos ⟨rfl, ev2⟩, ed, ev2]
        · rw [if_neg (fun w => ev2 w.2)]
          refine hv v a b ?_
          rcases Nat.lt_trichotomy v u with w | w | w
          · have := fcn_lt b w; omega
          · exact absurd w ev2
          · have := fcn_lt hum w; omega
theorem fs_14_40 (hth : th = 2 ∨ th = 26) (hm : 1 ≤ m ∧ m ≤ 3) (hf : wf (sg h.1) 5 l [(true, 0)]) (hbc : bc (arh h.1) [(0, 0)] l) (hl40 : l.length ≤ 40) (h4 : fcn l 12 ≤ 4) (k1 : ∀ s', FA h l m M → JFo s' th m M h l → cfr CFo s0 s' → ps_i s' 944 = ps_i s0 944 → R 1 s') (k0 : ∀ s', ¬ FA h l m M → JFo s' th m M h l → cfr CFo s0 s' → ps_i s' 944 = ps_i s0 944 → R 0 s') : ∀ (n : Nat) {s : ps_S} {x2 x3 : Int32} {kc : Nat}, x2.toInt = (m ^ fcn l 12 : Nat) → x3.toInt = kc → kc ≤ m ^ fcn l 12 → JFo s th m M h l → cfr CFo s0 s → ps_i s 944 = ps_i s0 944 → ps_r s 944 14 = 934 ∧ ps_r s 944 15 = 950 → (∀ k, k < kc → svg m h.1 (dD (md_B m (md_sy m h.1)) M) (frc m l k) 13 [] l = 1) → pl_At n 14 40 [(0, .ref 944), (2, .int x2), (3, .int x3)] [] s (ps_rI R)
  | 0, _, _, _, _, _, _, _, _, _, _, _, _ => pl_At_0
  | n + 1, s, x2, x3, kc, h2, h3, hk, J, F, Fi, hr, hj => by
    have hpw := md_pow (i := fcn l 12) hm.2 (by omega)
    have hp81 : m ^ fcn l 12 ≤ 81 := by
      have a1 : m ^ fcn l 12 ≤ 3 ^ fcn l 12 := Nat.pow_le_pow_left hm.2 _
      have a2 : 3 ^ fcn l 12 ≤ 3 ^ 4 := Nat.pow_le_pow_right (by decide) h4
      have a3 : 3 ^ 4 = 81 := by decide
      omega
    refine pl_14_40 ⟨fun z => ?_, fun z => ?_⟩
    · have z := xle z
      have e : kc = m ^ fcn l 12 := by omega
      exact k1 s (fun k hk2 => hj k (by omega)) J F Fi
    · have z := xlt z
      refine fs_14_51 (M := M) (h := h) (n0 := n) hth hm (kc := kc) (by omega) (fun s1 F1 Fi1 Fr1 hv => ?_) J n (i := 0) (Nat.le_refl _) rfl (Nat.zero_le _) (by rw [Nat.pow_zero, Nat.div_one]; exact h3) cfr_refl rfl rfl (fun v a b c => absurd c (Nat.not_lt_zero _))
      cases n with
      | zero => exact pl_At_0
      | succ n =>
      have J1 : JFo s1 th m M h l := JFo_cfr J F1 hth (by rw [Fr1]) Fi1
      have FJ : JF 934 950 th m h.1 l := ⟨rfl, rfl, hth, ⟨by decide, by decide, by decide⟩, hm, hl40⟩
      have E1 : JE s1 934 950 th m h.1 l (dD (md_B m (md_sy m h.1)) M) (frc m l kc) := by
        refine ⟨⟨by rw [Fr1]; exact hr.1, by rw [Fr1]; exact hr.2⟩, J1.2.1, J1.2.2.1, J1.1.1.1, J1.1.2, fun j b hb => ⟨J1.2.2.2.2 j b hb, dgo_d hm j b hb⟩, fun v hv2 => ?_⟩
        have hv12 : v < 12 := by
          have := ws_72 (σ := sg h.1) ⟨J1.1.1.1.2.2.1, J1.1.1.1.2.2.2.1⟩ (wf_ws hf) _ hv2
          omega
        exact ⟨hv12, hv v hv12 hv2, Nat.mod_lt _ hm.1⟩
      refine pl_14_105 ?_
      refine (J15_all FJ n).1.1 (i := 0) (p := 0) (env := []) E1 (fun k x hk => by cases hk) (pt_0 hbc hf) rfl rfl rfl (fun v s' q => ?_)
      obtain ⟨b1, i1, P⟩ := q
      rw [List.drop_zero] at i1
      have F2 : cfr CFo s1 s' := cfr_mono (jq_cfr P.2.2.1) (fun q z => by
        rcases z with z | z
        · exact Or.inl z
        · have := List.contains_iff_mem.mp z
          rw [List.mem_singleton] at this
          exact Or.inr (Or.inl this))
      have Fi2 : ps_i s' 944 = ps_i s1 944 := funext fun f => jq_i P.2.2.1 f rfl
      have J2 : JFo s' th m M h l := JFo_cfr J1 F2 hth (by rw [jq_r P.2.2.1]) Fi2
      have c0 : (0 : Int32).toInt = 0 := by decide
      refine ⟨fun y => ?_, fun y => ?_⟩
      · have y := xne y
        refine (fs_14_40 hth hm hf hbc hl40 h4 k1 k0 n h2 (xj1 h3 (by omega)) (by omega) J2 (cfr_tr F (cfr_tr F1 F2)) (Fi2.trans (Fi1.trans Fi)) (by rw [jq_r P.2.2.1, Fr1]; exact hr) (fun k hk2 => ?_))
        rcases Nat.lt_or_ge k kc with a | a
        · exact hj k a
        · rw [show k = kc from by omega]
          exact i1.mp (by omega)
      · have y := xeq y
        exact k0 s' (fun a => by have := i1.mpr (a kc (by omega)); omega) J2 (cfr_tr F (cfr_tr F1 F2)) (Fi2.trans (Fi1.trans Fi))
theorem fs_14_17 (hth : th = 2 ∨ th = 26) (hm : 1 ≤ m ∧ m ≤ 3) (h4 : fcn l 12 ≤ 4) {s : ps_S} (J : JFo s th m M h l) (k : ∀ (n : Nat) (x2 : Int32), x2.toInt = (m ^ fcn l 12 : Nat) → pl_At n 14 40 [(0, .ref 944), (2, .int x2), (3, .int 0)] [] s (ps_rI R)) : ∀ (n : Nat) {x2 x3 : Int32} {i : Nat}, x3.toInt = i → i ≤ fcn l 12 → x2.toInt = (m ^ i : Nat) → pl_At n 14 17 [(0, .ref 944), (2, .int x2), (3, .int x3)] [] s (ps_rI R)
  | 0, _, _, _, _, _, _ => pl_At_0
  | n + 1, x2, x3, i, h3, hi, h2 => by
    have e10 : (ps_i s 944 10).toInt = fcn l 12 := J.2.2.2.1.1
    have e11 : (ps_i s 944 11).toInt = m := J.1.2.2.1
    refine pl_14_17 ⟨fun z => ?_, fun z => ?_⟩
    · have z := xle z
      exact k n x2 (by rw [h2, show i = fcn l 12 from by omega])
    · have z := xlt z
      refine fs_14_17 hth hm h4 J k n (xj1 h3 (by omega)) (by omega) ?_
      have hp := md_pow (i := i + 1) hm.2 (by omega)
      rw [Nat.pow_succ] at hp ⊢
      exact xImN h2 e11 (by omega)
theorem fs_14 {n : Nat} (hth : th = 2 ∨ th = 26) (hm : 1 ≤ m ∧ m ≤ 3) (hf : wf (sg h.1) 5 l [(true, 0)]) (hbc : bc (arh h.1) [(0, 0)] l) (hl40 : l.length ≤ 40) (h4 : fcn l 12 ≤ 4) (J : JFo s0 th m M h l) (k1 : ∀ s', FA h l m M ∧ JFo s' th m M h l ∧ cfr CFo s0 s' ∧ ps_i s' 944 = ps_i s0 944 → R 1 s') (k0 : ∀ s', ¬ FA h l m M ∧ JFo s' th m M h l ∧ cfr CFo s0 s' ∧ ps_i s' 944 = ps_i s0 944 → R 0 s') : pl_Cl n 14 [.ref 944, .ref 934] s0 (ps_rI R) := by
  cases n with
  | zero => exact pl_At_0
  | succ n =>
  show pl_At (n + 1) 14 0 [(0, .ref 944), (1, .ref 934)] [] s0 (ps_rI R)
  refine pl_14_0 ?_
  have F1 : cfr CFo s0 (ps_ur (ps_ur s0 944 14 934) 944 15 950) := cfr_r (cfr_r cfr_refl (Or.inl rfl)) (Or.inl rfl)
  have J1 : JFo (ps_ur (ps_ur s0 944 14 934) 944 15 950) th m M h l := JFo_cfr J F1 hth (by rw [ps_r_ur, if_neg (by omega), ps_r_ur, if_neg (by omega)]) rfl
  refine fs_14_17 hth hm h4 J1 (fun n x2 h2 => ?_) n (i := 0) rfl (Nat.zero_le _) (by rw [Nat.pow_zero]; rfl)
  refine fs_14_40 (s0 := s0) hth hm hf hbc hl40 h4 (fun s' a b c d => k1 s' ⟨a, b, c, d⟩) (fun s' a b c d => k0 s' ⟨a, b, c, d⟩) n h2 (kc := 0) rfl (Nat.zero_le _) J1 F1 rfl ⟨?_, ?_⟩ (fun k hk => absurd hk (Nat.not_lt_zero _))
  · rw [ps_r_ur, if_neg (by omega), ps_r_ur, if_pos ⟨rfl, rfl⟩]
  · rw [ps_r_ur, if_pos ⟨rfl, rfl⟩]
end J14
/-- counter()'s answer -/
def CO_A (h : tx_H) (l : List Nat) (x v : Int32) : Prop := ((¬ (1 ≤ x.toInt ∧ x.toInt ≤ 3) ∨ l = []) ∧ v.toInt = -1) ∨ (((1 ≤ x.toInt ∧ x.toInt ≤ 3) ∧ l ≠ []) ∧ (((4096 < md_p (md_B x.toInt.toNat (md_sy x.toInt.toNat h.1)) ∨ 4 < fcn l 12) ∧ v.toInt = -2) ∨ ((md_p (md_B x.toInt.toNat (md_sy x.toInt.toNat h.1)) ≤ 4096 ∧ fcn l 12 ≤ 4) ∧ ((∃ M : Nat, v.toInt = M ∧ M < md_p (md_B x.toInt.toNat (md_sy x.toInt.toNat h.1)) ∧ (AX h x.toInt.toNat M ∧ ¬ FA h l x.toInt.toNat M) ∧ ∀ M', M' < M → ¬ (AX h x.toInt.toNat M' ∧ ¬ FA h l x.toInt.toNat M')) ∨ (v.toInt = -1 ∧ ∀ M', M' < md_p (md_B x.toInt.toNat (md_sy x.toInt.toNat h.1)) → ¬ (AX h x.toInt.toNat M' ∧ ¬ FA h l x.toInt.toNat M'))))))
theorem CO_A_eq {h : tx_H} {l : List Nat} {x v v' : Int32} (a : CO_A h l x v) (b : CO_A h l x v') : v = v' := by
  apply Int32.toInt_inj.mp
  rcases a with ⟨a1, a2⟩ | ⟨⟨a1, a0⟩, a⟩ <;> rcases b with ⟨b1, b2⟩ | ⟨⟨b1, b0⟩, b⟩
  · omega
  · rcases a1 with a1 | a1
    · exact absurd b1 a1
    · exact absurd a1 b0
  · rcases b1 with b1 | b1
    · exact absurd a1 b1
    · exact absurd b1 a0
  · rcases a with ⟨a2, a3⟩ | ⟨a2, a3⟩ <;> rcases b with ⟨b2, b3⟩ | ⟨b2, b3⟩
    · omega
    · clear b3; omega
    · clear a3; omega
    · rcases a3 with ⟨M, e1, e2, e3, e4⟩ | ⟨e1, e2⟩ <;> rcases b3 with ⟨M', f1, f2, f3, f4⟩ | ⟨f1, f2⟩
      · rcases Nat.lt_trichotomy M M' with z | z | z
        · exact absurd e3 (f4 M z)
        · omega
        · exact absurd f3 (e4 M' z)
      · exact absurd e3 (f2 M e2)
      · exact absurd f3 (e2 M' f2)
      · omega
theorem fs_5_50 {th m p : Nat} {h : tx_H} {l : List Nat} {x4 : Int32} {R : Int32 → ps_S → Prop} (hth : th = 2 ∨ th = 26) (hm : 1 ≤ m ∧ m ≤ 3) (hw : WFt h) (hb : BTh h) (hf : wf (sg h.1) 5 l [(true, 0)]) (hbc : bc (arh h.1) [(0, 0)] l) (hl40 : l.length ≤ 40) (h4 : fcn l 12 ≤ 4) (hx4 : x4.toInt = p) (hp : p ≤ 4096) (k : ∀ (v : Int32) s', ((∃ M : Nat, v.toInt = M ∧ M < p ∧ (AX h m M ∧ ¬ FA h l m M) ∧ ∀ M', M' < M → ¬ (AX h m M' ∧ ¬ FA h l m M')) ∨ (v.toInt = -1 ∧ ∀ M', M' < p → ¬ (AX h m M' ∧ ¬ FA h l m M'))) → JG s' h → R v s') : ∀ (n : Nat) {s : ps_S} {x5 : Int32} {M : Nat}, x5.toInt = M → JA s th m h → cv_W s 934 l → shE s 950 (arh h.1) l 0 → FF s l 12 → JG s h → (∀ M', M' < M → ¬ (AX h m M' ∧ ¬ FA h l m M')) → pl_At n 5 50 [(0, .ref 944), (2, .ref 934), (4, .int x4), (5, .int x5)] [] s (ps_rI R)
  | 0, _, _, _, _, _, _, _, _, _, _ => pl_At_0
  | n + 1, s, x5, M, h5, J, W, E, H, G, hj => by
    refine pl_5_50 ⟨fun z => ?_, fun z => ?_⟩
    · have z := xle z
      exact k _ _ (Or.inr ⟨by decide, fun M' hM => hj M' (by omega)⟩) G
    · have z := xlt z
      have keep : ∀ {C : Nat → Prop} {s1 : ps_S}, cfr C s s1 → (∀ q, q = 934 ∨ q = 935 ∨ q = 951 ∨ q = 956 → ¬ C q) → ps_i s1 944 = ps_i s 944 → cv_W s1 934 l ∧ shE s1 950 (arh h.1) l 0 ∧ FF s1 l 12 := fun F hC Fi => by
        refine ⟨cv_W_cfr W F (hC _ (by omega)) (hC _ (by omega)), fun j a b => ?_, ?_⟩
        · rw [(F 951 (hC _ (by omega))).2.2.2.1]
          exact E j a b
        · unfold FF
          rw [Fi, (F 956 (hC _ (by omega))).2.2.2.1]
          exact H
      refine fs_11 hth hm hw hb (M := M) (by omega) h5 J G (fun s1 q => ⟨fun y => absurd y (by decide), fun _ => ?_⟩) (fun s1 q => ⟨fun _ => ?_, fun y => absurd rfl y⟩)
      · obtain ⟨q1, q2, q3, q4, q5⟩ := q
        obtain ⟨W1, E1, H1⟩ := keep q4 (fun q a b => by unfold CIg at b; omega) q5
        have h90 : (md_B m (md_sy m h.1)).length ≤ 90 := by
          have hl := md_o_le hm.2 (md_sy_ar (m := m) q2.1.1) (md_sy m h.1).length (Nat.le_refl _)
          unfold md_o at hl
          rw [List.take_length, md_sy_len] at hl
          have := q2.1.1.2.2.1
          have := q2.1.1.2.2.2.1
          omega
        refine fs_8 (M := M) (by omega) (fun b hb2 => md_b3 hm hb2) h90 q2.2.1.2.2.1 h5 (fun s2 K D => ?_)
        have hne : ∀ q, q = 944 ∨ [946].contains q = true → q = 944 ∨ q = 946 := fun q b => by
          rcases b with b | b
          · exact Or.inl b
          · have := List.contains_iff_mem.mp b
            rw [List.mem_singleton] at this
            exact Or.inr this
        have J2 := JA_cfr q2 (jq_cfr K) hth (fun q a b => by have := hne q b; omega) (by rw [jq_r K]) (jq_i K 2 rfl) (jq_i K 11 rfl)
        have Fi2 : ps_i s2 944 = ps_i s 944 := (funext fun f => jq_i K f rfl).trans q5
        obtain ⟨W2, E2, H2⟩ := keep (C := fun q => CIg q ∨ q = 944 ∨ q = 946) (cfr_tr (cfr_mono q4 (fun q z => Or.inl z)) (cfr_mono (jq_cfr K) (fun q z => Or.inr (hne q z)))) (fun q a b => by unfold CIg at b; omega) Fi2
        have G2 := JG_cfr q3 (jq_cfr K) (fun b => by have := hne _ b; omega) (fun b => by have := hne _ b; omega)
        refine fs_14 (M := M) hth hm hf hbc hl40 h4 ⟨JB_of J2, W2, E2, H2, D⟩ (fun s3 q => ⟨fun _ => ?_, fun y => absurd y (by decide)⟩) (fun s3 q => ⟨fun y => absurd rfl y, fun _ => ?_⟩)
        · obtain ⟨r1, ⟨r2, r3, r4, r5, r6⟩, r7, r8⟩ := q
          refine fs_5_50 hth hm hw hb hf hbc hl40 h4 hx4 hp k n (xj1 h5 (by omega)) (JA_cfr J2 r7 hth (fun q a b => by unfold CFo at b; omega) (r2.2.1.trans J2.2.1.1.symm) (by rw [r8]) (by rw [r8])) r3 r4 r5 (JG_cfr G2 r7 (by unfold CFo; omega) (by unfold CFo; omega)) (fun M' hM => ?_)
          rcases Nat.lt_or_ge M' M with a | a
          · exact hj M' a
          · rw [show M' = M from by omega]
            exact fun b => b.2 r1
        · obtain ⟨r1, -, r7, r8⟩ := q
          exact k _ _ (Or.inl ⟨M, h5, by omega, ⟨q1, r1⟩, hj⟩) (JG_cfr G2 r7 (by unfold CFo; omega) (by unfold CFo; omega))
      · obtain ⟨q1, q2, q3, q4, q5⟩ := q
        obtain ⟨W1, E1, H1⟩ := keep q4 (fun q a b => by unfold CIg at b; omega) q5
        refine fs_5_50 hth hm hw hb hf hbc hl40 h4 hx4 hp k n (xj1 h5 (by omega)) q2 W1 E1 H1 q3 (fun M' hM => ?_)
        rcases Nat.lt_or_ge M' M with a | a
        · exact hj M' a
        · rw [show M' = M from by omega]
          exact fun b => q1 b.1
theorem fs_175 {n : Nat} {s : ps_S} {h : tx_H} {l : List Nat} {x1 : Int32} (c : TRc s h l) (hw : WFt h) (hb : BTh h) (hf : WFf h.1 l) (hbc : l ≠ [] → bc (arh h.1) [(0, 0)] l) (G : JG s h) : pl_Cl n 175 [.ref 0, .int x1] s (ps_rI (fun v s' => CO_A h l x1 v ∧ JG s' h)) := by
  cases n with
  | zero => exact pl_At_0
  | succ n =>
  show pl_At (n + 1) 175 0 [(0, .ref 0), (1, .int x1)] [] s _
  refine pl_175_0 ?_
  have hth : ps_r s 0 2 = 2 ∨ ps_r s 0 2 = 26 := by have := c.2.1; omega
  have h8 := c.1.2.2.1
  have hsz := c.2.2.1
  have hl40 := c.2.2.2.2.1
  have c0 : (0 : Int32).toInt = 0 := by decide
  refine fs_181 (fun h1 h2 => ⟨fun z => absurd z (by decide), fun _ => ⟨fun z => ?_, fun z => ?_⟩⟩) (fun h0 => ⟨fun _ => ⟨Or.inl ⟨Or.inl h0, by decide⟩, G⟩, fun z => absurd rfl z⟩)
  · have z := xne z
    have hl : l ≠ [] := fun y => by rw [y] at hsz; exact z hsz
    have hf : wf (sg h.1) 5 l [(true, 0)] := by
      rcases hf with hf | hf
      · exact absurd hf hl
      · exact hf
    cases n with
    | zero => exact pl_At_0
    | succ n =>
    show pl_At (n + 1) 5 0 [(0, .ref 944), (1, .ref (ps_r s 0 2)), (2, .ref 934), (3, .int x1)] [] s _
    refine pl_5_0 ?_
    refine fs_2 (m := x1.toInt.toNat) (by omega) hth c.1.1 (by omega) (fun v1 s1 e J F => ?_)
    have H1 := cv_H_cfr c.1 F (fun q a b => by unfold JC; omega)
    have W1 := cv_W_cfr c.2.2 F (by unfold JC; omega) (by unfold JC; omega)
    have G1 : JG s1 h := JG_cfr G F (by unfold JC; omega) (by unfold JC; omega)
    refine fs_13 W1 (fun s2 FF2 K2 => ?_)
    have cm : (-2 : Int32).toInt = -2 := by decide
    have c4 : (4 : Int32).toInt = 4 := by decide
    have hne : ∀ q, q = 944 ∨ [956].contains q = true → q = 944 ∨ q = 956 := fun q b => by
      rcases b with b | b
      · exact Or.inl b
      · have := List.contains_iff_mem.mp b
        rw [List.mem_singleton] at this
        exact Or.inr this
    have F2 : cfr (fun q => q = 944 ∨ q = 956) s1 s2 := cfr_mono (jq_cfr K2) hne
    have G2 : JG s2 h := JG_cfr G1 F2 (by omega) (by omega)
    have H2 := cv_H_cfr H1 F2 (fun q a b => by omega)
    have W2 := cv_W_cfr W1 F2 (by omega) (by omega)
    have hff := FF2.1
    refine ⟨fun y => ?_, fun y => ⟨fun y2 => ?_, fun y2 => ?_⟩⟩
    · have y := xeq y
      refine ⟨Or.inr ⟨⟨⟨h1, h2⟩, hl⟩, Or.inl ⟨Or.inl ?_, by decide⟩⟩, G2⟩
      rw [e] at y
      unfold md_v at y
      split at y <;> omega
    · have y := xne y
      have y2 := xle y2
      have hp : md_p (md_B x1.toInt.toNat (md_sy x1.toInt.toNat h.1)) ≤ 4096 ∧ v1.toInt = md_p (md_B x1.toInt.toNat (md_sy x1.toInt.toNat h.1)) := by
        rw [e] at y ⊢
        unfold md_v at y ⊢
        split at y
        · next w => rw [if_pos w]; exact ⟨w, rfl⟩
        · omega
      have er2 : ps_r s2 944 16 = ps_r s 0 2 := by rw [jq_r K2]; exact J.1
      refine fs_9 hth H2 hw er2 (fun s3 F3 M3 => ?_)
      have H3 := cv_H_cfr H2 F3 (fun q a b => by unfold CMA; omega)
      have W3 := cv_W_cfr W2 F3 (by unfold CMA; omega) (by unfold CMA; omega)
      have er3 : ps_r s3 944 16 = ps_r s 0 2 := by rw [(F3 944 (by unfold CMA; omega)).2.2.1]; exact er2
      rw [er3]
      refine fs_103 (r := 950) (r1 := 934) (l := l) rfl rfl hth ⟨by omega, by omega⟩ (wf_ws hf) (Or.inl rfl) W3 H3.1 (fun s4 Z F4 => ?_)
      have f2 := fun q (hq : q ≠ 944) (hq2 : q ≠ 956) => F2 q (fun z => by omega)
      have a3 : ∀ q, q < 989 → ps_a s3 q = ps_a s2 q := fun q hq => (F3 q (by unfold CMA; omega)).2.2.2.1
      have a4 : ∀ q, (q < 950 ∨ 953 < q) → ps_a s4 q = ps_a s3 q := fun q hq => (F4 q (by unfold CSh; omega)).2.2.2.1
      have i4 : ps_i s4 944 = ps_i s2 944 := by
        funext f
        rw [(F4 944 (by unfold CSh; omega)).1, (F3 944 (by unfold CMA; omega)).1]
      have J4 : JA s4 (ps_r s 0 2) x1.toInt.toNat h := by
        obtain ⟨j1, j2, ⟨j3, j3'⟩, j4, j5⟩ := J
        have e2 : ∀ f, f ≠ 10 → ps_i s4 944 f = ps_i s1 944 f := fun f hf2 => by
          rw [i4]
          exact jq_i K2 f (by rw [Bool.eq_false_iff]; intro z; have := List.contains_iff_mem.mp z; rw [List.mem_singleton] at this; exact hf2 this)
        have ea : ∀ q, q = 945 ∨ q = 947 ∨ q = 948 → ps_a s4 q = ps_a s1 q := fun q hq => by
          rw [a4 q (by omega), a3 q (by omega)]
          exact (f2 q (by omega) (by omega)).2.2.2.1
        refine ⟨cv_H_cfr H3 F4 (fun q a b => by unfold CSh; omega), ⟨?_, by rw [e2 11 (by decide)]; exact j2, ⟨by rw [e2 2 (by decide)]; exact j3, ?_⟩, ?_, ?_⟩, ?_⟩
        · rw [(F4 944 (by unfold CSh; omega)).2.2.1]
          exact er3
        · unfold ar_L
          rw [ea 945 (by omega)]
          exact j3'
        · rw [ea 947 (by omega)]
          exact j4
        · rw [ea 948 (by omega)]
          exact j5
        · intro k w l2 hk hk2 j a b
          have hk3 := (List.getElem?_eq_some_iff.mp hk2).1
          rw [a4 _ (by omega)]
          exact M3 k w l2 hk hk2 j a b
      have FF4 : FF s4 l 12 := by
        unfold FF
        rw [i4, a4 956 (by omega), a3 956 (by omega)]
        exact FF2
      have G4 : JG s4 h := JG_cfr (JG_cfr G2 F3 (by unfold CMA; omega) (by unfold CMA; omega)) F4 (by unfold CSh; omega) (by unfold CSh; omega)
      exact fs_5_50 hth (by omega) hw hb hf (hbc hl) hl40 (by omega) hp.2 hp.1 (fun v s' a G' => ⟨Or.inr ⟨⟨⟨h1, h2⟩, hl⟩, Or.inr ⟨⟨hp.1, by omega⟩, a⟩⟩, G'⟩) n (M := 0) rfl J4 (cv_W_cfr W3 F4 (by unfold CSh; omega) (by unfold CSh; omega)) Z.1 FF4 G4 (fun M' hM => absurd hM (Nat.not_lt_zero _))
    · have y2 := xlt y2
      exact ⟨Or.inr ⟨⟨⟨h1, h2⟩, hl⟩, Or.inl ⟨Or.inr (by omega), by decide⟩⟩, G2⟩
  · have z := xeq z
    exact ⟨Or.inl ⟨Or.inr (List.eq_nil_of_length_eq_zero (by omega)), by decide⟩, G⟩

