set_option maxRecDepth 100000
/-! the class: a term rewritten, again and again -/
theorem rl_n_w1 {σ : mSig} : ∀ {l : List Nat} {b : Bool}, ws σ l [b] → ∃ b', ws σ (l.drop (rl_n l)) [b']
  | [], b, h => by cases h
  | c :: l, b, h => by
    by_cases hc : c = 4
    · subst hc
      obtain ⟨b', W', ks, e, hk, h2⟩ := ws_cons.mp h
      cases e
      rw [List.append_nil] at h2
      have hks : ks = [true] := by
        rcases kS_cases hk with z | z | z | z | z | z | z
        · omega
        · omega
        · exact z.2.2
        · omega
        · omega
        · omega
        · omega
      subst hks
      rw [rl_n_c, List.drop_succ_cons]
      exact rl_n_w1 h2
    · have e : rl_n (c :: l) = 0 := by
        show (if c = 4 then _ else _) = 0
        rw [if_neg hc]
      rw [e, List.drop_zero]
      exact ⟨b, h⟩
/-- the sides of a rule -/
theorem rl_parts {g : tx_g} {r : List Nat} {b : Bool} (hA : ArW (sg g) (arh g)) (hw : ws (sg g) r [b]) (hr : rl_is (arh g) r) : rl_l r ≤ rl_r (arh g) r ∧ rl_r (arh g) r ≤ r.length ∧ ws (sg g) (rw_L (arh g) r) [false] ∧ ws (sg g) (r.drop (rl_r (arh g) r)) [false] ∧ (∃ c t, rw_L (arh g) r = c :: t ∧ 20 ≤ c ∧ c < 40 ∧ ∃ ks, kS (sg g) false c = some ks) ∧ ∀ x, x ∈ r.drop (rl_r (arh g) r) → 40 ≤ x → x ∈ rw_L (arh g) r := by
  obtain ⟨h6, ⟨c, hc, c20, c40⟩, hh⟩ := hr
  obtain ⟨b', n4⟩ := rl_n_w1 hw
  rw [drop_c h6] at n4
  obtain ⟨bb, W', ks, e, hk, h2⟩ := ws_cons.mp n4
  cases e
  rw [List.append_nil] at h2
  have hks : ks = [false, false] := by
    rcases kS_cases hk with z | z | z | z | z | z | z
    · omega
    · omega
    · omega
    · exact z.2.2
    · omega
    · omega
    · omega
  subst hks
  have h2 : ws (sg g) (r.drop (rl_l r)) [false, false] := h2
  have hle := en_le hA (k := 1) h2 (by simp)
  rw [List.length_drop] at hle
  have hll := (List.getElem?_eq_some_iff.mp hc).1
  obtain ⟨g1, g2⟩ := en_rest hA (k := 1) h2 (by simp)
  have eL : rw_L (arh g) r = (r.drop (rl_l r)).take (en (arh g) (r.drop (rl_l r)) 1) := by
    unfold rw_L rl_r
    rw [Nat.add_sub_cancel_left]
  have eR : r.drop (rl_r (arh g) r) = (r.drop (rl_l r)).drop (en (arh g) (r.drop (rl_l r)) 1) := by
    rw [List.drop_drop]
    rfl
  have hpos := en_pos (ar := arh g) (t := r.drop (rl_l r)) (p := 1) (by rw [List.length_drop]; omega) (by decide)
  refine ⟨by unfold rl_r; omega, by unfold rl_r; omega, by rw [eL]; exact g2, by rw [eR]; exact g1, ?_, hh⟩
  rw [eL] at *
  obtain ⟨m, hm⟩ : ∃ m, en (arh g) (r.drop (rl_l r)) 1 = m + 1 := ⟨en (arh g) (r.drop (rl_l r)) 1 - 1, by omega⟩
  rw [hm, drop_c hc, List.take_succ_cons] at g2 ⊢
  obtain ⟨bb2, W2, ks2, e2, hk2, -⟩ := ws_cons.mp g2
  cases e2
  exact ⟨c, _, rfl, c20, c40, ks2, hk2⟩
/-- a place where no FUN stands -/
theorem rw_z_no {h : tx_H} {l : List Nat} {p : Nat} (hA : ArW (sg h.1) (arh h.1)) (hw : ∀ (k : Nat) (w r : List Nat), h.2[k]? = some (w, r) → ws (sg h.1) r [true]) (hp : ∀ c, l[p]? = some c → ¬ (20 ≤ c ∧ c < 40)) (k : Nat) : rw_z h l p k := by
  rintro l' ⟨w, r, e, B, a1, a2, a3, a4⟩
  obtain ⟨-, -, -, -, ⟨c, t, eL, c20, c40, -⟩, -⟩ := rl_parts hA (hw k w r a1) a2
  rw [eL, rw_m_c (by omega)] at a3
  split at a3
  · next hc => exact hp c hc ⟨c20, c40⟩
  · cases a3
theorem BNc_cfr {C : Nat → Prop} {s s' : ps_S} {l : List Nat} {B : Nat → Option (List Nat)} (b : BNc s l B) (F : cfr C s s') (h1 : ¬ C 1034) (h2 : ¬ C 1035) : BNc s' l B := fun k hk => by
  rw [(F 1034 h1).2.2.2.1, (F 1035 h2).2.2.2.1]
  exact b k hk
section R89
variable {g : tx_g} {l r : List Nat} {r1 rt p e : Nat} {s0 : ps_S} {R : ps_S → Prop} {x3 : Int32} {B : Nat → Option (List Nat)}
theorem fs_89_23 (W0 : cv_W s0 1022 l) (E0 : shE s0 1026 (arh g) l 0) (hr1 : ps_is r1 5 = true) (hne : r1 < 1021) (Wr0 : cv_W s0 r1 r) (hv : ∀ c, c ∈ r → c < 60) (hv5 : ∀ c, c ∈ r → 40 ≤ c → c < 45) (hB : ∀ c, c ∈ r.drop rt → 40 ≤ c → ∃ U, B (c - 40) = some U) (b0 : BNc s0 l B) (h3 : x3.toInt = p) (hp : p < l.length) (he : e = p + en (arh g) (l.drop p) 1) (hel : e ≤ l.length) (k : ∀ s', CW s' 1024 (l.take p ++ rw_r B (r.drop rt) ++ l.drop e) → cfr (C2 1024) s0 s' → R s') : ∀ (n : Nat) {s : ps_S} {x4 : Int32} {i : Nat} {L : List Nat}, x4.toInt = i → rt ≤ i → i ≤ r.length → CW s 1024 (l.take p ++ L) → rw_r B (r.drop rt) = L ++ rw_r B (r.drop i) → cfr (C2 1024) s0 s → pl_At n 89 23 [(0, .ref 1021), (1, .ref r1), (3, .int x3), (4, .int x4)] [] s (ps_rV R)
  | 0, _, _, _, _, _, _, _, _, _, _ => pl_At_0
  | n + 1, s, x4, i, L, h4, hi, hir, C, hL, F => by
    have hl40 := W0.2.2.1
    have hr40 := Wr0.2.2.1
    have W := cv_W_cfr W0 F (by unfold C2; omega) (by unfold C2; omega)
    have Wr := cv_W_cfr Wr0 F (by unfold C2; omega) (by unfold C2; omega)
    have b := BNc_cfr b0 F (by unfold C2; omega) (by unfold C2; omega)
    refine pl_89_23 (pl_nk_i (fun _ => ⟨fun z => ?_, fun z => ?_⟩))
    · have z := xle z
      rw [Wr.1] at z
      have ei : i = r.length := by omega
      rw [ei, List.drop_length] at hL
      have hL : rw_r B (r.drop rt) = L := by rw [hL]; exact List.append_nil _
      refine fs_104 rfl h3 (by omega) (fun v1 q1 => ?_)
      have e1 : v1.toInt = e := by
        rw [q1, (F 1027 (by unfold C2; omega)).2.2.2.1, he]
        exact E0 p (Nat.zero_le _) hp
      refine fs_94w (a := e) (b := l.length) rfl rfl (by decide) W C e1 W.1 (Nat.le_refl _) (fun s2 C2' F2 => k s2 ?_ (cfr_tr F F2))
      rw [hL]
      have ee : (l.drop e).take (l.length - e) = l.drop e := List.take_of_length_le (by rw [List.length_drop]; omega)
      rw [ee] at C2'
      exact C2'
    · have z := xlt z
      rw [Wr.1] at z
      obtain ⟨c, hc⟩ : ∃ c, r[i]? = some c := ⟨_, List.getElem?_eq_getElem (by omega)⟩
      have hcm := List.mem_of_getElem? hc
      have hcd : c ∈ r.drop rt := List.mem_iff_getElem?.mpr ⟨i - rt, by rw [List.getElem?_drop, show rt + (i - rt) = i from by omega]; exact hc⟩
      have c60 := hv c hcm
      rw [drop_c hc] at hL
      refine fs_92c hr1 Wr h4 hc (fun v3 q3 => ?_)
      refine fs_185 (fun y => ⟨fun w => absurd w (by decide), fun _ => ?_⟩) (fun y => ⟨fun _ => ?_, fun w => absurd rfl w⟩)
      · have h40 : 40 ≤ c := by omega
        have h45 := hv5 c hcm h40
        have c40 : (40 : Int32).toInt = 40 := by decide
        have ex : (v3 - 40).toInt = (c - 40 : Nat) := by rw [xIs (by omega) (by omega), q3, c40]; omega
        obtain ⟨U, hU⟩ := hB c hcd h40
        rw [rw_r_v h40 hU] at hL
        rcases b (c - 40) (by omega) with ⟨y1, -⟩ | ⟨a, bb, y1, y2, y3, y4, y5⟩
        · rw [hU] at y1; cases y1
        · rw [hU] at y5
          have eU := Option.some.inj y5
          refine fs_182v (a := c - 40) ex (by rw [show ps_ln 1034 = 5 from rfl]; omega) (by decide) (fun v6 q6 => ?_)
          refine fs_182v (a := c - 40) ex (by rw [show ps_ln 1035 = 5 from rfl]; omega) (by decide) (fun v7 q7 => ?_)
          refine fs_94w (a := a) (b := bb) rfl rfl (by decide) W C (by rw [q6]; exact y1) (by rw [q7]; exact y2) y4 (fun s2 C2' F2 => ?_)
          rw [← eU, List.append_assoc] at C2'
          exact fs_89_23 W0 E0 hr1 hne Wr0 hv hv5 hB b0 h3 hp he hel k n (L := L ++ U) (xj1 h4 (by omega)) (by omega) (by omega) C2' (by rw [hL, List.append_assoc]) (cfr_tr F F2)
      · have h40 : ¬ 40 ≤ c := by omega
        rw [rw_r_c h40] at hL
        refine fs_93w rfl C q3 (fun s2 C2' F2 => ?_)
        rw [List.append_assoc] at C2'
        exact fs_89_23 W0 E0 hr1 hne Wr0 hv hv5 hB b0 h3 hp he hel k n (L := L ++ [c]) (xj1 h4 (by omega)) (by omega) (by omega) C2' (by rw [hL, List.append_assoc]; rfl) (cfr_tr F F2)
theorem fs_89 {n : Nat} {x2 : Int32} (W0 : cv_W s0 1022 l) (E0 : shE s0 1026 (arh g) l 0) (hr1 : ps_is r1 5 = true) (hne : r1 < 1021) (Wr0 : cv_W s0 r1 r) (hv : ∀ c, c ∈ r → c < 60) (hv5 : ∀ c, c ∈ r → 40 ≤ c → c < 45) (hB : ∀ c, c ∈ r.drop rt → 40 ≤ c → ∃ U, B (c - 40) = some U) (b0 : BNc s0 l B) (h2 : x2.toInt = rt) (hrt : rt ≤ r.length) (h3 : x3.toInt = p) (hp : p < l.length) (he : e = p + en (arh g) (l.drop p) 1) (hel : e ≤ l.length) (k : ∀ s', CW s' 1024 (l.take p ++ rw_r B (r.drop rt) ++ l.drop e) → cfr (C2 1024) s0 s' → R s') : pl_Cl n 89 [.ref 1021, .ref r1, .int x2, .int x3] s0 (ps_rV R) := by
  cases n with
  | zero => exact pl_At_0
  | succ n =>
  show pl_At (n + 1) 89 0 [(0, .ref 1021), (1, .ref r1), (2, .int x2), (3, .int x3)] [] s0 (ps_rV R)
  have F1 : cfr (C2 1024) s0 (ps_ui (ps_ui s0 1024 1 0) 1024 2 0) := cfr_i (cfr_i cfr_refl (Or.inl rfl)) (Or.inl rfl)
  refine pl_89_0 (fs_91 ?_)
  refine fs_94w (l := l) (a := 0) (b := p) (L := []) rfl rfl (by decide) (cv_W_cfr W0 F1 (by unfold C2; omega) (by unfold C2; omega)) (CW_of CW_0) rfl h3 (by omega) (fun s2 C F2 => ?_)
  rw [List.drop_zero, Nat.sub_zero, List.nil_append] at C
  exact fs_89_23 W0 E0 hr1 hne Wr0 hv hv5 hB b0 h3 hp he hel k n (L := []) h2 (Nat.le_refl _) hrt (by rw [List.append_nil]; exact C) rfl (cfr_tr F1 F2)
end R89
def CGO (q : Nat) : Prop := q = 1024 ∨ q = 1025 ∨ q = 1034 ∨ q = 1035
section R86
variable {th : Nat} {h : tx_H} {l : List Nat} {s0 : ps_S} {R : Int32 → ps_S → Prop}
theorem fs_86_all (hth : th = 2 ∨ th = 26) (H0 : cv_H s0 th h) (hw : WFt h) (hb : ∀ (k : Nat) (w r : List Nat), h.2[k]? = some (w, r) → ∀ c, c ∈ r → 40 ≤ c → c < 45) (hwl : ws (sg h.1) l [false]) (W0 : cv_W s0 1022 l) (E0 : shE s0 1026 (arh h.1) l 0) (hR0 : RLc s0 (arh h.1) h.2 h.2.length) (k1 : ∀ s' l', rw_s h l l' → CW s' 1024 l' → cfr CGO s0 s' → R 1 s') (k0 : ∀ s', rw_e h l → cfr CGO s0 s' → R 0 s') : ∀ n : Nat, (∀ {s : ps_S} {x2 : Int32} {p : Nat}, x2.toInt = p → p ≤ l.length → cfr CBn s0 s → (∀ p', p' < p → ∀ k', rw_z h l p' k') → pl_At n 86 2 [(0, .ref 1021), (1, .ref th), (2, .int x2)] [] s (ps_rI R)) ∧ (∀ {s : ps_S} {x2 x3 : Int32} {p i : Nat}, x2.toInt = p → p < l.length → x3.toInt = i → i ≤ h.2.length → cfr CBn s0 s → (∀ p', p' < p → ∀ k', rw_z h l p' k') → (∀ k', k' < i → rw_z h l p k') → pl_At n 86 15 [(0, .ref 1021), (1, .ref th), (2, .int x2), (3, .int x3)] [] s (ps_rI R)) := by
  have hA := arh_k H0.1.2.2.1 H0.1.2.2.2.1
  have hl40 := W0.2.2.1
  have hws : ∀ (k : Nat) (w r : List Nat), h.2[k]? = some (w, r) → ws (sg h.1) r [true] := fun k w r hk => wf_ws (hw.2.2 k w r hk).1
  have FG : ∀ {s : ps_S}, cfr CBn s0 s → cfr CGO s0 s := fun F => cfr_mono F (fun q z => by unfold CBn at z; unfold CGO; omega)
  intro n
  induction n with
  | zero => exact ⟨fun _ _ _ _ => pl_At_0, fun _ _ _ _ _ _ _ => pl_At_0⟩
  | succ n ih =>
    obtain ⟨i2, i15⟩ := ih
    refine ⟨fun {s x2 p} h2 hp F hz => ?_, fun {s x2 x3 p i} h2 hp h3 hi F hz hk => ?_⟩
    · have W := cv_W_cfr W0 F (by unfold CBn; omega) (by unfold CBn; omega)
      refine pl_86_2 ⟨fun z => ?_, fun z => ?_⟩
      · have z := xle z
        rw [W.1] at z
        exact k0 s (fun p' hp' k' => hz p' (by omega) k') (FG F)
      · have z := xlt z
        rw [W.1] at z
        exact i15 h2 (by omega) rfl (Nat.zero_le _) F hz (fun k' hk' => absurd hk' (Nat.not_lt_zero _))
    · have W := cv_W_cfr W0 F (by unfold CBn; omega) (by unfold CBn; omega)
      have E : shE s 1026 (arh h.1) l 0 := fun j a c => by
        rw [(F 1027 (by unfold CBn; omega)).2.2.2.1]
        exact E0 j a c
      have h8 := H0.2.2.1
      have H := cv_H_cfr H0 F (fun q a c => by unfold CBn; omega)
      have hR : RLc s (arh h.1) h.2 h.2.length := fun k w2 l2 a c => by
        rw [(F 1036 (by unfold CBn; omega)).2.2.2.1, (F 1037 (by unfold CBn; omega)).2.2.2.1]
        exact hR0 k w2 l2 a c
      have go2 : (∀ k', rw_z h l p k') → pl_At n 86 2 [(0, .ref 1021), (1, .ref th), (2, .int (x2 + 1))] [] s (ps_rI R) := fun y => i2 (xj1 h2 (by omega)) (by omega) F (fun p' hp' k' => by
        rcases Nat.lt_or_ge p' p with u | u
        · exact hz p' u k'
        · rw [show p' = p from by omega]
          exact y k')
      refine pl_86_15 (pl_nk_i (fun _ => ⟨fun z => ?_, fun z => ?_⟩))
      · have z := xle z
        rw [H.2.1] at z
        refine go2 (fun k' => ?_)
        rcases Nat.lt_or_ge k' i with u | u
        · exact hk k' u
        · rintro l' ⟨w, r, e, B, a1, -⟩
          have := (List.getElem?_eq_some_iff.mp a1).1
          omega
      · have z := xlt z
        rw [H.2.1] at z
        obtain ⟨c, hc⟩ : ∃ c, l[p]? = some c := ⟨_, List.getElem?_eq_getElem hp⟩
        obtain ⟨W1, hw1⟩ := ws_drop p hwl
        rw [drop_c hc] at hw1
        obtain ⟨bb, W1', ks1, rfl, hk1, -⟩ := ws_cons.mp hw1
        rw [← drop_c hc] at hw1
        refine fs_92c rfl W h2 hc (fun v1 q1 => ?_)
        refine fs_186 (fun y => ⟨fun u => absurd u (by decide), fun _ => ?_⟩) (fun y => ⟨fun _ => ?_, fun u => absurd rfl u⟩)
        · obtain ⟨⟨w, r⟩, hkr⟩ : ∃ q, h.2[i]? = some q := ⟨_, List.getElem?_eq_getElem (by omega)⟩
          obtain ⟨r1, r0⟩ := hR i w r (by omega) hkr
          obtain ⟨y1, y2, Wr⟩ := H.2.2.2 i w r hkr
          obtain ⟨hf, hr40, h60⟩ := hw.2.2 i w r hkr
          have Kk := th_K hth (k := i) (by omega)
          have hr5 : ps_is (th + 8 + 2 * i) 5 = true := ps_is5 Kk.2.2.2.2.2.1
          have cm : (-1 : Int32).toInt = -1 := by decide
          have next : ∀ {s' : ps_S}, cfr CBn s0 s' → rw_z h l p i → pl_At n 86 15 [(0, .ref 1021), (1, .ref th), (2, .int x2), (3, .int (x3 + 1))] [] s' (ps_rI R) := fun F' y => i15 h2 hp (xj1 h3 (by omega)) (by omega) F' hz (fun k' hk' => by
            rcases Nat.lt_or_ge k' i with u | u
            · exact hk k' u
            · rw [show k' = i from by omega]
              exact y)
          refine fs_182v (a := i) h3 (by rw [show ps_ln 1037 = 8 from rfl]; omega) (by decide) (fun v3 q3 => ⟨fun u => ?_, fun u => ?_⟩)
          · have u := xeq u
            refine next F (fun l' a => ?_)
            obtain ⟨w2, r2, e, B, a1, a2, -⟩ := a
            rw [hkr] at a1
            cases a1
            have := (r1 a2).2
            rw [← q3] at this
            omega
          · have u := xne u
            have his : rl_is (arh h.1) r := by
              by_cases y3 : rl_is (arh h.1) r
              · exact y3
              · have := r0 y3
                rw [← q3] at this
                omega
            obtain ⟨e36, e37⟩ := r1 his
            obtain ⟨p1, p2, p3, p4, -, p6⟩ := rl_parts hA (wf_ws hf) his
            refine fs_135 hth h3 (by omega) ?_
            refine fs_182v (a := i) h3 (by rw [show ps_ln 1036 = 8 from rfl]; omega) (by decide) (fun v5 q5 => ?_)
            have hlen : 1 ≤ (bb :: W1').length := by rw [List.length_cons]; omega
            refine fs_87 (l := l) (r := r) (lf := rl_l r) (rt := rl_r (arh h.1) r) (p0 := p) hA W E hr5 (by omega) Wr h60 (hb i w r hkr) (by rw [q5]; exact e36) (by rw [q3]; exact e37) p1 p2 h2 (by omega) p3 hw1 hlen (fun s6 e B hm b F6 => ⟨fun v => absurd v (by decide), fun _ => ?_⟩) (fun s6 hm F6 => ⟨fun _ => ?_, fun v => absurd rfl v⟩)
            · have hm : rw_m (arh h.1) l (rw_L (arh h.1) r) p (fun _ => none) = some (e, B) := hm
              have F6' := cfr_tr F F6
              have hve : e = p + en (arh h.1) (l.drop p) 1 := rw_m_en hA p3 (fun x _ hx => (arh_lo (g := h.1) (c := x)).2.2.2.2 hx) hm
              have hle := en_le hA (k := 1) hw1 hlen
              rw [List.length_drop] at hle
              have H6 := cv_H_cfr H0 F6' (fun q a c => by unfold CBn; omega)
              obtain ⟨-, -, Wr6⟩ := H6.2.2.2 i w r hkr
              refine fs_135 hth h3 (by omega) ?_
              refine fs_89 (l := l) (r := r) (rt := rl_r (arh h.1) r) (p := p) (e := e) (B := B) (cv_W_cfr W0 F6' (by unfold CBn; omega) (by unfold CBn; omega)) (fun j a c => ?_) hr5 (by omega) Wr6 h60 (hb i w r hkr) (fun c2 hc2 h40 => (rw_m_B hm).2 c2 (p6 c2 hc2 h40) h40) b (by rw [q3]; exact e37) p2 h2 hp hve (by omega) (fun s8 C F8 => ?_)
              · rw [(F6' 1027 (by unfold CBn; omega)).2.2.2.1]
                exact E0 j a c
              · exact k1 s8 _ ⟨p, i, hp, ⟨w, r, e, B, hkr, his, hm, rfl⟩, hk, hz⟩ C (cfr_tr (FG F6') (cfr_mono F8 (fun q z => by unfold C2 at z; unfold CGO; omega)))
            · refine next (cfr_tr F F6) (fun l' a => ?_)
              obtain ⟨w2, r2, e, B, a1, a2, a3, -⟩ := a
              rw [hkr] at a1
              cases a1
              have hm : rw_m (arh h.1) l (rw_L (arh h.1) r) p (fun _ => none) = none := hm
              rw [hm] at a3
              cases a3
        · refine go2 (fun k' => rw_z_no hA hws (fun c2 hc2 u => ?_) k')
          rw [hc] at hc2
          cases hc2
          have : c < 24 := by
            have hF := H0.1.2.2.2.1
            rcases kS_cases hk1 with z1 | z1 | z1 | z1 | z1 | z1 | z1
            · omega
            · omega
            · omega
            · omega
            · have e : (sg h.1).1.1 = h.1.1.length := rfl
              have := H0.1.2.2.1
              omega
            · have e : (sg h.1).1.2 = h.1.2.length := rfl
              omega
            · omega
          omega
theorem fs_86 {n : Nat} (hth : th = 2 ∨ th = 26) (H0 : cv_H s0 th h) (hw : WFt h) (hb : ∀ (k : Nat) (w r : List Nat), h.2[k]? = some (w, r) → ∀ c, c ∈ r → 40 ≤ c → c < 45) (hwl : ws (sg h.1) l [false]) (W0 : cv_W s0 1022 l) (E0 : shE s0 1026 (arh h.1) l 0) (hR0 : RLc s0 (arh h.1) h.2 h.2.length) (k1 : ∀ s' l', rw_s h l l' → CW s' 1024 l' → cfr CGO s0 s' → R 1 s') (k0 : ∀ s', rw_e h l → cfr CGO s0 s' → R 0 s') : pl_Cl n 86 [.ref 1021, .ref th] s0 (ps_rI R) := by
  cases n with
  | zero => exact pl_At_0
  | succ n =>
  show pl_At (n + 1) 86 0 [(0, .ref 1021), (1, .ref th)] [] s0 (ps_rI R)
  exact pl_86_0 ((fs_86_all hth H0 hw hb hwl W0 E0 hR0 k1 k0 n).1 (p := 0) rfl (Nat.zero_le _) cfr_refl (fun p' hp' => absurd hp' (Nat.not_lt_zero _)))
end R86
/-! sorts are kept -/
/-- a part replaced by a term -/
theorem ws_put {σ : mSig} {ar : Nat → Nat} (hA : ArW σ ar) {m : List Nat} (hm : ws σ m [false]) : ∀ {l : List Nat} {W : List Bool} {p : Nat}, ws σ l W → (∃ c ks, l[p]? = some c ∧ kS σ false c = some ks ∧ ∀ ks2, kS σ true c ≠ some ks2) → ws σ (l.take p ++ m ++ l.drop (p + en ar (l.drop p) 1)) W
  | [], W, p, h, ⟨c, ks, hc, _, _⟩ => by cases hc
  | x :: l, W, 0, h, ⟨c, ks, hc, hk, hn⟩ => by
    cases hc
    obtain ⟨b, W', ks2, rfl, hk2, h2⟩ := ws_cons.mp h
    have hbf : b = false := by
      cases b
      · rfl
      · exact absurd hk2 (hn ks2)
    subst hbf
    rw [List.take_zero, List.nil_append, Nat.zero_add, List.drop_zero]
    obtain ⟨g1, -⟩ := en_rest hA (k := 1) h (by rw [List.length_cons]; omega)
    exact ws_app hm g1
  | x :: l, W, p + 1, h, ⟨c, ks, hc, hk, hn⟩ => by
    obtain ⟨b, W', ks2, rfl, hk2, h2⟩ := ws_cons.mp h
    rw [List.getElem?_cons_succ] at hc
    have ih := ws_put hA hm (p := p) h2 ⟨c, ks, hc, hk, hn⟩
    rw [List.take_succ_cons, List.drop_succ_cons, show p + 1 + en ar (l.drop p) 1 = (p + en ar (l.drop p) 1) + 1 from by omega, List.drop_succ_cons]
    exact ws_c hk2 ih
theorem rw_r_ws {σ : mSig} (hσ : σ.1.1 ≤ 6 ∧ σ.1.2 ≤ 4) {B : Nat → Option (List Nat)} : ∀ {t : List Nat} {W : List Bool}, ws σ t W → (∀ x, x ∈ t → 40 ≤ x → ∃ U, B (x - 40) = some U ∧ ws σ U [false]) → ws σ (rw_r B t) W
  | [], W, h, _ => h
  | c :: t, W, h, hB => by
    obtain ⟨b, W', ks, rfl, hk, h2⟩ := ws_cons.mp h
    have ih := rw_r_ws hσ h2 (fun x hx => hB x (List.mem_cons_of_mem _ hx))
    by_cases h40 : 40 ≤ c
    · obtain ⟨U, hU, hw⟩ := hB c List.mem_cons_self h40
      rw [rw_r_v h40 hU]
      rcases kS_cases hk with z | z | z | z | z | z | z
      · omega
      · omega
      · omega
      · omega
      · omega
      · omega
      · obtain ⟨rfl, z1, z2, rfl⟩ := z
        exact ws_app hw ih
    · rw [rw_r_c h40]
      exact ws_c hk ih
theorem rw_m_ws {σ : mSig} {ar : Nat → Nat} (hA : ArW σ ar) (hσ : σ.1.1 ≤ 6 ∧ σ.1.2 ≤ 4) {l : List Nat} : ∀ {t : List Nat} {W W2 : List Bool} {p e : Nat} {B B' : Nat → Option (List Nat)}, ws σ t W → ws σ (l.drop p) (W ++ W2) → (∀ k U, B k = some U → ws σ U [false]) → rw_m ar l t p B = some (e, B') → ∀ k U, B' k = some U → ws σ U [false]
  | [], _, _, _, _, _, _, _, _, hB, hm => by
    cases hm
    exact hB
  | c :: t, W, W2, p, e, B, B', h, hl, hB, hm => by
    obtain ⟨b, W', ks, rfl, hk, h2⟩ := ws_cons.mp h
    by_cases h40 : 40 ≤ c
    · have hbk : b = false ∧ ks = [] := by
        rcases kS_cases hk with z | z | z | z | z | z | z
        · omega
        · omega
        · omega
        · omega
        · omega
        · omega
        · exact ⟨z.1, z.2.2.2⟩
      obtain ⟨rfl, rfl⟩ := hbk
      rw [List.nil_append] at h2
      obtain ⟨g1, g2⟩ := en_rest hA (k := 1) hl (by rw [List.length_append, List.length_cons]; omega)
      have g1 : ws σ ((l.drop p).drop (en ar (l.drop p) 1)) (W' ++ W2) := g1
      have g2 : ws σ ((l.drop p).take (en ar (l.drop p) 1)) [false] := g2
      rw [List.drop_drop] at g1
      cases hBk : B (c - 40) with
      | none =>
        rw [rw_m_n h40 hBk] at hm
        refine rw_m_ws hA hσ h2 g1 (fun k U hk2 => ?_) hm
        unfold rw_u at hk2
        split at hk2
        · cases hk2
          exact g2
        · exact hB k U hk2
      | some U =>
        rw [rw_m_s h40 hBk] at hm
        split at hm
        · exact rw_m_ws hA hσ h2 g1 hB hm
        · cases hm
    · rw [rw_m_c h40] at hm
      split at hm
      · next hc =>
        rw [drop_c hc] at hl
        obtain ⟨b2, W3, ks2, e2, hk2, hl2⟩ := ws_cons.mp hl
        have e2 : b :: (W' ++ W2) = b2 :: W3 := e2
        cases e2
        rw [hk] at hk2
        cases hk2
        rw [← List.append_assoc] at hl2
        exact rw_m_ws hA hσ h2 hl2 hB hm
      · cases hm
theorem sg_b {h : tx_H} (hw : WFt h) : (sg h.1).1.1 ≤ 6 ∧ (sg h.1).1.2 ≤ 4 := ⟨hw.1, hw.2.1⟩
/-- a step keeps a TERM a TERM -/
theorem rw_s_ws {h : tx_H} {l l' : List Nat} (hw : WFt h) (hl : ws (sg h.1) l [false]) (hs : rw_s h l l') : ws (sg h.1) l' [false] := by
  have hA := arh_k (g := h.1) hw.1 hw.2.1
  obtain ⟨p, k, hp, ⟨w, r, e, B, a1, a2, a3, rfl⟩, -, -⟩ := hs
  have hr := wf_ws (hw.2.2 k w r a1).1
  obtain ⟨p1, p2, p3, p4, ⟨c, t, eL, c20, c40, ks, hks⟩, p6⟩ := rl_parts hA hr a2
  have he := rw_m_en hA p3 (fun x _ hx => (arh_lo (g := h.1) (c := x)).2.2.2.2 hx) a3
  have he : e = p + en (arh h.1) (l.drop p) 1 := he
  have hc : l[p]? = some c := by
    rw [eL, rw_m_c (by omega)] at a3
    split at a3
    · assumption
    · cases a3
  obtain ⟨W1, hw1⟩ := ws_drop p hl
  rw [drop_c hc] at hw1
  obtain ⟨b1, W1', ks1, rfl, hk1, -⟩ := ws_cons.mp hw1
  have hn : ∀ ks2, kS (sg h.1) true c ≠ some ks2 := fun ks2 z => by
    have hb := sg_b hw
    rcases kS_cases z with z | z | z | z | z | z | z
    · omega
    · omega
    · omega
    · omega
    · omega
    · exact absurd z.1 (by decide)
    · exact absurd z.1 (by decide)
  have hb1 : b1 = false := by
    cases b1
    · rfl
    · exact absurd hk1 (hn ks1)
  subst hb1
  rw [← drop_c hc] at hw1
  have hU := rw_m_ws hA (sg_b hw) (W := [false]) (W2 := W1') p3 hw1 (fun k U z => by cases z) a3
  have hB := (rw_m_B a3).2
  have hm : ws (sg h.1) (rw_r B (r.drop (rl_r (arh h.1) r))) [false] := rw_r_ws (sg_b hw) p4 (fun x hx h40 => by
    obtain ⟨U, z⟩ := hB x (p6 x hx h40) h40
    exact ⟨U, z, hU _ _ z⟩)
  unfold rw_n
  rw [he]
  exact ws_put hA hm hl ⟨c, ks, hc, hks, hn⟩
/-- not too deep -/
def dp (ar : Nat → Nat) (l : List Nat) : Prop := ∀ (i : Nat) (d : Nat × Nat) (x : Nat), (ly ar [(0, 0)] l)[i]? = some d → l[i]? = some x → d.1 ≤ 12 ∧ d.2 + qb x ≤ 5
theorem fs_106 {n r : Nat} {ar : Nat → Nat} {l : List Nat} {s : ps_S} {R : Int32 → ps_S → Prop} (hr : ps_is r 6 = true) (hM : shM s r l (ly ar [(0, 0)] l)) (k1 : ¬ dp ar l → R 1 s) (k0 : dp ar l → R 0 s) : pl_Cl n 106 [.ref r] s (ps_rI R) := by
  cases n with
  | zero => exact pl_At_0
  | succ n =>
  show pl_At (n + 1) 106 0 [(0, .ref r)] [] s (ps_rI R)
  obtain ⟨m0, m1, m2, m3⟩ := hM
  have c12 : (12 : Int32).toInt = 12 := by decide
  have c5 : (5 : Int32).toInt = 5 := by decide
  refine pl_106_0 (pl_nk_i (fun _ => ⟨fun z => ?_, fun z => pl_nk_i (fun _ => ⟨fun z2 => ?_, fun z2 => ?_⟩)⟩))
  · have z := xlt z
    refine k1 (fun y => ?_)
    have q := (m2 12).mpr (fun d hd => ?_)
    · omega
    · obtain ⟨i, hi⟩ := List.mem_iff_getElem?.mp hd
      have hil := (List.getElem?_eq_some_iff.mp hi).1
      exact (y i d _ hi (List.getElem?_eq_getElem (by omega))).1
  · have z := xle z
    have z2 := xle z2
    have q1 := (m2 12).mp (by omega)
    have q2 := (m3 5).mp (by omega)
    exact k0 (fun i d x hd hx => ⟨q1 d (List.mem_of_getElem? hd), q2 i d x hd hx⟩)
  · have z2 := xlt z2
    refine k1 (fun y => ?_)
    have q := (m3 5).mpr (fun i d x hd hx => (y i d x hd hx).2)
    omega
def CMN (q : Nat) : Prop := 1022 ≤ q ∧ q < 1038
section R85
variable {th : Nat} {h : tx_H} {l0 : List Nat} {s0 : ps_S} {R : Int32 → ps_S → Prop}
theorem fs_85_87 {v : Int} {m : Nat} {a b : List Nat} (hm : m ≤ 60) (g : rw_go h m l0 a) (hs : rw_s h a b) (hb : ¬ rw_g h b ∨ m = 60) (k : ∀ (v : Int32) s' nl, rw_A h l0 v.toInt nl → cv_W s' 1022 nl → cfr CMN s0 s' → R v s') {n : Nat} {s : ps_S} (F : cfr CMN s0 s) : pl_At n 85 87 [(0, .ref 1021)] [] s (ps_rI R) := by
  cases n with
  | zero => exact pl_At_0
  | succ n =>
  refine pl_85_87 (fs_91 ?_)
  refine k _ _ [] (Or.inr ⟨by decide, rfl, m, a, b, hm, g, hs, hb⟩) CW_0 (cfr_i (cfr_i F (by unfold CMN; omega)) (by unfold CMN; omega))
theorem fs_85_19 (hth : th = 2 ∨ th = 26) (H0 : cv_H s0 th h) (hw : WFt h) (hb : ∀ (k : Nat) (w r : List Nat), h.2[k]? = some (w, r) → ∀ c, c ∈ r → 40 ≤ c → c < 45) (k : ∀ (v : Int32) s' nl, rw_A h l0 v.toInt nl → cv_W s' 1022 nl → cfr CMN s0 s' → R v s') : ∀ (n : Nat) {s : ps_S} {x2 : Int32} {m : Nat} {l : List Nat}, x2.toInt = m → m ≤ 61 → rw_go h m l0 l → ws (sg h.1) l [false] → cv_W s 1022 l → shE s 1026 (arh h.1) l 0 → RLc s (arh h.1) h.2 h.2.length → cfr CMN s0 s → pl_At n 85 19 [(0, .ref 1021), (1, .ref th), (2, .int x2)] [] s (ps_rI R)
  | 0, _, _, _, _, _, _, _, _, _, _, _, _ => pl_At_0
  | n + 1, s, x2, m, l, hx, hm, hg, hl, W, E, hR, F => by
    have c60 : (60 : Int32).toInt = 60 := by decide
    have H := cv_H_cfr H0 F (fun q a c => by have := H0.2.2.1; unfold CMN; omega)
    refine pl_85_19 ⟨fun z => ?_, fun z => ?_⟩
    · have z := xlt z
      have e : m = 60 + 0 + 1 := by omega
      subst e
      obtain ⟨a, x1, x2', x3⟩ := hg
      exact fs_85_87 (v := 0) (Nat.le_refl _) x1 x2' (Or.inr rfl) k F
    · have z := xle z
      refine fs_86 hth H hw hb hl W E hR (fun s1 l' hs C F1 => ⟨fun _ => ?_, fun y => absurd y (by decide)⟩) (fun s1 he F1 => ⟨fun y => absurd rfl y, fun _ => ?_⟩)
      · have F1' : cfr CMN s0 s1 := cfr_tr F (cfr_mono F1 (fun q z => by unfold CGO at z; unfold CMN; omega))
        have hl' := rw_s_ws hw hl hs
        have H1 := cv_H_cfr H0 F1' (fun q a c => by have := H0.2.2.1; unfold CMN; omega)
        have hR1 : RLc s1 (arh h.1) h.2 h.2.length := fun k w2 l2 a c => by
          rw [(F1 1036 (by unfold CGO; omega)).2.2.2.1, (F1 1037 (by unfold CGO; omega)).2.2.2.1]
          exact hR k w2 l2 a c
        rcases Nat.lt_or_ge 40 l'.length with y | y
        · have ho := C.2.2 y
          refine fv_95 rfl (fun s2 F2 => ?_)
          refine fv_103 rfl (fun s3 F3 => ⟨fun _ => ?_, fun u => ?_⟩)
          · exact fs_85_87 (v := 0) (by omega) hg hs (Or.inl (fun u => by have := u.1; omega)) k (cfr_tr F1' (cfr_tr (cfr_mono F2 (fun q z => by unfold C2 at z; unfold CMN; omega)) (cfr_mono F3 (fun q z => by unfold CSh at z; unfold CMN; omega))))
          · have e3 := (F3 1024 (by unfold CSh; omega)).1 2
            have e2 := (F2 1024 (by unfold C2; omega)).1 2
            rw [e3, e2] at u
            exact absurd u ho
        · have W1 := C.2.1 y
          refine fs_95 (l := l') rfl rfl (by decide) W1 (fun s2 W2 F2 => ?_)
          have F2' : cfr CMN s0 s2 := cfr_tr F1' (cfr_mono F2 (fun q z => by unfold C2 at z; unfold CMN; omega))
          have H2 := cv_H_cfr H0 F2' (fun q a c => by have := H0.2.2.1; unfold CMN; omega)
          refine fs_103 (r := 1026) (r1 := 1022) (l := l') rfl rfl hth (by omega) hl' (Or.inl rfl) W2 H2.1 (fun s3 Z F3 => ?_)
          have F3' : cfr CMN s0 s3 := cfr_tr F2' (cfr_mono F3 (fun q z => by unfold CSh at z; unfold CMN; omega))
          have e3 := (F3 1024 (by unfold CSh; omega)).1 2
          have e2 := (F2 1024 (by unfold C2; omega)).1 2
          refine ⟨fun u => absurd (e3.trans (e2.trans W1.2.1)) u, fun _ => ?_⟩
          refine fs_106 rfl Z.2 (fun u => ⟨fun v => absurd v (by decide), fun _ => ?_⟩) (fun u => ⟨fun _ => ?_, fun v => absurd rfl v⟩)
          · exact fs_85_87 (v := 0) (by omega) hg hs (Or.inl (fun v => u v.2)) k F3'
          · exact fs_85_19 hth H0 hw hb k n (xj1 hx (by omega)) (by omega) ⟨l, hg, hs, y, u⟩ hl' (cv_W_cfr W2 F3 (by unfold CSh; omega) (by unfold CSh; omega)) Z.1 (fun k w2 l2 a c => by
              rw [(F3 1036 (by unfold CSh; omega)).2.2.2.1, (F3 1037 (by unfold CSh; omega)).2.2.2.1, (F2 1036 (by unfold C2; omega)).2.2.2.1, (F2 1037 (by unfold C2; omega)).2.2.2.1]
              exact hR1 k w2 l2 a c) F3'
      · exact k _ s1 l (Or.inl ⟨m, by omega, hg, he, hx⟩) (cv_W_cfr W F1 (by unfold CGO; omega) (by unfold CGO; omega)) (cfr_tr F (cfr_mono F1 (fun q z => by unfold CGO at z; unfold CMN; omega)))
theorem fs_85 {n : Nat} (hth : th = 2 ∨ th = 26) (H0 : cv_H s0 th h) (hw : WFt h) (hb : ∀ (k : Nat) (w r : List Nat), h.2[k]? = some (w, r) → ∀ c, c ∈ r → 40 ≤ c → c < 45) (hl : ws (sg h.1) l0 [false]) (W : cv_W s0 1022 l0) (k : ∀ (v : Int32) s' nl, rw_A h l0 v.toInt nl → cv_W s' 1022 nl → cfr CMN s0 s' → R v s') : pl_Cl n 85 [.ref 1021, .ref th] s0 (ps_rI R) := by
  cases n with
  | zero => exact pl_At_0
  | succ n =>
  show pl_At (n + 1) 85 0 [(0, .ref 1021), (1, .ref th)] [] s0 (ps_rI R)
  refine pl_85_0 ?_
  refine fs_83 hth H0 hw (fun s1 hR F1 => ?_)
  have F1' : cfr CMN s0 s1 := cfr_mono F1 (fun q z => by unfold RLq at z; unfold CMN; omega)
  have H1 := cv_H_cfr H0 F1' (fun q a c => by have := H0.2.2.1; unfold CMN; omega)
  have W1 := cv_W_cfr W F1 (by unfold RLq; omega) (by unfold RLq; omega)
  refine fs_103 (r := 1026) (r1 := 1022) (l := l0) rfl rfl hth (by omega) hl (Or.inl rfl) W1 H1.1 (fun s3 Z F3 => ?_)
  exact fs_85_19 hth H0 hw hb k n (m := 0) rfl (Nat.zero_le _) rfl hl (cv_W_cfr W1 F3 (by unfold CSh; omega) (by unfold CSh; omega)) Z.1 (fun k w2 l2 a c => by
    rw [(F3 1036 (by unfold CSh; omega)).2.2.2.1, (F3 1037 (by unfold CSh; omega)).2.2.2.1]
    exact hR k w2 l2 a c) (cfr_tr F1' (cfr_mono F3 (fun q z => by unfold CSh at z; unfold CMN; omega)))
end R85
/-- rewrite()'s answer and the row behind it -/
def RWA (h : tx_H) (T : Nat → Nat) (N : Nat) (v : Int32) (nl : List Nat) : Prop := (∃ l, rd_ok T N (h.1, false) 0 l ∧ rw_A h l v.toInt nl) ∨ ((∃ k pl, rd_bad T N (h.1, false) 0 k pl) ∧ v.toInt = -1 ∧ nl = [])
theorem RWA_eq {h : tx_H} {T : Nat → Nat} {N : Nat} {v v' : Int32} {nl nl' : List Nat} (a : RWA h T N v nl) (b : RWA h T N v' nl') : v = v' ∧ nl = nl' := by
  rcases a with ⟨l, a1, a2⟩ | ⟨⟨k, pl, a1⟩, a2, a3⟩ <;> rcases b with ⟨l', b1, b2⟩ | ⟨⟨k', pl', b1⟩, b2, b3⟩
  · have e := rd_oo a1 b1
    subst e
    obtain ⟨e1, e2⟩ := rw_A_det a2 b2
    exact ⟨Int32.toInt_inj.mp e1, e2⟩
  · exact (rd_ob a1 b1).elim
  · exact (rd_ob b1 a1).elim
  · exact ⟨Int32.toInt_inj.mp (a2.trans b2.symm), a3.trans b3.symm⟩
theorem fs_169 {n : Nat} {s : ps_S} {T : Nat → Nat} {N : Nat} {h : tx_H} {l0 : List Nat} {R : Int32 → ps_S → Prop} (c : TRc s h l0) (hw : WFt h) (hb : ∀ (k : Nat) (w r : List Nat), h.2[k]? = some (w, r) → ∀ c, c ∈ r → 40 ≤ c → c < 45) (hx : (ps_i s 0 1).toInt = N) (hN : N ≤ 1600) (hT : ∀ k, k < N → (ps_a s 1 k &&& 255).toInt = T k) (hkw : ∀ (k : Nat) (w : List Nat), tx_keys[k]? = some w → ps_b s 904 k = tx_x w) (k : ∀ (v : Int32) s' nl, RWA h T N v nl → cv_W s' 1022 nl → cfr (fun q => q = 0 ∨ cWr 1022 q ∨ CMN q) s s' → R v s') : pl_Cl n 169 [.ref 0] s (ps_rI R) := by
  cases n with
  | zero => exact pl_At_0
  | succ n =>
  show pl_At (n + 1) 169 0 [(0, .ref 0)] [] s (ps_rI R)
  have hth : ps_r s 0 2 = 2 ∨ ps_r s 0 2 = 26 := by have := c.2.1; omega
  refine pl_169_0 ?_
  refine fs_60u (th := ps_r s 0 2) (r := 1022) (ph := 0) (gg := h.1) (T := T) (N := N) (Or.inr ⟨by decide, rfl⟩) hth rfl c.1.1 hx hN hT hkw (fun s1 q => ⟨fun _ => ?_, fun z => absurd z (by decide)⟩) (fun s1 q => ⟨fun z => absurd rfl z, fun _ => ?_⟩)
  · obtain ⟨l, q1, q2, -, F⟩ := q
    have F' : cfr (fun q => q = 0 ∨ cWr 1022 q) s (ps_ui s1 0 1 0) := cfr_i (cfr_mono F (fun q z => Or.inr z)) (Or.inl rfl)
    have hr : ps_r (ps_ui s1 0 1 0) 0 2 = ps_r s 0 2 := (F 0 (by unfold cWr; omega)).2.2.1 2
    rw [hr]
    have hl : ws (sg h.1) l [false] := by
      obtain ⟨p, fr, g, -⟩ := q1
      exact (tx_WQ_end hw.2.1 (Or.inl rfl) (Nat.zero_le _) g).1
    refine fs_85 hth (cv_H_cfr c.1 F' (fun q a b => by have := c.1.2.2.1; unfold cWr; omega)) hw hb hl (cv_W_cfr (cv_W_cfr q2 (cfr_i cfr_refl rfl : cfr (fun q => q = 0) s1 (ps_ui s1 0 1 0)) (by decide) (by decide)) cfr_refl (C := fun _ => False) (fun z => z) (fun z => z)) (fun v s' nl hA W F2 => ?_)
    exact k v s' nl (Or.inl ⟨l, q1, hA⟩) W (cfr_tr (cfr_mono F' (fun q z => z.elim Or.inl (fun y => Or.inr (Or.inl y)))) (cfr_mono F2 (fun q z => Or.inr (Or.inr z))))
  · obtain ⟨kk, pl, q1, -, -, F⟩ := q
    cases n with
    | zero => exact pl_At_0
    | succ n =>
    show pl_At (n + 1) 81 0 [(0, .ref 1021)] [] _ _
    refine pl_81_0 (fs_91 ?_)
    refine k _ _ [] (Or.inr ⟨⟨kk, pl, q1⟩, by decide, rfl⟩) CW_0 (cfr_i (cfr_i (cfr_i (cfr_mono F (fun q z => Or.inr (Or.inl z))) (Or.inl rfl)) (Or.inr (Or.inr (by unfold CMN; omega)))) (Or.inr (Or.inr (by unfold CMN; omega))))
theorem fs_170 {n : Nat} {x1 : Int32} {s : ps_S} {l : List Nat} {R : Int32 → ps_S → Prop} (hW : cv_W s 1022 l) (k : ∀ v : Int32, pc_is l x1 v → R v s) : pl_Cl n 170 [.ref 0, .int x1] s (ps_rI R) := by
  cases n with
  | zero => exact pl_At_0
  | succ n =>
  show pl_At (n + 1) 170 0 [(0, .ref 0), (1, .int x1)] [] s (ps_rI R)
  refine pl_170_0 ?_
  refine fs_92 rfl rfl rfl hW (fun v z => ?_)
  refine k v ⟨fun c h0 hc => ?_, fun h => z.2 (by omega)⟩
  have hl := (List.getElem?_eq_some_iff.mp hc).1
  exact z.1 ⟨h0, by omega⟩ c hc

