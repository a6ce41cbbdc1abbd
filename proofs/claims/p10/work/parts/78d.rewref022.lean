set_option maxRecDepth 100000
section
variable {b : Nat} {h : tx_H} {l : List Nat} {s0 : ps_S} {R : Int32 → ps_S → Prop}
theorem fm_287_all (hb : b < 2) (h21 : (ps_i s0 1131 21).toInt = b) (H0 : mv_H s0 b h) (hw : WFt h) (hwl : ws (sg h.1) l [false]) (W0 : mv_W s0 25789 l) (k1 : ∀ s' l', rw_s h l l' → mk_M s' l' → KR s0 s' → R 1 s') (k0 : ∀ s', rw_e h l → KR s0 s' → R 0 s') : ∀ n : Nat, (∀ {s : ps_S} {x1 : Int32} {p : Nat}, x1.toInt = p → p ≤ l.length → KR s0 s → (∀ p', p' < p → ∀ k', rw_z h l p' k') → pl_At n 287 2 [(0, .ref 1131), (1, .int x1)] [] s (ps_rI R)) ∧ (∀ {s : ps_S} {x1 x2 : Int32} {p i : Nat}, x1.toInt = p → p < l.length → x2.toInt = i → i ≤ h.2.length → KR s0 s → (∀ p', p' < p → ∀ k', rw_z h l p' k') → (∀ k', k' < i → rw_z h l p k') → pl_At n 287 15 [(0, .ref 1131), (1, .int x1), (2, .int x2)] [] s (ps_rI R)) := by
  have hA := arh_k H0.1.2.2.1 H0.1.2.2.2.1
  have hl40 := W0.2.1
  intro n
  induction n with
  | zero => exact ⟨fun _ _ _ _ => pl_At_0, fun _ _ _ _ _ _ _ => pl_At_0⟩
  | succ n ih =>
    obtain ⟨i2, i15⟩ := ih
    refine ⟨fun {s x1 p} h1 hp K hz => ?_, fun {s x1 x2 p i} h1 hp h2 hi K hz hk => ?_⟩
    · have W := mv_W_kq W0 K (by decide)
      refine pl_287_2 ?_
      refine fm_219c (to := 25789) (by decide) W (fun v1 q1 => ⟨fun z => ?_, fun z => ?_⟩)
      · have z := xle z
        exact k0 s (fun p' hp' k' => hz p' (by omega) k') K
      · have z := xlt z
        exact i15 h1 (by omega) rfl (Nat.zero_le _) K hz (fun k' hk' => absurd hk' (Nat.not_lt_zero _))
    · have W := mv_W_kq W0 K (by decide)
      have h8 := H0.2.2.1
      have H := mv_H_kq H0 K (by decide)
      have h21' : (ps_i s 1131 21).toInt = b := by rw [kq_i K 21 rfl]; exact h21
      refine pl_287_15 ?_
      rw [xtn h21']
      intro b1
      refine ⟨fun z => ?_, fun z => ?_⟩
      · have z := xle z
        rw [H.2.1] at z
        refine i2 (xj1 h1 (by omega)) (by omega) K (fun p' hp' k' => ?_)
        rcases Nat.lt_or_ge p' p with u | u
        · exact hz p' u k'
        · rw [show p' = p from by omega]
          rcases Nat.lt_or_ge k' i with u2 | u2
          · exact hk k' u2
          · rintro l' ⟨w, r, e, B, a1, -⟩
            have := (List.getElem?_eq_some_iff.mp a1).1
            omega
      · have z := xlt z
        rw [H.2.1] at z
        obtain ⟨⟨w, r⟩, hkr⟩ : ∃ q, h.2[i]? = some q := ⟨_, List.getElem?_eq_getElem (by omega)⟩
        obtain ⟨hf, hr40, h60⟩ := hw.2.2 i w r hkr
        obtain ⟨y1, y2, Wr⟩ := H.2.2.2 i w r hkr
        obtain ⟨W1, hw1⟩ := ws_drop p hwl
        have hne : ∃ b0 Wi, W1 = b0 :: Wi := by
          cases W1 with
          | nil =>
            have := ws_nil hw1
            have hl := congrArg List.length this
            rw [List.length_drop, List.length_nil] at hl
            omega
          | cons b0 Wi => exact ⟨b0, Wi, rfl⟩
        obtain ⟨b0, Wi, rfl⟩ := hne
        have hlen : 1 ≤ (b0 :: Wi).length := by rw [List.length_cons]; omega
        have next : ∀ {s' : ps_S}, KR s0 s' → rw_z h l p i → pl_At n 287 15 [(0, .ref 1131), (1, .int x1), (2, .int (x2 + 1))] [] s' (ps_rI R) := fun K' y => i15 h1 hp (xj1 h2 (by omega)) (by omega) K' hz (fun k' hk' => by
          rcases Nat.lt_or_ge k' i with u | u
          · exact hk k' u
          · rw [show k' = i from by omega]
            exact y)
        refine fm_284 hb h21' H hw hkr h2 (fun s1 q => ⟨fun y => absurd y (by decide), fun _ => ?_⟩) (fun s1 q => ⟨fun _ => ?_, fun y => absurd rfl y⟩)
        · obtain ⟨his, e63, e64, K1⟩ := q
          obtain ⟨p1, p2, p3, p4, -, p6⟩ := rl_parts hA (wf_ws hf) his
          have K1' : KR s0 s1 := kqt K K1 (by decide) (by decide)
          have W1' := mv_W_kq W0 K1' (by decide)
          have H1 := mv_H_kq H0 K1' (by decide)
          have h211 : (ps_i s1 1131 21).toInt = b := by rw [kq_i K1' 21 rfl]; exact h21
          refine fm_286 (i := i) (p := p) (l := l) (r := r) (h := h) (W := [false]) (lf := rl_l r) (rt := rl_r (arh h.1) r) hb h211 H1.1 (by omega) W1' (H1.2.2.2 i w r hkr).2.2 h2 h1 h60 e63 e64 p1 p2 (by omega) p3 hw1 hlen (fun s2 q2 => ⟨fun _ => ?_, fun y => absurd y (by decide)⟩) (fun s2 q2 => ⟨fun y => absurd rfl y, fun _ => ?_⟩)
          · obtain ⟨e, B, hm, bn, e65, K2⟩ := q2
            have hm : rw_m (arh h.1) l (rw_L (arh h.1) r) p (fun _ => none) = some (e, B) := hm
            have K2' : KR s0 s2 := kqt K1' K2 (by decide) (by decide)
            have W2 := mv_W_kq W0 K2' (by decide)
            have H2 := mv_H_kq H0 K2' (by decide)
            have h212 : (ps_i s2 1131 21).toInt = b := by rw [kq_i K2' 21 rfl]; exact h21
            have hve : e = p + en (arh h.1) (l.drop p) 1 := rw_m_en hA p3 (fun x _ hx => (arh_lo (g := h.1) (c := x)).2.2.2.2 hx) hm
            have hle := en_le hA (k := 1) hw1 hlen
            rw [List.length_drop] at hle
            refine fm_283 h212 hb h2 (by omega) (fun v3 q3 => ?_)
            have K3 : KR s0 (ps_ui s2 1131 34 0) := kqi K2' rfl
            have e64' : (ps_i s2 1131 64).toInt = (rl_r (arh h.1) r : Nat) := by rw [kq_i K2 64 rfl]; exact e64
            refine fm_226 (to := 25789) (a := 0) (b := p) (L := []) (by decide) (by decide) (mv_W_kq W0 K3 (by decide)) mk_M_0 rfl h1 (by omega) (by decide) (fun s4 M4 K4 => ?_)
            rw [List.drop_zero, Nat.sub_zero, List.nil_append] at M4
            have K4' : KR s0 s4 := kqt K3 K4 (by decide) (by decide)
            have hr8 : (ps_i s4 1131 64).toInt = (rl_r (arh h.1) r : Nat) := by rw [kq_i K4 64 rfl]; exact e64'
            refine fm_287_77 (r := r) (i := i) (p := p) (e := e) (rt := rl_r (arh h.1) r) (B := B) (s0 := s4) hb (by omega) (mv_W_kq W0 K4' (by decide)) (mv_H_kq H0 K4' (by decide) |>.2.2.2 i w r hkr).2.2 q3 h60 (fun c2 hc2 h40 => (rw_m_B hm).2 c2 (p6 c2 hc2 h40) h40) (by rw [kq_i K4 65 rfl]; exact e65) (fun k2 hk2 => ?_) (by omega) (fun s5 M5 K5 => ?_) n (L := []) hr8 (Nat.le_refl _) p2 (by rw [List.append_nil]; exact M4) (Nat.zero_le _) rfl kq_refl
            · rw [kq_a K4 1167 (by decide), kq_a K4 1168 (by decide)]
              exact bn k2 hk2
            · exact k1 s5 _ ⟨p, i, hp, ⟨w, r, e, B, hkr, his, hm, rfl⟩, hk, hz⟩ M5 (kqt K4' K5 (by decide) (by decide))
          · obtain ⟨hm, K2⟩ := q2
            have hm : rw_m (arh h.1) l (rw_L (arh h.1) r) p (fun _ => none) = none := hm
            refine next (kqt K1' K2 (by decide) (by decide)) (fun l' a => ?_)
            obtain ⟨w2, r2, e, B, a1, a2, a3, -⟩ := a
            rw [hkr] at a1
            cases a1
            rw [hm] at a3
            cases a3
        · refine next (kqt K q.2 (by decide) (by decide)) (fun l' a => ?_)
          obtain ⟨w2, r2, e, B, a1, a2, -⟩ := a
          rw [hkr] at a1
          cases a1
          exact q.1 a2

end
