set_option maxRecDepth 100000
section
variable {b : Nat} {h : tx_H} {l r : List Nat} {i : Nat} {s0 : ps_S} {R : Int32 → ps_S → Prop} {x3 : Int32} {lf rt : Nat}
theorem fm_286_42 (hb : b < 2) (h21 : (ps_i s0 1131 21).toInt = b) (H0 : mv_E s0 b h.1) (hi8 : i < 8) (W0 : mv_W s0 25789 l) (Wr0 : mv_W s0 (21812 + 41 * (8 * b + i)) r) (h3 : x3.toInt = (21812 + 41 * (8 * b + i) : Nat)) (hv : ∀ c, c ∈ r → c < 60) (h64 : (ps_i s0 1131 64).toInt = rt) (hrt : rt ≤ r.length) {M : Option (Nat × (Nat → Option (List Nat)))} (k1 : ∀ s' e B, M = some (e, B) → BNm s' l B → (ps_i s' 1131 65).toInt = (e : Nat) → KBm s0 s' → R 1 s') (k0 : ∀ s', M = none → KBm s0 s' → R 0 s') : ∀ (n : Nat) {s : ps_S} {x4 x5 : Int32} {p j : Nat} {B : Nat → Option (List Nat)} {W W1 : List Bool}, x4.toInt = p → x5.toInt = j → j ≤ rt → BNm s l B → KBm s0 s → ws (sg h.1) ((r.drop j).take (rt - j)) W → ws (sg h.1) (l.drop p) W1 → W.length ≤ W1.length → p ≤ l.length → M = rw_m (arh h.1) l ((r.drop j).take (rt - j)) p B → pl_At n 286 42 [(0, .ref 1131), (3, .int x3), (4, .int x4), (5, .int x5)] [] s (ps_rI R)
  | 0, _, _, _, _, _, _, _, _, _, _, _, _, _, _, _, _, _, _ => pl_At_0
  | n + 1, s, x4, x5, p, j, B, W, W1, h4, h5, hj, bn, K, hw, hw1, hle, hpl, hM => by
    have hA := arh_k H0.2.2.1 H0.2.2.2.1
    have hl40 := W0.2.1
    have hr40 := Wr0.2.1
    have c0 : (0 : Int32).toInt = 0 := Int32.toInt_zero
    have c40 : (40 : Int32).toInt = 40 := by decide
    have Wl := mv_W_kq W0 K (by decide)
    have Wr := mv_W_kq Wr0 K (by decide)
    have H := mv_E_kq H0 K (by decide)
    have h21' : (ps_i s 1131 21).toInt = b := by rw [kq_i K 21 rfl]; exact h21
    have e64 : (ps_i s 1131 64).toInt = rt := by rw [kq_i K 64 rfl]; exact h64
    refine pl_286_42 ⟨fun z => ?_, fun z => ?_⟩
    · have z := xle z
      rw [show rt - j = 0 from by omega, List.take_zero] at hM
      refine k1 _ p B hM bn ?_ (kqi K rfl)
      rw [ps_i_ui, if_pos ⟨rfl, rfl⟩]
      exact h4
    · have z := xlt z
      obtain ⟨c, hc⟩ : ∃ c, r[j]? = some c := ⟨_, List.getElem?_eq_getElem (by omega)⟩
      have c60 := hv c (List.mem_of_getElem? hc)
      rw [dt_c hc (by omega)] at hw hM
      obtain ⟨bb, W', ks, rfl, hk, hw'⟩ := ws_cons.mp hw
      have ha := hA bb c ks hk
      have hpos : 1 ≤ W1.length := by rw [List.length_cons] at hle; omega
      have hlt : p < l.length := by
        have := en_lt hA hw1 (show 0 < W1.length by omega)
        rw [List.length_drop] at this
        omega
      refine fm_220c h3 (by omega) Wr h5 hc (fun v1 q1 => ⟨fun y => ?_, fun y => ?_⟩)
      · have y := xle y
        have h40 : 40 ≤ c := by omega
        have hks : ks = [] := by
          have := (arh_lo (g := h.1) (c := c)).2.2.2.2 h40
          exact List.eq_nil_of_length_eq_zero (by omega)
        rw [hks, List.nil_append] at hw'
        have hen := en_le hA hw1 (k := 1) hpos
        rw [List.length_drop] at hen
        have hrest := (en_rest hA hw1 (k := 1) hpos).1
        rw [List.drop_drop] at hrest
        have hcons : ∃ b0 Wi, W1 = b0 :: Wi := by
          cases W1 with
          | nil => exact absurd hpos (by decide)
          | cons b0 Wi => exact ⟨b0, Wi, rfl⟩
        obtain ⟨b0, Wi, hW1⟩ := hcons
        have ek : (v1 - 40).toInt = (c - 40 : Nat) := by rw [xIs (by omega) (by omega), q1, c40]; omega
        have hk20 : c - 40 < 20 := by omega
        refine fm_221 hb h21' H (to := 25789) (i := p) (l := l) (by decide) (by decide) Wl h4 (by rw [← hW1]; exact hw1) (fun v2 q2 => ?_)
        have go : ∀ {B2 : Nat → Option (List Nat)}, rw_u B (c - 40) ((l.drop p).take (en (arh h.1) (l.drop p) 1)) = B2 → M = rw_m (arh h.1) l ((r.drop (j + 1)).take (rt - (j + 1))) (p + en (arh h.1) (l.drop p) 1) B2 → pl_At n 286 42 [(0, .ref 1131), (3, .int x3), (4, .int v2), (5, .int (x5 + 1))] [] (ps_ua (ps_ua s 1167 (c - 40) x4) 1168 (c - 40) v2) (ps_rI R) := fun {B2} eB hM2 => by
          refine fm_286_42 hb h21 H0 hi8 W0 Wr0 h3 hv h64 hrt k1 k0 n q2 (xj1 h5 (by omega)) (by omega) ?_ (kqa (kqa K rfl) rfl) hw' hrest (by rw [List.length_drop]; rw [List.length_cons] at hle; omega) (by omega) hM2
          rw [← eB]
          exact BNm_put bn h4 q2 (by omega) (by omega) (by rw [Nat.add_sub_cancel_left])
        intro b1
        rw [xtn ek]
        rcases bn (c - 40) hk20 with ⟨t1, t2⟩ | ⟨a, e, t1, t2, t3, t4, t5⟩
        · refine ⟨fun w => ?_, fun w => ?_⟩
          · intro b2 b3
            exact go rfl (by rw [hM, rw_m_n h40 t1])
          · have w := xle w
            omega
        · refine ⟨fun w => ?_, fun w => ?_⟩
          · have w := xlt w
            omega
          · intro b2 b3
            have d2 : (v2 - x4).toInt = (en (arh h.1) (l.drop p) 1 : Nat) := by rw [xIs (by omega) (by omega), q2, h4]; omega
            have d1 : ((ps_a s 1168 (c - 40)) - (ps_a s 1167 (c - 40))).toInt = (e - a : Nat) := by rw [xIs (by omega) (by omega), t1, t2]; omega
            have l1 : ((l.drop a).take (e - a)).length = e - a := by rw [List.length_take, List.length_drop]; omega
            have l2 : ((l.drop p).take (en (arh h.1) (l.drop p) 1)).length = en (arh h.1) (l.drop p) 1 := by rw [List.length_take, List.length_drop]; omega
            refine ⟨fun u => ?_, fun u => ?_⟩
            · have u := xne u
              refine k0 s ?_ K
              rw [hM, rw_m_s h40 t5, if_neg (fun v => by rw [v] at l1; omega)]
            · have u := xeq u
              have ez : en (arh h.1) (l.drop p) 1 = e - a := by omega
              intro b4
              refine fm_259 (ta := 25789) (tb := 25789) (f := p) (m := en (arh h.1) (l.drop p) 1) (p := a) (la := l) (lb := l) (by decide) (by decide) Wl (by decide) (by decide) Wl h4 d2 t1 (by omega) (by omega) (fun u2 => ⟨fun _ => ?_, fun w2 => absurd w2 (by decide)⟩) (fun u2 => ⟨fun w2 => absurd rfl w2, fun _ => ?_⟩)
              · intro b5 b6
                have eU : (l.drop a).take (e - a) = (l.drop p).take (en (arh h.1) (l.drop p) 1) := by rw [u2, ez]
                refine go (B2 := B) ?_ (by rw [hM, rw_m_s h40 t5, if_pos eU])
                rw [← eU]
                exact rw_u_id t5
              · refine k0 s ?_ K
                rw [hM, rw_m_s h40 t5, if_neg (fun v => u2 (by rw [← v, ez]))]
      · have y := xlt y
        have h40 : ¬ 40 ≤ c := by omega
        obtain ⟨c2, hc2⟩ : ∃ c2, l[p]? = some c2 := ⟨_, List.getElem?_eq_getElem hlt⟩
        refine fm_220c (to := 25789) (by decide) (by decide) Wl h4 hc2 (fun v4 q4 => ⟨fun w => ?_, fun w => ?_⟩)
        · have w := xeq w
          have e2 : c2 = c := by omega
          subst e2
          rw [drop_c hc2] at hw1
          obtain ⟨bb2, W1', ks2, rfl, hk2, hw1'⟩ := ws_cons.mp hw1
          have ha2 := hA bb2 c2 ks2 hk2
          refine fm_286_42 hb h21 H0 hi8 W0 Wr0 h3 hv h64 hrt k1 k0 n (xj1 h4 (by omega)) (xj1 h5 (by omega)) (by omega) bn K hw' hw1' ?_ (by omega) (by rw [hM, rw_m_c h40, if_pos hc2])
          rw [List.length_append, List.length_append]
          rw [List.length_cons, List.length_cons] at hle
          omega
        · have w := xne w
          refine k0 s ?_ K
          rw [hM, rw_m_c h40, if_neg (fun v => by rw [hc2] at v; cases v; exact w (by rw [q1, q4]))]

end
