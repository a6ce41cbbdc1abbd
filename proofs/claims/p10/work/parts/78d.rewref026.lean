set_option maxRecDepth 100000
section
variable {b : Nat} {h : tx_H} {l0 : List Nat} {s0 : ps_S} {R : Int32 → ps_S → Prop}
theorem fm_288_51 (hb : b < 2) (h21 : (ps_i s0 1131 21).toInt = b) (H0 : mv_H s0 b h) (hw : WFt h) (k : ∀ (v : Int32) s' nl, rw_A h l0 v.toInt nl → mv_W s' 25789 nl → KW8 s0 s' → R v s') : ∀ (n : Nat) {s : ps_S} {x1 : Int32} {m : Nat} {l : List Nat}, x1.toInt = m → m ≤ 60 → rw_go h m l0 l → ws (sg h.1) l [false] → mv_W s 25789 l → KW8 s0 s → pl_At n 288 51 [(0, .ref 1131), (1, .int x1)] [] s (ps_rI R)
  | 0, _, _, _, _, _, _, _, _, _, _ => pl_At_0
  | n + 1, s, x1, m, l, hx, hm, hg, hl, W, K => by
    have c60 : (60 : Int32).toInt = 60 := by decide
    have hl40 := W.2.1
    have H := mv_H_po hb H0 K
    have h21' : (ps_i s 1131 21).toInt = b := by rw [kq_i K.1 21 rfl]; exact h21
    have spent : ∀ {s' : ps_S} {b' : List Nat}, KW8 s0 s' → rw_s h l b' → (¬ rw_g h b' ∨ m = 60) → R (-2) (ps_ua s' 1134 25789 0) := fun {s' b'} K' hs hbad => by
      refine k _ _ [] (Or.inr ⟨by decide, rfl, m, l, b', hm, hg, hs, hbad⟩) ⟨?_, Nat.zero_le _, fun k c hk => by cases hk⟩ ⟨kqa K'.1 rfl, fun q hq => ?_⟩
      · rw [ps_a_ua, if_pos ⟨rfl, rfl⟩]
        rfl
      · rw [ps_a_ua, if_neg (by omega)]
        exact K'.2 q hq
    refine pl_288_51 ?_
    refine fm_287 hb h21' H hw hl W (fun s1 q => ⟨fun y => absurd y (by decide), fun _ => ?_⟩) (fun s1 q => ⟨fun _ => ?_, fun y => absurd rfl y⟩)
    · obtain ⟨l', hs, M, K1⟩ := q
      have K1' : KW8 s0 s1 := KW8_q K K1 (by decide) (by decide)
      have hl' := rw_s_ws hw hl hs
      refine ⟨fun z => ?_, fun z => ?_⟩
      · have z := xeq z
        intro b1
        rw [xtn (a := 25789) (by decide)]
        exact spent K1' hs (Or.inr (by omega))
      · have z := xne z
        have h211 : (ps_i s1 1131 21).toInt = b := by rw [kq_i K1'.1 21 rfl]; exact h21
        have H1 := mv_H_po hb H0 K1'
        have hlen : l'.length < 100000 := by
          obtain ⟨p, kk, hp, ⟨w, r, e, B, a1, a2, a3, rfl⟩, -, -⟩ := hs
          have hr40 := (hw.2.2 kk w r a1).2.1
          have hBl : ∀ k U, B k = some U → U.length ≤ 40 := by
            have aux : ∀ {t : List Nat} {p e : Nat} {B B' : Nat → Option (List Nat)}, (∀ k U, B k = some U → U.length ≤ 40) → rw_m (arh h.1) l t p B = some (e, B') → ∀ k U, B' k = some U → U.length ≤ 40 := by
              intro t
              induction t with
              | nil =>
                intro p e B B' hB hm
                cases hm
                exact hB
              | cons c t ih =>
                intro p e B B' hB hm
                by_cases h40 : 40 ≤ c
                · cases hBk : B (c - 40) with
                  | none =>
                    rw [rw_m_n h40 hBk] at hm
                    refine ih (fun k U hk => ?_) hm
                    unfold rw_u at hk
                    split at hk
                    · cases hk
                      rw [List.length_take, List.length_drop]
                      omega
                    · exact hB k U hk
                  | some U =>
                    rw [rw_m_s h40 hBk] at hm
                    split at hm
                    · exact ih hB hm
                    · cases hm
                · rw [rw_m_c h40] at hm
                  split at hm
                  · exact ih hB hm
                  · cases hm
            exact aux (fun k U z => by cases z) a3
          have := rw_r_len hBl (t := r.drop (rl_r (arh h.1) r))
          rw [List.length_drop] at this
          unfold rw_n
          rw [List.length_append, List.length_append, List.length_take, List.length_drop]
          omega
        refine fm_228 hb h211 H1.1 M hl' hlen (fun s2 q2 => ⟨fun _ => ?_, fun y => absurd y (by decide)⟩) (fun s2 q2 => ⟨fun y => absurd rfl y, fun _ => ?_⟩)
        · obtain ⟨⟨g1, g2⟩, K2⟩ := q2
          have K2' : KW8 s0 s2 := KW8_q K1' K2 (by decide) (by decide)
          refine fm_229 (to := 25789) (mk_M_kq M K2 (by decide) (by decide)) g1 (by decide) (by decide) (fun s3 W3 K3 P3 => ?_)
          exact fm_288_51 hb h21 H0 hw k n (xj1 hx (by omega)) (by omega) ⟨l, hg, hs, g1, g2⟩ hl' W3 ⟨kqt K2'.1 K3 (by decide) (by decide), fun q hq => (P3 q (by omega)).trans (K2'.2 q hq)⟩
        · intro b1
          rw [xtn (a := 25789) (by decide)]
          exact spent (KW8_q K1' q2.2 (by decide) (by decide)) hs (Or.inl (fun y => q2.1 y))
    · exact k _ s1 l (Or.inl ⟨m, hm, hg, q.1, hx⟩) (mv_W_kq W q.2 (by decide)) (KW8_q K q.2 (by decide) (by decide))

end
