set_option maxRecDepth 100000
section
variable {p th : Nat} {h : tx_H} {Θ : List tq_H} {L : List tp_P} {s0 : ps_S} {R : ps_S → Prop}
theorem fs_34_7 (hp : p = 50 ∨ p = 460) (hth : th = 2 ∨ th = 26) (hT : tq_GT h.1 Θ) (hwt : WFt h) (hL : L.length ≤ 40) (hG : ∀ (k : Nat) (st : tp_P), L[k]? = some st → tp_G h.1 h.2.length st) (k : ∀ s' D c, tq_run h Θ L [] = (D, c) → tq_GD h.1 D → cpP s' p D c → cfr (CPF p) s0 s' → R s') : ∀ (n : Nat) {s : ps_S} {x3 : Int32} {D : List tq_R}, x3.toInt = D.length → D.length ≤ L.length → tq_run h Θ L [] = tq_run h Θ (L.drop D.length) D → tq_GD h.1 D → cv_H s th h → ps_r s p 6 = th → cSh s 870 Θ → cpD s p D → cv_W s (p + 12) [] → cpW s p L D.length → (ps_i s p 7).toInt = L.length → (ps_i s p 8).toInt = D.length → (L.length = D.length → ps_i s p 9 = 0) → cfr (CPF p) s0 s → pl_At n 34 7 [(0, .ref p), (2, .ref 870), (3, .int x3)] [] s (ps_rV R)
  | 0, _, _, _, _, _, _, _, _, _, _, _, _, _, _, _, _, _ => pl_At_0
  | n + 1, s, x3, D, hx, hDL, hrun, hD, H, h6, hS, cD, W12, cW, e7, e8, e9, F => by
    have h8 := H.2.2.1
    refine pl_34_7 (pl_nk_i (fun _ => ⟨fun z => ?_, fun z => ?_⟩))
    · have z := xle z
      have e : D.length = L.length := by omega
      rw [e, List.drop_length] at hrun
      exact k s D 0 hrun hD ⟨cD, e8, by rw [e9 e.symm]; rfl⟩ F
    · have z := xlt z
      obtain ⟨st, hst⟩ : ∃ st, L[D.length]? = some st := ⟨_, List.getElem?_eq_getElem (by omega)⟩
      have hi : D.length < 40 := by omega
      have hl := stc_lt hp hi
      obtain ⟨w1, w2⟩ := cW D.length st (Nat.le_refl _) hst
      rw [drop_g hst] at hrun
      refine fs_35 hp hi ⟨⟨H, h6, hth⟩, hS, cD, w1, W12⟩ w2 hD hT hwt (hG _ st hst) hx (fun v1 s1 q => ?_)
      obtain ⟨q1, q2, F1⟩ := q
      have F1' : cfr (CPF p) s s1 := cfr_mono F1 (fun q z => by unfold CTO at z; unfold CPF; omega)
      refine pl_nk_i (fun _ => pl_nk_i (fun _ => ⟨fun y => pl_nk_i (fun _ => ?_), fun y => ?_⟩))
      · have y : v1 = 0 := by rw [ps_i_ui, if_pos ⟨rfl, rfl⟩] at y; exact y
        have hc : tq_cs h Θ D st = 0 := by
          rw [y, Int32.toInt_zero] at q1
          omega
        obtain ⟨c1, c2, c3⟩ := tq_cs_is hc
        rw [tq_run_0 hc] at hrun
        have hlen : (D ++ [tq_res h Θ D st]).length = D.length + 1 := List.length_append
        have e31 : (x3 + 1).toInt = (D.length + 1 : Nat) := xj1 hx (by omega)
        have F2 : cfr (fun q => q = p) s1 (ps_ui (ps_ui s1 p 9 v1) p 8 (x3 + 1)) := cfr_i (cfr_i cfr_refl rfl) rfl
        have F12 : cfr (fun q => q = p ∨ CTO p D.length q) s (ps_ui (ps_ui s1 p 9 v1) p 8 (x3 + 1)) := cfr_tr (cfr_mono F1 (fun q z => Or.inr z)) (cfr_mono F2 (fun q z => Or.inl z))
        refine fs_34_7 hp hth hT hwt hL hG k n (D := D ++ [tq_res h Θ D st]) (by rw [hlen]; exact e31) (by omega) (by rw [hlen]; exact hrun) (tq_G_step hD hT hwt (hG _ st hst) c1 c2 c3) (cv_H_cfr H F12 (fun q a b => by unfold CTO; omega)) ?_ (cSh_cfr hS F12 (fun q a b => by unfold CTO; omega)) (cpD_cfr (q2 hc) F2 (fun q a b => by unfold stc at a; omega)) (cv_W_cfr W12 F12 (by unfold CTO; omega) (by unfold CTO; omega)) (fun kk st2 hk hs2 => ?_) ?_ ?_ (fun _ => ?_) (cfr_tr F (cfr_tr F1' (cfr_mono F2 (fun q z => Or.inl z))))
        · show ps_r s1 p 6 = th
          rw [(F1 p (by unfold CTO; omega)).2.2.1]
          exact h6
        · rw [hlen] at hk
          have hkl := (List.getElem?_eq_some_iff.mp hs2).1
          obtain ⟨a1, a2, a3, a4, a5⟩ := cW kk st2 (by omega) hs2
          have hlk := stc_lt hp (i := kk) (by omega)
          have hsk : stc p D.length + 9 ≤ stc p kk := by unfold stc; omega
          have f0 := F12 (stc p kk) (by unfold CTO; omega)
          exact ⟨cpT_cfr a1 F12 (fun q a b => by unfold CTO; omega), by rw [f0.1]; exact a2, by rw [f0.1]; exact a3, by rw [f0.1]; exact a4, by rw [f0.1]; exact a5⟩
        · rw [ps_i_ui, if_neg (by omega), ps_i_ui, if_neg (by omega), (F1 p (by unfold CTO; omega)).1]
          exact e7
        · rw [ps_i_ui, if_pos ⟨rfl, rfl⟩, hlen]
          exact e31
        · rw [ps_i_ui, if_neg (by omega), ps_i_ui, if_pos ⟨rfl, rfl⟩]
          exact y
      · have y : v1 ≠ 0 := by rw [ps_i_ui, if_pos ⟨rfl, rfl⟩] at y; exact y
        have hc : tq_cs h Θ D st ≠ 0 := fun e => y (Int32.toInt_inj.mp (by rw [q1, e]; rfl))
        rw [tq_run_c hc] at hrun
        have F2 : cfr (fun q => q = p) s1 (ps_ui s1 p 9 v1) := cfr_i cfr_refl rfl
        refine k _ D _ hrun hD ⟨cpD_cfr (cpD_cfr cD F1 (fun q a b => by unfold CTO; unfold stc at *; omega)) F2 (fun q a b => by unfold stc at a; omega), ?_, ?_⟩ (cfr_tr F (cfr_tr F1' (cfr_mono F2 (fun q z => Or.inl z))))
        · rw [ps_i_ui, if_neg (by omega), (F1 p (by unfold CTO; omega)).1]
          exact e8
        · rw [ps_i_ui, if_pos ⟨rfl, rfl⟩]
          exact q1

end
