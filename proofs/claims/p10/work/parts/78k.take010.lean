set_option maxRecDepth 100000
section
variable {p th : Nat} {h : tx_H} {Θ : List tq_H} {D : List tq_R} {st : tp_P} {s0 : ps_S} {R : Int32 → ps_S → Prop}
/-- what begins a step: what is left out is cleared -/
theorem fs_35_21 {x1 : Int32} (hp : p = 50 ∨ p = 460) (hi : D.length < 40) (X : cpX s0 p th h Θ D st) (B0 : (ps_i s0 (stc p D.length) 8).toInt = 0 ∧ ps_i s0 (stc p D.length) 9 = 0 ∧ ps_i s0 (stc p D.length) 10 = 0 ∧ ps_i s0 (stc p D.length) 11 = 0) (hD : tq_GD h.1 D) (hT : tq_GT h.1 Θ) (hwt : WFt h) (hG : tp_G h.1 h.2.length st) (hpr : tq_pr Θ D st) (hx1 : x1.toInt = D.length) (k : ∀ (v : Int32) s', (v.toInt = tq_cs h Θ D st ∧ (tq_cs h Θ D st = 0 → cpD s' p (D ++ [tq_res h Θ D st])) ∧ cfr (CTO p D.length) s0 s') → R v s') : ∀ (n : Nat) {s : ps_S} {x4 : Int32} {m : Nat}, x4.toInt = m → m ≤ 3 → (∀ j, j < m → CW s (otc p j) []) → cfr (fun q => p + 404 ≤ q ∧ q ≤ p + 409) s0 s → pl_At n 35 21 [(0, .ref p), (1, .int x1), (2, .ref 870), (3, .ref (stc p D.length)), (4, .int x4)] [] s (ps_rI R)
  | 0, _, _, _, _, _, _, _ => pl_At_0
  | n + 1, s, x4, m, hx, hm, hj, F => by
    have hl := stc_lt hp hi
    obtain ⟨-, -, ⟨-, -, c2, -⟩, ⟨-, l1⟩, -⟩ := prf hp
    have t3 : (nI (ps_ln (ps_c0 p 2))).toInt = 3 := by rw [c2, l1]; decide
    have FT : cfr (CTO p D.length) s0 s := cfr_mono F (fun q z => Or.inr (Or.inl z))
    refine pl_35_21 (pl_nk_i (fun _ => pl_nk_i (fun _ => ⟨fun z => ?_, fun z => ?_⟩)))
    · have z := xle z
      have em : m = 3 := by omega
      subst em
      have X1 : cpX s p th h Θ D st := by
        obtain ⟨⟨x1', x2', x3'⟩, x4', x5', x6', x7'⟩ := X
        have h8 := x1'.2.2.1
        exact ⟨⟨cv_H_cfr x1' F (fun q a b c => by omega), by rw [(F p (by omega)).2.2.1]; exact x2', x3'⟩, cSh_cfr x4' F (fun q a b c => by omega), cpD_cfr x5' F (fun q a b c => by unfold stc at *; omega), cpT_cfr x6' F (fun q a b c => by omega), cv_W_cfr x7' F (by omega) (by omega)⟩
      have f0 := F (stc p D.length) (by omega)
      have B : cpB s p (stc p D.length) := ⟨hj, by rw [f0.1]; exact B0.1, by rw [f0.1]; exact B0.2.1, by rw [f0.1]; exact B0.2.2.1, by rw [f0.1]; exact B0.2.2.2⟩
      refine fs_42 hp hi X1 hD hG B hpr hx1 (fun v1 s1 K => ⟨fun z1 => ?_, fun z1 => ?_⟩)
      · have z1 := xeq z1
        obtain ⟨kv, km, F1⟩ := K
        have hm0 : (tq_mk h Θ D st).1 = 0 := by
          have t0 : (0 : Int32).toInt = 0 := Int32.toInt_zero
          omega
        obtain ⟨m1, ⟨m2, m3, m4⟩, ⟨m5, m6⟩, m7, m8, m9⟩ := km hm0
        refine pl_nk_i (fun _ => ?_)
        have F2 : cfr (fun q => q = stc p D.length) s1 (ps_uj s1 (stc p D.length) 12 ((1 : Int64) <<< (Int32.toInt64 x1 &&& 63))) := cfr_j cfr_refl rfl
        refine fs_35_73 hp hi X hD hG hpr (fun _ => tq_mk_ws hwt hG hpr hD hT hm0) hm0 k n (m := 0) rfl (Nat.zero_le _) ⟨⟨CW_cfr m1 F2 (by omega) (by omega), fun j hj3 => ?_⟩, ⟨m5, m6, ?_⟩, fun e => ?_, fun e => m8 e, m9⟩ (cfr_tr FT (cfr_tr F1 (cfr_mono F2 (fun q z => Or.inl (by omega)))))
        · rcases (show j = 0 ∨ j = 1 ∨ j = 2 by omega) with rfl | rfl | rfl
          · exact CW_cfr m2 F2 (by unfold otc; omega) (by unfold otc; omega)
          · exact CW_cfr m3 F2 (by unfold otc; omega) (by unfold otc; omega)
          · exact CW_cfr m4 F2 (by unfold otc; omega) (by unfold otc; omega)
        · rw [ps_j_uj, if_pos ⟨rfl, rfl⟩, xnI hx1]
          rfl
        · exact m7 e
      · have z1 := xne z1
        obtain ⟨kv, km, F1⟩ := K
        have hm0 : (tq_mk h Θ D st).1 ≠ 0 := fun e => by
          have t0 : (0 : Int32).toInt = 0 := Int32.toInt_zero
          rw [e] at kv
          exact z1 (kv.trans t0.symm)
        have hc := tq_cs_m hpr hm0
        exact k _ _ ⟨by rw [hc]; exact kv, fun e => absurd (hc.symm.trans e) hm0, cfr_tr FT F1⟩
    · have z := xlt z
      refine fs_38 (i := m) hp hx (by omega) (fs_91 ?_)
      refine fs_35_21 hp hi X B0 hD hT hwt hG hpr hx1 k n (xj1 hx (by omega)) (by omega) (fun j hj2 => ?_) (cfr_i (cfr_i F (by unfold otc; omega)) (by unfold otc; omega))
      by_cases e : j = m
      · rw [e]
        exact CW_of CW_0
      · exact CW_cfr (hj j (by omega)) (cfr_i (cfr_i cfr_refl rfl) rfl : cfr (fun q => q = otc p m) _ _) (by unfold otc; omega) (by unfold otc; omega)

end
