set_option maxRecDepth 100000
theorem fs_194_8 {T : Nat → Nat} {N p : Nat} {s0 : ps_S} {R : ps_S → Prop} (H : mv_T s0 T N) (k : ∀ s', mv_A T N p s0 s' → R s') : ∀ (n : Nat) {s : ps_S} {b : Nat}, kq [] [7, 8, 9, 10, 11] s0 s → (ps_i s 1131 7).toInt = b → p ≤ b → b ≤ N → (∀ j, p ≤ j → j < b → j < N ∧ tx_B (T j) = true) → pl_At n 194 8 [(0, .ref 1131)] [] s (ps_rV R)
  | 0, _, _, _, _, _, _, _ => pl_At_0
  | n + 1, s, b, F, h7, hab, hbN, hall => by
    have hN := H.2.1
    have HT : mv_T s T N := mv_T_kq H F rfl rfl
    have hsz := HT.1
    have more : b < N → (T b = 32 ∨ T b = 10) → pl_At n 194 8 [(0, .ref 1131)] [] (ps_ui s 1131 7 ((ps_i s 1131 7) + 1)) (ps_rV R) := fun hbl hc => fs_194_8 H k n (kqi F rfl) (xj1 h7 (by omega)) (by omega) (by omega) (fun j h1 h2 => by
      by_cases e : j = b
      · rw [e]
        exact ⟨hbl, tx_B_c.mpr hc⟩
      · exact hall j h1 (by omega))
    refine pl_194_8 ?_
    refine ⟨fun h16 => ?_, fun h16 => ?_⟩
    · have h16 : (ps_i s 1131 4).toInt ≤ (ps_i s 1131 7).toInt := xle h16
      exact fs_194_58 H F (tx_to_is hab hall (Or.inl (by omega))) hbN h7 k
    · have h16 : (ps_i s 1131 7).toInt < (ps_i s 1131 4).toInt := xlt h16
      have hbl : b < N := by omega
      refine fs_188 HT h7 (fun v24 q24 => ?_)
      rw [if_pos hbl] at q24
      refine ⟨fun h29 => ?_, fun h29 => ?_⟩
      · have h29 : v24.toInt = (32 : Int) := xeq h29
        exact more hbl (by omega)
      · have h29 : v24.toInt ≠ (32 : Int) := xne h29
        refine fs_188 HT h7 (fun v37 q37 => ?_)
        rw [if_pos hbl] at q37
        refine ⟨fun h42 => ?_, fun h42 => ?_⟩
        · have h42 : v37.toInt ≠ (10 : Int) := xne h42
          exact fs_194_58 H F (tx_to_is hab hall (Or.inr (by
            rw [Bool.eq_false_iff]
            intro z
            have := tx_B_c.mp z
            omega))) hbN h7 k
        · have h42 : v37.toInt = (10 : Int) := xeq h42
          exact more hbl (by omega)
