set_option maxRecDepth 100000
theorem fs_194_119 {T : Nat → Nat} {N p a : Nat} {s0 : ps_S} {R : ps_S → Prop} (H : mv_T s0 T N) (ha : tx_to tx_B T N p = a) (haN : a < N) (hL : tx_L (T a) = true) (k : ∀ s', mv_A T N p s0 s' → R s') : ∀ (n : Nat) {s : ps_S} {b : Nat}, kq [] [7, 8, 9, 10, 11] s0 s → (ps_i s 1131 7).toInt = a → (ps_i s 1131 8).toInt = b → a < b → b ≤ N → (∀ j, a ≤ j → j < b → j < N ∧ tx_L (T j) = true) → pl_At n 194 119 [(0, .ref 1131)] [] s (ps_rV R)
  | 0, _, _, _, _, _, _, _, _ => pl_At_0
  | n + 1, s, b, F, h7, h8, hab, hbN, hall => by
    have hN := H.2.1
    have HT : mv_T s T N := mv_T_kq H F rfl rfl
    refine pl_194_119 ?_
    refine fs_188 HT h8 (fun v124 q124 => ?_)
    refine fs_189 (fun q127 => ?_) (fun q127 => ?_)
    · refine ⟨fun h130 => ?_, fun h130 => ?_⟩
      · exact absurd h130 (by decide)
      · have hbl : b < N := by
          refine Nat.lt_of_not_le (fun z => ?_)
          rw [if_neg (by omega)] at q124
          omega
        rw [if_pos hbl] at q124
        refine fs_194_119 H ha haN hL k n (kqi F rfl) h7 (xj1 h8 (by omega)) (by omega) (by omega) (fun j h1 h2 => ?_)
        by_cases e : j = b
        · rw [e]
          exact ⟨hbl, tx_L_c.mpr (by omega)⟩
        · exact hall j h1 (by omega)
    · refine ⟨fun h130 => ?_, fun h130 => ?_⟩
      · have he : tx_to tx_L T N a = b := tx_to_is (by omega) hall (by
          by_cases z : b < N
          · right
            rw [if_pos z] at q124
            rw [Bool.eq_false_iff]
            intro y
            have := tx_L_c.mp y
            omega
          · exact Or.inl (by omega))
        refine fs_194_156 H ha haN hL he k n (kqj F rfl) h7 h8 h7 (Nat.le_refl _) (by omega) (by omega) ?_
        rw [Nat.sub_self]
        rfl
      · exact absurd h130 (by decide)
