set_option maxRecDepth 100000
theorem fs_194_58 {n : Nat} {T : Nat → Nat} {N p a : Nat} {s0 s : ps_S} {R : ps_S → Prop} (H : mv_T s0 T N) (F : kq [] [7, 8, 9, 10, 11] s0 s) (ha : tx_to tx_B T N p = a) (haN : a ≤ N) (h7 : (ps_i s 1131 7).toInt = a) (k : ∀ s', mv_A T N p s0 s' → R s') : pl_At n 194 58 [(0, .ref 1131)] [] s (ps_rV R) := by
  cases n with
  | zero => exact pl_At_0
  | succ n =>
  have hN := H.2.1
  have HT : mv_T s T N := mv_T_kq H F rfl rfl
  have hsz : (ps_i (ps_ui s 1131 8 (ps_i s 1131 7 + 1)) 1131 4).toInt = N := HT.1
  have h7' : (ps_i (ps_ui s 1131 8 (ps_i s 1131 7 + 1)) 1131 7).toInt = a := h7
  have h8' : (ps_i (ps_ui s 1131 8 (ps_i s 1131 7 + 1)) 1131 8).toInt = (a + 1 : Nat) := xj1 h7 (by omega)
  have F8 : kq [] [7, 8, 9, 10, 11] s0 (ps_ui s 1131 8 (ps_i s 1131 7 + 1)) := kqi F rfl
  have hz : (ps_i (ps_ui (ps_ui s 1131 8 (ps_i s 1131 7 + 1)) 1131 9 0) 1131 4).toInt = N := HT.1
  refine pl_194_58 ?_
  refine fs_188 HT h7 (fun v63 q63 => ?_)
  refine ⟨fun h85 => ?_, fun h85 => ?_⟩
  · have h85 : (ps_i (ps_ui s 1131 8 ((ps_i s 1131 7) + 1)) 1131 7).toInt < (ps_i (ps_ui s 1131 8 ((ps_i s 1131 7) + 1)) 1131 4).toInt := xlt h85
    have hbl : a < N := by omega
    rw [if_pos hbl] at q63
    refine fs_189 (fun q113 => ?_) (fun q113 => ?_)
    · have hL : tx_L (T a) = true := tx_L_c.mpr (by omega)
      refine ⟨fun h116 => ?_, fun h116 => ?_⟩
      · exact absurd h116 (by decide)
      · exact fs_194_119 H ha hbl hL k n F8 h7 h8' (by omega) (by omega) (fun j h1 h2 => by
          rw [show j = a from by omega]
          exact ⟨hbl, hL⟩)
    · have hL : ¬ tx_L (T a) = true := fun z => by
        have := tx_L_c.mp z
        omega
      refine ⟨fun h116 => ?_, fun h116 => ?_⟩
      · refine fs_190 (fun q240 => ?_) (fun q240 => ?_)
        · have hD : tx_D (T a) = true := tx_D_c.mpr (by omega)
          refine ⟨fun h243 => ?_, fun h243 => ?_⟩
          · exact absurd h243 (by decide)
          · exact fs_194_259 H ha hbl hL hD k n (kqi (kqi F8 rfl) rfl) h7 h7 (Nat.le_refl _) (by omega) (fun j h1 h2 => by omega) (fun _ => by
              rw [Nat.sub_self]
              rfl)
        · have hD : ¬ tx_D (T a) = true := fun z => by
            have := tx_D_c.mp z
            omega
          refine ⟨fun h243 => ?_, fun h243 => ?_⟩
          · refine ⟨fun h365 => ?_, fun h365 => ?_⟩
            · have h365 : v63.toInt ≠ (59 : Int) := xne h365
              refine k _ ⟨kqi F8 rfl, ?_⟩
              rw [tx_tok_sign ha hbl hL hD, if_neg (by omega)]
              exact ⟨rfl, h7, h8', (fun z => by rcases z with z | z <;> cases z), (fun z => by cases z)⟩
            · have h365 : v63.toInt = (59 : Int) := xeq h365
              refine k _ ⟨kqi F8 rfl, ?_⟩
              rw [tx_tok_sign ha hbl hL hD, if_pos (by omega)]
              exact ⟨rfl, h7, h8', (fun z => by rcases z with z | z <;> cases z), (fun z => by cases z)⟩
          · exact absurd h243 (by decide)
      · exact absurd h116 (by decide)
  · have h85 : (ps_i (ps_ui s 1131 8 ((ps_i s 1131 7) + 1)) 1131 4).toInt ≤ (ps_i (ps_ui s 1131 8 ((ps_i s 1131 7) + 1)) 1131 7).toInt := xle h85
    refine k _ ⟨kqi (kqi (kqi F8 rfl) rfl) rfl, ?_⟩
    rw [tx_tok_end ha (by omega)]
    exact ⟨rfl, (by show (ps_i s 1131 4).toInt = a; rw [HT.1]; omega), (by show (ps_i s 1131 4).toInt = a; rw [HT.1]; omega), (fun z => by rcases z with z | z <;> cases z), (fun z => by cases z)⟩
