set_option maxRecDepth 100000
theorem fs_194_259 {T : Nat → Nat} {N p a : Nat} {s0 : ps_S} {R : ps_S → Prop} (H : mv_T s0 T N) (ha : tx_to tx_B T N p = a) (haN : a < N) (hL : ¬ tx_L (T a) = true) (hD : tx_D (T a) = true) (k : ∀ s', mv_A T N p s0 s' → R s') : ∀ (n : Nat) {s : ps_S} {b : Nat}, kq [] [7, 8, 9, 10, 11] s0 s → (ps_i s 1131 7).toInt = a → (ps_i s 1131 8).toInt = b → a ≤ b → b ≤ N → (∀ j, a ≤ j → j < b → j < N ∧ tx_D (T j) = true) → (b - a ≤ 4 → (ps_i s 1131 10).toInt = (tx_dec T a (b - a) : Nat)) → pl_At n 194 259 [(0, .ref 1131)] [] s (ps_rV R)
  | 0, _, _, _, _, _, _, _, _, _ => pl_At_0
  | n + 1, s, b, F, h7, h8, hab, hbN, hall, hnum => by
    have hN := H.2.1
    have HT : mv_T s T N := mv_T_kq H F rfl rfl
    have e1 : ((ps_i s 1131 8) - (ps_i s 1131 7)).toInt = (b : Int) - a := by rw [xIs (by omega) (by omega)]; omega
    have he : (¬ (b < N ∧ tx_D (T b) = true)) → tx_to tx_D T N a = b := fun z => tx_to_is hab hall (by
      by_cases y : b < N
      · right
        rw [Bool.eq_false_iff]
        exact fun x => z ⟨y, x⟩
      · exact Or.inl (by omega))
    have nd : ∀ v : Int32, v.toInt = (if b < N then (T b : Int) else 0) → ¬ (48 ≤ v.toInt ∧ v.toInt ≤ 57) → ¬ (b < N ∧ tx_D (T b) = true) := fun v hv hn z => by
      rw [if_pos z.1] at hv
      have := tx_D_c.mp z.2
      omega
    have yd : ∀ v : Int32, v.toInt = (if b < N then (T b : Int) else 0) → (48 ≤ v.toInt ∧ v.toInt ≤ 57) → b < N ∧ v.toInt = T b ∧ tx_D (T b) = true := fun v hv hn => by
      have hbl : b < N := by
        refine Nat.lt_of_not_le (fun z => ?_)
        rw [if_neg (by omega)] at hv
        omega
      rw [if_pos hbl] at hv
      exact ⟨hbl, hv, tx_D_c.mpr (by omega)⟩
    have more : ∀ j, b < N → tx_D (T b) = true → a ≤ j → j < b + 1 → j < N ∧ tx_D (T j) = true := fun j y1 y2 h1 h2 => by
      by_cases e : j = b
      · rw [e]
        exact ⟨y1, y2⟩
      · exact hall j h1 (by omega)
    refine pl_194_259 ?_
    refine fs_188 HT h8 (fun v264 q264 => ?_)
    refine fs_190 (fun q267 => ?_) (fun q267 => ?_)
    · refine ⟨fun h270 => ?_, fun h270 => ?_⟩
      · exact absurd h270 (by decide)
      · refine ⟨fun h283 => ?_, fun h283 => ?_⟩
        · have h283 : (4 : Int) ≤ ((ps_i s 1131 8) - (ps_i s 1131 7)).toInt := xle h283
          obtain ⟨y1, y2, y3⟩ := yd _ q264 q267
          refine fs_194_259 H ha haN hL hD k n (kqi F rfl) h7 (xj1 h8 (by omega)) (by omega) (by omega) (fun j => more j y1 y3) (fun z => ?_)
          exfalso
          omega
        · have h283 : ((ps_i s 1131 8) - (ps_i s 1131 7)).toInt < (4 : Int) := xlt h283
          refine fs_188 HT h8 (fun v299 q299 => ?_)
          obtain ⟨y1, y2, y3⟩ := yd _ q264 q267
          refine fs_194_259 H ha haN hL hD k n (kqi (kqi F rfl) rfl) h7 (xj1 (show (ps_i s 1131 8).toInt = b from h8) (by omega)) (by omega) (by omega) (fun j => more j y1 y3) (fun z => ?_)
          rw [show b + 1 - a = (b - a) + 1 from by omega]
          show (((10 : Int32) * (ps_i s 1131 10)) + v299 - 48).toInt = ((tx_dec T a (b - a) * 10 + (T (a + (b - a)) - 48) : Nat) : Int)
          rw [show a + (b - a) = b from by omega]
          rw [if_pos y1] at q299
          have hd := tx_dec_lt (T := T) (a := a) (k := b - a) (fun j hj => (hall (a + j) (by omega) (by omega)).2)
          have h4 : 10 ^ (b - a) ≤ 10 ^ 3 := Nat.pow_le_pow_right (by decide) (by omega)
          have hn := hnum (by omega)
          have g1 := tx_D_c.mp y3
          have h10 : (10 : Int32).toInt = 10 := by decide
          have h48 : (48 : Int32).toInt = 48 := by decide
          have m0 : (10 : Int32).toInt * (ps_i s 1131 10).toInt = 10 * (tx_dec T a (b - a) : Nat) := by rw [h10, hn]
          have m1 : ((10 : Int32) * (ps_i s 1131 10)).toInt = 10 * (tx_dec T a (b - a) : Nat) := by rw [xIm (by omega) (by omega), m0]
          have m2 : (((10 : Int32) * (ps_i s 1131 10)) + v299).toInt = 10 * (tx_dec T a (b - a) : Nat) + T b := by rw [xIa (by omega) (by omega)]; omega
          rw [xIs (by omega) (by omega)]
          omega
    · refine ⟨fun h270 => ?_, fun h270 => ?_⟩
      · refine ⟨fun h333 => ?_, fun h333 => ?_⟩
        · have h333 : (4 : Int) < ((ps_i s 1131 8) - (ps_i s 1131 7)).toInt := xlt h333
          have hb := he (nd _ q264 q267)
          refine k _ ⟨kqi F rfl, ?_⟩
          rw [tx_tok_num ha haN hL hD, hb, if_pos (Or.inl (by omega))]
          exact ⟨rfl, h7, h8, (fun z => by rcases z with z | z <;> cases z), (fun z => by cases z)⟩
        · have h333 : ((ps_i s 1131 8) - (ps_i s 1131 7)).toInt ≤ (4 : Int) := xle h333
          refine fs_188 HT h8 (fun v341 q341 => ?_)
          refine fs_189 (fun q344 => ?_) (fun q344 => ?_)
          · refine ⟨fun h347 => ?_, fun h347 => ?_⟩
            · exact absurd h347 (by decide)
            · have hb := he (nd _ q264 q267)
              have hbl : b < N := by
                refine Nat.lt_of_not_le (fun z => ?_)
                rw [if_neg (by omega)] at q341
                omega
              rw [if_pos hbl] at q341
              refine k _ ⟨kqi F rfl, ?_⟩
              rw [tx_tok_num ha haN hL hD, hb, if_pos (Or.inr ⟨hbl, tx_L_c.mpr (by omega)⟩)]
              exact ⟨rfl, h7, h8, (fun z => by rcases z with z | z <;> cases z), (fun z => by cases z)⟩
          · refine ⟨fun h347 => ?_, fun h347 => ?_⟩
            · have hb := he (nd _ q264 q267)
              refine k _ ⟨kqi F rfl, ?_⟩
              rw [tx_tok_num ha haN hL hD, hb, if_neg (fun z => by
                rcases z with z | ⟨z1, z2⟩
                · omega
                · have := tx_L_c.mp z2
                  rw [if_pos z1] at q341
                  omega)]
              exact ⟨rfl, h7, h8, (fun z => by rcases z with z | z <;> cases z), fun _ => hnum (by omega)⟩
            · exact absurd h347 (by decide)
      · exact absurd h270 (by decide)

