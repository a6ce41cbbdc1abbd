set_option maxRecDepth 100000
theorem fs_194_156 {T : Nat → Nat} {N p a e : Nat} {s0 : ps_S} {R : ps_S → Prop} (H : mv_T s0 T N) (ha : tx_to tx_B T N p = a) (haN : a < N) (hL : tx_L (T a) = true) (he : tx_to tx_L T N a = e) (k : ∀ s', mv_A T N p s0 s' → R s') : ∀ (n : Nat) {x2 : Int32} {s : ps_S} {c : Nat}, kq [] [7, 8, 9, 10, 11] s0 s → (ps_i s 1131 7).toInt = a → (ps_i s 1131 8).toInt = e → x2.toInt = c → a ≤ c → c ≤ e → c ≤ a + 8 → ps_j s 1131 11 = tx_m (tx_wd T a (c - a)) → pl_At n 194 156 [(0, .ref 1131), (2, .int x2)] [] s (ps_rV R)
  | 0, _, _, _, _, _, _, _, _, _, _, _ => pl_At_0
  | n + 1, x2, s, c, F, h7, h8, hx, hac, hce, hc8, hw => by
    have hN := H.2.1
    have heN : e ≤ N := he ▸ tx_to_le (by omega)
    have HT : mv_T s T N := mv_T_kq H F rfl rfl
    have h8' : (8 : Int32).toInt = 8 := by decide
    have e8 : ((ps_i s 1131 7) + 8).toInt = (a : Int) + 8 := by rw [xIa (by omega) (by omega)]; omega
    refine pl_194_156 ?_
    refine ⟨fun h161 => ?_, fun h161 => ?_⟩
    · have h161 : (ps_i s 1131 8).toInt ≤ x2.toInt := xle h161
      exact fs_194_199 H F ha haN hL he h7 h8 (fun z => by rw [show e = c from by omega]; exact hw) k
    · have h161 : x2.toInt < (ps_i s 1131 8).toInt := xlt h161
      refine ⟨fun h172 => ?_, fun h172 => ?_⟩
      · have h172 : ((ps_i s 1131 7) + 8).toInt ≤ x2.toInt := xle h172
        exact fs_194_199 H F ha haN hL he h7 h8 (fun z => by rw [show e = c from by omega]; exact hw) k
      · have h172 : x2.toInt < ((ps_i s 1131 7) + 8).toInt := xlt h172
        refine fs_188 HT hx (fun v185 q185 => ?_)
        have hl := tx_L_c.mp (tx_to_all (n := N) (p := a) hac (show c < tx_to tx_L T N a by omega)).2
        rw [if_pos (by omega)] at q185
        refine fs_194_156 H ha haN hL he k n (kqj F rfl) h7 h8 (xj1 hx (by omega)) (by omega) (by omega) (by omega) ?_
        rw [show c + 1 - a = (c - a) + 1 from by omega]
        show _ = Int64.ofNat (tx_en 256 0 (tx_wd T a (c - a) ++ [T (a + (c - a))]))
        rw [tx_en_snoc, show a + (c - a) = c from by omega, Nat.sub_zero]
        have hww : tx_w (tx_wd T a (c - a)) := tx_wd_w (fun j hj => (tx_to_all (n := N) (p := a) (Nat.le_add_right a j) (by omega)).2) (by omega)
        have hlt := tx_en_lt (b := 256) (o := 0) (k := 7) (by decide) (by decide) hww.1 (by rw [tx_wd_len]; omega)
        exact xsh hw q185 (by omega) (by omega)
