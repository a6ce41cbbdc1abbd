set_option maxRecDepth 100000
theorem fs_194_199 {n : Nat} {T : Nat → Nat} {N p a e : Nat} {s0 s : ps_S} {R : ps_S → Prop} (H : mv_T s0 T N) (F : kq [] [7, 8, 9, 10, 11] s0 s) (ha : tx_to tx_B T N p = a) (haN : a < N) (hL : tx_L (T a) = true) (he : tx_to tx_L T N a = e) (h7 : (ps_i s 1131 7).toInt = a) (h8 : (ps_i s 1131 8).toInt = e) (hw : e - a ≤ 8 → ps_j s 1131 11 = tx_m (tx_wd T a (e - a))) (k : ∀ s', mv_A T N p s0 s' → R s') : pl_At n 194 199 [(0, .ref 1131)] [] s (ps_rV R) := by
  cases n with
  | zero => exact pl_At_0
  | succ n =>
  have hN := H.2.1
  have hae : a ≤ e := he ▸ tx_to_ge
  have heN : e ≤ N := he ▸ tx_to_le (by omega)
  have e1 : ((ps_i s 1131 8) - (ps_i s 1131 7)).toInt = (e : Int) - a := by rw [xIs (by omega) (by omega)]; omega
  have hww : e - a ≤ 8 → tx_w (tx_wd T a (e - a)) := fun z => tx_wd_w (fun j hj => (tx_to_all (n := N) (p := a) (Nat.le_add_right a j) (by omega)).2) z
  refine pl_194_199 ?_
  refine ⟨fun h211 => ?_, fun h211 => ?_⟩
  · have h211 : ((ps_i s 1131 8) - (ps_i s 1131 7)).toInt ≤ (8 : Int) := xle h211
    refine fs_193 (hww (by omega)) (hw (by omega)) (fun q222 => ?_) (fun q222 => ?_)
    · refine ⟨fun h225 => ?_, fun h225 => ?_⟩
      · exact absurd h225 (by decide)
      · refine k _ ⟨kqi F rfl, ?_⟩
        rw [tx_tok_word ha haN hL, he, if_neg (by omega)]
        cases ek : tx_at tx_keys (tx_wd T a (e - a)) with
        | none => exact (q222 ek).elim
        | some q => exact ⟨rfl, h7, h8, fun _ => hw (by omega), (fun z => by cases z)⟩
    · refine ⟨fun h225 => ?_, fun h225 => ?_⟩
      · refine k _ ⟨kqi F rfl, ?_⟩
        rw [tx_tok_word ha haN hL, he, if_neg (by omega), q222]
        exact ⟨rfl, h7, h8, fun _ => hw (by omega), (fun z => by cases z)⟩
      · exact absurd h225 (by decide)
  · have h211 : (8 : Int) < ((ps_i s 1131 8) - (ps_i s 1131 7)).toInt := xlt h211
    refine k _ ⟨kqi F rfl, ?_⟩
    rw [tx_tok_word ha haN hL, he, if_pos (by omega)]
    exact ⟨rfl, h7, h8, (fun z => by rcases z with z | z <;> cases z), (fun z => by cases z)⟩

