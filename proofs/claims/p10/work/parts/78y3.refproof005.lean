set_option maxRecDepth 100000
theorem fm_205p_2 {rb : Nat} {s : ps_S} {T : Nat → Nat} {N : Nat} {h : tx_H} {p : Nat} {R : Int32 → ps_S → Prop} (L : rv_L0 s rb T N h p) (k : ∀ v : Int32, tx_opt (if (tx_tok T N p).1 = 2 then tx_at (tx_A h) (tx_tok T N p).2.2.2.1 else none) v → R v s) : ∀ (n : Nat) {x1 : Int32} {i : Nat}, x1.toInt = i → i ≤ (tx_A h).length → ((tx_tok T N p).1 = 2 → ∀ j, j < i → (tx_A h)[j]? ≠ some (tx_tok T N p).2.2.2.1) → pl_At n 205 2 [(0, .ref 1131), (1, .int x1)] [] s (ps_rI R)
  | 0, _, _, _, _, _ => pl_At_0
  | n + 1, x1, i, hx, hi, hj => by
    obtain ⟨hrb, h22, hH, hp, hK⟩ := id L
    have h9 := hK.1
    have hwv := (tx_tok_ok (T := T) hp).2.2.2.1
    have hlen : (tx_A h).length = h.2.length := List.length_map ..
    have hcnt := hH.2.1
    have hmx := hH.2.2.1
    have c0 : (8 : Int32).toInt = 8 := by decide
    have e0 : (((8 : Int32) * (ps_i s 1131 22))).toInt = 8 * rb := by rw [xm01 h22 hrb, c0]
    have e1 : (((8 : Int32) * (ps_i s 1131 22)) + x1).toInt = (8 * rb + i : Nat) := by rw [xIa (by omega) (by omega)]; omega
    refine pl_205_2 ?_
    intro b11
    obtain ⟨b11, c11⟩ := pl_in b11
    rw [xtn h22]
    refine ⟨fun h12 => ?_, fun h12 => ?_⟩
    · have h12 : (ps_a s 1137 rb).toInt ≤ x1.toInt := xle h12
      refine k _ ⟨fun c hc => ?_, fun _ => rfl⟩
      split at hc
      · next z =>
        rw [tx_at_no (fun j hjl => hj z j (by omega))] at hc
        cases hc
      · cases hc
    · have h12 : x1.toInt < (ps_a s 1137 rb).toInt := xlt h12
      refine ⟨fun h20 => ?_, fun h20 => ?_⟩
      · have h20 : (ps_i s 1131 9).toInt ≠ (2 : Int) := xne h20
        exact fm_205p_2 L k n (xj1 hx (by omega)) (by omega) (fun z => by omega)
      · have h20 : (ps_i s 1131 9).toInt = (2 : Int) := xeq h20
        intro b36
        obtain ⟨b36, c36⟩ := pl_in b36
        have h2 : (tx_tok T N p).1 = 2 := by omega
        obtain ⟨w0, hg1⟩ : ∃ w0, (tx_A h)[i]? = some w0 := ⟨(tx_A h)[i]'(by omega), List.getElem?_eq_getElem _⟩
        obtain ⟨hg2, hg3⟩ : tx_w w0 ∧ ps_b s 1142 (8 * rb + i) = tx_m w0 := by
          unfold tx_A at hg1
          rw [List.getElem?_map] at hg1
          obtain ⟨q, q1, rfl⟩ := Option.map_eq_some_iff.mp hg1
          obtain ⟨z1, z2, z3⟩ := hH.2.2.2 i q.1 q.2 q1
          exact ⟨z1, z2⟩
        refine ⟨fun h42 => ?_, fun h42 => ?_⟩
        · have h42 := lg_nz h42
          refine fm_205p_2 L k n (xj1 hx (by omega)) (by omega) (fun _ j hjl => ?_)
          by_cases ej : j = i
          · rw [ej, hg1]
            intro z
            cases z
            exact h42 (by rw [xtn e1, hg3, hK.2.2.2.1 (Or.inl h2)])
          · exact hj h2 j (by omega)
        · have h42 := lg_z h42
          rw [xtn e1, hg3, hK.2.2.2.1 (Or.inl h2)] at h42
          have e := tx_at_is (by rw [hg1, tx_m_inj hg2 (hwv h2) h42]) (hj h2)
          refine k _ ⟨fun c hc => ?_, fun hc => ?_⟩
          · rw [if_pos h2, e] at hc
            cases hc
            exact hx
          · rw [if_pos h2, e] at hc
            cases hc
