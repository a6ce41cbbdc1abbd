set_option maxRecDepth 100000
theorem fm_288 {n b : Nat} {s : ps_S} {T : Nat → Nat} {N : Nat} {h : tx_H} {R : Int32 → ps_S → Prop} (hb : b < 2) (h21 : (ps_i s 1131 21).toInt = b) (H : mv_H s b h) (hw : WFt h) (h3 : (ps_i s 1131 3).toInt = N) (hN : N ≤ 1600) (hT : ∀ k, k < N → (ps_a s 1132 k &&& 255).toInt = T k) (k : ∀ (v : Int32) s' nl, RWA h T N v nl → mv_W s' 25789 nl → mr_p s s' → R v s') : pl_Cl n 288 [.ref 1131] s (ps_rI R) := by
  cases n with
  | zero => exact pl_At_0
  | succ n =>
  show pl_At (n + 1) 288 0 [(0, .ref 1131)] [] s (ps_rI R)
  refine pl_288_0 ?_
  refine fm_198 h21 h3 hN hT (fun s1 q1 => ?_)
  obtain ⟨K1, t1, t2, t3, t4, t5, t6⟩ := q1
  have Hk : ∀ {A F : List Nat} {s' : ps_S}, kq A F s s' → mv_po 25789 s s' → A.all (fun a => ![1135, 1136, 1137, 1138, 1139, 1140, 1141, 1142].contains a) = true → mv_H s' b h := fun {A F s'} K P hA => by
    rw [List.all_eq_true] at hA
    have hn : ∀ r, r ∈ [1135, 1136, 1137, 1138, 1139, 1140, 1141, 1142] → A.contains r = false := fun r hr => by
      cases e : A.contains r with
      | false => rfl
      | true =>
        have z := hA r (List.contains_iff_mem.mp e)
        rw [List.contains_iff_mem.mpr hr] at z
        exact absurd z (by decide)
    refine mv_H_V hb H (fun r hr => kq_a K r (hn r ?_)) (fun r hr => kq_b K r (hn r ?_)) (fun q h1 h2 => P q (by omega))
    · exact (show ∀ r, r ∈ [1135, 1136, 1137, 1138, 1139] → r ∈ [1135, 1136, 1137, 1138, 1139, 1140, 1141, 1142] by decide) r hr
    · exact (show ∀ r, r ∈ [1140, 1141, 1142] → r ∈ [1135, 1136, 1137, 1138, 1139, 1140, 1141, 1142] by decide) r hr
  refine fm_209u (to := 25789) (rb := b) (ph := 0) (E := (h.1, false)) (p := 0) (fr := []) (by decide) (Or.inl ⟨by decide, rfl⟩) rfl hb t5 t1 (mv_E_kq H.1 K1 (by decide)) (Nat.zero_le _) t2 ⟨t4, Nat.zero_le _, fun k w z => by cases z⟩ t3 (fun s10 q10 => ?_)
  have fin : ∀ {s' : ps_S}, (mq_ok 25789 0 b h.1 T N s s' ∨ mq_bad 25789 0 b h.1 T N s s') → pl_At n 288 31 [(0, .ref 1131)] [] s' (ps_rI R) := fun {s'} m => by
    have hK : kq [1133, 1134, 1143, 1144, 1145, 1146, 1147, 1148] [3, 4, 5, 6, 7, 8, 9, 10, 11, 22, 23, 29, 30, 31, 32] s s' ∧ mv_po 25789 s s' := by
      rcases m with ⟨-, K, P, -⟩ | ⟨-, K, P, -⟩
      · exact ⟨K, P⟩
      · exact ⟨K, P⟩
    exact fm_288_31 hb (by rw [kq_i hK.1 21 rfl]; exact h21) (Hk hK.1 hK.2 (by decide)) hw m k
  refine fm_192 (fun q14 => ?_) (fun q14 => ?_)
  · refine ⟨fun h17 => absurd h17 (by decide), fun h17 => ⟨fun h24 => ?_, fun h24 => ?_⟩⟩
    · have h24 : (ps_i s10 1131 9).toInt = (0 : Int) := xeq h24
      rcases q10 with ⟨p', l', fr', g1, g2, g3, g4⟩ | ⟨S', pl, l', fr', k, g1, g2, g3, g4, g5⟩
      · have h0 : (tx_tok T N p').1 = 0 := by have := g3.2.2.1.1; omega
        exact fin (Or.inl ⟨⟨l', ⟨p', fr', g1, h0⟩, g3.2.2.2.2.2.2.1, g3.2.2.2.2.2.2.2.2⟩, kqt (kqt kq_refl K1 (by decide) (by decide)) g4.1 (by decide) (by decide), fun i hi => (g4.2 i hi).trans (by rw [kq_a K1 1134 (by decide)]), by rw [kq_i g4.1 3 (by decide)]; exact t6⟩)
      · exfalso; omega
    · have h24 : (ps_i s10 1131 9).toInt ≠ (0 : Int) := xne h24
      refine fm_196v q14 (fun s28 q28 => ?_)
      rcases q10 with ⟨p', l', fr', g1, g2, g3, g4⟩ | ⟨S', pl, l', fr', k, g1, g2, g3, g4, g5⟩
      · have h0 : (tx_tok T N p').1 ≠ 0 := by have := g3.2.2.1.1; omega
        have J := q28 _ g3.2.2.1
        exact fin (Or.inr ⟨⟨_, _, Or.inr ⟨p', l', fr', g1, h0, rfl, rfl⟩, (by unfold tx_bk; split <;> decide), J.1, J.2.1⟩, kqt (kqt (kqt kq_refl K1 (by decide) (by decide)) g4.1 (by decide) (by decide)) J.2.2 (by decide) (by decide), fun i hi => (by rw [kq_a J.2.2 1134 (by decide), g4.2 i hi, kq_a K1 1134 (by decide)]), by rw [kq_i J.2.2 3 (by decide), kq_i g4.1 3 (by decide)]; exact t6⟩)
      · exfalso; omega
  · refine ⟨fun h17 => ?_, fun h17 => absurd h17 (by decide)⟩
    rcases q10 with ⟨p', l', fr', g1, g2, g3, g4⟩ | ⟨S', pl, l', fr', k, g1, g2, g3, g4, g5⟩
    · exact absurd g3.2.2.2.2.2.2.2.2.1 q14
    · exact fin (Or.inr ⟨⟨k, pl, Or.inl ⟨S', l', fr', g1⟩, g2, g3, g4⟩, kqt (kqt kq_refl K1 (by decide) (by decide)) g5.1 (by decide) (by decide), fun i hi => (g5.2 i hi).trans (by rw [kq_a K1 1134 (by decide)]), by rw [kq_i g5.1 3 (by decide)]; exact t6⟩)
