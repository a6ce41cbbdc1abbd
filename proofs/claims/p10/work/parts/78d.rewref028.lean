set_option maxRecDepth 100000
theorem fm_288_31 {n b : Nat} {s0 s : ps_S} {T : Nat → Nat} {N : Nat} {h : tx_H} {R : Int32 → ps_S → Prop} (hb : b < 2) (h21 : (ps_i s 1131 21).toInt = b) (H : mv_H s b h) (hw : WFt h) (m : mq_ok 25789 0 b h.1 T N s0 s ∨ mq_bad 25789 0 b h.1 T N s0 s) (k : ∀ (v : Int32) s' nl, RWA h T N v nl → mv_W s' 25789 nl → mr_p s0 s' → R v s') : pl_At n 288 31 [(0, .ref 1131)] [] s (ps_rI R) := by
  cases n with
  | zero => exact pl_At_0
  | succ n =>
  refine pl_288_31 ?_
  rcases m with ⟨⟨l, z, W, G⟩, K, P, h3⟩ | ⟨⟨kk, pl, z, hk, e5, e6⟩, K, P, h3⟩
  · refine fm_192 (fun _ => ⟨fun _ => ?_, fun z => absurd z (by decide)⟩) (fun z => absurd G.1 z)
    have hl : ws (sg h.1) l [false] := by
      obtain ⟨p, fr, g, -⟩ := z
      exact (tx_WQ_end hw.2.1 (Or.inl rfl) (Nat.zero_le _) g).1
    refine fm_288_51 (l0 := l) hb h21 H hw (fun v s' nl hA W' K' => ?_) n (m := 0) rfl (Nat.zero_le _) rfl hl W ⟨kq_refl, fun q hq => rfl⟩
    exact k v s' nl (Or.inl ⟨l, z, hA⟩) W' ⟨kqt (kqt kq_refl K (by decide) (by decide)) K'.1 (by decide) (by decide), fun q hq => (K'.2 q hq).trans (P q hq)⟩
  · refine fm_192 (fun z => absurd (z.symm.trans e5) (by omega)) (fun _ => ⟨fun z => absurd rfl z, fun _ => ?_⟩)
    intro b1
    rw [xtn (a := 25789) (by decide)]
    refine k _ _ [] (Or.inr ⟨⟨kk, pl, z⟩, by decide, rfl⟩) ⟨?_, Nat.zero_le _, fun k c hk => by cases hk⟩ ⟨kqa (kqt kq_refl K (by decide) (by decide)) rfl, fun q hq => ?_⟩
    · rw [ps_a_ua, if_pos ⟨rfl, rfl⟩]
      rfl
    · rw [ps_a_ua, if_neg (by omega)]
      exact P q hq
