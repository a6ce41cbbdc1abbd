set_option maxRecDepth 100000
theorem fm_205p {n : Nat} {rb : Nat} {s : ps_S} {T : Nat → Nat} {N : Nat} {h : tx_H} {p : Nat} {R : Int32 → ps_S → Prop} (L : rv_L0 s rb T N h p) (k : ∀ v : Int32, tx_opt (if (tx_tok T N p).1 = 2 then tx_at (tx_A h) (tx_tok T N p).2.2.2.1 else none) v → R v s) : pl_Cl n 205 [.ref 1131] s (ps_rI R) := by
  cases n with
  | zero => exact pl_At_0
  | succ n =>
  show pl_At (n + 1) 205 0 [(0, .ref 1131)] [] s (ps_rI R)
  refine pl_205_0 ?_
  exact fm_205p_2 L k n (i := 0) rfl (Nat.zero_le _) (fun _ j hj => by omega)



/-- the word that stands here, held against one that stands for itself -/
theorem kw_eq {s : ps_S} {T : Nat → Nat} {N p q : Nat} {w : List Nat} {l1 : Int64} (hK : mv_K s (tx_tok T N p)) (h3 : (tx_tok T N p).1 = 3) (hq : tx_at tx_keys w = some q) (hl : tx_m w = l1) : (lg_cmp (ps_j s 1131 11) l1 = 0 → (tx_tok T N p).2.2.2.2 = q) ∧ (lg_cmp (ps_j s 1131 11) l1 ≠ 0 → (tx_tok T N p).2.2.2.2 ≠ q) := by
  have hww : tx_w w := tx_keys_w w (List.mem_of_getElem? (tx_ix_some hq).2.2.1)
  obtain ⟨z1, z2⟩ := (tx_tok_key (T := T) (n := N) (p := p)).1 h3
  refine ⟨fun h14 => ?_, fun h14 z => ?_⟩
  · have h14 := lg_z h14
    rw [hK.2.2.2.1 (Or.inr h3), ← hl] at h14
    rw [tx_m_inj z2 hww h14, hq] at z1
    exact (Option.some.inj z1).symm
  · have h14 := lg_nz h14
    apply h14
    rw [hK.2.2.2.1 (Or.inr h3), ← hl]
    rw [z] at z1
    obtain ⟨-, -, a3, -⟩ := tx_ix_some z1
    obtain ⟨-, -, b3, -⟩ := tx_ix_some hq
    rw [a3] at b3
    rw [Option.some.inj b3]
