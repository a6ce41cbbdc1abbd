set_option maxRecDepth 100000
/-- a piece counted, emitted, and the next token -/
theorem mv_eg {n to rb c q : Nat} {s : ps_S} {T : Nat → Nat} {N : Nat} {E : tx_E} {S : List tx_F} {p : Nat} {l : List Nat} {fr : List (List Nat)} {x1 x2 x5 : Int32} {R : ps_S → Prop} (HS : mv_S rb s T N E) (HC : mv_C to s T N S p l fr) (hx : x1.toInt = to) (hc : x2.toInt = c) (h5 : x5.toInt = q) (hq : 1 ≤ q ∧ q ≤ 2) (hl : l.length + tx_due S + q ≤ 40) (k : ∀ s2, mv_S rb s2 T N E ∧ mv_D to s2 T N S (tx_tok T N p).2.2.1 (l ++ [c]) fr (l.length + tx_due S + q) ∧ mv_fr to s s2 → R s2) : pl_Cl n 210 [.ref 1131, .int x1, .int x2] (ps_ui s 1131 31 (ps_i s 1131 31 + x5)) (ps_rV (fun s1 => pl_Cl n 194 [.ref 1131] s1 (ps_rV R))) := by
  obtain ⟨c1, c2, c3, c4, c5, c6, c7, c8, c9⟩ := HC
  have K0 : kq [] [31] s (ps_ui s 1131 31 (ps_i s 1131 31 + x5)) := kqi kq_refl rfl
  refine fm_210 (l := l) hx hc (mv_W_kq c7 K0 (by decide)) (by omega) (fun s1 q1 => ?_)
  obtain ⟨W1, K1, P1⟩ := q1
  have K01 : kq [1134] [31] s s1 := kqt (kqt kq_refl K0 (by decide) (by decide)) K1 (by decide) (by decide)
  have hok := tx_tok_ok (T := T) c1
  refine fs_194 (T := T) (N := N) (p := (tx_tok T N p).2.2.1) (mv_T_kq HS.2.2.2.1 K01 (by decide) (by decide)) (mv_K_kq c3 K01 (by decide)).2.2.1 hok.2.1 (fun s2 A => ?_)
  obtain ⟨K2, k2⟩ := A
  have F : mv_fr to s s2 := mv_fr_tr (mv_fr_tr (mv_fr_kq K0 (by decide) (by decide)) ⟨kqt kq_refl K1 (by decide) (by decide), P1⟩) (mv_fr_kq K2 (by decide) (by decide))
  refine k s2 ⟨mv_S_fr HS F, ⟨hok.2.1, k2, mv_B_kq (mv_B_kq c4 K01 (by decide) (by decide)) K2 (by decide) (by decide), ?_, ?_, mv_W_kq W1 K2 (by decide), mv_P_kq (mv_P_kq c8 K01 (by decide) (by decide)) K2 (by decide) (by decide), mv_G_kq (mv_G_kq c9 K01 (by decide) (by decide)) K2 (by decide) (by decide)⟩, F⟩
  · rw [kq_i K2 30 (by decide), kq_i K01 30 (by decide)]
    exact c5
  · rw [kq_i K2 31 (by decide), kq_i K1 31 (by decide), ps_i_ui, if_pos ⟨rfl, rfl⟩, xIa (by omega) (by omega)]
    omega
