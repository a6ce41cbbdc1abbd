set_option maxRecDepth 100000
/-- what beginning a piece comes to -/
def mv_res (to : Nat) (s s' : ps_S) (T : Nat → Nat) (N : Nat) (E : tx_E) (c0 : tx_C) : Prop := (∃ S' p' l' fr', tx_st T N E c0 = (2, S', p', l', fr', 0) ∧ mv_C to s' T N S' p' l' fr' ∧ mv_fr to s s') ∨ ∃ (S' : List tx_F) (pl : Nat) (l' : List Nat) (fr' : List (List Nat)) (k : Nat), tx_st T N E c0 = (4, S', pl, l', fr', k) ∧ mv_bad to s s' k pl

theorem mv_bad_tr {to k pl : Nat} {s s1 s' : ps_S} (F : mv_fr to s s1) (h : mv_bad to s1 s' k pl) : mv_bad to s s' k pl := ⟨h.1, h.2.1, h.2.2.1, mv_fr_tr F h.2.2.2⟩

/-- a frame is pushed, nothing bound -/
theorem mv_D_push {to : Nat} {s s' : ps_S} {T : Nat → Nat} {N : Nat} {S : List tx_F} {p : Nat} {l : List Nat} {fr : List (List Nat)} {m q : Nat} {b nt : Bool} {x3 : Int32} {i : Nat} (D : mv_D to s T N S p l fr m) (hS : S.length ≤ 12) (hB : mv_B s' ((q, b, false, none) :: S)) (K : kq [1144, 1145, 1146, 1147] [29] s s') (hi : i = S.length) (hx : x3.toInt = (if nt = true then 1 else 0)) (hm : m = l.length + ((if nt = true then 1 else 0) + tx_due S)) (h40 : m ≤ 40) : mv_C to (ps_ua s' 1146 i (x3 &&& 1)) T N ((q, b, nt, none) :: S) p l fr := by
  obtain ⟨d1, d2, d3, d4, d5, d6, d7, d8⟩ := D
  have K2 : kq [1144, 1145, 1146, 1147] [29] s (ps_ua s' 1146 i (x3 &&& 1)) := kqa K rfl
  refine ⟨d1, ⟨by rw [List.length_cons]; omega, by show l.length + ((if nt = true then 1 else 0) + tx_due S) ≤ 40; omega⟩, mv_K_kq d2 K2 (by decide), mv_B_not hB hi hx, by rw [kq_i K2 30 (by decide)]; exact d4, ?_, mv_W_kq d6 K2 (by decide), mv_P_kq d7 K2 (by decide) (by decide), mv_G_kq d8 K2 (by decide) (by decide)⟩
  rw [kq_i K2 31 (by decide), d5, hm]
  rfl

