set_option maxRecDepth 100000
/-! the reference's reader: pieceHere, freeHere, xHere, endsParts -/
/-- the piece that a formula begins with here -/
def tx_ph (E : tx_E) (tk : tx_K) : Option Nat := if tk.1 = 3 ∧ tk.2.2.2.2 = 7 then some 3 else tx_pc E tk
theorem tx_ph_k {E : tx_E} {tk : tx_K} {c : Nat} (h : tk.1 = 3 ∧ tk.2.2.2.2 = c) (hc : c ≤ 6) : tx_ph E tk = some c := by
  unfold tx_ph tx_pc
  rw [if_neg (by omega), if_pos h.1, if_pos (by omega), h.2]
theorem tx_opt_s {o : Option Nat} {c : Nat} {v : Int32} (h : o = some c) (hv : v.toInt = c) : tx_opt o v := ⟨(fun c' hc => by rw [h] at hc; cases hc; exact hv), (fun hc => by rw [h] at hc; cases hc)⟩
theorem fm_213 {n : Nat} {rb : Nat} {s : ps_S} {T : Nat → Nat} {N : Nat} {E : tx_E} {p : Nat} {R : Int32 → ps_S → Prop} (HS : mv_S rb s T N E) (hp : p ≤ N) (hK : mv_K s (tx_tok T N p)) (k : ∀ v : Int32, tx_opt (tx_ph E (tx_tok T N p)) v → R v s) : pl_Cl n 213 [.ref 1131] s (ps_rI R) := by
  cases n with
  | zero => exact pl_At_0
  | succ n =>
  show pl_At (n + 1) 213 0 [(0, .ref 1131)] [] s (ps_rI R)
  refine pl_213_0 ?_
  refine fm_195 (w := [102, 97, 108, 115, 101]) (q := 0) hK (by decide) (by decide +kernel) (fun q4 => ?_) (fun q4 => ?_)
  · refine ⟨fun h7 => ?_, fun h7 => ?_⟩
    · exact absurd h7 (by decide)
    · exact k _ (tx_opt_s (tx_ph_k q4 (by decide)) rfl)
  · refine ⟨fun h7 => ?_, fun h7 => ?_⟩
    · refine fm_195 (w := [97, 110, 100]) (q := 1) hK (by decide) (by decide +kernel) (fun q16 => ?_) (fun q16 => ?_)
      · refine ⟨fun h19 => ?_, fun h19 => ?_⟩
        · exact absurd h19 (by decide)
        · exact k _ (tx_opt_s (tx_ph_k q16 (by decide)) rfl)
      · refine ⟨fun h19 => ?_, fun h19 => ?_⟩
        · refine fm_195 (w := [111, 114]) (q := 2) hK (by decide) (by decide +kernel) (fun q28 => ?_) (fun q28 => ?_)
          · refine ⟨fun h31 => ?_, fun h31 => ?_⟩
            · exact absurd h31 (by decide)
            · exact k _ (tx_opt_s (tx_ph_k q28 (by decide)) rfl)
          · refine ⟨fun h31 => ?_, fun h31 => ?_⟩
            · refine fm_195 (w := [105, 109, 112]) (q := 3) hK (by decide) (by decide +kernel) (fun q40 => ?_) (fun q40 => ?_)
              · refine ⟨fun h43 => ?_, fun h43 => ?_⟩
                · exact k _ (tx_opt_s (tx_ph_k q40 (by decide)) rfl)
                · exact absurd h43 (by decide)
              · refine ⟨fun h43 => ?_, fun h43 => ?_⟩
                · exact absurd h43 (by decide)
                · refine fm_195 (w := [110, 111, 116]) (q := 7) hK (by decide) (by decide +kernel) (fun q50 => ?_) (fun q50 => ?_)
                  · refine ⟨fun h53 => ?_, fun h53 => ?_⟩
                    · exact absurd h53 (by decide)
                    · exact k _ (tx_opt_s (c := 3) (by unfold tx_ph; rw [if_pos q50]) rfl)
                  · refine ⟨fun h53 => ?_, fun h53 => ?_⟩
                    · refine fm_195 (w := [97, 108, 108]) (q := 4) hK (by decide) (by decide +kernel) (fun q62 => ?_) (fun q62 => ?_)
                      · refine ⟨fun h65 => ?_, fun h65 => ?_⟩
                        · exact absurd h65 (by decide)
                        · exact k _ (tx_opt_s (tx_ph_k q62 (by decide)) rfl)
                      · refine ⟨fun h65 => ?_, fun h65 => ?_⟩
                        · refine fm_195 (w := [115, 111, 109, 101]) (q := 5) hK (by decide) (by decide +kernel) (fun q74 => ?_) (fun q74 => ?_)
                          · refine ⟨fun h77 => ?_, fun h77 => ?_⟩
                            · exact absurd h77 (by decide)
                            · exact k _ (tx_opt_s (tx_ph_k q74 (by decide)) rfl)
                          · refine ⟨fun h77 => ?_, fun h77 => ?_⟩
                            · refine fm_195 (w := [115, 97, 109, 101]) (q := 6) hK (by decide) (by decide +kernel) (fun q86 => ?_) (fun q86 => ?_)
                              · refine ⟨fun h89 => ?_, fun h89 => ?_⟩
                                · exact absurd h89 (by decide)
                                · exact k _ (tx_opt_s (tx_ph_k q86 (by decide)) rfl)
                              · refine ⟨fun h89 => ?_, fun h89 => ?_⟩
                                · have no : tx_ph E (tx_tok T N p) = (if (tx_tok T N p).1 = 2 then (match tx_at (tx_R E) (tx_tok T N p).2.2.2.1 with
                                      | some r => some (10 + r)
                                      | none => none) else none) := by
                                    unfold tx_ph tx_pc
                                    rw [if_neg q50]
                                    by_cases h3 : (tx_tok T N p).1 = 3
                                    · rw [if_pos h3, if_neg (by omega), if_neg (by omega)]
                                    · rw [if_neg h3]
                                      rfl
                                  refine fm_206 HS.1 HS.2.1 HS.2.2.2.2 hp hK (fun v96 q96 => ?_)
                                  refine ⟨fun h99 => ?_, fun h99 => ?_⟩
                                  · have h99 : (0 : Int) ≤ v96.toInt := xle h99
                                    refine fm_206 HS.1 HS.2.1 HS.2.2.2.2 hp hK (fun v109 q109 => ?_)
                                    refine k _ ⟨fun c hc => ?_, fun hc => ?_⟩
                                    · rw [no] at hc
                                      split at hc
                                      · next h2 =>
                                        rw [if_pos h2] at q109
                                        split at hc
                                        · next q hq =>
                                          cases hc
                                          have e := q109.1 q hq
                                          have z := tx_ix_some hq
                                          have hlen : (tx_R E).length ≤ 6 := by unfold tx_R; rw [List.length_map]; exact HS.2.2.2.2.2.2.1
                                          have h10 : (10 : Int32).toInt = 10 := by decide
                                          rw [xIa (by omega) (by omega)]
                                          omega
                                        · cases hc
                                      · cases hc
                                    · exfalso
                                      rw [no] at hc
                                      split at hc
                                      · next h2 =>
                                        rw [if_pos h2] at q96
                                        split at hc
                                        · cases hc
                                        · next hq =>
                                          have e := (tx_opt_n q96).mpr hq
                                          omega
                                      · next h2 =>
                                        rw [if_neg h2] at q96
                                        have e := (tx_opt_n q96).mpr rfl
                                        omega
                                  · have h99 : v96.toInt < (0 : Int) := xlt h99
                                    refine k _ ⟨fun c hc => ?_, fun _ => rfl⟩
                                    rw [no] at hc
                                    split at hc
                                    · next h2 =>
                                      have e := (tx_opt_n q96).mp (by omega)
                                      rw [if_pos h2] at e
                                      rw [show tx_at (tx_R E) (tx_tok T N p).2.2.2.1 = none from e] at hc
                                      cases hc
                                    · cases hc
                                · exact absurd h89 (by decide)
                            · exact absurd h77 (by decide)
                        · exact absurd h65 (by decide)
                    · exact absurd h53 (by decide)
            · exact absurd h31 (by decide)
        · exact absurd h19 (by decide)
    · exact absurd h7 (by decide)

theorem mv_C_free {to : Nat} {s : ps_S} {T : Nat → Nat} {N : Nat} {S : List tx_F} {p : Nat} {l : List Nat} {fr : List (List Nat)} (h : mv_C to s T N S p l fr) (hf : fr.length < 12) {w : List Nat} (hw : tx_w w) {v : Int64} (hv : v = tx_m w) : mv_C to (ps_ui (ps_ub s 1143 fr.length v) 1131 23 (ps_i s 1131 23 + 1)) T N S p l (fr ++ [w]) ∧ mv_fr to s (ps_ui (ps_ub s 1143 fr.length v) 1131 23 (ps_i s 1131 23 + 1)) := by
  obtain ⟨g1, g2, g3, g4, g5, g6, g7, g8, g9⟩ := h
  have K : kq [1143] [23] s (ps_ui (ps_ub s 1143 fr.length v) 1131 23 (ps_i s 1131 23 + 1)) := kqi (kqb kq_refl rfl) rfl
  obtain ⟨q1, q2, q3⟩ := g8
  refine ⟨⟨g1, g2, mv_K_kq g3 K (by decide), mv_B_kq g4 K (by decide) (by decide), g5, g6, mv_W_kq g7 K (by decide), ⟨?_, ?_, fun j w' hj => ?_⟩, mv_G_kq g9 K (by decide) (by decide)⟩, mv_fr_kq K (by decide) (by decide)⟩
  · rw [ps_i_ui, if_pos ⟨rfl, rfl⟩, List.length_append]
    exact xj1 q1 (by omega)
  · rw [List.length_append]
    show fr.length + 1 ≤ 12
    omega
  · show tx_w w' ∧ ps_b (ps_ub s 1143 fr.length v) 1143 j = tx_m w'
    rw [ps_b_ub]
    rcases tx_snoc hj with ⟨z1, z2⟩ | ⟨z1, z2⟩
    · rw [if_neg (by omega)]
      exact q3 j w' z2
    · rw [if_pos ⟨rfl, z1⟩, z2]
      exact ⟨hw, hv⟩
/-- what naming comes to; kd, pl: the fault where it can't be -/
def mv_N (to : Nat) (s : ps_S) (T : Nat → Nat) (N : Nat) (S : List tx_F) (p : Nat) (l : List Nat) (kd pl : Nat) (o : Option (Nat × List (List Nat))) (v : Int32) (s' : ps_S) : Prop := match o with
  | some (c, fr2) => v.toInt = c ∧ mv_C to s' T N S p l fr2 ∧ mv_fr to s s'
  | none => mv_bad to s s' kd pl
def tx_fi (fr : List (List Nat)) (w : List Nat) : Option (Nat × List (List Nat)) := match tx_at fr w with
  | some i => some (i, fr)
  | none => if fr.length < 12 then some (fr.length, fr ++ [w]) else none
theorem mv_bad_mis {to : Nat} {s s' : ps_S} {tk : tx_K} (h5 : (ps_i s' 1131 5).toInt = (tx_bk tk : Nat)) (h6 : (ps_i s' 1131 6).toInt = tk.2.1) (K : kq [] [5, 6] s s') : mv_bad to s s' (tx_bk tk) tk.2.1 := ⟨(by unfold tx_bk; split <;> decide), h5, h6, mv_fr_kq K (by decide) (by decide)⟩

theorem fm_217_2 {rb to : Nat} {s : ps_S} {T : Nat → Nat} {N : Nat} {E : tx_E} {S : List tx_F} {p : Nat} {l : List Nat} {fr : List (List Nat)} {R : Int32 → ps_S → Prop} (HS : mv_S rb s T N E) (HC : mv_C to s T N S p l fr) (h2 : (tx_tok T N p).1 = 2) (k : ∀ v s', mv_N to s T N S p l 2 (tx_tok T N p).2.1 (tx_fi fr (tx_tok T N p).2.2.2.1) v s' → R v s') : ∀ (n : Nat) {x1 : Int32} {i : Nat}, x1.toInt = i → i ≤ fr.length → (∀ j, j < i → fr[j]? ≠ some (tx_tok T N p).2.2.2.1) → pl_At n 217 2 [(0, .ref 1131), (1, .int x1)] [] s (ps_rI R)
  | 0, _, _, _, _, _ => pl_At_0
  | n + 1, x1, i, hx, hi, hj => by
    have HK := HC.2.2.1
    have hw := (tx_tok_ok (T := T) HC.1).2.2.2.1 h2
    have h8 := HK.2.2.2.1 (Or.inl h2)
    obtain ⟨f1, f2, f3⟩ := HC.2.2.2.2.2.2.2.1
    have hG := HC.2.2.2.2.2.2.2.2
    have no : i = fr.length → tx_at fr (tx_tok T N p).2.2.2.1 = none := fun z => tx_at_no (fun j hjl => hj j (by omega))
    refine pl_217_2 ?_
    refine ⟨fun h7 => ?_, fun h7 => ?_⟩
    · have h7 : (ps_i s 1131 23).toInt ≤ x1.toInt := xle h7
      refine ⟨fun h38 => ?_, fun h38 => ?_⟩
      · have h38 : (ps_i s 1131 23).toInt ≠ (12 : Int) := xne h38
        intro b59
        obtain ⟨b59, c59⟩ := pl_in b59
        have e : tx_fi fr (tx_tok T N p).2.2.2.1 = some (fr.length, fr ++ [(tx_tok T N p).2.2.2.1]) := by
          unfold tx_fi
          rw [no (by omega)]
          dsimp only
          rw [if_pos (by omega)]
        refine k _ _ ?_
        rw [e, xtn f1]
        refine ⟨?_, mv_C_free HC (by omega) hw h8⟩
        show ((ps_i s 1131 23 + 1) - 1 : Int32).toInt = _
        have h1 : (1 : Int32).toInt = 1 := by decide
        have e1 := xj1 f1 (by omega)
        rw [xIs (by omega) (by omega)]
        omega
      · have h38 : (ps_i s 1131 23).toInt = (12 : Int) := xeq h38
        refine fm_196 hG.1 HK (fun s42 q42 => ?_)
        have e : tx_fi fr (tx_tok T N p).2.2.2.1 = none := by
          unfold tx_fi
          rw [no (by omega)]
          dsimp only
          rw [if_neg (by omega)]
        refine k _ _ ?_
        rw [e]
        have z := mv_bad_mis (to := to) q42.1 q42.2.1 q42.2.2
        unfold tx_bk at z
        rw [if_neg (by omega)] at z
        exact z
    · have h7 : x1.toInt < (ps_i s 1131 23).toInt := xlt h7
      intro b15
      obtain ⟨b15, c15⟩ := pl_in b15
      obtain ⟨w0, hg1⟩ : ∃ w0, fr[i]? = some w0 := ⟨fr[i]'(by omega), List.getElem?_eq_getElem _⟩
      obtain ⟨hg2, hg3⟩ := f3 i w0 hg1
      refine ⟨fun h21 => ?_, fun h21 => ?_⟩
      · have h21 := lg_nz h21
        refine fm_217_2 HS HC h2 k n (xj1 hx (by omega)) (by omega) (fun j hjl => ?_)
        by_cases ej : j = i
        · rw [ej, hg1]
          intro z
          cases z
          exact h21 (by rw [xtn hx, hg3, h8])
        · exact hj j (by omega)
      · have h21 := lg_z h21
        rw [xtn hx, hg3] at h21
        have e : tx_fi fr (tx_tok T N p).2.2.2.1 = some (i, fr) := by
          unfold tx_fi
          rw [tx_at_is (by rw [hg1, tx_m_inj hg2 hw (h21.trans h8)]) hj]
        refine k _ _ ?_
        rw [e]
        exact ⟨hx, HC, mv_fr_refl⟩
theorem fm_217 {n : Nat} {rb to : Nat} {s : ps_S} {T : Nat → Nat} {N : Nat} {E : tx_E} {S : List tx_F} {p : Nat} {l : List Nat} {fr : List (List Nat)} {R : Int32 → ps_S → Prop} (HS : mv_S rb s T N E) (HC : mv_C to s T N S p l fr) (h2 : (tx_tok T N p).1 = 2) (k : ∀ v s', mv_N to s T N S p l 2 (tx_tok T N p).2.1 (tx_fi fr (tx_tok T N p).2.2.2.1) v s' → R v s') : pl_Cl n 217 [.ref 1131] s (ps_rI R) := by
  cases n with
  | zero => exact pl_At_0
  | succ n =>
  show pl_At (n + 1) 217 0 [(0, .ref 1131)] [] s (ps_rI R)
  refine pl_217_0 ?_
  exact fm_217_2 HS HC h2 k n (i := 0) rfl (Nat.zero_le _) (fun j hj => by omega)

theorem xmin1 {x : Int32} {b : Nat} (h : x.toInt = b) : (x + (-1)).toInt = (b : Int) - 1 := by
  have h1 : (-1 : Int32).toInt = -1 := by decide
  have := xR x
  rw [xIa (by omega) (by omega)]
  omega
theorem tx_bs_app : ∀ {A B : List tx_F}, tx_bs (A ++ B) = tx_bs A ++ tx_bs B
  | [], B => rfl
  | (_, _, _, none) :: A, B => tx_bs_app (A := A)
  | (_, _, _, some w) :: A, B => by
    show w :: tx_bs (A ++ B) = w :: (tx_bs A ++ tx_bs B)
    rw [tx_bs_app]
theorem tx_bs_le : ∀ {S : List tx_F}, (tx_bs S).length ≤ S.length
  | [] => Nat.le_refl _
  | (_, _, _, none) :: S => Nat.le_succ_of_le (tx_bs_le (S := S))
  | (_, _, _, some w) :: S => Nat.succ_le_succ (tx_bs_le (S := S))
theorem fm_216_9 {rb to : Nat} {s : ps_S} {T : Nat → Nat} {N : Nat} {E : tx_E} {S : List tx_F} {p : Nat} {l : List Nat} {fr : List (List Nat)} {R : Int32 → ps_S → Prop} (HS : mv_S rb s T N E) (HC : mv_C to s T N S p l fr) (h2 : (tx_tok T N p).1 = 2) (k : ∀ v s', mv_N to s T N S p l (if E.2 = true then 5 else 2) (tx_tok T N p).2.1 (tx_nm E S fr (tx_tok T N p).2.2.2.1) v s' → R v s') : ∀ (n : Nat) {x1 x2 : Int32} {A B : List tx_F}, S = A ++ B → x1.toInt = (tx_bs A).length → x2.toInt = (B.length : Int) - 1 → (∀ j, j < (tx_bs A).length → (tx_bs A)[j]? ≠ some (tx_tok T N p).2.2.2.1) → pl_At n 216 9 [(0, .ref 1131), (1, .int x1), (2, .int x2)] [] s (ps_rI R)
  | 0, _, _, _, _, _, _, _, _ => pl_At_0
  | n + 1, x1, x2, A, B, hS, hx1, hx2, hj => by
    have HK := HC.2.2.1
    have hw := (tx_tok_ok (T := T) HC.1).2.2.2.1 h2
    have h8 := HK.2.2.2.1 (Or.inl h2)
    obtain ⟨b1, b2⟩ := HC.2.2.2.1
    have hG := HC.2.2.2.2.2.2.2.2
    have h13 := HC.2.1.1
    have hcl := HS.2.2.1
    have hbl : (tx_bs S).length ≤ S.length := tx_bs_le
    have hlen : S.length = A.length + B.length := by rw [hS, List.length_append]
    have hbA : (tx_bs A).length ≤ A.length := tx_bs_le
    have no : B = [] → tx_at (tx_bs S) (tx_tok T N p).2.2.2.1 = none := fun z => by
      rw [hS, z, List.append_nil]
      exact tx_at_no hj
    refine pl_216_9 ?_
    refine ⟨fun h10 => ?_, fun h10 => ?_⟩
    · have h10 : x2.toInt < (0 : Int) := xlt h10
      refine ⟨fun h57 => ?_, fun h57 => ?_⟩
      · have h57 : (ps_i s 1131 32).toInt = (0 : Int) := xeq h57
        refine fm_217 HS HC h2 (fun v74 s74 q74 => ?_)
        have hB : B = [] := List.eq_nil_of_length_eq_zero (by omega)
        have e : tx_nm E S fr (tx_tok T N p).2.2.2.1 = (match tx_at fr (tx_tok T N p).2.2.2.1 with
            | some i => some (60 + i, fr)
            | none => if fr.length < 12 then some (60 + fr.length, fr ++ [(tx_tok T N p).2.2.2.1]) else none) := by
          unfold tx_nm
          rw [no hB]
          dsimp only
          rw [if_neg (fun z => by rw [if_pos z] at hcl; omega)]
          rfl
        refine k _ _ ?_
        rw [e, if_neg (fun z => by rw [if_pos z] at hcl; omega)]
        unfold tx_fi at q74
        have h60 : (60 : Int32).toInt = 60 := by decide
        have f2 := HC.2.2.2.2.2.2.2.1.2.1
        split
        · next i hi =>
          rw [hi] at q74
          have z := (tx_ix_some hi).2.1
          obtain ⟨z1, z2⟩ := q74
          refine ⟨?_, z2⟩
          rw [xIa (by omega) (by omega)]
          omega
        · next hi =>
          rw [hi] at q74
          dsimp only at q74
          split
          · next hl =>
            rw [if_pos hl] at q74
            obtain ⟨z1, z2⟩ := q74
            refine ⟨?_, z2⟩
            rw [xIa (by omega) (by omega)]
            omega
          · next hl =>
            rw [if_neg hl] at q74
            exact q74
      · have h57 : (ps_i s 1131 32).toInt ≠ (0 : Int) := xne h57
        refine fm_191 hG.1 ?_
        have hB : B = [] := List.eq_nil_of_length_eq_zero (by omega)
        have hE : E.2 = true := Decidable.byContradiction (fun z => by rw [if_neg z] at hcl; omega)
        have e : tx_nm E S fr (tx_tok T N p).2.2.2.1 = none := by
          unfold tx_nm
          rw [no hB]
          dsimp only
          rw [if_pos hE]
        refine k _ _ ?_
        rw [e, if_pos hE]
        exact ⟨by decide, rfl, HK.2.1, mv_fr_kq (kqi (kqi (F := [5, 6]) (A := []) kq_refl rfl) rfl) (by decide) (by decide)⟩
    · have h10 : (0 : Int) ≤ x2.toInt := xle h10
      obtain ⟨fw, fb, fn, fx, B', hB⟩ : ∃ fw fb fn fx B', B = (fw, fb, fn, fx) :: B' := by
        cases B with
        | nil => exact absurd hx2 (by show ¬ x2.toInt = ((0 : Nat) : Int) - 1; omega)
        | cons f B' => exact ⟨f.1, f.2.1, f.2.2.1, f.2.2.2, B', rfl⟩
      have hlB : B.length = B'.length + 1 := by rw [hB]; rfl
      have hx2' : x2.toInt = (B'.length : Nat) := by omega
      have hS' : S = (A ++ [(fw, fb, fn, fx)]) ++ B' := by rw [hS, hB, List.append_assoc]; rfl
      have hf := b2 A.length (fw, fb, fn, fx) (by rw [hS, hB, List.getElem?_append_right (Nat.le_refl _), Nat.sub_self]; rfl)
      rw [show S.length - 1 - A.length = B'.length from by omega] at hf
      intro b18
      obtain ⟨b18, c18⟩ := pl_in b18
      refine ⟨fun h19 => ?_, fun h19 => ?_⟩
      · have h19 : (ps_a s 1147 (Int32.toNatClampNeg x2)).toInt ≠ (0 : Int) := xne h19
        obtain ⟨x0, hfx, hf3, hf4⟩ : ∃ x0, fx = some x0 ∧ tx_w x0 ∧ ps_b s 1148 B'.length = tx_m x0 := by
          rcases hf.2.2.2 with z | ⟨x0, z1, z2, z3, z4⟩
          · rw [xtn hx2'] at h19
            have := z.2
            omega
          · exact ⟨x0, z1, z3, z4⟩
        subst hfx
        intro b30
        obtain ⟨b30, c30⟩ := pl_in b30
        refine ⟨fun h36 => ?_, fun h36 => ?_⟩
        · have h36 := lg_nz h36
          refine fm_216_9 HS HC h2 k n (A := A ++ [(fw, fb, fn, some x0)]) (B := B') hS' (by rw [tx_bs_app, List.length_append]; exact xj1 hx1 (by omega)) (xmin1 hx2') (fun j hjl => ?_)
          rw [tx_bs_app]
          intro z
          rcases tx_snoc (show (tx_bs A ++ [x0])[j]? = some (tx_tok T N p).2.2.2.1 from z) with ⟨z1, z2⟩ | ⟨z1, z2⟩
          · exact hj j z1 z2
          · exact h36 (by rw [xtn hx2', hf4, h8, z2])
        · have h36 := lg_z h36
          rw [xtn hx2', hf4] at h36
          have e : tx_nm E S fr (tx_tok T N p).2.2.2.1 = some (40 + (tx_bs A).length, fr) := by
            unfold tx_nm
            rw [tx_at_is (k := (tx_bs A).length) (by rw [hS, tx_bs_app, hB, List.getElem?_append_right (Nat.le_refl _), Nat.sub_self, tx_m_inj hf3 hw (h36.trans h8)]; rfl) (fun j hjl => by rw [hS, tx_bs_app, List.getElem?_append_left hjl]; exact hj j hjl)]
          refine k _ _ ?_
          rw [e]
          refine ⟨?_, HC, mv_fr_refl⟩
          have h40 : (40 : Int32).toInt = 40 := by decide
          rw [xIa (by omega) (by omega)]
          omega
      · have h19 : (ps_a s 1147 (Int32.toNatClampNeg x2)).toInt = (0 : Int) := xeq h19
        have hfx : fx = none := by
          rcases hf.2.2.2 with z | ⟨x0, z1, z2, z3, z4⟩
          · exact z.1
          · rw [xtn hx2'] at h19
            omega
        subst hfx
        have hA : tx_bs (A ++ [(fw, fb, fn, none)]) = tx_bs A := by
          rw [tx_bs_app]
          exact List.append_nil _
        refine fm_216_9 HS HC h2 k n (A := A ++ [(fw, fb, fn, none)]) (B := B') hS' (by rw [hA]; exact hx1) (xmin1 hx2') (fun j hjl => ?_)
        rw [hA] at hjl ⊢
        exact hj j hjl

theorem fm_216 {n : Nat} {rb to : Nat} {s : ps_S} {T : Nat → Nat} {N : Nat} {E : tx_E} {S : List tx_F} {p : Nat} {l : List Nat} {fr : List (List Nat)} {R : Int32 → ps_S → Prop} (HS : mv_S rb s T N E) (HC : mv_C to s T N S p l fr) (h2 : (tx_tok T N p).1 = 2) (k : ∀ v s', mv_N to s T N S p l (if E.2 = true then 5 else 2) (tx_tok T N p).2.1 (tx_nm E S fr (tx_tok T N p).2.2.2.1) v s' → R v s') : pl_Cl n 216 [.ref 1131] s (ps_rI R) := by
  cases n with
  | zero => exact pl_At_0
  | succ n =>
  show pl_At (n + 1) 216 0 [(0, .ref 1131)] [] s (ps_rI R)
  have b1 := HC.2.2.2.1.1
  have h13 := HC.2.1.1
  refine pl_216_0 ?_
  exact fm_216_9 HS HC h2 k n (A := []) (B := S) rfl rfl (by
    have h1 : (1 : Int32).toInt = 1 := by decide
    rw [xIs (by omega) (by omega)]
    omega) (fun j hj => absurd hj (Nat.not_lt_zero _))

/-- ends what is ended; S is the stack, more what was emitted before -/
theorem mv_B_pop {s : ps_S} {f : tx_F} {S : List tx_F} (h : mv_B s (f :: S)) : mv_B (ps_ui s 1131 29 (ps_i s 1131 29 - 1)) S ∧ mv_f s S.length f := by
  obtain ⟨b1, b2⟩ := h
  rw [List.length_cons] at b1 b2
  refine ⟨⟨?_, fun j f' hj => ?_⟩, ?_⟩
  · rw [ps_i_ui, if_pos ⟨rfl, rfl⟩]
    have h1 : (1 : Int32).toInt = 1 := by decide
    have := xR (ps_i s 1131 29)
    rw [xIs (by omega) (by omega)]
    omega
  · have g := b2 (j + 1) f' hj
    rw [show S.length + 1 - 1 - (j + 1) = S.length - 1 - j from by omega] at g
    exact g
  · have g := b2 0 f rfl
    rw [show S.length + 1 - 1 - 0 = S.length from by omega] at g
    exact g
/-- what endsParts comes to from the frames S -/
def mv_ends (to : Nat) (s0 s' : ps_S) (T : Nat → Nat) (N : Nat) (E : tx_E) (p : Nat) (fr : List (List Nat)) (c0 : tx_C) (v : Int32) : Prop := (v = 0 ∧ ∃ l', gt_go (tx_st T N E) c0 (2, [], p, l', fr, 0) ∧ mv_C to s' T N [] p l' fr ∧ mv_fr to s0 s') ∨ (v = 1 ∧ ∃ k b nt w S' l', gt_go (tx_st T N E) c0 (if b = true then 1 else 0, (k, b, nt, w) :: S', p, l', fr, 0) ∧ mv_C to s' T N ((k, b, nt, w) :: S') p l' fr ∧ mv_fr to s0 s')
theorem fm_212_74 {n to : Nat} {s0 s : ps_S} {T : Nat → Nat} {N : Nat} {E : tx_E} {S : List tx_F} {p : Nat} {l : List Nat} {fr : List (List Nat)} {c0 : tx_C} {R : Int32 → ps_S → Prop} (HC : mv_C to s T N S p l fr) (F : mv_fr to s0 s) (hg : gt_go (tx_st T N E) c0 (2, S, p, l, fr, 0)) (hne : ∀ f S', S = f :: S' → f.1 ≠ 0) (k : ∀ v s', mv_ends to s0 s' T N E p fr c0 v → R v s') : pl_At n 212 74 [(0, .ref 1131)] [] s (ps_rI R) := by
  cases n with
  | zero => exact pl_At_0
  | succ n =>
  have b1 := HC.2.2.2.1.1
  have h13 := HC.2.1.1
  refine pl_212_74 ?_
  refine ⟨fun h78 => ?_, fun h78 => ?_⟩
  · have h78 : (ps_i s 1131 29).toInt ≠ (0 : Int) := xne h78
    intro b94
    obtain ⟨b94, c94⟩ := pl_in b94
    intro b97
    obtain ⟨b97, c97⟩ := pl_in b97
    obtain ⟨w, b, nt, bd, S', hS⟩ : ∃ w b nt bd S', S = (w, b, nt, bd) :: S' := by
      cases S with
      | nil => exact absurd b1 h78
      | cons f S' => exact ⟨f.1, f.2.1, f.2.2.1, f.2.2.2, S', rfl⟩
    subst hS
    have hw := hne _ _ rfl
    have hw : w ≠ 0 := hw
    obtain ⟨q, rfl⟩ : ∃ q, w = q + 1 := ⟨w - 1, by omega⟩
    have b1 : (ps_i s 1131 29).toInt = (S'.length + 1 : Nat) := b1
    have h13 : S'.length + 1 ≤ 13 := h13
    have h1 : (1 : Int32).toInt = 1 := by decide
    have ei : (ps_i s 1131 29 - 1).toInt = (S'.length : Nat) := by rw [xIs (by omega) (by omega)]; omega
    rw [xtn ei]
    obtain ⟨c1, c2, c3, c4, c5, c6, c7, c8, c9⟩ := HC
    obtain ⟨d1, d2⟩ := c4
    have d0 := d2 0 _ rfl
    rw [List.length_cons, show S'.length + 1 - 1 - 0 = S'.length from by omega] at d0
    have e1 : (ps_a s 1144 S'.length - 1).toInt = (q : Nat) := by
      have z : (ps_a s 1144 S'.length).toInt = ((q + 1 : Nat) : Int) := d0.1
      have := xR (ps_a s 1144 S'.length)
      rw [xIs (by omega) (by omega)]
      omega
    have K : kq [1144] [] s (ps_ua s 1144 S'.length (ps_a s 1144 S'.length - 1)) := kqa kq_refl rfl
    refine k _ _ (Or.inr ⟨rfl, q, b, nt, bd, S', l, gt_trans hg (gt_one tx_s_k), ⟨c1, c2, mv_K_kq c3 K (by decide), ⟨d1, fun j f hj => ?_⟩, (by cases bd <;> exact c5), c6, mv_W_kq c7 K (by decide), mv_P_kq c8 K (by decide) (by decide), mv_G_kq c9 K (by decide) (by decide)⟩, mv_fr_tr F (mv_fr_kq K (by decide) (by decide))⟩)
    show mv_f (ps_ua s 1144 S'.length (ps_a s 1144 S'.length - 1)) (S'.length + 1 - 1 - j) f
    cases j with
    | zero =>
      have hj : some (q, b, nt, bd) = some f := hj
      cases hj
      rw [show S'.length + 1 - 1 - 0 = S'.length from by omega]
      refine ⟨?_, d0.2⟩
      rw [ps_a_ua, if_pos ⟨rfl, rfl⟩]
      exact e1
    | succ j =>
      have hj : S'[j]? = some f := hj
      have hl := (List.getElem?_eq_some_iff.mp hj).1
      have g := d2 (j + 1) f hj
      rw [List.length_cons] at g
      refine ⟨?_, g.2⟩
      rw [ps_a_ua, if_neg (by omega)]
      exact g.1
  · have h78 : (ps_i s 1131 29).toInt = (0 : Int) := xeq h78
    have e : S = [] := List.eq_nil_of_length_eq_zero (by omega)
    subst e
    exact k _ _ (Or.inl ⟨rfl, l, hg, HC, F⟩)

