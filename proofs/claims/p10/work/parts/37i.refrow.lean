set_option maxRecDepth 100000
/-! the reference's reader: readRow -/
/-- what reading a row comes to -/
def mw_ok (to rb ph : Nat) (s s' : ps_S) (T : Nat → Nat) (N : Nat) (E : tx_E) (p : Nat) (fr : List (List Nat)) : Prop := ∃ p' l' fr', gt_go (tx_st T N E) (ph, [], p, [], fr, 0) (2, [], p', l', fr', 0) ∧ mv_S rb s' T N E ∧ mv_C to s' T N [] p' l' fr' ∧ mv_fr to s s'
def mw_bad (to ph : Nat) (s s' : ps_S) (T : Nat → Nat) (N : Nat) (E : tx_E) (p : Nat) (fr : List (List Nat)) : Prop := ∃ (S' : List tx_F) (pl : Nat) (l' : List Nat) (fr' : List (List Nat)) (k : Nat), gt_go (tx_st T N E) (ph, [], p, [], fr, 0) (4, S', pl, l', fr', k) ∧ mv_bad to s s' k pl
/-- the loop's aim -/
def mw_R (to rb ph : Nat) (s0 : ps_S) (T : Nat → Nat) (N : Nat) (E : tx_E) (p0 : Nat) (fr0 : List (List Nat)) (R : ps_S → Prop) : Prop := (∀ s', mw_ok to rb ph s0 s' T N E p0 fr0 → R s') ∧ ∀ s', mw_bad to ph s0 s' T N E p0 fr0 → R s'
section MW
variable {to rb ph0 : Nat} {s0 : ps_S} {T : Nat → Nat} {N : Nat} {E : tx_E} {p0 : Nat} {fr0 : List (List Nat)} {R : ps_S → Prop} {x1 x2 x4 : Int32}
theorem fm_209_30b {n : Nat} {s : ps_S} {S' : List tx_F} {pl : Nat} {l' : List Nat} {fr' : List (List Nat)} {kd : Nat} (k : mw_R to rb ph0 s0 T N E p0 fr0 R) (hg : gt_go (tx_st T N E) (ph0, [], p0, [], fr0, 0) (4, S', pl, l', fr', kd)) (hb : mv_bad to s0 s kd pl) : pl_At n 209 30 [(0, .ref 1131), (1, .int x1), (2, .int x2), (4, .int x4)] [] s (ps_rV R) := by
  cases n with
  | zero => exact pl_At_0
  | succ n =>
  refine pl_209_30 ?_
  refine fm_192 (fun z => ?_) (fun z => ?_)
  · exfalso
    have := hb.1
    have := hb.2.1
    omega
  · exact ⟨fun _ => k.2 _ ⟨S', pl, l', fr', kd, hg, hb⟩, fun h => absurd rfl h⟩
theorem fm_209_30e {n : Nat} {s : ps_S} {p : Nat} {l : List Nat} {fr : List (List Nat)} (k : mw_R to rb ph0 s0 T N E p0 fr0 R) (HS : mv_S rb s T N E) (HC : mv_C to s T N [] p l fr) (F : mv_fr to s0 s) (hg : gt_go (tx_st T N E) (ph0, [], p0, [], fr0, 0) (2, [], p, l, fr, 0)) : pl_At n 209 30 [(0, .ref 1131), (1, .int x1), (2, .int x2), (4, .int 0)] [] s (ps_rV R) := by
  cases n with
  | zero => exact pl_At_0
  | succ n =>
  refine pl_209_30 ?_
  refine fm_192 (fun z => ?_) (fun z => ?_)
  · exact ⟨fun h => absurd h (by decide), fun _ => ⟨fun _ => k.1 _ ⟨p, l, fr, hg, HS, HC, F⟩, fun h => absurd rfl h⟩⟩
  · exact absurd HC.2.2.2.2.2.2.2.2.1 z
/-- the loop -/
def mw_l (to rb ph0 : Nat) (s0 : ps_S) (T : Nat → Nat) (N : Nat) (E : tx_E) (p0 : Nat) (fr0 : List (List Nat)) (R : ps_S → Prop) (x1 x2 : Int32) (n : Nat) : Prop := ∀ (s : ps_S) (ph : Nat) (S : List tx_F) (p : Nat) (l : List Nat) (fr : List (List Nat)), mv_S rb s T N E → mv_C to s T N S p l fr → mv_fr to s0 s → gt_go (tx_st T N E) (ph0, [], p0, [], fr0, 0) (ph, S, p, l, fr, 0) → ((S = [] ∧ ph = (if x2.toInt = 0 then 0 else 1)) ∨ ∃ k b nt w S', S = (k, b, nt, w) :: S' ∧ ph = (if b = true then 1 else 0)) → pl_At n 209 30 [(0, .ref 1131), (1, .int x1), (2, .int x2), (4, .int 1)] [] s (ps_rV R)
theorem fm_209_92 {n : Nat} {s s1 : ps_S} {ph : Nat} {S : List tx_F} {p : Nat} {l : List Nat} {fr : List (List Nat)} (IH : mw_l to rb ph0 s0 T N E p0 fr0 R x1 x2 n) (hx1 : x1.toInt = to) (k : mw_R to rb ph0 s0 T N E p0 fr0 R) (HS : mv_S rb s T N E) (F : mv_fr to s0 s) (hg : gt_go (tx_st T N E) (ph0, [], p0, [], fr0, 0) (ph, S, p, l, fr, 0)) (h : mv_res to s s1 T N E (ph, S, p, l, fr, 0)) : pl_At (n + 1) 209 92 [(0, .ref 1131), (1, .int x1), (2, .int x2)] [] s1 (ps_rV R) := by
  refine pl_209_92 ?_
  rcases h with ⟨S', p', l', fr', h1, h2, h3⟩ | ⟨S', pl, l', fr', kd, h1, h2⟩
  · refine fm_192 (fun z => ?_) (fun z => absurd h2.2.2.2.2.2.2.2.2.1 z)
    refine ⟨fun h => absurd h (by decide), fun _ => ?_⟩
    have hg2 := gt_trans hg (gt_one h1)
    refine fm_212 (E := E) hx1 (fun v s2 q => ?_) n s1 S' l' h2 mv_fr_refl gt_refl
    rcases q with ⟨rfl, l2, g1, g2, g3⟩ | ⟨rfl, k2, b2, nt2, w2, S2, l2, g1, g2, g3⟩
    · refine ⟨fun _ => ?_, fun h => absurd rfl h⟩
      exact fm_209_30e k (mv_S_fr (mv_S_fr HS h3) g3) g2 (mv_fr_tr F (mv_fr_tr h3 g3)) (gt_trans hg2 g1)
    · refine ⟨fun h => absurd h (by decide), fun _ => ?_⟩
      exact IH _ _ _ _ _ _ (mv_S_fr (mv_S_fr HS h3) g3) g2 (mv_fr_tr F (mv_fr_tr h3 g3)) (gt_trans hg2 g1) (Or.inr ⟨k2, b2, nt2, w2, S2, rfl, rfl⟩)
  · refine fm_192 (fun z => ?_) (fun z => ?_)
    · exfalso
      have := h2.1
      have := h2.2.1
      omega
    · refine ⟨fun _ => ?_, fun h => absurd rfl h⟩
      exact fm_209_30b k (gt_trans hg (gt_one h1)) (mv_bad_tr F h2)
theorem fm_209_30 (hx1 : x1.toInt = to) (k : mw_R to rb ph0 s0 T N E p0 fr0 R) : ∀ n, mw_l to rb ph0 s0 T N E p0 fr0 R x1 x2 n := by
  refine xstr (fun n IH => ?_)
  intro s ph S p l fr HS HC F hg hph
  cases n with
  | zero => exact pl_At_0
  | succ n =>
  have b1 := HC.2.2.2.1.1
  have h13 := HC.2.1.1
  have nxt : ∀ s1, mv_res to s s1 T N E (ph, S, p, l, fr, 0) → pl_At n 209 92 [(0, .ref 1131), (1, .int x1), (2, .int x2)] [] s1 (ps_rV R) := fun s1 h => by
    cases n with
    | zero => exact pl_At_0
    | succ n => exact fm_209_92 (IH n (by omega)) hx1 k HS F hg h
  have top : (0 < (ps_i s 1131 29).toInt) → ∃ k b nt w S', S = (k, b, nt, w) :: S' ∧ ph = (if b = true then 1 else 0) ∧ (ps_a s 1145 (Int32.toNatClampNeg (ps_i s 1131 29 - 1))).toInt = (if b = true then 0 else 1) := fun z => by
    rcases hph with ⟨e, -⟩ | ⟨k, b, nt, w, S', e, e2⟩
    · rw [e] at b1
      exact absurd b1 (by show ¬ _ = ((0 : Nat) : Int); omega)
    · refine ⟨k, b, nt, w, S', e, e2, ?_⟩
      have g := HC.2.2.2.1.2 0 (k, b, nt, w) (by rw [e]; rfl)
      have ei : (ps_i s 1131 29 - 1).toInt = (S.length - 1 - 0 : Nat) := by
        have h1 : (1 : Int32).toInt = 1 := by decide
        rw [xIs (by omega) (by omega)]
        omega
      rw [xtn ei]
      exact g.2.1
  refine pl_209_30 ?_
  refine fm_192 (fun q31 => ?_) (fun q31 => ?_)
  · refine ⟨fun h34 => ?_, fun h34 => ?_⟩
    · exact absurd h34 (by decide)
    · refine ⟨fun h39 => ?_, fun h39 => ?_⟩
      · have h39 : (1 : Int32).toInt = (0 : Int) := xeq h39
        exact absurd h39 (by decide)
      · have h39 : (1 : Int32).toInt ≠ (0 : Int) := xne h39
        refine ⟨fun h46 => ?_, fun h46 => ?_⟩
        · have h46 : (ps_i s 1131 29).toInt ≠ (0 : Int) := xne h46
          intro b63
          obtain ⟨b63, c63⟩ := pl_in b63
          refine ⟨fun h64 => ?_, fun h64 => ?_⟩
          · have h64 : (ps_a s 1145 (Int32.toNatClampNeg ((ps_i s 1131 29) - 1))).toInt ≠ (0 : Int) := xne h64
            refine ⟨fun h76 => ?_, fun h76 => ?_⟩
            · obtain ⟨k1, b, nt, w, S', e, e2, e3⟩ := top (by omega)
              have hb : b = false := by
                cases b with
                | false => rfl
                | true => rw [if_pos rfl] at e3; omega
              subst hb
              have e2 : ph = 0 := e2
              subst e2
              refine fm_215 HS HC hx1 (fun s89 q89 => ?_)
              exact nxt _ q89
            · exact absurd h76 (by decide)
          · have h64 : (ps_a s 1145 (Int32.toNatClampNeg ((ps_i s 1131 29) - 1))).toInt = (0 : Int) := xeq h64
            refine ⟨fun h76 => ?_, fun h76 => ?_⟩
            · exact absurd h76 (by decide)
            · obtain ⟨k1, b, nt, w, S', e, e2, e3⟩ := top (by omega)
              have hb : b = true := by
                cases b with
                | true => rfl
                | false => rw [if_neg (by decide)] at e3; omega
              subst hb
              have e2 : ph = 1 := e2
              subst e2
              refine fm_214 HS HC hx1 (fun s81 q81 => ?_)
              exact nxt _ q81
        · have h46 : (ps_i s 1131 29).toInt = (0 : Int) := xeq h46
          refine ⟨fun h76 => ?_, fun h76 => ?_⟩
          · have h76 : x2.toInt = (0 : Int) := xeq h76
            have hp0 : ph = 0 := by
              rcases hph with ⟨-, e⟩ | ⟨k, b, nt, w, S', e, e2⟩
              · rw [e, if_pos (by omega)]
              · rw [e, List.length_cons] at b1
                omega
            subst hp0
            refine fm_215 HS HC hx1 (fun s89 q89 => ?_)
            exact nxt _ q89
          · have h76 : x2.toInt ≠ (0 : Int) := xne h76
            have hp1 : ph = 1 := by
              rcases hph with ⟨-, e⟩ | ⟨k, b, nt, w, S', e, e2⟩
              · rw [e, if_neg (by omega)]
              · rw [e, List.length_cons] at b1
                omega
            subst hp1
            refine fm_214 HS HC hx1 (fun s81 q81 => ?_)
            exact nxt _ q81
  · refine ⟨fun h34 => ?_, fun h34 => ?_⟩
    · exact absurd HC.2.2.2.2.2.2.2.2.1 q31
    · exact absurd h34 (by decide)
end MW

def mF2 : List Nat := 32 :: mF
/-- all that reading a row may change -/
def mv_fr2 (to : Nat) (s s' : ps_S) : Prop := kq mA mF2 s s' ∧ mv_po to s s'
theorem mv_fr2_of {to : Nat} {s s' : ps_S} (h : mv_fr to s s') : mv_fr2 to s s' := ⟨kqt kq_refl h.1 (by decide) (by decide), h.2⟩
theorem mv_fr2_tr {to : Nat} {s s1 s2 : ps_S} (h : mv_fr2 to s s1) (g : mv_fr2 to s1 s2) : mv_fr2 to s s2 := ⟨kqt h.1 g.1 (by decide) (by decide), fun i hi => (g.2 i hi).trans (h.2 i hi)⟩
def mx_ok (to rb ph : Nat) (s s' : ps_S) (T : Nat → Nat) (N : Nat) (E : tx_E) (p : Nat) (fr : List (List Nat)) : Prop := ∃ p' l' fr', gt_go (tx_st T N E) (ph, [], p, [], fr, 0) (2, [], p', l', fr', 0) ∧ mv_S rb s' T N E ∧ mv_C to s' T N [] p' l' fr' ∧ mv_fr2 to s s'
def mx_bad (to ph : Nat) (s s' : ps_S) (T : Nat → Nat) (N : Nat) (E : tx_E) (p : Nat) (fr : List (List Nat)) : Prop := ∃ (S' : List tx_F) (pl : Nat) (l' : List Nat) (fr' : List (List Nat)) (k : Nat), gt_go (tx_st T N E) (ph, [], p, [], fr, 0) (4, S', pl, l', fr', k) ∧ k ≠ 0 ∧ (ps_i s' 1131 5).toInt = k ∧ (ps_i s' 1131 6).toInt = pl ∧ mv_fr2 to s s'
theorem fm_209 {n to rb ph : Nat} {s : ps_S} {T : Nat → Nat} {N : Nat} {E : tx_E} {p : Nat} {fr : List (List Nat)} {x1 x2 x3 : Int32} {R : ps_S → Prop} (hx1 : x1.toInt = to) (hph : (x2.toInt = 0 ∧ ph = 0) ∨ (x2.toInt ≠ 0 ∧ ph = 1)) (hx3 : x3.toInt = (if E.2 = true then 1 else 0)) (hrb : rb < 2) (h22 : (ps_i s 1131 22).toInt = rb) (hT : mv_T s T N) (hE : mv_E s rb E.1) (hp : p ≤ N) (hK : mv_K s (tx_tok T N p)) (hP : mv_P s fr) (hG : mv_G s) (k1 : ∀ s', mx_ok to rb ph s s' T N E p fr → R s') (k0 : ∀ s', mx_bad to ph s s' T N E p fr → R s') : pl_Cl n 209 [.ref 1131, .int x1, .int x2, .int x3] s (ps_rV R) := by
  cases n with
  | zero => exact pl_At_0
  | succ n =>
  show pl_At (n + 1) 209 0 [(0, .ref 1131), (1, .int x1), (2, .int x2), (3, .int x3)] [] s (ps_rV R)
  refine pl_209_0 ?_
  intro b6
  obtain ⟨b6, c6⟩ := pl_in b6
  refine pl_nk_i (fun z24 => ?_)
  rw [xtn hx1]
  have K : kq [1134] [29, 30, 31, 32] s (ps_ui (ps_ui (ps_ui (ps_ui (ps_ua s 1134 to 0) 1131 29 0) 1131 30 0) 1131 31 0) 1131 32 x3) := kqi (kqi (kqi (kqi (kqa kq_refl rfl) rfl) rfl) rfl) rfl
  have F : mv_fr2 to s (ps_ui (ps_ui (ps_ui (ps_ui (ps_ua s 1134 to 0) 1131 29 0) 1131 30 0) 1131 31 0) 1131 32 x3) := ⟨kqt kq_refl K (by decide) (by decide), fun i hi => by show ps_a (ps_ua s 1134 to 0) 1134 i = _; rw [ps_a_ua, if_neg (by omega)]⟩
  have HS : mv_S rb (ps_ui (ps_ui (ps_ui (ps_ui (ps_ua s 1134 to 0) 1131 29 0) 1131 30 0) 1131 31 0) 1131 32 x3) T N E := ⟨hrb, h22, hx3, mv_T_kq hT K (by decide) (by decide), mv_E_kq hE K (by decide)⟩
  have HC : mv_C to (ps_ui (ps_ui (ps_ui (ps_ui (ps_ua s 1134 to 0) 1131 29 0) 1131 30 0) 1131 31 0) 1131 32 x3) T N [] p [] fr := ⟨hp, ⟨Nat.zero_le _, Nat.zero_le _⟩, mv_K_kq hK K (by decide), ⟨rfl, (fun j f hj => by cases hj)⟩, rfl, rfl, ⟨by show (ps_a (ps_ua s 1134 to 0) 1134 to).toInt = _; rw [ps_a_ua, if_pos ⟨rfl, rfl⟩]; rfl, Nat.zero_le _, (fun j f hj => by cases hj)⟩, mv_P_kq hP K (by decide) (by decide), mv_G_kq hG K (by decide) (by decide)⟩
  refine fm_209_30 (rb := rb) (ph0 := ph) (p0 := p) (fr0 := fr) (E := E) hx1 ⟨fun s' h => k1 s' ?_, fun s' h => k0 s' ?_⟩ n _ _ _ _ _ _ HS HC mv_fr_refl gt_refl (Or.inl ⟨rfl, ?_⟩)
  · obtain ⟨p', l', fr', g1, g2, g3, g4⟩ := h
    exact ⟨p', l', fr', g1, g2, g3, mv_fr2_tr F (mv_fr2_of g4)⟩
  · obtain ⟨S', pl, l', fr', kk, g1, g2, g3, g4, g5⟩ := h
    exact ⟨S', pl, l', fr', kk, g1, g2, g3, g4, mv_fr2_tr F (mv_fr2_of g5)⟩
  · split <;> omega

