set_option maxRecDepth 100000
/-! the reference's reader: what is ended, what begins, a row -/
/-- the loop of endsParts -/
def mv_l12 (to : Nat) (s0 : ps_S) (T : Nat → Nat) (N : Nat) (E : tx_E) (p : Nat) (fr : List (List Nat)) (c0 : tx_C) (x1 : Int32) (R : Int32 → ps_S → Prop) (n : Nat) : Prop := ∀ (s : ps_S) (S : List tx_F) (l : List Nat), mv_C to s T N S p l fr → mv_fr to s0 s → gt_go (tx_st T N E) c0 (2, S, p, l, fr, 0) → pl_At n 212 0 [(0, .ref 1131), (1, .int x1)] [] s (ps_rI R)
theorem fm_212_49 {n to : Nat} {s0 s : ps_S} {T : Nat → Nat} {N : Nat} {E : tx_E} {S : List tx_F} {w : Nat} {b nt : Bool} {bd : Option (List Nat)} {p : Nat} {l : List Nat} {fr : List (List Nat)} {c0 : tx_C} {x1 : Int32} {R : Int32 → ps_S → Prop} (IH : mv_l12 to s0 T N E p fr c0 x1 R n) (hp : p ≤ N) (hS : S.length ≤ 13 ∧ l.length + tx_due S ≤ 40) (hK : mv_K s (tx_tok T N p)) (hB : mv_B s S) (hf : mv_f s S.length (w, b, nt, bd)) (h30 : (ps_i s 1131 30).toInt = (tx_bs ((w, b, nt, bd) :: S)).length) (h31 : (ps_i s 1131 31).toInt = (l.length + tx_due S : Nat)) (hW : mv_W s to l) (hP : mv_P s fr) (hG : mv_G s) (F : mv_fr to s0 s) (hg : gt_go (tx_st T N E) c0 (2, S, p, l, fr, 0)) : pl_At (n + 1) 212 49 [(0, .ref 1131), (1, .int x1)] [] s (ps_rI R) := by
  have b1 := hB.1
  refine pl_212_49 ?_
  intro b57
  obtain ⟨b57, c57⟩ := pl_in b57
  refine ⟨fun h58 => ?_, fun h58 => ?_⟩
  · have h58 : (ps_a s 1147 (Int32.toNatClampNeg (ps_i s 1131 29))).toInt = (0 : Int) := xeq h58
    rw [xtn b1] at h58
    have e : bd = none := by
      rcases hf.2.2.2 with z | ⟨x0, z1, z2, z3, z4⟩
      · exact z.1
      · omega
    subst e
    exact IH _ _ _ ⟨hp, hS, hK, hB, h30, h31, hW, hP, hG⟩ F hg
  · have h58 : (ps_a s 1147 (Int32.toNatClampNeg (ps_i s 1131 29))).toInt ≠ (0 : Int) := xne h58
    rw [xtn b1] at h58
    obtain ⟨x0, hx0⟩ : ∃ x0, bd = some x0 := by
      rcases hf.2.2.2 with z | ⟨x0, z1, z2, z3, z4⟩
      · have := z.2
        omega
      · exact ⟨x0, z1⟩
    subst hx0
    have K : kq [] [30] s (ps_ui s 1131 30 (ps_i s 1131 30 - 1)) := kqi kq_refl rfl
    have h30 : (ps_i s 1131 30).toInt = ((tx_bs S).length + 1 : Nat) := h30
    have hle : (tx_bs S).length ≤ S.length := tx_bs_le
    refine IH _ _ _ ⟨hp, hS, mv_K_kq hK K (by decide), mv_B_kq hB K (by decide) (by decide), ?_, h31, mv_W_kq hW K (by decide), mv_P_kq hP K (by decide) (by decide), mv_G_kq hG K (by decide) (by decide)⟩ (mv_fr_tr F (mv_fr_kq K (by decide) (by decide))) hg
    rw [ps_i_ui, if_pos ⟨rfl, rfl⟩]
    have h1 : (1 : Int32).toInt = 1 := by decide
    rw [xIs (by omega) (by omega)]
    omega
theorem fm_212 {to : Nat} {s0 : ps_S} {T : Nat → Nat} {N : Nat} {E : tx_E} {p : Nat} {fr : List (List Nat)} {c0 : tx_C} {x1 : Int32} {R : Int32 → ps_S → Prop} (hx : x1.toInt = to) (k : ∀ v s', mv_ends to s0 s' T N E p fr c0 v → R v s') : ∀ n, mv_l12 to s0 T N E p fr c0 x1 R n := by
  refine xstr (fun n IH => ?_)
  intro s S l HC F hg
  cases n with
  | zero => exact pl_At_0
  | succ n =>
  have IH49 : ∀ m, m < n → mv_l12 to s0 T N E p fr c0 x1 R m := fun m hm => IH m (by omega)
  have hC := HC
  obtain ⟨c1, c2, c3, c4, c5, c6, c7, c8, c9⟩ := HC
  have b1 := c4.1
  refine pl_212_0 ?_
  refine ⟨fun h4 => ?_, fun h4 => ?_⟩
  · have h4 : (ps_i s 1131 29).toInt ≤ (0 : Int) := xle h4
    exact fm_212_74 hC F hg (fun f S' e => by
      rw [e, List.length_cons] at b1
      omega) k
  · have h4 : (0 : Int) < (ps_i s 1131 29).toInt := xlt h4
    obtain ⟨w, b, nt, bd, S', hS⟩ : ∃ w b nt bd S', S = (w, b, nt, bd) :: S' := by
      cases S with
      | nil => exact absurd h4 (by rw [b1]; decide)
      | cons f S' => exact ⟨f.1, f.2.1, f.2.2.1, f.2.2.2, S', rfl⟩
    subst hS
    have b1 : (ps_i s 1131 29).toInt = (S'.length + 1 : Nat) := b1
    have h13 : S'.length + 1 ≤ 13 := c2.1
    have h13 : S'.length ≤ 13 := by omega
    have ei : (ps_i s 1131 29 - 1).toInt = (S'.length : Nat) := by
      have h1 : (1 : Int32).toInt = 1 := by decide
      rw [xIs (by omega) (by omega)]
      omega
    intro b17
    obtain ⟨b17, c17⟩ := pl_in b17
    refine ⟨fun h18 => ?_, fun h18 => ?_⟩
    · have h18 : (ps_a s 1144 (Int32.toNatClampNeg ((ps_i s 1131 29) - 1))).toInt ≠ (0 : Int) := xne h18
      exact fm_212_74 hC F hg (fun f S'' e z => by
        cases e
        have hf := (mv_B_pop c4).2
        rw [xtn ei] at h18
        have := hf.1
        omega) k
    · have h18 : (ps_a s 1144 (Int32.toNatClampNeg ((ps_i s 1131 29) - 1))).toInt = (0 : Int) := xeq h18
      rw [xtn ei] at h18
      obtain ⟨hB1, hf0⟩ := mv_B_pop c4
      have hw : w = 0 := by have := hf0.1; omega
      have K1 : kq [] [29] s (ps_ui s 1131 29 (ps_i s 1131 29 - 1)) := kqi kq_refl rfl
      have eb : (ps_i (ps_ui s 1131 29 (ps_i s 1131 29 - 1)) 1131 29).toInt = (S'.length : Nat) := ei
      have hf : mv_f (ps_ui s 1131 29 (ps_i s 1131 29 - 1)) S'.length (w, b, nt, bd) := hf0
      intro b39
      obtain ⟨b39, c39⟩ := pl_in b39
      refine ⟨fun h40 => ?_, fun h40 => ?_⟩
      · have h40 : (ps_a (ps_ui s 1131 29 ((ps_i s 1131 29) - 1)) 1146 (Int32.toNatClampNeg (ps_i (ps_ui s 1131 29 ((ps_i s 1131 29) - 1)) 1131 29))).toInt = (0 : Int) := xeq h40
        cases n with
        | zero => exact pl_At_0
        | succ n =>
        have F1 := mv_fr_tr F (mv_fr_kq (to := to) K1 (by decide) (by decide))
        have hnt : nt = false := by
          rw [xtn eb] at h40
          cases nt with
          | false => rfl
          | true =>
            have z := hf.2.2.1
            rw [if_pos rfl] at z
            omega
        subst hnt
        have hg' : gt_go (tx_st T N E) c0 (2, S', p, l, fr, 0) := gt_trans hg (by
          rw [show w = 0 from hw]
          exact gt_one tx_s_0)
        have hd : l.length + (0 + tx_due S') ≤ 40 := c2.2
        have h31 : (ps_i s 1131 31).toInt = (l.length + (0 + tx_due S') : Nat) := c6
        exact fm_212_49 (IH49 n (by omega)) c1 ⟨h13, by omega⟩ (mv_K_kq c3 K1 (by decide)) hB1 hf c5 (by rw [Nat.zero_add] at h31; exact h31) (mv_W_kq c7 K1 (by decide)) (mv_P_kq c8 K1 (by decide) (by decide)) (mv_G_kq c9 K1 (by decide) (by decide)) F1 hg'
      · have h40 : (ps_a (ps_ui s 1131 29 ((ps_i s 1131 29) - 1)) 1146 (Int32.toNatClampNeg (ps_i (ps_ui s 1131 29 ((ps_i s 1131 29) - 1)) 1131 29))).toInt ≠ (0 : Int) := xne h40
        have hnt : nt = true := by
          rw [xtn eb] at h40
          cases nt with
          | true => rfl
          | false =>
            have z := hf.2.2.1
            change _ = (if false = true then (1 : Int) else 0) at z
            rw [if_neg (by decide)] at z
            omega
        subst hnt
        have hd : l.length + (1 + tx_due S') ≤ 40 := c2.2
        have h31 : (ps_i s 1131 31).toInt = (l.length + (1 + tx_due S') : Nat) := c6
        refine fm_210 (c := 0) hx rfl (mv_W_kq c7 K1 (by decide)) (by omega) (fun s46 q46 => ?_)
        cases n with
        | zero => exact pl_At_0
        | succ n =>
        obtain ⟨W2, K2, P2⟩ := q46
        have F1 := mv_fr_tr F (mv_fr_kq (to := to) K1 (by decide) (by decide))
        have F2 := mv_fr_tr F1 (show mv_fr to _ s46 from ⟨kqt kq_refl K2 (by decide) (by decide), P2⟩)
        have hg' : gt_go (tx_st T N E) c0 (2, S', p, l ++ [0], fr, 0) := gt_trans hg (by
          rw [show w = 0 from hw]
          exact gt_one tx_s_0)
        have hlen : (l ++ [0]).length = l.length + 1 := by rw [List.length_append]; rfl
        exact fm_212_49 (IH49 n (by omega)) c1 ⟨h13, by omega⟩ (mv_K_kq (mv_K_kq c3 K1 (by decide)) K2 (by decide)) (mv_B_kq hB1 K2 (by decide) (by decide)) (by
          have z := hf
          unfold mv_f at *
          rw [kq_a K2 1144 (by decide), kq_a K2 1145 (by decide), kq_a K2 1146 (by decide), kq_a K2 1147 (by decide), kq_b K2 1148 (by decide)]
          exact z) (by rw [kq_i K2 30 (by decide)]; exact c5) (by rw [kq_i K2 31 (by decide), hlen]; show (ps_i s 1131 31).toInt = _; omega) W2 (mv_P_kq (mv_P_kq c8 K1 (by decide) (by decide)) K2 (by decide) (by decide)) (mv_G_kq (mv_G_kq c9 K1 (by decide) (by decide)) K2 (by decide) (by decide)) F2 hg'

