set_option maxRecDepth 100000
theorem KRd_a {i r : Nat} {v : Int32} {s0 s : ps_S} (K : KRd i s0 s) (hr : [1152, 1153, 1154, 1155, 1156].contains r = true) : KRd i s0 (ps_ua s r i v) := by
  have hr' := List.contains_iff_mem.mp hr
  refine ⟨kqa K.1 (List.contains_iff_mem.mpr ((show ∀ x, x ∈ [1152, 1153, 1154, 1155, 1156] → x ∈ [1134, 1143, 1144, 1145, 1146, 1147, 1148, 1152, 1153, 1154, 1155, 1156] by decide) r hr')), fun p a b => ?_, fun j hj => ?_⟩
  · rw [ps_a_ua, if_neg (fun z => by
      have : (1134 : Nat) ∈ [1152, 1153, 1154, 1155, 1156] := by rw [z.1]; exact hr'
      revert this
      decide)]
    exact K.2.1 p a b
  · rw [ps_a_ua, if_neg (fun z => hj z.2), ps_a_ua, if_neg (fun z => hj z.2), ps_a_ua, if_neg (fun z => hj z.2), ps_a_ua, if_neg (fun z => hj z.2), ps_a_ua, if_neg (fun z => hj z.2)]
    exact K.2.2 j hj

theorem KRd_po {i to : Nat} {s0 s s' : ps_S} (K : KRd i s0 s) (q : mv_fr2 to s s') (ht : to = 22468 + 41 * i ∨ to = 24108 + 41 * i) : KRd i s0 s' := by
  obtain ⟨k1, k2⟩ := q
  exact ⟨kqt K.1 k1 (by decide) (by decide), fun p a b => (k2 p (by omega)).trans (K.2.1 p a b), fun j hj => by
    rw [kq_a k1 1152 (by decide), kq_a k1 1153 (by decide), kq_a k1 1154 (by decide), kq_a k1 1155 (by decide), kq_a k1 1156 (by decide)]
    exact K.2.2 j hj⟩

/-- the reference as it reads a step; a fault -/
def rv_X (T : Nat → Nat) (N : Nat) (h : tx_H) (s0 s : ps_S) (b i : Nat) (P : List tp_P) (c : tp_P) (fr : List (List Nat)) (q ph : Nat) (C0 : pv_C) : Prop := rv_L s b T N h fr q ∧ gt_go (pv_st T N h) C0 (ph, (P, c), fr, q, 0) ∧ KRd i s0 s ∧ (ps_i s 1131 42).toInt = i

def rv_B (T : Nat → Nat) (N : Nat) (h : tx_H) (s0 s : ps_S) (i : Nat) (C0 : pv_C) : Prop := ∃ (X : List tp_P × tp_P) (fr : List (List Nat)) (pl k : Nat), gt_go (pv_st T N h) C0 (4, X, fr, pl, k) ∧ k ≠ 0 ∧ (ps_i s 1131 5).toInt = k ∧ (ps_i s 1131 6).toInt = pl ∧ KRd i s0 s

def rv_ok (T : Nat → Nat) (N : Nat) (h : tx_H) (s0 s' : ps_S) (b i : Nat) (P : List tp_P) (C0 : pv_C) : Prop := ∃ c fr q, (rv_L s' b T N h fr q ∧ gt_go (pv_st T N h) C0 (0, (P ++ [c], c), fr, q, 0) ∧ KRd i s0 s' ∧ (ps_i s' 1131 42).toInt = (i + 1 : Nat)) ∧ rkT s' i c
