set_option maxRecDepth 100000
/-! the reference reads a proof, stop by stop; prove() -/
section RVD
variable {T : Nat → Nat} {N : Nat} {h : tx_H} {s0 s : ps_S} {b i : Nat} {P : List tp_P} {c : tp_P} {fr : List (List Nat)} {q : Nat} {C0 : pv_C} {R : ps_S → Prop} {x1 x2 : Int32}
theorem fm_237 {n : Nat} {R : Int32 → ps_S → Prop} (L : rv_L s b T N h fr q) (k1 : (tx_tok T N q).1 = 4 → ∀ (v : Int32) s', v.toInt = (tx_tok T N q).2.2.2.2 → mv_A T N (tx_tok T N q).2.2.1 s s' → R v s') (k0 : (tx_tok T N q).1 ≠ 4 → ∀ (v : Int32) s', (ps_i s' 1131 5).toInt = (tx_bk (tx_tok T N q) : Nat) ∧ (ps_i s' 1131 6).toInt = (tx_tok T N q).2.1 ∧ kq [] [5, 6] s s' → R v s') : pl_Cl n 237 [.ref 1131] s (ps_rI R) := by
  cases n with
  | zero => exact pl_At_0
  | succ n =>
  show pl_At (n + 1) 237 0 [(0, .ref 1131)] [] s (ps_rI R)
  obtain ⟨⟨l1, l2, l3, l4, l5⟩, l6, l7, l8⟩ := L
  have h9 := l5.1
  refine pl_237_0 (fm_192 (fun _ => ⟨fun _ => ⟨fun w => ?_, fun w => ?_⟩, fun w => absurd w (by decide)⟩) (fun z => absurd l8.1 z))
  · have w : (ps_i s 1131 9).toInt ≠ 4 := xne w
    exact fm_197g (rb := b) l8 l6 l4 l5 (fun z => absurd (by decide) z) (fun _ s1 q1 => k0 (by omega) _ _ q1)
  · have w : (ps_i s 1131 9).toInt = 4 := xeq w
    exact fm_197g (rb := b) l8 l6 l4 l5 (fun _ s1 q1 => k1 (by omega) _ _ (l5.2.2.2.2 (by omega)) q1) (fun z => absurd z (by decide))
theorem fm_237b {n : Nat} {R : Int32 → ps_S → Prop} (hb : (ps_i s 1131 5).toInt ≠ 0) (k : R 0 s) : pl_Cl n 237 [.ref 1131] s (ps_rI R) := by
  cases n with
  | zero => exact pl_At_0
  | succ n =>
  show pl_At (n + 1) 237 0 [(0, .ref 1131)] [] s (ps_rI R)
  exact pl_237_0 (fm_192 (fun z => absurd z hb) (fun _ => ⟨fun w => absurd rfl w, fun _ => k⟩))
theorem fm_238_162b {n : Nat} (B : rv_B T N h s0 s i C0) (k0 : ∀ s', rv_B T N h s0 s' i C0 → R s') : pl_At n 238 162 [(0, .ref 1131), (1, .int x1), (2, .int x2)] [] s (ps_rV R) := by
  cases n with
  | zero => exact pl_At_0
  | succ n =>
  exact pl_238_162 (fm_192 (fun z => absurd z (rv_B_5 B)) (fun _ => ⟨fun _ => fm_238_216b B k0, fun w => absurd rfl w⟩))
theorem fm_238_134b {n : Nat} (B : rv_B T N h s0 s i C0) (k0 : ∀ s', rv_B T N h s0 s' i C0 → R s') : pl_At n 238 134 [(0, .ref 1131), (1, .int x1), (2, .int x2)] [] s (ps_rV R) := by
  cases n with
  | zero => exact pl_At_0
  | succ n =>
  exact pl_238_134 (fm_192 (fun z => absurd z (rv_B_5 B)) (fun _ => ⟨fun _ => fm_238_162b B k0, fun w => absurd rfl w⟩))
theorem fm_238_106b {n r : Nat} (h1 : x1.toInt = i) (h2 : x2.toInt = (kd r : Nat)) (ho : tp_ok r) (B : rv_B T N h s0 s i C0) (k0 : ∀ s', rv_B T N h s0 s' i C0 → R s') : pl_At n 238 106 [(0, .ref 1131), (1, .int x1), (2, .int x2)] [] s (ps_rV R) := by
  cases n with
  | zero => exact pl_At_0
  | succ n =>
  exact pl_238_106 (fm_192 (fun z => absurd z (rv_B_5 B)) (fun _ => ⟨fun _ => fm_238_134b B k0, fun w => absurd rfl w⟩))

theorem fm_238_88b {n r : Nat} (h1 : x1.toInt = i) (h2 : x2.toInt = (kd r : Nat)) (ho : tp_ok r) (B : rv_B T N h s0 s i C0) (k0 : ∀ s', rv_B T N h s0 s' i C0 → R s') : pl_At n 238 88 [(0, .ref 1131), (1, .int x1), (2, .int x2)] [] s (ps_rV R) := by
  cases n with
  | zero => exact pl_At_0
  | succ n =>
  refine pl_238_88 (fm_234 h2 ho (fun v hv => ⟨fun _ => fm_238_106b h1 h2 ho B k0, fun _ => fm_237b (rv_B_5 B) (fun _ => ?_)⟩))
  rw [xtn h1]
  exact fm_238_106b h1 h2 ho (rv_B_a B (by decide)) k0
theorem fm_238_70b {n r : Nat} (h1 : x1.toInt = i) (h2 : x2.toInt = (kd r : Nat)) (ho : tp_ok r) (B : rv_B T N h s0 s i C0) (k0 : ∀ s', rv_B T N h s0 s' i C0 → R s') : pl_At n 238 70 [(0, .ref 1131), (1, .int x1), (2, .int x2)] [] s (ps_rV R) := by
  cases n with
  | zero => exact pl_At_0
  | succ n =>
  refine pl_238_70 (fm_234 h2 ho (fun v hv => ⟨fun _ => fm_238_88b h1 h2 ho B k0, fun _ => fm_237b (rv_B_5 B) (fun _ => ?_)⟩))
  rw [xtn h1]
  exact fm_238_88b h1 h2 ho (rv_B_a B (by decide)) k0
theorem fm_238_53b {n r : Nat} (h1 : x1.toInt = i) (h2 : x2.toInt = (kd r : Nat)) (ho : tp_ok r) (B : rv_B T N h s0 s i C0) (k0 : ∀ s', rv_B T N h s0 s' i C0 → R s') : pl_At n 238 53 [(0, .ref 1131), (1, .int x1), (2, .int x2)] [] s (ps_rV R) := by
  cases n with
  | zero => exact pl_At_0
  | succ n =>
  refine pl_238_53 (fm_234 h2 ho (fun v hv => ⟨fun _ => fm_238_70b h1 h2 ho B k0, fun _ => fm_237b (rv_B_5 B) (fun _ => ?_)⟩))
  rw [xtn h1]
  exact fm_238_70b h1 h2 ho (rv_B_a B (by decide)) k0
theorem rq7_kq {A F : List Nat} {s s' : ps_S} (M : rq7 s i c) (K : kq A F s s') (hA : [1134, 1152, 1153, 1154, 1155].all (fun q => !A.contains q) = true) : rq7 s' i c := by
  have hA' := hA
  rw [List.all_eq_true] at hA'
  have z := hA' 1134 (by decide)
  rw [Bool.not_eq_true'] at z
  refine ⟨rq5_kq M.1 K ?_, fun y => mv_W_kq (M.2 y) K z⟩
  rw [List.all_eq_true]
  exact fun r hr => hA' r (List.mem_cons_of_mem _ hr)
theorem rq8_kq {A F : List Nat} {s s' : ps_S} (M : rq8 s i c) (K : kq A F s s') (hA : [1134, 1152, 1153, 1154, 1155].all (fun q => !A.contains q) = true) : rq8 s' i c := by
  have hA' := hA
  rw [List.all_eq_true] at hA'
  have z := hA' 1134 (by decide)
  rw [Bool.not_eq_true'] at z
  exact ⟨rq7_kq M.1 K hA, fun y => mv_W_kq (M.2 y) K z⟩
theorem fm_238_181 {n : Nat} (h1 : x1.toInt = i) (hi : i < 40) (hx : tp_hx c.1.1) (X : rv_X T N h s0 s b i P c fr q 8 C0) (M : rq8 s i c) (k1 : ∀ s', rv_ok T N h s0 s' b i P C0 → R s') (k0 : ∀ s', rv_B T N h s0 s' i C0 → R s') : pl_At n 238 181 [(0, .ref 1131), (1, .int x1)] [] s (ps_rV R) := by
  cases n with
  | zero => exact pl_At_0
  | succ n =>
  obtain ⟨⟨⟨l1, l2, l3, l4, l5⟩, l6, l7, l8⟩, g, K, e42⟩ := id X
  have h10 : ¬ c.1.1 = 10 := fun z => by
    have hx : c.1.1 = 21 ∨ c.1.1 = 24 := hx
    omega
  have ht : ¬ tp_ht c.1.1 := fun z => by
    have hx : c.1.1 = 21 ∨ c.1.1 = 24 := hx
    unfold tp_ht at z
    omega
  have hf : ¬ tp_hf c.1.1 := fun z => by
    have hx : c.1.1 = 21 ∨ c.1.1 = 24 := hx
    unfold tp_hf at z
    omega
  refine pl_238_181 (fm_208p X.1 (fun hX => ⟨fun _ => ?_, fun w => absurd w (by decide)⟩) (fun hX => ⟨fun w => absurd rfl w, fun _ => ?_⟩))
  · refine fm_217p X.1 hX.1 (fun v s1 hF => fun _ => ?_)
    rw [xtn h1]
    rcases hF with ⟨a, fr2, e, hv, L2, K2⟩ | ⟨e, e5, e6, K2⟩
    · have K3 : kq [1156] [] s1 (ps_ua s1 1156 i v) := kqa kq_refl (by decide)
      refine fm_238_205 (P := P) (c := (c.1, (c.2.1.1, a), c.2.2)) (fr := fr2) (q := q) ⟨rv_L_q L2 K3 (by decide) (by decide), gt_trans g (gt_step (c1 := (9, (P, (c.1, (c.2.1.1, a), c.2.2)), fr2, (tx_tok T N q).2.2.1, 0)) ?_ (gt_step (c1 := (10, (P, (c.1, (c.2.1.1, a), c.2.2)), fr2, (tx_tok T N q).2.2.1, 0)) ?_ (gt_one ?_))), KRd_a (KRd_q K (kqt (kq_refl : kq [1143] [23] s s) K2 (by decide) (by decide)) (by decide) (by decide)) (by decide), ?_⟩ (rq8_T (show rq8 (ps_ua s1 1156 i v) i c from rq8_kq (rq8_kq M K2 (by decide)) K3 (by decide)) (fun _ => ?_)) hi k1 k0
      · rw [pv_st_8]
        unfold pv_8
        rw [if_neg h10, if_pos hx, if_pos hX, e]
        try rfl
      · rw [pv_st_9]
        unfold pv_9
        rw [if_neg ht]
      · rw [pv_st_10]
        unfold pv_10
        rw [if_neg hf]
      · show (ps_i s1 1131 42).toInt = i
        rw [kq_i K2 42 (by decide)]
        exact e42
      · rw [ps_a_ua, if_pos ⟨rfl, rfl⟩]
        exact hv
    · refine fm_238_205b (rv_B_a (rv_X_no (Y := (P, c)) (fr' := fr) (k := 2) X K2 (gt_one ?_) (by decide) e5 e6) (by decide)) k0
      rw [pv_st_8]
      unfold pv_8
      rw [if_neg h10, if_pos hx, if_pos hX, e]
      try rfl
  · refine fm_196 l8.1 l5 (fun s1 q1 => ?_)
    refine fm_238_205b (rv_X_no (Y := (P, c)) (fr' := fr) X q1.2.2 (gt_one ?_) tx_bk_0 q1.1 q1.2.1) k0
    rw [pv_st_8]
    unfold pv_8
    rw [if_neg h10, if_pos hx, if_neg hX]
theorem fm_238_162 {n ph : Nat} (h1 : x1.toInt = i) (hi : i < 40) (h2 : x2.toInt = (kd c.1.1 : Nat)) (ho : tp_ok c.1.1) (X : rv_X T N h s0 s b i P c fr q ph C0) (hph : (tp_hx c.1.1 ∧ ph = 8) ∨ (¬ tp_hx c.1.1 ∧ ph = 11)) (M : rq8 s i c) (k1 : ∀ s', rv_ok T N h s0 s' b i P C0 → R s') (k0 : ∀ s', rv_B T N h s0 s' i C0 → R s') : pl_At n 238 162 [(0, .ref 1131), (1, .int x1), (2, .int x2)] [] s (ps_rV R) := by
  cases n with
  | zero => exact pl_At_0
  | succ n =>
  obtain ⟨-, -, -, -, c5, c6, -⟩ := kd_c ho
  have A : ∀ {m : Nat}, (c.1.1 = 21 ∨ c.1.1 = 24) → pl_At m 238 181 [(0, .ref 1131), (1, .int x1)] [] s (ps_rV R) := fun {m} hx => by
    rcases hph with ⟨-, rfl⟩ | ⟨hn, -⟩
    · exact fm_238_181 h1 hi hx X M k1 k0
    · exact absurd hx hn
  refine pl_238_162 (fm_192 (fun _ => ⟨fun w => absurd w (by decide), fun _ => ⟨fun w => ?_, fun w => ⟨fun w1 => ?_, fun w1 => ?_⟩⟩⟩) (fun z => absurd X.1.2.2.2.1 z))
  · have w : x2.toInt = 11 := xeq w
    exact A (by omega)
  · have w : x2.toInt ≠ 11 := xne w
    have w1 : x2.toInt ≠ 14 := xne w1
    have hn : ¬ tp_hx c.1.1 := fun z => by
      have z : c.1.1 = 21 ∨ c.1.1 = 24 := z
      omega
    rcases hph with ⟨hx, -⟩ | ⟨-, rfl⟩
    · exact absurd hx hn
    · exact fm_238_216 X (rq8_T M (fun z => absurd z hn)) hi k1 k0
  · have w1 : x2.toInt = 14 := xeq w1
    exact A (by omega)

theorem rq5_fr {to : Nat} {s' : ps_S} (M : rq5 s i c) (F : mv_fr2 to s s') : rq5 s' i c := rq5_kq M F.1 (by decide)
theorem rq7_fr {s' : ps_S} (M : rq7 s i c) (hi : i < 40) (F : mv_fr2 (22468 + 41 * i) s s') : rq7 s' i c := ⟨rq5_fr M.1 F, fun z => mv_W_V (M.2 z) (fun r a b => F.2 r (Or.inr (by omega)))⟩

theorem fm_238_134 {n ph : Nat} (h1 : x1.toInt = i) (hi : i < 40) (h2 : x2.toInt = (kd c.1.1 : Nat)) (ho : tp_ok c.1.1) (X : rv_X T N h s0 s b i P c fr q ph C0) (hph : (tp_hx c.1.1 ∧ ph = 8) ∨ (¬ tp_hx c.1.1 ∧ ph = 10)) (M : rq7 s i c) (k1 : ∀ s', rv_ok T N h s0 s' b i P C0 → R s') (k0 : ∀ s', rv_B T N h s0 s' i C0 → R s') : pl_At n 238 134 [(0, .ref 1131), (1, .int x1), (2, .int x2)] [] s (ps_rV R) := by
  cases n with
  | zero => exact pl_At_0
  | succ n =>
  obtain ⟨⟨⟨l1, l2, l3, l4, l5⟩, l6, l7, l8⟩, g, K, e42⟩ := id X
  refine pl_238_134 (fm_192 (fun _ => ⟨fun w => absurd w (by decide), fun _ => fm_236 h2 ho (fun hf => ⟨fun w => absurd w (by decide), fun _ => ?_⟩) (fun hf => ⟨fun _ => ?_, fun w => absurd rfl w⟩)⟩) (fun z => absurd l8.1 z))
  · have hn : ¬ tp_hx c.1.1 := fun z => by
      have z : c.1.1 = 21 ∨ c.1.1 = 24 := z
      unfold tp_hf at hf
      omega
    have hp9 : ph = 10 := by
      rcases hph with ⟨z, -⟩ | ⟨-, z⟩
      · exact absurd z hn
      · exact z
    subst hp9
    refine fm_209u (to := 22468 + 41 * i) (rb := b) (ph := 1) (E := (h.1, false)) (p := q) (fr := fr) (rowF h1 hi) (Or.inr ⟨by decide, rfl⟩) rfl l1 l2 l6 l3.1 l4 l5 l7 l8 (fun s1 q1 => ?_)
    rcases q1 with ⟨p', l', fr', g1, S, C, F⟩ | ⟨S', pl, l', fr', kk, g1, hk0, e5, e6, F⟩
    · have F' := KRd_po K F (Or.inl rfl)
      refine fm_238_162 (ph := 11) (c := (c.1, c.2.1, c.2.2.1, l')) h1 hi h2 ho ⟨⟨⟨l1, S.2.1, mv_H_5 l1 l3 F.1 (by decide) (fun r a b => F.2 r (Or.inl (by omega))), C.1, C.2.2.1⟩, S.2.2.2.1, C.2.2.2.2.2.2.2.1, C.2.2.2.2.2.2.2.2⟩, gt_trans g (gt_one ?_), F', by rw [kq_i F.1 42 (by decide)]; exact e42⟩ (Or.inr ⟨hn, rfl⟩) ⟨rq7_fr M hi F, fun _ => C.2.2.2.2.2.2.1⟩ k1 k0
      rw [pv_st_10]
      unfold pv_10
      rw [if_pos hf, gt_end_2 g1]
      try rfl
    · refine fm_238_162b ⟨(P, c), fr, pl, kk, gt_trans g (gt_one ?_), hk0, e5, e6, KRd_po K F (Or.inl rfl)⟩ k0
      rw [pv_st_10]
      unfold pv_10
      rw [if_pos hf, gt_end_is g1 rfl]
      try rfl
  · rcases hph with ⟨hx, rfl⟩ | ⟨hn, rfl⟩
    · exact fm_238_162 h1 hi h2 ho X (Or.inl ⟨hx, rfl⟩) ⟨M, fun z => absurd z hf⟩ k1 k0
    · refine fm_238_162 h1 hi h2 ho (rv_X_eps (ph' := 11) X (gt_one ?_)) (Or.inr ⟨hn, rfl⟩) ⟨M, fun z => absurd z hf⟩ k1 k0
      rw [pv_st_10]
      unfold pv_10
      rw [if_neg hf]

theorem fm_238_106 {n ph : Nat} (h1 : x1.toInt = i) (hi : i < 40) (h2 : x2.toInt = (kd c.1.1 : Nat)) (ho : tp_ok c.1.1) (X : rv_X T N h s0 s b i P c fr q ph C0) (hph : (tp_hx c.1.1 ∧ ph = 8) ∨ (¬ tp_hx c.1.1 ∧ ph = 9)) (M : rq5 s i c) (k1 : ∀ s', rv_ok T N h s0 s' b i P C0 → R s') (k0 : ∀ s', rv_B T N h s0 s' i C0 → R s') : pl_At n 238 106 [(0, .ref 1131), (1, .int x1), (2, .int x2)] [] s (ps_rV R) := by
  cases n with
  | zero => exact pl_At_0
  | succ n =>
  obtain ⟨⟨⟨l1, l2, l3, l4, l5⟩, l6, l7, l8⟩, g, K, e42⟩ := id X
  refine pl_238_106 (fm_192 (fun _ => ⟨fun w => absurd w (by decide), fun _ => fm_235 h2 ho (fun hf => ⟨fun w => absurd w (by decide), fun _ => ?_⟩) (fun hf => ⟨fun _ => ?_, fun w => absurd rfl w⟩)⟩) (fun z => absurd l8.1 z))
  · have hn : ¬ tp_hx c.1.1 := fun z => by
      have z : c.1.1 = 21 ∨ c.1.1 = 24 := z
      unfold tp_ht at hf
      omega
    have hp9 : ph = 9 := by
      rcases hph with ⟨z, -⟩ | ⟨-, z⟩
      · exact absurd z hn
      · exact z
    subst hp9
    refine fm_209u (to := 24108 + 41 * i) (rb := b) (ph := 0) (E := (h.1, false)) (p := q) (fr := fr) (rowT h1 hi) (Or.inl ⟨rfl, rfl⟩) rfl l1 l2 l6 l3.1 l4 l5 l7 l8 (fun s1 q1 => ?_)
    rcases q1 with ⟨p', l', fr', g1, S, C, F⟩ | ⟨S', pl, l', fr', kk, g1, hk0, e5, e6, F⟩
    · have F' := KRd_po K F (Or.inr rfl)
      refine fm_238_134 (ph := 10) (c := (c.1, c.2.1, l', c.2.2.2)) h1 hi h2 ho ⟨⟨⟨l1, S.2.1, mv_H_5 l1 l3 F.1 (by decide) (fun r a b => F.2 r (Or.inl (by omega))), C.1, C.2.2.1⟩, S.2.2.2.1, C.2.2.2.2.2.2.2.1, C.2.2.2.2.2.2.2.2⟩, gt_trans g (gt_one ?_), F', by rw [kq_i F.1 42 (by decide)]; exact e42⟩ (Or.inr ⟨hn, rfl⟩) ⟨rq5_fr M F, fun _ => C.2.2.2.2.2.2.1⟩ k1 k0
      rw [pv_st_9]
      unfold pv_9
      rw [if_pos hf, gt_end_2 g1]
      try rfl
    · refine fm_238_134b ⟨(P, c), fr, pl, kk, gt_trans g (gt_one ?_), hk0, e5, e6, KRd_po K F (Or.inr rfl)⟩ k0
      rw [pv_st_9]
      unfold pv_9
      rw [if_pos hf, gt_end_is g1 rfl]
      try rfl
  · rcases hph with ⟨hx, rfl⟩ | ⟨hn, rfl⟩
    · exact fm_238_134 h1 hi h2 ho X (Or.inl ⟨hx, rfl⟩) ⟨M, fun z => absurd z hf⟩ k1 k0
    · refine fm_238_134 h1 hi h2 ho (rv_X_eps (ph' := 10) X (gt_one ?_)) (Or.inr ⟨hn, rfl⟩) ⟨M, fun z => absurd z hf⟩ k1 k0
      rw [pv_st_9]
      unfold pv_9
      rw [if_neg hf]

/-- where the numbers are read: how far the machine is -/
def pvj (r j ph : Nat) : Prop := (r = 10 ∧ ph = 9) ∨ (r ≠ 10 ∧ ((j < tp_nn r ∧ ph = 5 + j) ∨ (tp_nn r ≤ j ∧ ph = 8)))
def rq5j (s : ps_S) (i : Nat) (c : tp_P) (j : Nat) : Prop := (ps_a s 1152 i).toInt = (kd c.1.1 : Nat) ∧ (∀ m, m < j → m < tp_nn c.1.1 → (ps_a s (1153 + m) i).toInt = pr_k c m) ∧ (c.1.1 = 10 → (ps_a s 1153 i).toInt = c.2.1.1)
theorem pv_8_9 {r : Nat} (h10 : c.1.1 ≠ 10) (hx : ¬ tp_hx c.1.1) : gt_go (pv_st T N h) (8, (P, c), fr, q, 0) (9, (P, c), fr, q, 0) := by
  refine gt_one ?_
  rw [pv_st_8]
  unfold pv_8
  rw [if_neg h10, if_neg hx]
theorem fm_238_106j {n ph : Nat} (h1 : x1.toInt = i) (hi : i < 40) (h2 : x2.toInt = (kd c.1.1 : Nat)) (ho : tp_ok c.1.1) (X : rv_X T N h s0 s b i P c fr q ph C0) (hph : pvj c.1.1 3 ph) (M : rq5j s i c 3) (k1 : ∀ s', rv_ok T N h s0 s' b i P C0 → R s') (k0 : ∀ s', rv_B T N h s0 s' i C0 → R s') : pl_At n 238 106 [(0, .ref 1131), (1, .int x1), (2, .int x2)] [] s (ps_rV R) := by
  have h33 := tp_nn_3 (r := c.1.1)
  have M' : rq5 s i c := ⟨M.1, fun m hm => M.2.1 m (by omega) hm, M.2.2⟩
  rcases hph with ⟨h10, rfl⟩ | ⟨h10, ⟨hlt, -⟩ | ⟨-, rfl⟩⟩
  · refine fm_238_106 h1 hi h2 ho X (Or.inr ⟨fun z => ?_, rfl⟩) M' k1 k0
    have z : c.1.1 = 21 ∨ c.1.1 = 24 := z
    omega
  · omega
  · by_cases hx : tp_hx c.1.1
    · exact fm_238_106 h1 hi h2 ho X (Or.inl ⟨hx, rfl⟩) M' k1 k0
    · exact fm_238_106 h1 hi h2 ho (rv_X_eps X (pv_8_9 (r := 0) h10 hx)) (Or.inr ⟨hx, rfl⟩) M' k1 k0
theorem nn_10 : tp_nn 10 = 0 := by decide
theorem pvj_skip {r j ph : Nat} (h : pvj r j ph) (hj : tp_nn r ≤ j) : pvj r (j + 1) ph := by
  rcases h with h | ⟨h10, ⟨hlt, -⟩ | ⟨-, e⟩⟩
  · exact Or.inl h
  · omega
  · exact Or.inr ⟨h10, Or.inr ⟨by omega, e⟩⟩
theorem pvj_at {r j ph : Nat} (h : pvj r j ph) (hj : j < tp_nn r) : r ≠ 10 ∧ ph = 5 + j := by
  rcases h with ⟨h10, -⟩ | ⟨h10, ⟨-, e⟩ | ⟨hle, -⟩⟩
  · rw [h10, nn_10] at hj
    omega
  · exact ⟨h10, e⟩
  · omega
/-- a number has been read -/
theorem rv_X_num {ph : Nat} (X : rv_X T N h s0 s b i P c fr q (5 + ph) C0) (hj : ph < tp_nn c.1.1) (h3 : ph < 3) (h10 : c.1.1 ≠ 10) (t4 : (tx_tok T N q).1 = 4) {s1 : ps_S} {v : Int32} (A : mv_A T N (tx_tok T N q).2.2.1 s s1) {r : Nat} (hr : [1152, 1153, 1154, 1155, 1156].contains r = true) : ∃ ph', rv_X T N h s0 (ps_ua s1 r i v) b i P (pv_set c ph (tx_tok T N q).2.2.2.2) fr (tx_tok T N q).2.2.1 ph' C0 ∧ pvj c.1.1 (ph + 1) ph' := by
  obtain ⟨L, g, K, e42⟩ := X
  have hb := (tx_tok_ok (T := T) L.1.2.2.2.1).2.1
  have er := (pv_set_r (c := c) (j := ph) (v := (tx_tok T N q).2.2.2.2)).1
  have K2 : kq [1152, 1153, 1154, 1155, 1156] [] s1 (ps_ua s1 r i v) := kqa kq_refl hr
  have X1 : rv_X T N h s0 (ps_ua s1 r i v) b i P (pv_set c ph (tx_tok T N q).2.2.2.2) fr (tx_tok T N q).2.2.1 (5 + (ph + 1)) C0 := ⟨rv_L_q (rv_L_adv L hb A) K2 (by decide) (by decide), gt_trans g (pv_num hj h3 t4), KRd_a (KRd_q K A.1 (by decide) (by decide)) hr, by
    show (ps_i s1 1131 42).toInt = i
    rw [kq_i A.1 42 (by decide)]
    exact e42⟩
  by_cases h : ph + 1 < tp_nn c.1.1
  · exact ⟨_, X1, Or.inr ⟨h10, Or.inl ⟨h, rfl⟩⟩⟩
  · exact ⟨8, rv_X_eps X1 (pv_to8 (by omega) (by rw [er]; omega)), Or.inr ⟨h10, Or.inr ⟨by omega, rfl⟩⟩⟩
theorem rq5j_num {j : Nat} {s1 : ps_S} {v : Int32} {A F : List Nat} (M : rq5j s i c j) (K : kq A F s s1) (hA : [1152, 1153, 1154, 1155].all (fun q => !A.contains q) = true) (hj : j < 3) (h10 : c.1.1 ≠ 10) {w : Nat} (hv : v.toInt = w) : rq5j (ps_ua s1 (1153 + j) i v) i (pv_set c j w) (j + 1) := by
  rw [List.all_eq_true] at hA
  have f : ∀ q, q ∈ [1152, 1153, 1154, 1155] → A.contains q = false := fun q hq => by
    have := hA q hq
    rw [Bool.not_eq_true'] at this
    exact this
  have e : ∀ q, q ∈ [1152, 1153, 1154, 1155] → ps_a s1 q = ps_a s q := fun q hq => kq_a K q (f q hq)
  have er := (pv_set_r (c := c) (j := j) (v := w)).1
  obtain ⟨m1, m2, m3⟩ := M
  refine ⟨?_, fun m hm hm2 => ?_, fun z => absurd (er ▸ z) h10⟩
  · rw [ps_a_ua, if_neg (by omega), e _ (by decide), er]
    exact m1
  · rw [pv_set_k hj (by omega), ps_a_ua]
    by_cases em : m = j
    · rw [if_pos ⟨by omega, rfl⟩, if_pos em]
      exact hv
    · rw [if_neg (by omega), if_neg em]
      rw [er] at hm2
      rw [e (1153 + m) (by rcases (show m = 0 ∨ m = 1 ∨ m = 2 by omega) with rfl | rfl | rfl <;> decide)]
      exact m2 m (by omega) hm2

theorem fm_238_88 {n ph : Nat} (h1 : x1.toInt = i) (hi : i < 40) (h2 : x2.toInt = (kd c.1.1 : Nat)) (ho : tp_ok c.1.1) (X : rv_X T N h s0 s b i P c fr q ph C0) (hph : pvj c.1.1 2 ph) (M : rq5j s i c 2) (k1 : ∀ s', rv_ok T N h s0 s' b i P C0 → R s') (k0 : ∀ s', rv_B T N h s0 s' i C0 → R s') : pl_At n 238 88 [(0, .ref 1131), (1, .int x1), (2, .int x2)] [] s (ps_rV R) := by
  cases n with
  | zero => exact pl_At_0
  | succ n =>
  refine pl_238_88 (fm_234 h2 ho (fun v hv => ⟨fun w => ?_, fun w => ?_⟩))
  · have w : v.toInt ≤ 2 := xle w
    exact fm_238_106j h1 hi h2 ho X (pvj_skip hph (by omega)) ⟨M.1, fun m _ hm => M.2.1 m (by omega) hm, M.2.2⟩ k1 k0
  · have w : 2 < v.toInt := xlt w
    have hj : 2 < tp_nn c.1.1 := by omega
    obtain ⟨h10, rfl⟩ := pvj_at hph hj
    refine fm_237 X.1 (fun t4 v1 s1 hv1 A => fun _ => ?_) (fun t4 v1 s1 q1 => fun _ => ?_)
    · rw [xtn h1]
      obtain ⟨ph', X', hph'⟩ := rv_X_num (v := v1) X hj (by decide) h10 t4 A (r := 1155) (by decide)
      have er := (pv_set_r (c := c) (j := 2) (v := (tx_tok T N q).2.2.2.2)).1
      exact fm_238_106j h1 hi (by rw [er]; exact h2) (by rw [er]; exact ho) X' (by rw [er]; exact hph') (rq5j_num M A.1 (by decide) (by decide) h10 hv1) k1 k0
    · rw [xtn h1]
      exact fm_238_106b h1 h2 ho (rv_B_a (rv_X_no (Y := (P, c)) (fr' := fr) X q1.2.2 (pv_nno hj (by decide) t4) tx_bk_0 q1.1 q1.2.1) (by decide)) k0
theorem fm_238_70 {n ph : Nat} (h1 : x1.toInt = i) (hi : i < 40) (h2 : x2.toInt = (kd c.1.1 : Nat)) (ho : tp_ok c.1.1) (X : rv_X T N h s0 s b i P c fr q ph C0) (hph : pvj c.1.1 1 ph) (M : rq5j s i c 1) (k1 : ∀ s', rv_ok T N h s0 s' b i P C0 → R s') (k0 : ∀ s', rv_B T N h s0 s' i C0 → R s') : pl_At n 238 70 [(0, .ref 1131), (1, .int x1), (2, .int x2)] [] s (ps_rV R) := by
  cases n with
  | zero => exact pl_At_0
  | succ n =>
  refine pl_238_70 (fm_234 h2 ho (fun v hv => ⟨fun w => ?_, fun w => ?_⟩))
  · have w : v.toInt ≤ 1 := xle w
    exact fm_238_88 h1 hi h2 ho X (pvj_skip hph (by omega)) ⟨M.1, fun m _ hm => M.2.1 m (by omega) hm, M.2.2⟩ k1 k0
  · have w : 1 < v.toInt := xlt w
    have hj : 1 < tp_nn c.1.1 := by omega
    obtain ⟨h10, rfl⟩ := pvj_at hph hj
    refine fm_237 X.1 (fun t4 v1 s1 hv1 A => fun _ => ?_) (fun t4 v1 s1 q1 => fun _ => ?_)
    · rw [xtn h1]
      obtain ⟨ph', X', hph'⟩ := rv_X_num (v := v1) X hj (by decide) h10 t4 A (r := 1154) (by decide)
      have er := (pv_set_r (c := c) (j := 1) (v := (tx_tok T N q).2.2.2.2)).1
      exact fm_238_88 h1 hi (by rw [er]; exact h2) (by rw [er]; exact ho) X' (by rw [er]; exact hph') (rq5j_num M A.1 (by decide) (by decide) h10 hv1) k1 k0
    · rw [xtn h1]
      exact fm_238_88b h1 h2 ho (rv_B_a (rv_X_no (Y := (P, c)) (fr' := fr) X q1.2.2 (pv_nno hj (by decide) t4) tx_bk_0 q1.1 q1.2.1) (by decide)) k0
theorem fm_238_53 {n ph : Nat} (h1 : x1.toInt = i) (hi : i < 40) (h2 : x2.toInt = (kd c.1.1 : Nat)) (ho : tp_ok c.1.1) (X : rv_X T N h s0 s b i P c fr q ph C0) (hph : pvj c.1.1 0 ph) (M : rq5j s i c 0) (k1 : ∀ s', rv_ok T N h s0 s' b i P C0 → R s') (k0 : ∀ s', rv_B T N h s0 s' i C0 → R s') : pl_At n 238 53 [(0, .ref 1131), (1, .int x1), (2, .int x2)] [] s (ps_rV R) := by
  cases n with
  | zero => exact pl_At_0
  | succ n =>
  refine pl_238_53 (fm_234 h2 ho (fun v hv => ⟨fun w => ?_, fun w => ?_⟩))
  · have w : v.toInt ≤ 0 := xle w
    exact fm_238_70 h1 hi h2 ho X (pvj_skip hph (by omega)) ⟨M.1, fun m _ hm => M.2.1 m (by omega) hm, M.2.2⟩ k1 k0
  · have w : 0 < v.toInt := xlt w
    have hj : 0 < tp_nn c.1.1 := by omega
    obtain ⟨h10, rfl⟩ := pvj_at hph hj
    refine fm_237 X.1 (fun t4 v1 s1 hv1 A => fun _ => ?_) (fun t4 v1 s1 q1 => fun _ => ?_)
    · rw [xtn h1]
      obtain ⟨ph', X', hph'⟩ := rv_X_num (v := v1) X hj (by decide) h10 t4 A (r := 1153) (by decide)
      have er := (pv_set_r (c := c) (j := 0) (v := (tx_tok T N q).2.2.2.2)).1
      exact fm_238_70 h1 hi (by rw [er]; exact h2) (by rw [er]; exact ho) X' (by rw [er]; exact hph') (rq5j_num M A.1 (by decide) (by decide) h10 hv1) k1 k0
    · rw [xtn h1]
      exact fm_238_70b h1 h2 ho (rv_B_a (rv_X_no (Y := (P, c)) (fr' := fr) X q1.2.2 (pv_nno hj (by decide) t4) tx_bk_0 q1.1 q1.2.1) (by decide)) k0
/-- the axiom that a step names -/
theorem rv_L0_q {A F : List Nat} {s' : ps_S} (L : rv_L0 s b T N h q) (K : kq A F s s') (hA : A.all (fun a => [1152, 1153, 1154, 1155, 1156].contains a) = true) (hF : F.all (fun a => [5, 6, 42].contains a) = true) : rv_L0 s' b T N h q := by
  have K2 : kq [1152, 1153, 1154, 1155, 1156] [5, 6, 42] s s' := kqt kq_refl K hA hF
  obtain ⟨l1, l2, l3, l4, l5⟩ := L
  exact ⟨l1, by rw [kq_i K2 22 (by decide)]; exact l2, mv_H_kq l3 K2 (by decide), l4, mv_K_kq l5 K2 (by decide)⟩
theorem fm_239_32b {n : Nat} (h1 : x1.toInt = i) (L : rv_L0 s b T N h q) (B : rv_B T N h s0 s i C0) (k0 : ∀ s', rv_B T N h s0 s' i C0 → R s') : pl_At n 239 32 [(0, .ref 1131), (1, .int x1)] [] s (ps_rV R) := by
  cases n with
  | zero => exact pl_At_0
  | succ n =>
  refine pl_239_32 (fm_205p L (fun v _ => fun _ => ?_))
  rw [xtn h1]
  have B2 : rv_B T N h s0 (ps_ua s 1153 i v) i C0 := rv_B_a B (by decide)
  exact fm_192 (fun z => absurd z (rv_B_5 B2)) (fun _ => ⟨fun _ => k0 _ B2, fun w => absurd rfl w⟩)
theorem fm_239 {n : Nat} (h1 : x1.toInt = i) (hi : i < 40) (hr : c.1.1 = 10) (X : rv_X T N h s0 s b i P c fr q 8 C0) (k1 : ∀ s', (∃ a q', rv_X T N h s0 s' b i P (c.1, (a, c.2.1.2), c.2.2) fr q' 9 C0 ∧ (ps_a s' 1153 i).toInt = a ∧ ps_a s' 1152 = ps_a s 1152) → R s') (k0 : ∀ s', rv_B T N h s0 s' i C0 → R s') : pl_Cl n 239 [.ref 1131, .int x1] s (ps_rV R) := by
  cases n with
  | zero => exact pl_At_0
  | succ n =>
  show pl_At (n + 1) 239 0 [(0, .ref 1131), (1, .int x1)] [] s (ps_rV R)
  obtain ⟨L, g, K, e42⟩ := id X
  obtain ⟨⟨l1, l2, l3, l4, l5⟩, l6, l7, l8⟩ := id L
  have h9 := l5.1
  have hok := tx_tok_ok (T := T) l4
  refine pl_239_0 ⟨fun w => ?_, fun w => ?_⟩
  · have w : (ps_i s 1131 9).toInt = 2 := xeq w
    have h2 : (tx_tok T N q).1 = 2 := by omega
    refine fm_205p L.1 (fun v hv => ⟨fun w1 => ?_, fun w1 => ?_⟩)
    · have w1 : 0 ≤ v.toInt := xle w1
      rw [if_pos h2] at hv
      cases ha : tx_at (tx_A h) (tx_tok T N q).2.2.2.1 with
      | none =>
        have := hv.2 ha
        omega
      | some a =>
      cases n with
      | zero => exact pl_At_0
      | succ n =>
      refine pl_239_32 (fm_205p L.1 (fun v2 hv2 => fun _ => ?_))
      rw [xtn h1]
      rw [if_pos h2] at hv2
      have e2 := hv2.1 a ha
      have K2 : kq [1153] [] s (ps_ua s 1153 i v2) := kqa kq_refl (by decide)
      have L2 := rv_L_q L K2 (by decide) (by decide)
      refine fm_192 (fun _ => ⟨fun w => absurd w (by decide), fun _ => ?_⟩) (fun z => absurd L2.2.2.2.1 z)
      refine fs_194 L2.2.1 L2.1.2.2.2.2.2.2.1 hok.2.1 (fun s2 q2 => ?_)
      refine k1 _ ⟨a, _, ⟨rv_L_adv L2 hok.2.1 q2, gt_trans g (gt_one ?_), KRd_q (KRd_a K (by decide)) q2.1 (by decide) (by decide), ?_⟩, ?_, ?_⟩
      · rw [pv_st_8]
        unfold pv_8
        rw [if_pos hr, if_pos h2, ha]
        try rfl
      · rw [kq_i q2.1 42 (by decide)]
        exact e42
      · rw [kq_a q2.1 1153 (by decide), ps_a_ua, if_pos ⟨rfl, rfl⟩]
        exact e2
      · rw [kq_a q2.1 1152 (by decide), kq_a K2 1152 (by decide)]
    · have w1 : v.toInt < 0 := xlt w1
      have ha := (tx_opt_n hv).mp w1
      rw [if_pos h2] at ha
      refine fm_191 l8.1 ?_
      have K2 : kq [] [5, 6] s (ps_ui (ps_ui s 1131 5 6) 1131 6 (ps_i s 1131 7)) := kqi (kqi kq_refl (by decide)) (by decide)
      refine fm_239_32b h1 (rv_L0_q L.1 K2 (by decide) (by decide)) (rv_X_no (Y := (P, c)) (fr' := fr) (k := 6) (pl := (tx_tok T N q).2.1) X K2 (gt_one ?_) (by decide) rfl l5.2.1) k0
      rw [pv_st_8]
      unfold pv_8
      rw [if_pos hr, if_pos h2, ha]
      try rfl
  · have w : (ps_i s 1131 9).toInt ≠ 2 := xne w
    refine fm_196 l8.1 l5 (fun s1 q1 => ?_)
    refine fm_239_32b h1 (rv_L0_q L.1 q1.2.2 (by decide) (by decide)) (rv_X_no (Y := (P, c)) (fr' := fr) X q1.2.2 (gt_one ?_) tx_bk_0 q1.1 q1.2.1) k0
    rw [pv_st_8]
    unfold pv_8
    rw [if_pos hr, if_neg (by omega)]
theorem fm_238_24b {n : Nat} (B : rv_B T N h s0 s i C0) (k0 : R s) : pl_At n 238 24 [(0, .ref 1131), (1, .int x1), (2, .int x2)] [] s (ps_rV R) := by
  cases n with
  | zero => exact pl_At_0
  | succ n =>
  exact pl_238_24 (fm_192 (fun z => absurd z (rv_B_5 B)) (fun _ => ⟨fun w => absurd rfl w, fun _ => k0⟩))
theorem fm_238_20 {n : Nat} (X : rv_X T N h s0 s b i P c fr q 0 C0) (h0 : (tx_tok T N q).1 ≠ 0) (hno : ¬ ((tx_tok T N q).1 = 3 ∧ tp_ok (tx_tok T N q).2.2.2.2 ∧ P.length < 40)) (k0 : ∀ s', rv_B T N h s0 s' i C0 → ps_a s' 1134 = ps_a s 1134 → R s') : pl_At n 238 20 [(0, .ref 1131), (1, .int x1), (2, .int x2)] [] s (ps_rV R) := by
  cases n with
  | zero => exact pl_At_0
  | succ n =>
  refine pl_238_20 (fm_196 X.1.2.2.2.1 X.1.1.2.2.2.2 (fun s1 q1 => ?_))
  have B : rv_B T N h s0 s1 i C0 := rv_X_no (Y := (P, c)) (fr' := fr) X q1.2.2 (gt_one (by
    rw [pv_st_0]
    unfold pv_0
    rw [if_neg h0, if_neg hno])) tx_bk_0 q1.1 q1.2.1
  exact fm_238_24b B (k0 _ B (kq_a q1.2.2 1134 (by decide)))
theorem fm_238_24 {n : Nat} (h1 : x1.toInt = i) (hi : i < 40) (hPi : P.length = i) (h2 : x2.toInt = (kd (tx_tok T N q).2.2.2.2 : Nat)) (h3 : (tx_tok T N q).1 = 3) (ho : tp_ok (tx_tok T N q).2.2.2.2) (X : rv_X T N h s0 s b i P c fr q 0 C0) (k1 : ∀ s', rv_ok T N h s0 s' b i P C0 → R s') (k0 : ∀ s', rv_B T N h s0 s' i C0 → R s') : pl_At n 238 24 [(0, .ref 1131), (1, .int x1), (2, .int x2)] [] s (ps_rV R) := by
  cases n with
  | zero => exact pl_At_0
  | succ n =>
  obtain ⟨L, g, K, e42⟩ := id X
  obtain ⟨⟨l1, l2, l3, l4, l5⟩, l6, l7, l8⟩ := id L
  have hb := (tx_tok_ok (T := T) l4).2.1
  obtain ⟨-, -, -, c4, -⟩ := kd_c ho
  refine pl_238_24 (fm_192 (fun _ => ⟨fun _ => ?_, fun w => absurd w (by decide)⟩) (fun z => absurd l8.1 z))
  refine fs_194 l6 l5.2.2.1 hb (fun s1 q1 => fun _ => ?_)
  rw [xtn h1]
  have K2 : kq [1152] [] s1 (ps_ua s1 1152 i x2) := kqa kq_refl (by decide)
  have X5 : rv_X T N h s0 (ps_ua s1 1152 i x2) b i P (((tx_tok T N q).2.2.2.2, 0, 0, 0), (0, 0), [], []) fr (tx_tok T N q).2.2.1 5 C0 := by
    refine ⟨rv_L_q (rv_L_adv L hb q1) K2 (by decide) (by decide), gt_trans g (gt_one ?_), KRd_a (KRd_q K q1.1 (by decide) (by decide)) (by decide), ?_⟩
    · rw [pv_st_0]
      unfold pv_0
      rw [if_neg (by omega), if_pos ⟨h3, ho, by omega⟩]
    · show (ps_i s1 1131 42).toInt = i
      rw [kq_i q1.1 42 (by decide)]
      exact e42
  have e52 : (ps_a (ps_ua s1 1152 i x2) 1152 i).toInt = (kd (tx_tok T N q).2.2.2.2 : Nat) := by
    rw [ps_a_ua, if_pos ⟨rfl, rfl⟩]
    exact h2
  refine ⟨fun w => ?_, fun w => ?_⟩
  · have w : x2.toInt ≠ 1 := xne w
    have h10 : (tx_tok T N q).2.2.2.2 ≠ 10 := fun z => by
      have := c4.mpr z
      omega
    have M : rq5j (ps_ua s1 1152 i x2) i (((tx_tok T N q).2.2.2.2, 0, 0, 0), (0, 0), [], []) 0 := ⟨e52, fun m hm => absurd hm (Nat.not_lt_zero _), fun z => absurd z h10⟩
    by_cases hn : 0 < tp_nn (tx_tok T N q).2.2.2.2
    · exact fm_238_53 h1 hi h2 ho X5 (Or.inr ⟨h10, Or.inl ⟨hn, rfl⟩⟩) M k1 k0
    · exact fm_238_53 h1 hi h2 ho (rv_X_eps X5 (pv_to8 (j := 0) (by decide) (show 0 = tp_nn (tx_tok T N q).2.2.2.2 by omega))) (Or.inr ⟨h10, Or.inr ⟨(show tp_nn (tx_tok T N q).2.2.2.2 ≤ 0 by omega), rfl⟩⟩) M k1 k0
  · have w : x2.toInt = 1 := xeq w
    have h10 : (tx_tok T N q).2.2.2.2 = 10 := c4.mp (by omega)
    refine fm_239 h1 hi h10 (rv_X_eps X5 (pv_to8 (j := 0) (by decide) (show 0 = tp_nn (tx_tok T N q).2.2.2.2 by rw [h10]; rfl))) (fun s2 q2 => ?_) (fun s2 q2 => fm_238_53b h1 h2 ho q2 k0)
    obtain ⟨a, q', X9, e53, eq52⟩ := q2
    exact fm_238_53 (c := (((tx_tok T N q).2.2.2.2, 0, 0, 0), (a, 0), [], [])) h1 hi h2 ho X9 (Or.inl ⟨h10, rfl⟩) ⟨by rw [eq52]; exact e52, fun m hm => absurd hm (Nat.not_lt_zero _), fun _ => e53⟩ k1 k0
theorem fm_238 {n : Nat} (hi : i ≤ 40) (hPi : P.length = i) (h0 : (tx_tok T N q).1 ≠ 0) (X : rv_X T N h s0 s b i P c fr q 0 C0) (k1 : ∀ s', i < 40 → rv_ok T N h s0 s' b i P C0 → R s') (k0 : ∀ s', rv_B T N h s0 s' i C0 → (i < 40 ∨ ps_a s' 1134 = ps_a s 1134) → R s') : pl_Cl n 238 [.ref 1131] s (ps_rV R) := by
  cases n with
  | zero => exact pl_At_0
  | succ n =>
  show pl_At (n + 1) 238 0 [(0, .ref 1131)] [] s (ps_rV R)
  have l4 := X.1.1.2.2.2.1
  have l5 := X.1.1.2.2.2.2
  have e42 := X.2.2.2
  refine pl_238_0 (fm_233 l4 l5 (fun v h3 ho hv => ⟨fun w => ?_, fun _ => ⟨fun w => ?_, fun w => ?_⟩⟩) (fun v hno hv => ⟨fun _ => ?_, fun w => ?_⟩))
  · have w : v.toInt < 0 := xlt w
    omega
  · have w : (ps_i s 1131 42).toInt ≠ 40 := xne w
    have hi' : i < 40 := by omega
    exact fm_238_24 e42 hi' hPi hv h3 ho X (fun s' => k1 s' hi') (fun s' B => k0 s' B (Or.inl hi'))
  · have w : (ps_i s 1131 42).toInt = 40 := xeq w
    exact fm_238_20 X h0 (fun z => by omega) (fun s' B e => k0 s' B (Or.inr e))
  · exact fm_238_20 X h0 (fun z => hno ⟨z.1, z.2.1⟩) (fun s' B e => k0 s' B (Or.inr e))
  · have w : 0 ≤ v.toInt := xle w
    omega
end RVD

