set_option maxRecDepth 100000
/-! boxes of the reference; about, alike, fault on both sides -/
theorem rowB {x1 x2 : Int32} {b i : Nat} (h1 : x1.toInt = b) (hb : b < 3) (h2 : x2.toInt = i) (hi : i < 12) : (((12 : Int32) * x1) + x2).toInt = (12 * b + i : Nat) ∧ ((25830 : Int32) + ((41 : Int32) * (((12 : Int32) * x1) + x2))).toInt = (25830 + 41 * (12 * b + i) : Nat) := by
  have e1 : ((12 : Int32) * x1).toInt = (12 * b : Nat) := xImN (by decide) h1 (by omega)
  have e2 : (((12 : Int32) * x1) + x2).toInt = (12 * b + i : Nat) := by rw [xIa (by omega) (by omega), e1, h2]; omega
  have e3 : ((41 : Int32) * (((12 : Int32) * x1) + x2)).toInt = (41 * (12 * b + i) : Nat) := xImN (by decide) e2 (by omega)
  have c : (25830 : Int32).toInt = 25830 := by decide
  refine ⟨e2, ?_⟩
  rw [xIa (by omega) (by omega), c, e3]
  omega
section BXM
variable {Θ : List tq_H} {B : bx_T} {s0 : ps_S} {x1 : Int32} {R : Int32 → ps_S → Prop} {j : Nat}
/-- what image() may change -/
def KI (j : Nat) (s0 s : ps_S) : Prop := kq [1134, 1176, 1177, 1178] [] s0 s ∧ (∀ q, (q < 25830 + 492 * j ∨ 25830 + 492 * j + 492 ≤ q) → ps_a s 1134 q = ps_a s0 1134 q) ∧ (∀ q, q ≠ j → ps_a s 1176 q = ps_a s0 1176 q) ∧ ∀ q, (q < 12 * j ∨ 12 * j + 12 ≤ q) → ps_a s 1177 q = ps_a s0 1177 q ∧ ps_a s 1178 q = ps_a s0 1178 q
theorem fm_305_23 (S : mSh s0 Θ) (h1 : x1.toInt = j) (hj : j < 3) (k : ∀ (v : Int32) (s' : ps_S), v.toInt = Θ.length → mBs s' j Θ → KI j s0 s' → R v s') : ∀ (n : Nat) {s : ps_S} {x2 : Int32} {i : Nat}, x2.toInt = i → i ≤ Θ.length → KI j s0 s → (ps_a s 1176 j).toInt = Θ.length → (∀ (m : Nat) (q : tq_H), m < i → Θ[m]? = some q → mv_W s (25830 + 41 * (12 * j + m)) q.1 ∧ ps_a s 1177 (12 * j + m) = q.2.1 ∧ ps_a s 1178 (12 * j + m) = q.2.2.1) → pl_At n 305 23 [(0, .ref 1131), (1, .int x1), (2, .int x2)] [] s (ps_rI R)
  | 0, _, _, _, _, _, _, _, _ => pl_At_0
  | n + 1, s, x2, i, h2, hi, K, e76, hm => by
    obtain ⟨z1, z2, z3⟩ := id S
    obtain ⟨k1, k2, k3, k4⟩ := id K
    have e54 : (ps_i s 1131 54).toInt = Θ.length := by rw [kq_i k1 54 (by decide)]; exact z1
    refine pl_305_23 ⟨fun w => ?_, fun w => ?_⟩
    · have w := xle w
      exact k _ _ e54 ⟨e76, z2, fun m q hq => hm m q (by have := (List.getElem?_eq_some_iff.mp hq).1; omega) hq⟩ K
    · have w := xlt w
      have hiΘ : i < Θ.length := by omega
      obtain ⟨q, hq⟩ : ∃ q, Θ[i]? = some q := ⟨_, List.getElem?_eq_getElem hiΘ⟩
      obtain ⟨W, a1, a2⟩ := z3 i q hq
      obtain ⟨eb, er⟩ := rowB h1 hj h2 (show i < 12 by omega)
      have W1 : mv_W s (21320 + 41 * i) q.1 := mv_W_V W (fun r a b => k2 r (by omega))
      refine fm_224 (rowH h2 (by omega)) er (by omega) (by omega) (by omega) W1 (fun s1 W2 K1 P1 => ?_)
      rw [xtn h2, xtn eb]
      intro _ _ _ _
      have y1 : ps_a s1 1161 i = q.2.1 := by rw [kq_a K1 1161 (by decide), kq_a k1 1161 (by decide)]; exact a1
      have y2 : ps_a (ps_ua s1 1177 (12 * j + i) (ps_a s1 1161 i)) 1162 i = q.2.2.1 := by
        rw [ps_a_ua, if_neg (by omega), kq_a K1 1162 (by decide), kq_a k1 1162 (by decide)]
        exact a2
      rw [y2, y1]
      have K2 : kq [1177, 1178] [] s1 (ps_ua (ps_ua s1 1177 (12 * j + i) q.2.1) 1178 (12 * j + i) q.2.2.1) := kqa (kqa kq_refl (by decide)) (by decide)
      have b7 : ∀ m, ps_a (ps_ua (ps_ua s1 1177 (12 * j + i) q.2.1) 1178 (12 * j + i) q.2.2.1) 1177 m = if m = 12 * j + i then q.2.1 else ps_a s 1177 m := fun m => by
        rw [ps_a_ua, if_neg (by omega), ps_a_ua]
        by_cases e : m = 12 * j + i
        · rw [if_pos ⟨rfl, e⟩, if_pos e]
        · rw [if_neg (fun z => e z.2), if_neg e, kq_a K1 1177 (by decide)]
      have b8 : ∀ m, ps_a (ps_ua (ps_ua s1 1177 (12 * j + i) q.2.1) 1178 (12 * j + i) q.2.2.1) 1178 m = if m = 12 * j + i then q.2.2.1 else ps_a s 1178 m := fun m => by
        rw [ps_a_ua]
        by_cases e : m = 12 * j + i
        · rw [if_pos ⟨rfl, e⟩, if_pos e]
        · rw [if_neg (fun z => e z.2), if_neg e, ps_a_ua, if_neg (by omega), kq_a K1 1178 (by decide)]
      have V : ∀ r, ps_a (ps_ua (ps_ua s1 1177 (12 * j + i) q.2.1) 1178 (12 * j + i) q.2.2.1) 1134 r = ps_a s1 1134 r := fun r => by rw [kq_a K2 1134 (by decide)]
      have e6 : ∀ r, ps_a (ps_ua (ps_ua s1 1177 (12 * j + i) q.2.1) 1178 (12 * j + i) q.2.2.1) 1176 r = ps_a s 1176 r := fun r => by rw [kq_a K2 1176 (by decide), kq_a K1 1176 (by decide)]
      generalize ps_ua (ps_ua s1 1177 (12 * j + i) q.2.1) 1178 (12 * j + i) q.2.2.1 = s2 at K2 b7 b8 V e6 ⊢
      refine fm_305_23 S h1 hj k n (i := i + 1) (xj1 h2 (by omega)) (by omega) ⟨kqt (kqt k1 K1 (by decide) (by decide)) K2 (by decide) (by decide), fun r hr => ?_, fun r hr => (e6 r).trans (k3 r hr), fun r hr => ⟨?_, ?_⟩⟩ (by rw [e6]; exact e76) (fun m q' hmi hq' => ?_)
      · rw [V, P1 r (by omega)]
        exact k2 r hr
      · rw [b7, if_neg (by omega)]
        exact (k4 r hr).1
      · rw [b8, if_neg (by omega)]
        exact (k4 r hr).2
      · by_cases em : m = i
        · rw [em] at hq' ⊢
          have e := Option.some.inj (hq.symm.trans hq')
          subst e
          exact ⟨mv_W_V W2 (fun r _ _ => V r), by rw [b7, if_pos rfl], by rw [b8, if_pos rfl]⟩
        · obtain ⟨w1, w2, w3⟩ := hm m q' (by omega) hq'
          exact ⟨mv_W_V w1 (fun r a b => (V r).trans (P1 r (by omega))), by rw [b7, if_neg (by omega)]; exact w2, by rw [b8, if_neg (by omega)]; exact w3⟩
theorem fm_305 {n : Nat} (S : mSh s0 Θ) (H : mBx s0 B) (k : ∀ (v : Int32) (s' : ps_S) B', im_is x1 Θ B v B' → mBx s' B' → kq [1134, 1176, 1177, 1178] [] s0 s' → (∀ q, q < 25830 → ps_a s' 1134 q = ps_a s0 1134 q) → R v s') : pl_Cl n 305 [.ref 1131, .int x1] s0 (ps_rI R) := by
  cases n with
  | zero => exact pl_At_0
  | succ n =>
  show pl_At (n + 1) 305 0 [(0, .ref 1131), (1, .int x1)] [] s0 (ps_rI R)
  have c0 : (0 : Int32).toInt = 0 := Int32.toInt_zero
  have c2 : (2 : Int32).toInt = 2 := by decide
  refine pl_305_0 (fm_200 (fun y1 y2 => ⟨fun _ => fun _ => ?_, fun w => absurd w (by decide)⟩) (fun y => ⟨fun w => absurd rfl w, fun _ => k _ _ B (Or.inr ⟨by omega, by decide, rfl⟩) H kq_refl (fun _ _ => rfl)⟩))
  obtain ⟨j, hj⟩ : ∃ j : Nat, x1.toInt = j := ⟨x1.toInt.toNat, by omega⟩
  have hj3 : j < 3 := by omega
  rw [xtn hj]
  have K1 : kq [1176] [] s0 (ps_ua s0 1176 j (ps_i s0 1131 54)) := kqa kq_refl (by decide)
  refine fm_305_23 (s0 := s0) S hj hj3 (fun v s' hv hB K => ?_) n (i := 0) rfl (Nat.zero_le _) ⟨kqt kq_refl K1 (by decide) (by decide), fun q _ => by rw [kq_a K1 1134 (by decide)], fun q hq => by rw [ps_a_ua, if_neg (fun z => hq z.2)], fun q _ => ⟨by rw [kq_a K1 1177 (by decide)], by rw [kq_a K1 1178 (by decide)]⟩⟩ (by rw [ps_a_ua, if_pos ⟨rfl, rfl⟩]; exact S.1) (fun m q a => absurd a (Nat.not_lt_zero _))
  obtain ⟨k1, k2, k3, k4⟩ := K
  refine k _ _ (bx_up B j Θ) (Or.inl ⟨j, hj3, hj, hv, rfl⟩) (fun m hm => ?_) k1 (fun q hq => k2 q (by omega))
  by_cases em : m = j
  · subst em
    refine ⟨fun Θ' hΘ => ?_, fun hn => ?_⟩
    · unfold bx_up at hΘ
      rw [if_pos rfl] at hΘ
      have e := Option.some.inj hΘ
      subst e
      exact hB
    · unfold bx_up at hn
      rw [if_pos rfl] at hn
      cases hn
  · obtain ⟨a, b⟩ := H m hm
    have eB : bx_up B j Θ m = B m := by
      unfold bx_up
      rw [if_neg em]
    rw [eB]
    refine ⟨fun Θ' hΘ => ?_, fun hn => by rw [k3 m em]; exact b hn⟩
    obtain ⟨y1, y2, y3⟩ := a Θ' hΘ
    refine ⟨by rw [k3 m em]; exact y1, y2, fun i q hq => ?_⟩
    have hil := (List.getElem?_eq_some_iff.mp hq).1
    obtain ⟨w1, w2, w3⟩ := y3 i q hq
    obtain ⟨u1, u2⟩ := k4 (12 * m + i) (by omega)
    exact ⟨mv_W_V w1 (fun r a b => k2 r (by omega)), by rw [u1]; exact w2, by rw [u2]; exact w3⟩
/-- back(): what it may change -/
def KB2 (s0 s : ps_S) : Prop := kq [1134, 1161, 1162] [47, 48, 49, 54] s0 s ∧ mpoS s0 s
theorem fm_306_32 (S : mBs s0 j Θ) (h1 : x1.toInt = j) (hj : j < 3) (k : ∀ (v : Int32) (s' : ps_S), v.toInt = Θ.length → mSh s' Θ → mpP s' [] 0 → KB2 s0 s' → R v s') : ∀ (n : Nat) {s : ps_S} {x2 : Int32} {i : Nat}, x2.toInt = i → i ≤ Θ.length → KB2 s0 s → (ps_i s 1131 54).toInt = Θ.length → (∀ (m : Nat) (q : tq_H), m < i → Θ[m]? = some q → mv_W s (21320 + 41 * m) q.1 ∧ ps_a s 1161 m = q.2.1 ∧ ps_a s 1162 m = q.2.2.1) → pl_At n 306 32 [(0, .ref 1131), (1, .int x1), (2, .int x2)] [] s (ps_rI R)
  | 0, _, _, _, _, _, _, _, _ => pl_At_0
  | n + 1, s, x2, i, h2, hi, K, e54, hm => by
    obtain ⟨z1, z2, z3⟩ := id S
    obtain ⟨k1, k2⟩ := id K
    refine pl_306_32 ⟨fun w => ?_, fun w => ?_⟩
    · have w := xle w
      refine fm_272 ?_
      have Kq : kq [] [47, 48, 49] s (ps_ui (ps_ui (ps_ui s 1131 47 0) 1131 48 (-1)) 1131 49 (-1)) := kqi (kqi (kqi kq_refl (by decide)) (by decide)) (by decide)
      have S1 : mSh s Θ := ⟨e54, z2, fun m q hq => hm m q (by have := (List.getElem?_eq_some_iff.mp hq).1; omega) hq⟩
      refine k _ _ (by rw [kq_i Kq 54 (by decide)]; exact e54) (mSh_q S1 Kq (by decide)) mpP_0 ⟨kqt k1 Kq (by decide) (by decide), fun q hq => by rw [kq_a Kq 1134 (by decide)]; exact k2 q hq⟩
    · have w := xlt w
      have hiΘ : i < Θ.length := by omega
      obtain ⟨q, hq⟩ : ∃ q, Θ[i]? = some q := ⟨_, List.getElem?_eq_getElem hiΘ⟩
      obtain ⟨W, a1, a2⟩ := z3 i q hq
      obtain ⟨eb, er⟩ := rowB h1 hj h2 (show i < 12 by omega)
      have W1 : mv_W s (25830 + 41 * (12 * j + i)) q.1 := mv_W_V W (fun r a b => k2 r (by omega))
      refine fm_224 er (rowH h2 (by omega)) (by omega) (by omega) (by omega) W1 (fun s1 W2 K1 P1 => ?_)
      rw [xtn h2, xtn eb]
      intro _ _ _ _
      have y1 : ps_a s1 1177 (12 * j + i) = q.2.1 := by rw [kq_a K1 1177 (by decide), kq_a k1 1177 (by decide)]; exact a1
      have y2 : ps_a (ps_ua s1 1161 i (ps_a s1 1177 (12 * j + i))) 1178 (12 * j + i) = q.2.2.1 := by
        rw [ps_a_ua, if_neg (by omega), kq_a K1 1178 (by decide), kq_a k1 1178 (by decide)]
        exact a2
      rw [y2, y1]
      have K2 : kq [1161, 1162] [] s1 (ps_ua (ps_ua s1 1161 i q.2.1) 1162 i q.2.2.1) := kqa (kqa kq_refl (by decide)) (by decide)
      have b7 : ∀ m, ps_a (ps_ua (ps_ua s1 1161 i q.2.1) 1162 i q.2.2.1) 1161 m = if m = i then q.2.1 else ps_a s 1161 m := fun m => by
        rw [ps_a_ua, if_neg (by omega), ps_a_ua]
        by_cases e : m = i
        · rw [if_pos ⟨rfl, e⟩, if_pos e]
        · rw [if_neg (fun z => e z.2), if_neg e, kq_a K1 1161 (by decide)]
      have b8 : ∀ m, ps_a (ps_ua (ps_ua s1 1161 i q.2.1) 1162 i q.2.2.1) 1162 m = if m = i then q.2.2.1 else ps_a s 1162 m := fun m => by
        rw [ps_a_ua]
        by_cases e : m = i
        · rw [if_pos ⟨rfl, e⟩, if_pos e]
        · rw [if_neg (fun z => e z.2), if_neg e, ps_a_ua, if_neg (by omega), kq_a K1 1162 (by decide)]
      have V : ∀ r, ps_a (ps_ua (ps_ua s1 1161 i q.2.1) 1162 i q.2.2.1) 1134 r = ps_a s1 1134 r := fun r => by rw [kq_a K2 1134 (by decide)]
      have e5 : ps_i (ps_ua (ps_ua s1 1161 i q.2.1) 1162 i q.2.2.1) 1131 54 = ps_i s 1131 54 := by rw [kq_i K2 54 (by decide), kq_i K1 54 (by decide)]
      generalize ps_ua (ps_ua s1 1161 i q.2.1) 1162 i q.2.2.1 = s2 at K2 b7 b8 V e5 ⊢
      refine fm_306_32 S h1 hj k n (i := i + 1) (xj1 h2 (by omega)) (by omega) ⟨kqt (kqt k1 K1 (by decide) (by decide)) K2 (by decide) (by decide), fun r hr => ?_⟩ (by rw [e5]; exact e54) (fun m q' hmi hq' => ?_)
      · rw [V, P1 r (by omega)]
        exact k2 r hr
      · by_cases em : m = i
        · rw [em] at hq' ⊢
          have e := Option.some.inj (hq.symm.trans hq')
          subst e
          exact ⟨mv_W_V W2 (fun r _ _ => V r), by rw [b7, if_pos rfl], by rw [b8, if_pos rfl]⟩
        · obtain ⟨w1, w2, w3⟩ := hm m q' (by omega) hq'
          exact ⟨mv_W_V w1 (fun r a b => (V r).trans (P1 r (by omega))), by rw [b7, if_neg (by omega)]; exact w2, by rw [b8, if_neg (by omega)]; exact w3⟩
theorem fm_306 {n : Nat} (H : mBx s0 B) (k1 : ∀ (v : Int32) (s' : ps_S) Θ', bk_is x1 Θ B v Θ' True → mSh s' Θ' → mpP s' [] 0 → KB2 s0 s' → R v s') (k0 : ∀ v, bk_is x1 Θ B v Θ False → R v s0) : pl_Cl n 306 [.ref 1131, .int x1] s0 (ps_rI R) := by
  cases n with
  | zero => exact pl_At_0
  | succ n =>
  show pl_At (n + 1) 306 0 [(0, .ref 1131), (1, .int x1)] [] s0 (ps_rI R)
  have c0 : (0 : Int32).toInt = 0 := Int32.toInt_zero
  have c2 : (2 : Int32).toInt = 2 := by decide
  refine pl_306_0 (fm_200 (fun y1 y2 => ⟨fun w => absurd w (by decide), fun _ => fun _ => ⟨fun w => fun _ => ?_, fun w => ?_⟩⟩) (fun y => ⟨fun _ => k0 _ (Or.inr ⟨fun j b a1 a2 => by omega, by decide, rfl, fun z => z⟩), fun w => absurd rfl w⟩))
  · obtain ⟨j, hj⟩ : ∃ j : Nat, x1.toInt = j := ⟨x1.toInt.toNat, by omega⟩
    have hj3 : j < 3 := by omega
    rw [xtn hj] at w
    have w := xle w
    rw [xtn hj]
    obtain ⟨a, b⟩ := H j hj3
    cases hB : B j with
    | none =>
      have := b hB
      omega
    | some Θb =>
    have Sb := a Θb hB
    have Kq : kq [] [54] s0 (ps_ui s0 1131 54 (ps_a s0 1176 j)) := kqi kq_refl (by decide)
    refine fm_306_32 (s0 := s0) (Θ := Θb) Sb hj hj3 (fun v s' hv hS hP K => k1 _ _ Θb (Or.inl ⟨j, Θb, hj3, hj, hB, hv, rfl, trivial⟩) hS hP K) n (i := 0) rfl (Nat.zero_le _) ⟨kqt kq_refl Kq (by decide) (by decide), fun q _ => by rw [kq_a Kq 1134 (by decide)]⟩ (by rw [ps_i_ui, if_pos ⟨rfl, rfl⟩]; exact Sb.1) (fun m q a => absurd a (Nat.not_lt_zero _))
  · obtain ⟨j, hj⟩ : ∃ j : Nat, x1.toInt = j := ⟨x1.toInt.toNat, by omega⟩
    have hj3 : j < 3 := by omega
    rw [xtn hj] at w
    have w := xlt w
    refine k0 _ (Or.inr ⟨fun j' b' h1 h2 h3 => ?_, by decide, rfl, fun z => z⟩)
    have e : j' = j := by omega
    subst e
    have := ((H j' hj3).1 b' h3).1
    omega
end BXM
/-! about, alike, fault -/
def ab_is (h : tx_H) (nD nT t nl : Nat) (x v : Int32) : Prop := v.toInt = if x.toInt = 0 then (h.1.1.length : Int) else if x.toInt = 1 then (h.1.2.length : Int) else if x.toInt = 2 then (h.2.length : Int) else if x.toInt = 3 then (nD : Int) else if x.toInt = 4 then (nT : Int) else if x.toInt = 5 then (t : Int) else if x.toInt = 6 then (nl : Int) else -1
section ABT
variable {h : tx_H} {Θ : List tq_H} {D : List tq_R} {c t : Nat} {l : List Nat} {s : ps_S} {x1 : Int32} {R : Int32 → ps_S → Prop}
theorem fs_178 {n p th : Nat} (r2 : ps_r s 0 2 = th) (r4 : ps_r s 0 4 = p) (H : cv_H s th h) (P : cpP s p D c) (S : cSh s 870 Θ) (ht : (ps_i s 0 1).toInt = t) (W : cv_W s 934 l) (k : ∀ v, ab_is h D.length Θ.length t l.length x1 v → R v s) : pl_Cl n 178 [.ref 0, .int x1] s (ps_rI R) := by
  cases n with
  | zero => exact pl_At_0
  | succ n =>
  show pl_At (n + 1) 178 0 [(0, .ref 0), (1, .int x1)] [] s (ps_rI R)
  refine pl_178_0 ?_
  rw [r2, r4]
  refine ⟨fun w => pl_nk_i (fun _ => ?_), fun w0 => ⟨fun w => pl_nk_i (fun _ => ?_), fun w1 => ⟨fun w => pl_nk_i (fun _ => ?_), fun w2 => ⟨fun w => pl_nk_i (fun _ => ?_), fun w3 => ⟨fun w => ?_, fun w4 => ⟨fun w => ?_, fun w5 => ⟨fun w => ?_, fun w6 => ?_⟩⟩⟩⟩⟩⟩⟩
  · have w : x1.toInt = 0 := xeq w
    refine k _ ?_
    unfold ab_is
    rw [if_pos (by omega)]
    exact H.1.1
  · have w0 : x1.toInt ≠ 0 := xne w0
    have w : x1.toInt = 1 := xeq w
    refine k _ ?_
    unfold ab_is
    rw [if_neg (by omega), if_pos (by omega)]
    exact H.1.2.1
  · have w0 : x1.toInt ≠ 0 := xne w0
    have w1 : x1.toInt ≠ 1 := xne w1
    have w : x1.toInt = 2 := xeq w
    refine k _ ?_
    unfold ab_is
    rw [if_neg (by omega), if_neg (by omega), if_pos (by omega)]
    exact H.2.1
  · have w0 : x1.toInt ≠ 0 := xne w0
    have w1 : x1.toInt ≠ 1 := xne w1
    have w2 : x1.toInt ≠ 2 := xne w2
    have w : x1.toInt = 3 := xeq w
    refine k _ ?_
    unfold ab_is
    rw [if_neg (by omega), if_neg (by omega), if_neg (by omega), if_pos (by omega)]
    exact P.2.1
  · have w0 : x1.toInt ≠ 0 := xne w0
    have w1 : x1.toInt ≠ 1 := xne w1
    have w2 : x1.toInt ≠ 2 := xne w2
    have w3 : x1.toInt ≠ 3 := xne w3
    have w : x1.toInt = 4 := xeq w
    refine k _ ?_
    unfold ab_is
    rw [if_neg (by omega), if_neg (by omega), if_neg (by omega), if_neg (by omega), if_pos (by omega)]
    exact S.1
  · have w0 : x1.toInt ≠ 0 := xne w0
    have w1 : x1.toInt ≠ 1 := xne w1
    have w2 : x1.toInt ≠ 2 := xne w2
    have w3 : x1.toInt ≠ 3 := xne w3
    have w4 : x1.toInt ≠ 4 := xne w4
    have w : x1.toInt = 5 := xeq w
    refine k _ ?_
    unfold ab_is
    rw [if_neg (by omega), if_neg (by omega), if_neg (by omega), if_neg (by omega), if_neg (by omega), if_pos (by omega)]
    exact ht
  · have w0 : x1.toInt ≠ 0 := xne w0
    have w1 : x1.toInt ≠ 1 := xne w1
    have w2 : x1.toInt ≠ 2 := xne w2
    have w3 : x1.toInt ≠ 3 := xne w3
    have w4 : x1.toInt ≠ 4 := xne w4
    have w5 : x1.toInt ≠ 5 := xne w5
    have w : x1.toInt = 6 := xeq w
    refine k _ ?_
    unfold ab_is
    rw [if_neg (by omega), if_neg (by omega), if_neg (by omega), if_neg (by omega), if_neg (by omega), if_neg (by omega), if_pos (by omega)]
    exact W.1
  · have w0 : x1.toInt ≠ 0 := xne w0
    have w1 : x1.toInt ≠ 1 := xne w1
    have w2 : x1.toInt ≠ 2 := xne w2
    have w3 : x1.toInt ≠ 3 := xne w3
    have w4 : x1.toInt ≠ 4 := xne w4
    have w5 : x1.toInt ≠ 5 := xne w5
    have w6 : x1.toInt ≠ 6 := xne w6
    refine k _ ?_
    unfold ab_is
    rw [if_neg (by omega), if_neg (by omega), if_neg (by omega), if_neg (by omega), if_neg (by omega), if_neg (by omega), if_neg (by omega)]
    decide

theorem fm_307 {n b : Nat} (hb : b < 2) (h21 : (ps_i s 1131 21).toInt = b) (H : mv_H s b h) (P : mpP s D c) (S : mSh s Θ) (ht : (ps_i s 1131 3).toInt = t) (W : mv_W s 25748 l) (k : ∀ v, ab_is h D.length Θ.length t l.length x1 v → R v s) : pl_Cl n 307 [.ref 1131, .int x1] s (ps_rI R) := by
  cases n with
  | zero => exact pl_At_0
  | succ n =>
  show pl_At (n + 1) 307 0 [(0, .ref 1131), (1, .int x1)] [] s (ps_rI R)
  refine pl_307_0 ?_
  rw [xtn h21]
  refine ⟨fun w => fun _ => ?_, fun w0 => ⟨fun w => fun _ => ?_, fun w1 => ⟨fun w => fun _ => ?_, fun w2 => ⟨fun w => ?_, fun w3 => ⟨fun w => ?_, fun w4 => ⟨fun w => ?_, fun w5 => ⟨fun w => fm_219c (to := 25748) rfl W (fun v hv => ?_), fun w6 => ?_⟩⟩⟩⟩⟩⟩⟩
  · have w : x1.toInt = 0 := xeq w
    refine k _ ?_
    unfold ab_is
    rw [if_pos (by omega)]
    exact H.1.1
  · have w0 : x1.toInt ≠ 0 := xne w0
    have w : x1.toInt = 1 := xeq w
    refine k _ ?_
    unfold ab_is
    rw [if_neg (by omega), if_pos (by omega)]
    exact H.1.2.1
  · have w0 : x1.toInt ≠ 0 := xne w0
    have w1 : x1.toInt ≠ 1 := xne w1
    have w : x1.toInt = 2 := xeq w
    refine k _ ?_
    unfold ab_is
    rw [if_neg (by omega), if_neg (by omega), if_pos (by omega)]
    exact H.2.1
  · have w0 : x1.toInt ≠ 0 := xne w0
    have w1 : x1.toInt ≠ 1 := xne w1
    have w2 : x1.toInt ≠ 2 := xne w2
    have w : x1.toInt = 3 := xeq w
    refine k _ ?_
    unfold ab_is
    rw [if_neg (by omega), if_neg (by omega), if_neg (by omega), if_pos (by omega)]
    exact P.2.1
  · have w0 : x1.toInt ≠ 0 := xne w0
    have w1 : x1.toInt ≠ 1 := xne w1
    have w2 : x1.toInt ≠ 2 := xne w2
    have w3 : x1.toInt ≠ 3 := xne w3
    have w : x1.toInt = 4 := xeq w
    refine k _ ?_
    unfold ab_is
    rw [if_neg (by omega), if_neg (by omega), if_neg (by omega), if_neg (by omega), if_pos (by omega)]
    exact S.1
  · have w0 : x1.toInt ≠ 0 := xne w0
    have w1 : x1.toInt ≠ 1 := xne w1
    have w2 : x1.toInt ≠ 2 := xne w2
    have w3 : x1.toInt ≠ 3 := xne w3
    have w4 : x1.toInt ≠ 4 := xne w4
    have w : x1.toInt = 5 := xeq w
    refine k _ ?_
    unfold ab_is
    rw [if_neg (by omega), if_neg (by omega), if_neg (by omega), if_neg (by omega), if_neg (by omega), if_pos (by omega)]
    exact ht
  · have w0 : x1.toInt ≠ 0 := xne w0
    have w1 : x1.toInt ≠ 1 := xne w1
    have w2 : x1.toInt ≠ 2 := xne w2
    have w3 : x1.toInt ≠ 3 := xne w3
    have w4 : x1.toInt ≠ 4 := xne w4
    have w5 : x1.toInt ≠ 5 := xne w5
    have w : x1.toInt = 6 := xeq w
    refine k _ ?_
    unfold ab_is
    rw [if_neg (by omega), if_neg (by omega), if_neg (by omega), if_neg (by omega), if_neg (by omega), if_neg (by omega), if_pos (by omega)]
    exact hv
  · have w0 : x1.toInt ≠ 0 := xne w0
    have w1 : x1.toInt ≠ 1 := xne w1
    have w2 : x1.toInt ≠ 2 := xne w2
    have w3 : x1.toInt ≠ 3 := xne w3
    have w4 : x1.toInt ≠ 4 := xne w4
    have w5 : x1.toInt ≠ 5 := xne w5
    have w6 : x1.toInt ≠ 6 := xne w6
    refine k _ ?_
    unfold ab_is
    rw [if_neg (by omega), if_neg (by omega), if_neg (by omega), if_neg (by omega), if_neg (by omega), if_neg (by omega), if_neg (by omega)]
    decide

theorem ab_eq {nD nT nl : Nat} {v v' : Int32} (a : ab_is h nD nT t nl x1 v) (b : ab_is h nD nT t nl x1 v') : v = v' := Int32.toInt_inj.mp (a.trans b.symm)
/-- alike() -/
def al_is (D : List tq_R) (l : List Nat) (v : Int32) : Prop := (∃ (i : Nat) (R : tq_R), v.toInt = i ∧ D[i]? = some R ∧ R.1 = l ∧ ∀ (j : Nat) (R' : tq_R), j < i → D[j]? = some R' → R'.1 ≠ l) ∨ (v.toInt = -1 ∧ ∀ (j : Nat) (R' : tq_R), D[j]? = some R' → R'.1 ≠ l)
theorem al_eq {v v' : Int32} (a : al_is D l v) (b : al_is D l v') : v = v' := by
  apply Int32.toInt_inj.mp
  rcases a with ⟨i, R, e, g, r, m⟩ | ⟨e, m⟩ <;> rcases b with ⟨i', R', e', g', r', m'⟩ | ⟨e', m'⟩
  · rcases Nat.lt_trichotomy i i' with z | z | z
    · exact absurd r (m' i R z g)
    · omega
    · exact absurd r' (m i' R' z g')
  · exact absurd r (m' i R g)
  · exact absurd r' (m i' R' g')
  · omega
theorem fs_164_2 {p : Nat} (hp : p = 50 ∨ p = 460) (r4 : ps_r s 0 4 = p) (P : cpP s p D c) (W : cv_W s 934 l) (k : ∀ v, al_is D l v → R v s) : ∀ (n : Nat) {x1 : Int32} {i : Nat}, x1.toInt = i → i ≤ D.length → (∀ (j : Nat) (R' : tq_R), j < i → D[j]? = some R' → R'.1 ≠ l) → pl_At n 164 2 [(0, .ref 0), (1, .int x1)] [] s (ps_rI R)
  | 0, _, _, _, _, _ => pl_At_0
  | n + 1, x1, i, h1, hi, hj => by
    obtain ⟨⟨d1, d2⟩, e8, -⟩ := id P
    refine pl_164_2 ?_
    rw [r4]
    refine pl_nk_i (fun _ => ⟨fun w => ?_, fun w => ?_⟩)
    · have w := xle w
      exact k _ (Or.inr ⟨by decide, fun j R' hR => hj j R' (by have := (List.getElem?_eq_some_iff.mp hR).1; omega) hR⟩)
    · have w := xlt w
      have hiD : i < D.length := by omega
      obtain ⟨R1, hk⟩ : ∃ R1, D[i]? = some R1 := ⟨_, List.getElem?_eq_getElem hiD⟩
      obtain ⟨W1, -⟩ := d2 i R1 hk
      refine fs_33 hp h1 (by omega) (pl_nk_i (fun _ => ?_))
      rw [(stc_c hp (show i < 40 by omega)).2.2.2.1]
      refine fs_98 (stc_row hp (by omega)).2.2 (show ps_is 934 5 = true from rfl) (CW_of W1) (CW_of W) (Or.inl W1.2.2.1) (fun e => ⟨fun w => absurd w (by decide), fun _ => k _ (Or.inl ⟨i, R1, h1, hk, e, hj⟩)⟩) (fun e => ⟨fun _ => ?_, fun w => absurd rfl w⟩)
      refine fs_164_2 hp r4 P W k n (i := i + 1) (xj1 h1 (by omega)) (by omega) (fun j R' hji hR => ?_)
      by_cases ej : j = i
      · rw [ej, hk] at hR
        cases hR
        exact e
      · exact hj j R' (by omega) hR
theorem fs_164 {n p : Nat} (hp : p = 50 ∨ p = 460) (r4 : ps_r s 0 4 = p) (P : cpP s p D c) (W : cv_W s 934 l) (k : ∀ v, al_is D l v → R v s) : pl_Cl n 164 [.ref 0] s (ps_rI R) := by
  cases n with
  | zero => exact pl_At_0
  | succ n =>
  show pl_At (n + 1) 164 0 [(0, .ref 0)] [] s (ps_rI R)
  exact pl_164_0 (fs_164_2 hp r4 P W k n (i := 0) rfl (Nat.zero_le _) (fun j R' a => absurd a (Nat.not_lt_zero _)))
theorem fm_276_2 {g : tx_g} (hG : tq_GD g D) (P : mpP s D c) (W : mv_W s 25748 l) (k : ∀ v, al_is D l v → R v s) : ∀ (n : Nat) {x1 : Int32} {i : Nat}, x1.toInt = i → i ≤ D.length → (∀ (j : Nat) (R' : tq_R), j < i → D[j]? = some R' → R'.1 ≠ l) → pl_At n 276 2 [(0, .ref 1131), (1, .int x1)] [] s (ps_rI R)
  | 0, _, _, _, _, _ => pl_At_0
  | n + 1, x1, i, h1, hi, hj => by
    obtain ⟨⟨d1, d2⟩, e47, -⟩ := id P
    have c0 : (0 : Int32).toInt = 0 := Int32.toInt_zero
    refine pl_276_2 ⟨fun w => ?_, fun w => ?_⟩
    · have w := xle w
      exact k _ (Or.inr ⟨by decide, fun j R' hR => hj j R' (by have := (List.getElem?_eq_some_iff.mp hR).1; omega) hR⟩)
    · have w := xlt w
      have hiD : i < D.length := by omega
      obtain ⟨R1, hk⟩ : ∃ R1, D[i]? = some R1 := ⟨_, List.getElem?_eq_getElem hiD⟩
      obtain ⟨W1, -⟩ := d2 i R1 hk
      have go : ∀ {m : Nat}, m = n → R1.1 ≠ l → pl_At m 276 2 [(0, .ref 1131), (1, .int (x1 + 1))] [] s (ps_rI R) := fun {m} hm e => by
        rw [hm]
        refine fm_276_2 hG P W k n (i := i + 1) (xj1 h1 (by omega)) (by omega) (fun j R' hji hR => ?_)
        by_cases ej : j = i
        · rw [ej, hk] at hR
          cases hR
          exact e
        · exact hj j R' (by omega) hR
      refine fm_219c (to := 25748) rfl W (fun v1 hv1 => ⟨fun w1 => ?_, fun w1 => ?_⟩)
      · have w1 := xle w1
        refine go rfl (fun e => ?_)
        obtain ⟨y, t, e2⟩ := ws_ne (hG i R1 hk).1.1
        have : l.length = 0 := by omega
        rw [← e, e2] at this
        cases this
      · refine fm_242 h1 (by omega) (fun v2 hv2 => fm_222 (tb := 25748) hv2 (by omega) W1 rfl (by decide) W (fun e => ⟨fun w => absurd w (by decide), fun _ => k _ (Or.inl ⟨i, R1, h1, hk, e, hj⟩)⟩) (fun e => ⟨fun _ => go rfl e, fun w => absurd rfl w⟩))
theorem fm_276 {n : Nat} {g : tx_g} (hG : tq_GD g D) (P : mpP s D c) (W : mv_W s 25748 l) (k : ∀ v, al_is D l v → R v s) : pl_Cl n 276 [.ref 1131] s (ps_rI R) := by
  cases n with
  | zero => exact pl_At_0
  | succ n =>
  show pl_At (n + 1) 276 0 [(0, .ref 1131)] [] s (ps_rI R)
  exact pl_276_0 (fm_276_2 hG P W k n (i := 0) rfl (Nat.zero_le _) (fun j R' a => absurd a (Nat.not_lt_zero _)))
/-- fault() -/
def ft_is (a b x v : Int32) : Prop := v = if x = 0 then a else if x = 1 then b else -1
theorem fs_152 {n : Nat} (k : ∀ v, ft_is (ps_i s 902 9) (ps_i s 902 10) x1 v → R v s) : pl_Cl n 152 [.ref 0, .int x1] s (ps_rI R) := by
  cases n with
  | zero => exact pl_At_0
  | succ n =>
  show pl_At (n + 1) 152 0 [(0, .ref 0), (1, .int x1)] [] s (ps_rI R)
  refine pl_152_0 ⟨fun w => k _ ?_, fun w => ⟨fun w1 => k _ ?_, fun w1 => k _ ?_⟩⟩
  · unfold ft_is
    rw [if_pos w]
  · unfold ft_is
    rw [if_neg w, if_pos w1]
  · unfold ft_is
    rw [if_neg w, if_neg w1]
theorem fm_199 {n : Nat} (k : ∀ v, ft_is (ps_i s 1131 5) (ps_i s 1131 6) x1 v → R v s) : pl_Cl n 199 [.ref 1131, .int x1] s (ps_rI R) := by
  cases n with
  | zero => exact pl_At_0
  | succ n =>
  show pl_At (n + 1) 199 0 [(0, .ref 1131), (1, .int x1)] [] s (ps_rI R)
  refine pl_199_0 ⟨fun w => ⟨fun w1 => k _ ?_, fun w1 => k _ ?_⟩, fun w => k _ ?_⟩
  · unfold ft_is
    rw [if_neg w, if_neg w1]
  · unfold ft_is
    rw [if_neg w, if_pos w1]
  · unfold ft_is
    rw [if_pos w]
end ABT

