set_option maxRecDepth 100000
/-! image, back; the reference; about, alike, fault -/
/-- boxes -/
abbrev bx_T : Type := Nat → Option (List tq_H)
def bx_up (B : bx_T) (j : Nat) (Θ : List tq_H) : bx_T := fun k => if k = j then some Θ else B k
def cBx (s : ps_S) (B : bx_T) : Prop := ∀ k, k < 3 → (∀ Θ, B k = some Θ → ps_i s (1038 + 31 * k) 6 ≠ 0 ∧ cSh s (1038 + 31 * k) Θ) ∧ (B k = none → ps_i s (1038 + 31 * k) 6 = 0)
theorem bx_shq {k : Nat} (h : k < 3) : shq (1038 + 31 * k) := by
  rcases (show k = 0 ∨ k = 1 ∨ k = 2 by omega) with rfl | rfl | rfl
  · exact Or.inr (Or.inl rfl)
  · exact Or.inr (Or.inr (Or.inl rfl))
  · exact Or.inr (Or.inr (Or.inr rfl))
theorem cBx_cfr {C : Nat → Prop} {s s' : ps_S} {B : bx_T} (H : cBx s B) (F : cfr C s s') (hC : ∀ q, 1038 ≤ q → q < 1131 → ¬ C q) : cBx s' B := fun k hk => by
  obtain ⟨a, b⟩ := H k hk
  have e := (F (1038 + 31 * k) (hC _ (by omega) (by omega))).1 6
  exact ⟨fun Θ hΘ => ⟨by rw [e]; exact (a Θ hΘ).1, cSh_cfr (a Θ hΘ).2 F (fun r y z => hC r (by omega) (by omega))⟩, fun hn => by rw [e]; exact b hn⟩
/-- image(): the box that is filled -/
def im_is (x : Int32) (Θ : List tq_H) (B : bx_T) (v : Int32) (B' : bx_T) : Prop := (∃ j : Nat, j < 3 ∧ x.toInt = j ∧ v.toInt = Θ.length ∧ B' = bx_up B j Θ) ∨ (¬ (0 ≤ x.toInt ∧ x.toInt < 3) ∧ v.toInt = -1 ∧ B' = B)
theorem im_eq {x v1 v2 : Int32} {Θ : List tq_H} {B B1 B2 : bx_T} (h : im_is x Θ B v1 B1) (h' : im_is x Θ B v2 B2) : v1 = v2 ∧ B1 = B2 := by
  rcases h with ⟨j, a, b, c, d⟩ | ⟨b, c, d⟩ <;> rcases h' with ⟨j', a', b', c', d'⟩ | ⟨b', c', d'⟩
  · have e : j = j' := by omega
    subst e
    exact ⟨Int32.toInt_inj.mp (by rw [c, c']), by rw [d, d']⟩
  · omega
  · omega
  · exact ⟨Int32.toInt_inj.mp (by rw [c, c']), by rw [d, d']⟩
/-- back(): what the shelf holds then; whether there is a proof still -/
def bk_is (x : Int32) (Θ : List tq_H) (B : bx_T) (v : Int32) (Θ' : List tq_H) (gone : Prop) : Prop := (∃ (j : Nat) (Θb : List tq_H), j < 3 ∧ x.toInt = j ∧ B j = some Θb ∧ v.toInt = Θb.length ∧ Θ' = Θb ∧ gone) ∨ ((∀ (j : Nat) (Θb : List tq_H), j < 3 → x.toInt = j → B j ≠ some Θb) ∧ v.toInt = -1 ∧ Θ' = Θ ∧ ¬ gone)
theorem bk_eq {x v1 v2 : Int32} {Θ Θ1 Θ2 : List tq_H} {B : bx_T} {g1 g2 : Prop} (h : bk_is x Θ B v1 Θ1 g1) (h' : bk_is x Θ B v2 Θ2 g2) : v1 = v2 ∧ Θ1 = Θ2 ∧ (g1 ↔ g2) := by
  rcases h with ⟨j, b, a1, a2, a3, a4, a5, a6⟩ | ⟨a3, a4, a5, a6⟩ <;> rcases h' with ⟨j', b', c1, c2, c3, c4, c5, c6⟩ | ⟨c3, c4, c5, c6⟩
  · have e : j = j' := by omega
    subst e
    have e := Option.some.inj (a3.symm.trans c3)
    subst e
    exact ⟨Int32.toInt_inj.mp (by rw [a4, c4]), by rw [a5, c5], ⟨fun _ => c6, fun _ => a6⟩⟩
  · exact absurd a3 (c3 j b a1 a2)
  · exact absurd c3 (a3 j' b' c1 c2)
  · exact ⟨Int32.toInt_inj.mp (by rw [a4, c4]), by rw [a5, c5], ⟨fun z => absurd z a6, fun z => absurd z c6⟩⟩
section BXC
variable {Θ : List tq_H} {B : bx_T} {s : ps_S} {x1 : Int32}
theorem fs_180e {n j : Nat} {R : Nat → ps_S → Prop} (hx : x1.toInt = j) (hj : j < 3) (k : R (1038 + 31 * j) s) : pl_Cl n 180 [.ref 0, .int x1] s (ps_rA R) := by
  cases n with
  | zero => exact pl_At_0
  | succ n =>
  show pl_At (n + 1) 180 0 [(0, .ref 0), (1, .int x1)] [] s (ps_rA R)
  have c3 : (nI 3).toInt = 3 := by decide
  refine pl_180_0 ⟨fun w => ?_, fun _ => ⟨fun w => ?_, fun _ => fun _ => ?_⟩⟩
  · have w : x1.toInt < 0 := xlt w
    omega
  · have w := xle w
    omega
  · rw [xtn hx]
    have e : ps_e0 901 j = 1038 + 31 * j := by
      have h : ∀ i : Fin 3, ps_e0 901 i.val = 1038 + 31 * i.val := by decide +kernel
      exact h ⟨j, hj⟩
    rw [e]
    exact k
theorem fs_176 {n : Nat} {R : Int32 → ps_S → Prop} (S : cSh s 870 Θ) (H : cBx s B) (k : ∀ (v : Int32) (s' : ps_S) B', im_is x1 Θ B v B' → cSh s' 870 Θ → cBx s' B' → cfr (fun q => 1038 ≤ q ∧ q < 1131) s s' → R v s') : pl_Cl n 176 [.ref 0, .int x1] s (ps_rI R) := by
  cases n with
  | zero => exact pl_At_0
  | succ n =>
  show pl_At (n + 1) 176 0 [(0, .ref 0), (1, .int x1)] [] s (ps_rI R)
  have c0 : (0 : Int32).toInt = 0 := Int32.toInt_zero
  have c3 : (nI 3).toInt = 3 := by decide
  refine pl_176_0 ⟨fun w => ?_, fun w => ⟨fun w1 => ?_, fun w1 => ?_⟩⟩
  · have w := xlt w
    exact k _ _ B (Or.inr ⟨by omega, by decide, rfl⟩) S H cfr_refl
  · have w := xle w
    have w1 := xlt w1
    obtain ⟨j, hj⟩ : ∃ j : Nat, x1.toInt = j := ⟨x1.toInt.toNat, by omega⟩
    have hj3 : j < 3 := by omega
    refine fs_180e hj hj3 (fs_112 (bx_shq hj3) (Or.inl rfl) (by omega) S (fun s1 S1 F1 e6 => fs_180e hj hj3 (pl_nk_i (fun _ => ?_))))
    have F2 : cfr (fun q => q = 1038 + 31 * j) s1 (ps_ui s1 (1038 + 31 * j) 6 1) := cfr_i cfr_refl rfl
    have n2 : ∀ q, q ≠ 1038 + 31 * j → ¬ (fun q => q = 1038 + 31 * j) q := fun q a z => a z
    have S2 : cSh s1 870 Θ := cSh_cfr S F1 (fun r a b z => by unfold CQ at z; omega)
    have S3 : cSh (ps_ui s1 (1038 + 31 * j) 6 1) 870 Θ := cSh_cfr S2 F2 (fun r a b => n2 _ (by omega))
    refine k _ _ (bx_up B j Θ) (Or.inl ⟨j, hj3, hj, S3.1, rfl⟩) S3 (fun m hm => ?_) (cfr_tr (cfr_mono F1 (fun q z => by unfold CQ at z; omega)) (cfr_mono F2 (fun q z => by
      have z : q = 1038 + 31 * j := z
      omega)))
    by_cases em : m = j
    · subst em
      refine ⟨fun Θ' hΘ => ?_, fun hn => ?_⟩
      · unfold bx_up at hΘ
        rw [if_pos rfl] at hΘ
        have e := Option.some.inj hΘ
        subst e
        refine ⟨by rw [ps_i_ui, if_pos ⟨rfl, rfl⟩]; decide, ?_⟩
        obtain ⟨y1, y2, y3⟩ := S1
        refine ⟨by rw [ps_i_ui, if_neg (by omega)]; exact y1, y2, fun q x hq => ?_⟩
        obtain ⟨w1, w2, w3, w4⟩ := y3 q x hq
        exact ⟨cv_W_cfr w1 F2 (n2 _ (by omega)) (n2 _ (by omega)), w2, w3, w4⟩
      · unfold bx_up at hn
        rw [if_pos rfl] at hn
        cases hn
    · obtain ⟨a, b⟩ := H m hm
      have nq : ∀ r, 1038 + 31 * m ≤ r → r ≤ 1038 + 31 * m + 30 → ¬ CQ (1038 + 31 * j) r ∧ r ≠ 1038 + 31 * j := fun r u v => by
        unfold CQ
        omega
      have e : ps_i (ps_ui s1 (1038 + 31 * j) 6 1) (1038 + 31 * m) 6 = ps_i s (1038 + 31 * m) 6 := by
        rw [ps_i_ui, if_neg (by omega)]
        exact (F1 _ (nq _ (Nat.le_refl _) (by omega)).1).1 6
      have eB : bx_up B j Θ m = B m := by
        unfold bx_up
        rw [if_neg em]
      refine ⟨fun Θ' hΘ => ?_, fun hn => ?_⟩
      · rw [eB] at hΘ
        exact ⟨by rw [e]; exact (a Θ' hΘ).1, cSh_cfr (cSh_cfr (a Θ' hΘ).2 F1 (fun r u v => (nq r u v).1)) F2 (fun r u v => n2 _ (nq r u v).2)⟩
      · rw [eB] at hn
        rw [e]
        exact b hn
  · have w1 := xle w1
    exact k _ _ B (Or.inr ⟨by omega, by decide, rfl⟩) S H cfr_refl
theorem fs_177 {n p : Nat} {R : Int32 → ps_S → Prop} (hp : p = 50 ∨ p = 460) (hr : ps_r s 0 4 = p) (S : cSh s 870 Θ) (H : cBx s B) (k1 : ∀ (v : Int32) (s' : ps_S) Θ', bk_is x1 Θ B v Θ' True → cSh s' 870 Θ' → cpP s' p [] 0 → ps_r s' 0 4 = ps_r s 0 4 → ps_r s' 0 5 = ps_r s 0 5 → cfr (fun q => (870 ≤ q ∧ q ≤ 900) ∨ q = p) s s' → R v s') (k0 : ∀ v, bk_is x1 Θ B v Θ False → R v s) : pl_Cl n 177 [.ref 0, .int x1] s (ps_rI R) := by
  cases n with
  | zero => exact pl_At_0
  | succ n =>
  show pl_At (n + 1) 177 0 [(0, .ref 0), (1, .int x1)] [] s (ps_rI R)
  have c0 : (0 : Int32).toInt = 0 := Int32.toInt_zero
  have c3 : (nI 3).toInt = 3 := by decide
  refine pl_177_0 ⟨fun w => ?_, fun w => ⟨fun w1 => ?_, fun w1 => ?_⟩⟩
  · have w := xlt w
    exact k0 _ (Or.inr ⟨fun j b h1 h2 => by omega, by decide, rfl, fun z => z⟩)
  · have w1 := xle w1
    exact k0 _ (Or.inr ⟨fun j b h1 h2 => by omega, by decide, rfl, fun z => z⟩)
  · have w := xle w
    have w1 := xlt w1
    obtain ⟨j, hj⟩ : ∃ j : Nat, x1.toInt = j := ⟨x1.toInt.toNat, by omega⟩
    have hj3 : j < 3 := by omega
    obtain ⟨a, b⟩ := H j hj3
    refine fs_180e hj hj3 (pl_nk_i (fun _ => ⟨fun w2 => ?_, fun w2 => ?_⟩))
    · cases hB : B j with
      | none => exact absurd (b hB) w2
      | some Θb =>
      obtain ⟨-, Sb⟩ := a Θb hB
      refine fs_180e hj hj3 (fs_112 (Or.inl rfl) (bx_shq hj3) (by omega) Sb (fun s1 S1 F1 _ => ?_))
      have n0 : ¬ CQ 870 0 := fun z => by unfold CQ at z; omega
      have e4 : ps_r s1 0 4 = p := by rw [(F1 0 n0).2.2.1]; exact hr
      rw [e4]
      refine fs_31f ?_
      have F2 : cfr (fun r => r = p) s1 (ps_ui (ps_ui (ps_ui s1 p 7 0) p 8 0) p 9 0) := cfr_i (cfr_i (cfr_i cfr_refl rfl) rfl) rfl
      have np : ∀ r, r ≠ p → ¬ (fun r => r = p) r := fun r a z => a z
      have S2 := cSh_cfr S1 F2 (fun r a b => np _ (by omega))
      refine k1 _ _ Θb (Or.inl ⟨j, Θb, hj3, hj, hB, S2.1, rfl, trivial⟩) S2 cpP_0 ?_ ?_ (cfr_tr (cfr_mono F1 (fun q z => by unfold CQ at z; omega)) (cfr_mono F2 (fun q z => Or.inr z)))
      · exact (F1 0 n0).2.2.1 4
      · exact (F1 0 n0).2.2.1 5
    · refine k0 _ (Or.inr ⟨fun j' b' h1 h2 h3 => ?_, by decide, rfl, fun z => z⟩)
      have e : j' = j := by omega
      subst e
      exact (a b' h3).1 w2
end BXC

/-! the reference -/
def mBs (s : ps_S) (j : Nat) (Θ : List tq_H) : Prop := (ps_a s 1176 j).toInt = Θ.length ∧ Θ.length ≤ 12 ∧ ∀ (k : Nat) (q : tq_H), Θ[k]? = some q → mv_W s (25830 + 41 * (12 * j + k)) q.1 ∧ ps_a s 1177 (12 * j + k) = q.2.1 ∧ ps_a s 1178 (12 * j + k) = q.2.2.1
def mBx (s : ps_S) (B : bx_T) : Prop := ∀ k, k < 3 → (∀ Θ, B k = some Θ → mBs s k Θ) ∧ (B k = none → (ps_a s 1176 k).toInt = -1)
section KPM
variable {Θ : List tq_H} {s : ps_S} {D : List tq_R} {c : Nat} {R : Int32 → ps_S → Prop}
theorem mpP_0 : mpP (ps_ui (ps_ui (ps_ui s 1131 47 0) 1131 48 (-1)) 1131 49 (-1)) [] 0 := by
  refine ⟨⟨Nat.zero_le _, fun k R hk => by cases hk⟩, ?_, fun _ => ⟨?_, ?_⟩, fun z => absurd rfl z⟩
  · rw [ps_i_ui, if_neg (by omega), ps_i_ui, if_neg (by omega), ps_i_ui, if_pos ⟨rfl, rfl⟩]
    rfl
  · rw [ps_i_ui, if_neg (by omega), ps_i_ui, if_pos ⟨rfl, rfl⟩]
  · rw [ps_i_ui, if_pos ⟨rfl, rfl⟩]
theorem fm_272 {n : Nat} {R : ps_S → Prop} (k : R (ps_ui (ps_ui (ps_ui s 1131 47 0) 1131 48 (-1)) 1131 49 (-1))) : pl_Cl n 272 [.ref 1131] s (ps_rV R) := by
  cases n with
  | zero => exact pl_At_0
  | succ n =>
  show pl_At (n + 1) 272 0 [(0, .ref 1131)] [] s (ps_rV R)
  exact pl_272_0 k
theorem mSh_take {m : Nat} (S : mSh s Θ) {s' : ps_S} (h54 : (ps_i s' 1131 54).toInt = m) (hm : m ≤ Θ.length) {F : List Nat} (K : kq [] F s s') : mSh s' (Θ.take m) := by
  obtain ⟨z1, z2, z3⟩ := S
  have hlen : (Θ.take m).length = m := by rw [List.length_take]; omega
  refine ⟨by rw [hlen]; exact h54, by omega, fun k x hk => ?_⟩
  have hkl := (List.getElem?_eq_some_iff.mp hk).1
  rw [List.getElem?_take, if_pos (by omega)] at hk
  obtain ⟨w, a, b⟩ := z3 k x hk
  exact ⟨mv_W_kq w K rfl, by rw [kq_a K 1161 rfl]; exact a, by rw [kq_a K 1162 rfl]; exact b⟩
theorem fm_273 {n : Nat} (S : mSh s Θ) (k0 : Θ = [] → R (-1) s) (k1 : ∀ (v : Int32) (s' : ps_S), Θ ≠ [] → v.toInt = (Θ.length - 1 : Nat) → mSh s' (Θ.take (Θ.length - 1)) → mpP s' [] 0 → kq [] [47, 48, 49, 54] s s' → R v s') : pl_Cl n 273 [.ref 1131] s (ps_rI R) := by
  cases n with
  | zero => exact pl_At_0
  | succ n =>
  show pl_At (n + 1) 273 0 [(0, .ref 1131)] [] s (ps_rI R)
  obtain ⟨z1, z2, z3⟩ := id S
  have c0 : (0 : Int32).toInt = 0 := Int32.toInt_zero
  have c1 : (1 : Int32).toInt = 1 := by decide
  refine pl_273_0 ⟨fun w => ?_, fun w => ?_⟩
  · have w := xne w
    have hx : ((ps_i s 1131 54) - 1).toInt = (Θ.length - 1 : Nat) := by rw [xIs (by omega) (by omega), z1, c1]; omega
    have K1 : kq [] [54] s (ps_ui s 1131 54 ((ps_i s 1131 54) - 1)) := kqi kq_refl (by decide)
    refine fm_272 ?_
    have K2 : kq [] [47, 48, 49] (ps_ui s 1131 54 ((ps_i s 1131 54) - 1)) (ps_ui (ps_ui (ps_ui (ps_ui s 1131 54 ((ps_i s 1131 54) - 1)) 1131 47 0) 1131 48 (-1)) 1131 49 (-1)) := kqi (kqi (kqi kq_refl (by decide)) (by decide)) (by decide)
    have g : (ps_i (ps_ui (ps_ui (ps_ui (ps_ui s 1131 54 ((ps_i s 1131 54) - 1)) 1131 47 0) 1131 48 (-1)) 1131 49 (-1)) 1131 54).toInt = (Θ.length - 1 : Nat) := by
      rw [kq_i K2 54 (by decide), ps_i_ui, if_pos ⟨rfl, rfl⟩]
      exact hx
    exact k1 _ _ (fun z => by rw [z] at z1; exact w (z1.trans c0.symm)) g (mSh_take S g (by omega) (kqt (kqt (kq_refl : kq [] [47, 48, 49, 54] s s) K1 (by decide) (by decide)) K2 (by decide) (by decide))) mpP_0 (kqt (kqt kq_refl K1 (by decide) (by decide)) K2 (by decide) (by decide))
  · have w := xeq w
    exact k0 (List.eq_nil_of_length_eq_zero (by omega))
theorem mSh_add {s' : ps_S} {x : tq_H} (S : mSh s Θ) (h12 : Θ.length < 12) (W : mv_W s' (21320 + 41 * Θ.length) x.1) (a1 : ps_a s' 1161 Θ.length = x.2.1) (a2 : ps_a s' 1162 Θ.length = x.2.2.1) (ho : ∀ k, k < Θ.length → (∀ l, mv_W s (21320 + 41 * k) l → mv_W s' (21320 + 41 * k) l) ∧ ps_a s' 1161 k = ps_a s 1161 k ∧ ps_a s' 1162 k = ps_a s 1162 k) (h5 : (ps_i s' 1131 54).toInt = (Θ.length + 1 : Nat)) : mSh s' (Θ ++ [x]) := by
  obtain ⟨z1, z2, z3⟩ := S
  have hlen : (Θ ++ [x]).length = Θ.length + 1 := List.length_append
  refine ⟨by rw [hlen]; exact h5, by omega, fun k y hk => ?_⟩
  rcases snoc_at hk with ⟨hl, hk⟩ | ⟨rfl, rfl⟩
  · obtain ⟨w, e4, e5⟩ := z3 k y hk
    obtain ⟨o1, o2, o3⟩ := ho k hl
    exact ⟨o1 _ w, o2.trans e4, o3.trans e5⟩
  · exact ⟨W, a1, a2⟩
/-- the shelf's rows alone -/
def mpoS (s s' : ps_S) : Prop := ∀ q, (q < 21320 ∨ 21812 ≤ q) → ps_a s' 1134 q = ps_a s 1134 q
theorem fm_268_51 {R1 : tq_R} (P : mpP s D c) (S : mSh s Θ) (hc : c = 0) (hk : D[D.length - 1]? = some R1) (hA : R1.2.1 = []) (h12 : Θ.length < 12) (k : ∀ (v : Int32) (s' : ps_S) Θ', kp_is D c Θ v Θ' → mSh s' Θ' → kq [1134, 1161, 1162] [54] s s' → mpoS s s' → R v s') : ∀ (n : Nat) {x1 x2 : Int32} {i : Nat}, x1.toInt = (41 * (D.length - 1) : Nat) → x2.toInt = i → i ≤ R1.1.length → (∀ j x, j < i → R1.1[j]? = some x → x < 60) → pl_At n 268 51 [(0, .ref 1131), (1, .int x1), (2, .int x2)] [] s (ps_rI R)
  | 0, _, _, _, _, _, _, _ => pl_At_0
  | n + 1, x1, x2, i, h1, h2, hi, hj => by
    obtain ⟨⟨d1, d2⟩, e47, -, -⟩ := id P
    obtain ⟨z1, z2, z3⟩ := id S
    have c1 : (1 : Int32).toInt = 1 := by decide
    have hD : D.length - 1 < D.length := (List.getElem?_eq_some_iff.mp hk).1
    obtain ⟨W, -, -, -, f58, f59, -⟩ := d2 _ R1 hk
    have hl := W.2.1
    refine pl_268_51 (fm_219c h1 W (fun v1 hv => ⟨fun w => ?_, fun w => ?_⟩))
    · have w := xle w
      have hall : ∀ x, x ∈ R1.1 → x < 60 := fun x hx => by
        obtain ⟨j, hjx⟩ := List.mem_iff_getElem?.mp hx
        have := (List.getElem?_eq_some_iff.mp hjx).1
        exact hj j x (by omega) hjx
      refine fm_224 h1 (rowH z1 (by omega)) (by omega) (by omega) (by omega) W (fun s2 W2 K2 P2 => ?_)
      have x47 : ((ps_i s2 1131 47) - 1).toInt = (D.length - 1 : Nat) := by
        have e : ps_i s2 1131 47 = ps_i s 1131 47 := kq_i K2 47 (by decide)
        rw [xIs (by rw [e]; omega) (by rw [e]; omega), e, c1]
        omega
      have x54 : (ps_i s2 1131 54).toInt = Θ.length := by
        rw [kq_i K2 54 (by decide)]
        exact z1
      simp only [ps_i_ua]
      rw [xtn x47, xtn x54]
      intro _ _ _ _
      have y58 : ps_a s2 1158 (D.length - 1) = R1.2.2.1 := by rw [kq_a K2 1158 (by decide)]; exact f58
      have y59 : ps_a (ps_ua s2 1161 Θ.length (ps_a s2 1158 (D.length - 1))) 1159 (D.length - 1) = R1.2.2.2.1 := by
        rw [ps_a_ua, if_neg (by omega), kq_a K2 1159 (by decide)]
        exact f59
      rw [y59, y58]
      have K3 : kq [1134, 1161, 1162] [54] s2 (ps_ui (ps_ua (ps_ua s2 1161 Θ.length R1.2.2.1) 1162 Θ.length R1.2.2.2.1) 1131 54 (ps_i s2 1131 54 + 1)) := kqi (kqa (kqa kq_refl (by decide)) (by decide)) (by decide)
      have KK := kqt (kqt (kq_refl : kq [1134, 1161, 1162] [54] s s) K2 (by decide) (by decide)) K3 (by decide) (by decide)
      have g54 : ps_i (ps_ui (ps_ua (ps_ua s2 1161 Θ.length R1.2.2.1) 1162 Θ.length R1.2.2.2.1) 1131 54 (ps_i s2 1131 54 + 1)) 1131 54 = ps_i s2 1131 54 + 1 := by rw [ps_i_ui, if_pos ⟨rfl, rfl⟩]
      have g54' : (ps_i s2 1131 54 + 1).toInt = (Θ.length + 1 : Nat) := xj1 x54 (by omega)
      rw [g54]
      have V : ∀ q, ps_a (ps_ui (ps_ua (ps_ua s2 1161 Θ.length R1.2.2.1) 1162 Θ.length R1.2.2.2.1) 1131 54 (ps_i s2 1131 54 + 1)) 1134 q = ps_a s2 1134 q := fun q => by
        show ps_a (ps_ua (ps_ua s2 1161 Θ.length R1.2.2.1) 1162 Θ.length R1.2.2.2.1) 1134 q = _
        rw [ps_a_ua, if_neg (by omega), ps_a_ua, if_neg (by omega)]
      refine k _ _ _ (Or.inl ⟨R1, ⟨hc, hk, hA, hall, h12⟩, by rw [xIs (by omega) (by omega), g54', c1]; omega, rfl⟩) (mSh_add S h12 (mv_W_V W2 (fun q _ _ => V q)) ?_ ?_ (fun j hjΘ => ⟨fun l hl => mv_W_V hl (fun q a b => (V q).trans (P2 q (by omega))), ?_, ?_⟩) (by rw [g54]; exact g54')) KK (fun q hq => (V q).trans (P2 q (by omega)))
      · show ps_a (ps_ua (ps_ua s2 1161 Θ.length R1.2.2.1) 1162 Θ.length R1.2.2.2.1) 1161 Θ.length = _
        rw [ps_a_ua, if_neg (by omega), ps_a_ua, if_pos ⟨rfl, rfl⟩]
        rfl
      · show ps_a (ps_ua (ps_ua s2 1161 Θ.length R1.2.2.1) 1162 Θ.length R1.2.2.2.1) 1162 Θ.length = _
        rw [ps_a_ua, if_pos ⟨rfl, rfl⟩]
        rfl
      · show ps_a (ps_ua (ps_ua s2 1161 Θ.length R1.2.2.1) 1162 Θ.length R1.2.2.2.1) 1161 j = _
        rw [ps_a_ua, if_neg (by omega), ps_a_ua, if_neg (by omega), kq_a K2 1161 (by decide)]
      · show ps_a (ps_ua (ps_ua s2 1161 Θ.length R1.2.2.1) 1162 Θ.length R1.2.2.2.1) 1162 j = _
        rw [ps_a_ua, if_neg (by omega), ps_a_ua, if_neg (by omega), kq_a K2 1162 (by decide)]
    · have w := xlt w
      have hil : i < R1.1.length := by omega
      obtain ⟨y, hy⟩ : ∃ y, R1.1[i]? = some y := ⟨_, List.getElem?_eq_getElem hil⟩
      refine fm_220c h1 (by omega) W h2 hy (fun v3 hv3 => ⟨fun w1 => ?_, fun w1 => ?_⟩)
      · have w1 : v3.toInt < 60 := xlt w1
        refine fm_268_51 P S hc hk hA h12 k n h1 (xj1 h2 (by omega)) (by omega) (fun j x a hx => ?_)
        by_cases ej : j = i
        · rw [ej, hy] at hx
          cases hx
          omega
        · exact hj j x (by omega) hx
      · have w1 : 60 ≤ v3.toInt := xle w1
        refine k _ _ Θ (Or.inr ⟨fun R z => ?_, by decide, rfl⟩) S kq_refl (fun _ _ => rfl)
        have e := Option.some.inj (hk.symm.trans z.2.1)
        rw [e] at hy
        have := z.2.2.2.1 y (List.mem_of_getElem? hy)
        omega
theorem fm_268 {n : Nat} (P : mpP s D c) (S : mSh s Θ) (k : ∀ (v : Int32) (s' : ps_S) Θ', kp_is D c Θ v Θ' → mSh s' Θ' → kq [1134, 1161, 1162] [54] s s' → mpoS s s' → R v s') : pl_Cl n 268 [.ref 1131] s (ps_rI R) := by
  cases n with
  | zero => exact pl_At_0
  | succ n =>
  show pl_At (n + 1) 268 0 [(0, .ref 1131)] [] s (ps_rI R)
  obtain ⟨⟨d1, d2⟩, e47, f0, f1⟩ := id P
  obtain ⟨z1, z2, z3⟩ := id S
  have c0 : (0 : Int32).toInt = 0 := Int32.toInt_zero
  have c1 : (1 : Int32).toInt = 1 := by decide
  have c12 : (12 : Int32).toInt = 12 := by decide
  have cm : (-1 : Int32).toInt = -1 := by decide
  have no : (∀ R, ¬ kp_ok D c Θ R) → R (-1) s := fun z => k _ _ Θ (Or.inr ⟨z, by decide, rfl⟩) S kq_refl (fun _ _ => rfl)
  refine pl_268_0 ⟨fun w => ?_, fun w => ⟨fun w1 => ?_, fun w1 => fun _ => ⟨fun w2 => ?_, fun w2 => ⟨fun w3 => ?_, fun w3 => ?_⟩⟩⟩⟩
  · have w := xle w
    refine no (fun R z => ?_)
    have := xeq (f0 z.1).1
    omega
  · have w1 := xeq w1
    refine no (fun R z => ?_)
    have := (List.getElem?_eq_some_iff.mp z.2.1).1
    omega
  · have w1 := xne w1
    have x47 : ((ps_i s 1131 47) - 1).toInt = (D.length - 1 : Nat) := by rw [xIs (by omega) (by omega), c1]; omega
    rw [xtn x47] at w2
    have w2 := xlt w2
    refine no (fun R z => ?_)
    obtain ⟨-, f57, -⟩ := d2 _ R z.2.1
    rw [z.2.2.1] at f57
    have f57 : (ps_a s 1157 (D.length - 1)).toInt = 0 := f57
    omega
  · have w := xlt w
    have w1 := xne w1
    have x47 : ((ps_i s 1131 47) - 1).toInt = (D.length - 1 : Nat) := by rw [xIs (by omega) (by omega), c1]; omega
    rw [xtn x47] at w2
    have w2 := xle w2
    have w3 := xne w3
    have hc : c = 0 := Classical.byContradiction (fun z => by
      have := (f1 z).1
      omega)
    have hD : D.length - 1 < D.length := by omega
    obtain ⟨R1, hk⟩ : ∃ R1, D[D.length - 1]? = some R1 := ⟨_, List.getElem?_eq_getElem hD⟩
    obtain ⟨-, f57, -⟩ := d2 _ R1 hk
    have hA : R1.2.1 = [] := List.eq_nil_of_length_eq_zero (by omega)
    exact fm_242 x47 (by omega) (fun v hv => fm_268_51 P S hc hk hA (by omega) k n (i := 0) hv rfl (Nat.zero_le _) (fun j x a => absurd a (Nat.not_lt_zero _)))
  · have w3 := xeq w3
    exact no (fun R z => by have := z.2.2.2.2; omega)
end KPM

