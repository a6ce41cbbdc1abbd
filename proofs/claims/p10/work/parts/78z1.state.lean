set_option maxRecDepth 100000
/-! what both sides hold besides a theory and a formula: a proof, theorems, boxes, a term -/
theorem det_j {w : pm_W} {s s' : ps_S} (h : ps_R w s) (h' : ps_R w s') {r c n q : Nat} (hr : r < 1179) (hk : ps_K r = (1, c, n)) (hq : q < (pm_Ts c).length) (ht : (pm_Ts c).getD q .int = .long) : ps_j s r q = ps_j s' r q := by
  have e := ps_det_f h h' hr hk hq
  unfold ps_fv at e
  rw [ht] at e
  exact Value.long.inj e
theorem stc_K {p k : Nat} (hp : p = 50 ∨ p = 460) (hk : k < 40) : ps_K (stc p k) = (1, 8, 0) ∧ ps_K (stc p k + 6) = (1, 5, 0) ∧ ps_K (stc p k + 6 + 1) = (0, 0, 40) ∧ ps_K (stc p k + 8) = (0, 0, 12) := by
  rcases hp with rfl | rfl
  · have h : ∀ i : Fin 40, ps_K (stc 50 i.val) = (1, 8, 0) ∧ ps_K (stc 50 i.val + 6) = (1, 5, 0) ∧ ps_K (stc 50 i.val + 6 + 1) = (0, 0, 40) ∧ ps_K (stc 50 i.val + 8) = (0, 0, 12) := by decide +kernel
    exact h ⟨k, hk⟩
  · have h : ∀ i : Fin 40, ps_K (stc 460 i.val) = (1, 8, 0) ∧ ps_K (stc 460 i.val + 6) = (1, 5, 0) ∧ ps_K (stc 460 i.val + 6 + 1) = (0, 0, 40) ∧ ps_K (stc 460 i.val + 8) = (0, 0, 12) := by decide +kernel
    exact h ⟨k, hk⟩
theorem shq_K {q : Nat} (hq : shq q) : (ps_K q = (1, 7, 0) ∧ ps_K (q + 4) = (0, 0, 12) ∧ ps_K (q + 5) = (0, 0, 12) ∧ ps_K (q + 6) = (0, 0, 12)) ∧ ∀ k : Nat, k < 12 → ps_K (q + 7 + 2 * k) = (1, 5, 0) ∧ ps_K (q + 7 + 2 * k + 1) = (0, 0, 40) := by
  rcases hq with rfl | rfl | rfl | rfl
  · have h : ∀ i : Fin 12, ps_K (870 + 7 + 2 * i.val) = (1, 5, 0) ∧ ps_K (870 + 7 + 2 * i.val + 1) = (0, 0, 40) := by decide +kernel
    exact ⟨by decide +kernel, fun k hk => h ⟨k, hk⟩⟩
  · have h : ∀ i : Fin 12, ps_K (1038 + 7 + 2 * i.val) = (1, 5, 0) ∧ ps_K (1038 + 7 + 2 * i.val + 1) = (0, 0, 40) := by decide +kernel
    exact ⟨by decide +kernel, fun k hk => h ⟨k, hk⟩⟩
  · have h : ∀ i : Fin 12, ps_K (1069 + 7 + 2 * i.val) = (1, 5, 0) ∧ ps_K (1069 + 7 + 2 * i.val + 1) = (0, 0, 40) := by decide +kernel
    exact ⟨by decide +kernel, fun k hk => h ⟨k, hk⟩⟩
  · have h : ∀ i : Fin 12, ps_K (1100 + 7 + 2 * i.val) = (1, 5, 0) ∧ ps_K (1100 + 7 + 2 * i.val + 1) = (0, 0, 40) := by decide +kernel
    exact ⟨by decide +kernel, fun k hk => h ⟨k, hk⟩⟩
section DET
variable {w : pm_W} {s s' : ps_S} {D : List tq_R} {c : Nat} {Θ : List tq_H} {B : bx_T} {nl : List Nat}
theorem cSh_det (h : ps_R w s) (h' : ps_R w s') {q : Nat} (hq : shq q) (H : cSh s q Θ) : cSh s' q Θ := by
  obtain ⟨z1, z2, z3⟩ := H
  obtain ⟨⟨k0, k4, k5, k6⟩, kr⟩ := shq_K hq
  have hq2 : q + 30 < 1179 := by
    unfold shq at hq
    omega
  refine ⟨by rw [← det_i h h' (q := 5) (by omega) k0 (by decide) (Or.inl rfl)]; exact z1, z2, fun k x hk => ?_⟩
  obtain ⟨a, b, d, e⟩ := z3 k x hk
  have hl := (List.getElem?_eq_some_iff.mp hk).1
  obtain ⟨r1, r2⟩ := kr k (by omega)
  exact ⟨cv_W_det h h' (by omega) r1 r2 a, by rw [← ps_det_a h h' (by omega) k4 (by decide) (by omega)]; exact b, by rw [← ps_det_a h h' (by omega) k5 (by decide) (by omega)]; exact d, by rw [← ps_det_a h h' (by omega) k6 (by decide) (by omega)]; exact e⟩
theorem cpP_det (h : ps_R w s) (h' : ps_R w s') {p : Nat} (hp : p = 50 ∨ p = 460) (H : cpP s p D c) : cpP s' p D c := by
  obtain ⟨⟨d1, d2⟩, e8, e9⟩ := H
  have kp : ps_K p = (1, 2, 0) := by
    rcases hp with rfl | rfl <;> decide +kernel
  refine ⟨⟨d1, fun k R hk => ?_⟩, by rw [← det_i h h' (q := 8) (by omega) kp (by decide) (Or.inl rfl)]; exact e8, by rw [← det_i h h' (q := 9) (by omega) kp (by decide) (Or.inl rfl)]; exact e9⟩
  have hl := (List.getElem?_eq_some_iff.mp hk).1
  obtain ⟨a1, a2, a3, a4, a5, a6, a7⟩ := d2 k R hk
  have hk40 : k < 40 := by omega
  obtain ⟨k0, k6, k7, k8⟩ := stc_K hp hk40
  have hlt : stc p k + 8 < 1179 := by
    unfold stc
    omega
  refine ⟨cv_W_det h h' (by omega) k6 k7 a1, by rw [← det_i h h' (q := 8) (by omega) k0 (by decide) (Or.inl rfl)]; exact a2, a3, fun n y hy => ?_, by rw [← det_i h h' (q := 10) (by omega) k0 (by decide) (Or.inl rfl)]; exact a5, by rw [← det_i h h' (q := 11) (by omega) k0 (by decide) (Or.inl rfl)]; exact a6, by rw [← det_j h h' (q := 12) (by omega) k0 (by decide) rfl]; exact a7⟩
  obtain ⟨oo, q, e1, e2, e3⟩ := a4 n y hy
  have hn := (List.getElem?_eq_some_iff.mp hy).1
  exact ⟨oo, q, by rw [← ps_det_a h h' (by omega) k8 (by decide) (by omega)]; exact e1, e2, e3⟩
theorem cBx_det (h : ps_R w s) (h' : ps_R w s') (H : cBx s B) : cBx s' B := fun k hk => by
  obtain ⟨a, b⟩ := H k hk
  have e := det_i h h' (r := 1038 + 31 * k) (q := 6) (by omega) (shq_K (bx_shq hk)).1.1 (by decide) (Or.inr rfl)
  exact ⟨fun Θ hΘ => ⟨by rw [← e]; exact (a Θ hΘ).1, cSh_det h h' (bx_shq hk) (a Θ hΘ).2⟩, fun hn => by rw [← e]; exact b hn⟩
theorem mpP_det (h : ps_R w s) (h' : ps_R w s') (H : mpP s D c) : mpP s' D c := by
  obtain ⟨⟨d1, d2⟩, e47, f0, f1⟩ := H
  have e : ∀ q, q = 47 ∨ q = 48 ∨ q = 49 → ps_i s 1131 q = ps_i s' 1131 q := fun q hq => by
    rcases hq with rfl | rfl | rfl
    · exact det_i h h' (r := 1131) (c := 12) (by decide) rfl (by decide) (Or.inl rfl)
    · exact det_i h h' (r := 1131) (c := 12) (by decide) rfl (by decide) (Or.inl rfl)
    · exact det_i h h' (r := 1131) (c := 12) (by decide) rfl (by decide) (Or.inl rfl)
  refine ⟨⟨d1, fun k R hk => ?_⟩, by rw [← e 47 (Or.inl rfl)]; exact e47, fun z => ?_, fun z => ?_⟩
  · have hl := (List.getElem?_eq_some_iff.mp hk).1
    obtain ⟨a1, a2, a3, a4, a5, a6, a7⟩ := d2 k R hk
    refine ⟨mv_W_det h h' (by omega) a1, by rw [← ps_det_a h h' (r := 1157) (t := 0) (n := 41) (by decide) rfl (by decide) (by omega)]; exact a2, a3, fun n y hy => ?_, by rw [← ps_det_a h h' (r := 1158) (t := 0) (n := 40) (by decide) rfl (by decide) (by omega)]; exact a5, by rw [← ps_det_a h h' (r := 1159) (t := 0) (n := 40) (by decide) rfl (by decide) (by omega)]; exact a6, by rw [← ps_det_b h h' (r := 1160) (n := 40) (by decide) rfl (by omega)]; exact a7⟩
    have hn := (List.getElem?_eq_some_iff.mp hy).1
    exact mv_W_det h h' (by omega) (a4 n y hy)
  · rw [← e 48 (Or.inr (Or.inl rfl)), ← e 49 (Or.inr (Or.inr rfl))]
    exact f0 z
  · rw [← e 48 (Or.inr (Or.inl rfl)), ← e 49 (Or.inr (Or.inr rfl))]
    exact f1 z
theorem mSh_det (h : ps_R w s) (h' : ps_R w s') (H : mSh s Θ) : mSh s' Θ := by
  obtain ⟨z1, z2, z3⟩ := H
  refine ⟨by rw [← det_i h h' (r := 1131) (c := 12) (q := 54) (by decide) rfl (by decide) (Or.inl rfl)]; exact z1, z2, fun k x hk => ?_⟩
  obtain ⟨a, b, d⟩ := z3 k x hk
  have hl := (List.getElem?_eq_some_iff.mp hk).1
  exact ⟨mv_W_det h h' (by omega) a, by rw [← ps_det_a h h' (r := 1161) (t := 0) (n := 12) (by decide) rfl (by decide) (by omega)]; exact b, by rw [← ps_det_a h h' (r := 1162) (t := 0) (n := 12) (by decide) rfl (by decide) (by omega)]; exact d⟩
theorem mBx_det (h : ps_R w s) (h' : ps_R w s') (H : mBx s B) : mBx s' B := fun k hk => by
  obtain ⟨a, b⟩ := H k hk
  have e := ps_det_a h h' (r := 1176) (t := 0) (n := 3) (i := k) (by decide) rfl (by decide) hk
  refine ⟨fun Θ hΘ => ?_, fun hn => by rw [← e]; exact b hn⟩
  obtain ⟨y1, y2, y3⟩ := a Θ hΘ
  refine ⟨by rw [← e]; exact y1, y2, fun i q hq => ?_⟩
  obtain ⟨u1, u2, u3⟩ := y3 i q hq
  have hl := (List.getElem?_eq_some_iff.mp hq).1
  exact ⟨mv_W_det h h' (by omega) u1, by rw [← ps_det_a h h' (r := 1177) (t := 0) (n := 36) (by decide) rfl (by decide) (by omega)]; exact u2, by rw [← ps_det_a h h' (r := 1178) (t := 0) (n := 36) (by decide) rfl (by decide) (by omega)]; exact u3⟩
/-- the class's half; the reference's half; what is so of both; the fault -/
def EXc (s : ps_S) (p p' : Nat) (D : List tq_R) (c : Nat) (Θ : List tq_H) (B : bx_T) (nl : List Nat) : Prop := (ps_r s 0 4 = p ∧ ps_r s 0 5 = p' ∧ ((p = 50 ∧ p' = 460) ∨ (p = 460 ∧ p' = 50))) ∧ cpP s p D c ∧ cSh s 870 Θ ∧ cBx s B ∧ cv_W s 1022 nl ∧ cv_W s 62 [] ∧ cv_W s 472 []
def EXm (s : ps_S) (D : List tq_R) (c : Nat) (Θ : List tq_H) (B : bx_T) (nl : List Nat) : Prop := mpP s D c ∧ mSh s Θ ∧ mBx s B ∧ mv_W s 25789 nl
def EXp (h : tx_H) (D : List tq_R) (Θ : List tq_H) (B : bx_T) : Prop := (tq_GD h.1 D ∧ tq_GT h.1 Θ ∧ THI Θ ∧ ∀ (k : Nat) (R : tq_R), D[k]? = some R → ∀ j, Θ.length ≤ j → j < 12 → bt R.2.2.2.1 j = false) ∧ ∀ (k : Nat) (Θb : List tq_H), k < 3 → B k = some Θb → tq_GT h.1 Θb ∧ THI Θb
def EXf (s : ps_S) : Prop := ps_i s 902 9 = ps_i s 1131 5 ∧ ps_i s 902 10 = ps_i s 1131 6
theorem det_p (h : ps_R w s) (h' : ps_R w s') : ps_r s 0 4 = ps_r s' 0 4 ∧ ps_r s 0 5 = ps_r s' 0 5 := ⟨Value.ref.inj (ps_det_f h h' (r := 0) (c := 11) (q := 4) (by decide) rfl (by decide)), Value.ref.inj (ps_det_f h h' (r := 0) (c := 11) (q := 5) (by decide) rfl (by decide))⟩
theorem EXc_det (h : ps_R w s) (h' : ps_R w s') {p p' : Nat} (H : EXc s p p' D c Θ B nl) : EXc s' p p' D c Θ B nl := by
  obtain ⟨⟨r4, r5, hp⟩, a, b, d, e, f, g⟩ := H
  obtain ⟨q4, q5⟩ := det_p h h'
  exact ⟨⟨by rw [← q4]; exact r4, by rw [← q5]; exact r5, hp⟩, cpP_det h h' (by omega) a, cSh_det h h' (Or.inl rfl) b, cBx_det h h' d, cv_W_det h h' (by decide) rfl rfl e, cv_W_det h h' (by decide) rfl rfl f, cv_W_det h h' (by decide) rfl rfl g⟩
theorem EXm_det (h : ps_R w s) (h' : ps_R w s') (H : EXm s D c Θ B nl) : EXm s' D c Θ B nl := by
  obtain ⟨a, b, d, e⟩ := H
  exact ⟨mpP_det h h' a, mSh_det h h' b, mBx_det h h' d, mv_W_det h h' (by decide) e⟩
theorem det_f (h : ps_R w s) (h' : ps_R w s') : ps_i s 902 9 = ps_i s' 902 9 ∧ ps_i s 902 10 = ps_i s' 902 10 ∧ ps_i s 1131 5 = ps_i s' 1131 5 ∧ ps_i s 1131 6 = ps_i s' 1131 6 := ⟨det_i h h' (r := 902) (c := 3) (by decide) rfl (by decide) (Or.inl rfl), det_i h h' (r := 902) (c := 3) (by decide) rfl (by decide) (Or.inl rfl), det_i h h' (r := 1131) (c := 12) (by decide) rfl (by decide) (Or.inl rfl), det_i h h' (r := 1131) (c := 12) (by decide) rfl (by decide) (Or.inl rfl)⟩
/-! frames -/
theorem cpP_cfr {C : Nat → Prop} {p : Nat} (hp : p = 50 ∨ p = 460) (P : cpP s p D c) (F : cfr C s s') (hC : ∀ q, p ≤ q → q < p + 410 → ¬ C q) : cpP s' p D c := by
  obtain ⟨d, e8, e9⟩ := P
  have d1 := d.1
  exact ⟨cpD_cfr d F (fun q a b => hC q (by unfold stc at a; omega) (by unfold stc at b; omega)), by rw [(F p (hC p (by omega) (by omega))).1]; exact e8, by rw [(F p (hC p (by omega) (by omega))).1]; exact e9⟩
theorem EXc_cfr {C : Nat → Prop} {p p' : Nat} (E : EXc s p p' D c Θ B nl) (F : cfr C s s') (r4 : ps_r s' 0 4 = ps_r s 0 4) (r5 : ps_r s' 0 5 = ps_r s 0 5) (hC : ∀ q, (50 ≤ q ∧ q < 901) ∨ q = 1022 ∨ q = 1023 ∨ (1038 ≤ q ∧ q < 1131) → ¬ C q) : EXc s' p p' D c Θ B nl := by
  obtain ⟨⟨q4, q5, hp⟩, a, b, d, e, f, g⟩ := E
  exact ⟨⟨r4.trans q4, r5.trans q5, hp⟩, cpP_cfr (by omega) a F (fun q u v => hC q (by omega)), cSh_cfr b F (fun q u v => hC q (by omega)), cBx_cfr d F (fun q u v => hC q (by omega)), cv_W_cfr e F (hC _ (by omega)) (hC _ (by omega)), cv_W_cfr f F (hC _ (by omega)) (hC _ (by omega)), cv_W_cfr g F (hC _ (by omega)) (hC _ (by omega))⟩
/-- the reference's cells, but for those told -/
theorem EXm_V {A F : List Nat} (E : EXm s D c Θ B nl) (K : kq A F s s') (hA : [1157, 1158, 1159, 1160, 1161, 1162, 1176, 1177, 1178].all (fun q => !A.contains q) = true) (hF : [47, 48, 49, 54].all (fun q => !F.contains q) = true) (hV : ∀ q, q < 21812 ∨ 25789 ≤ q → ps_a s' 1134 q = ps_a s 1134 q) : EXm s' D c Θ B nl := by
  rw [List.all_eq_true] at hA hF
  have fA : ∀ q, q ∈ [1157, 1158, 1159, 1160, 1161, 1162, 1176, 1177, 1178] → A.contains q = false := fun q hq => by
    have := hA q hq
    rw [Bool.not_eq_true'] at this
    exact this
  have fF : ∀ q, q ∈ [47, 48, 49, 54] → F.contains q = false := fun q hq => by
    have := hF q hq
    rw [Bool.not_eq_true'] at this
    exact this
  obtain ⟨⟨⟨d1, d2⟩, e47, f0, f1⟩, ⟨z1, z2, z3⟩, hB, hN⟩ := E
  refine ⟨⟨⟨d1, fun k R hk => ?_⟩, by rw [kq_i K 47 (fF _ (by decide))]; exact e47, fun z => by rw [kq_i K 48 (fF _ (by decide)), kq_i K 49 (fF _ (by decide))]; exact f0 z, fun z => by rw [kq_i K 48 (fF _ (by decide)), kq_i K 49 (fF _ (by decide))]; exact f1 z⟩, ⟨by rw [kq_i K 54 (fF _ (by decide))]; exact z1, z2, fun k x hk => ?_⟩, fun k hk => ?_, mv_W_V hN (fun q a b => hV q (by omega))⟩
  · have hl := (List.getElem?_eq_some_iff.mp hk).1
    obtain ⟨a1, a2, a3, a4, a5, a6, a7⟩ := d2 k R hk
    refine ⟨mv_W_V a1 (fun q a b => hV q (by omega)), by rw [kq_a K 1157 (fA _ (by decide))]; exact a2, a3, fun n y hy => ?_, by rw [kq_a K 1158 (fA _ (by decide))]; exact a5, by rw [kq_a K 1159 (fA _ (by decide))]; exact a6, by rw [kq_b K 1160 (fA _ (by decide))]; exact a7⟩
    have hn := (List.getElem?_eq_some_iff.mp hy).1
    exact mv_W_V (a4 n y hy) (fun q a b => hV q (by omega))
  · obtain ⟨a, b, d⟩ := z3 k x hk
    have hl := (List.getElem?_eq_some_iff.mp hk).1
    exact ⟨mv_W_V a (fun q u v => hV q (by omega)), by rw [kq_a K 1161 (fA _ (by decide))]; exact b, by rw [kq_a K 1162 (fA _ (by decide))]; exact d⟩
  · obtain ⟨a, b⟩ := hB k hk
    have e := kq_a K 1176 (fA _ (by decide))
    refine ⟨fun Θ' hΘ => ?_, fun hn => by rw [e]; exact b hn⟩
    obtain ⟨y1, y2, y3⟩ := a Θ' hΘ
    refine ⟨by rw [e]; exact y1, y2, fun i q hq => ?_⟩
    obtain ⟨u1, u2, u3⟩ := y3 i q hq
    have hl := (List.getElem?_eq_some_iff.mp hq).1
    exact ⟨mv_W_V u1 (fun q a b => hV q (by omega)), by rw [kq_a K 1177 (fA _ (by decide))]; exact u2, by rw [kq_a K 1178 (fA _ (by decide))]; exact u3⟩
/-- behind a call of the class -/
theorem EXm_x {t : Int32} (E : EXm s D c Θ B nl) (J : xJ s t s') : EXm s' D c Θ B nl := by
  have X : ∀ r, 1131 ≤ r → ps_i s' r = ps_i s r ∧ ps_j s' r = ps_j s r ∧ ps_a s' r = ps_a s r ∧ ps_b s' r = ps_b s r := J.2.2
  have V : ∀ q, ps_a s' 1134 q = ps_a s 1134 q := fun q => by rw [(X 1134 (by decide)).2.2.1]
  obtain ⟨⟨⟨d1, d2⟩, e47, f0, f1⟩, ⟨z1, z2, z3⟩, hB, hN⟩ := E
  have I := (X 1131 (by decide)).1
  refine ⟨⟨⟨d1, fun k R hk => ?_⟩, by rw [I]; exact e47, fun z => by rw [I]; exact f0 z, fun z => by rw [I]; exact f1 z⟩, ⟨by rw [I]; exact z1, z2, fun k x hk => ?_⟩, fun k hk => ?_, mv_W_V hN (fun q a b => V q)⟩
  · obtain ⟨a1, a2, a3, a4, a5, a6, a7⟩ := d2 k R hk
    exact ⟨mv_W_V a1 (fun q a b => V q), by rw [(X 1157 (by decide)).2.2.1]; exact a2, a3, fun n y hy => mv_W_V (a4 n y hy) (fun q a b => V q), by rw [(X 1158 (by decide)).2.2.1]; exact a5, by rw [(X 1159 (by decide)).2.2.1]; exact a6, by rw [(X 1160 (by decide)).2.2.2]; exact a7⟩
  · obtain ⟨a, b, d⟩ := z3 k x hk
    exact ⟨mv_W_V a (fun q u v => V q), by rw [(X 1161 (by decide)).2.2.1]; exact b, by rw [(X 1162 (by decide)).2.2.1]; exact d⟩
  · obtain ⟨a, b⟩ := hB k hk
    have e := (X 1176 (by decide)).2.2.1
    refine ⟨fun Θ' hΘ => ?_, fun hn => by rw [e]; exact b hn⟩
    obtain ⟨y1, y2, y3⟩ := a Θ' hΘ
    refine ⟨by rw [e]; exact y1, y2, fun i q hq => ?_⟩
    obtain ⟨u1, u2, u3⟩ := y3 i q hq
    exact ⟨mv_W_V u1 (fun q a b => V q), by rw [(X 1177 (by decide)).2.2.1]; exact u2, by rw [(X 1178 (by decide)).2.2.1]; exact u3⟩
end DET
/-- all that holds between two calls -/
def FSt (s : ps_S) (t : Int32) : Prop := LI s t ∧ LF s t ∧ ∃ h l p p' D c Θ B nl, TRc s h l ∧ TRm s h l ∧ BTh h ∧ EXc s p p' D c Θ B nl ∧ EXm s D c Θ B nl ∧ EXp h D Θ B ∧ EXf s
theorem FSt_I {s : ps_S} {t : Int32} (H : FSt s t) : ISt s t := by
  obtain ⟨a, b, h, l, p, p', D, c, Θ, B, nl, m1, m2, -⟩ := H
  exact ⟨a, b, LG_of m1 m2⟩
theorem EXp_0 {h : tx_H} : EXp h [] [] (fun _ => none) := ⟨⟨(fun k R hk => by cases hk), ⟨Nat.zero_le _, (fun k q hk => by cases hk)⟩, (fun k hk => absurd hk (Nat.not_lt_zero _)), (fun k R hk => by cases hk)⟩, (fun k Θb _ hb => by cases hb)⟩

