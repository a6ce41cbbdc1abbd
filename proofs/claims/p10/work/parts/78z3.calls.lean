set_option maxRecDepth 100000
/-! the state's parts, and what every call of the reference keeps -/
theorem ps_monoJ {d y : Nat} {args : List Value} {s : ps_S} {f g : Int64 → ps_S → Prop} (h : ps_Cl d y args s (ps_rJ f)) (k : ∀ v s', f v s' → g v s') : ps_Cl d y args s (ps_rJ g) := h.mono (fun _ s' z => rJ_mono z (fun v p => k v s' p))
theorem all_no {A : List Nat} {P : Nat → Bool} (hA : A.all P = true) {r : Nat} (hr : P r = false) : A.contains r = false := by
  cases e : A.contains r with
  | false => rfl
  | true =>
    rw [List.all_eq_true] at hA
    have := hA r (List.contains_iff_mem.mp e)
    rw [hr] at this
    cases this
def pA (a : Nat) : Bool := Nat.ble 1131 a && ![1132, 1135, 1136, 1137, 1138, 1139, 1140, 1141, 1142].contains a
theorem IMs_m {s s' : ps_S} {t : Int32} {u u' : Int} {A F : List Nat} (H : IMs s t u) (X : LX s' t u') (e : u' = t.toInt) (J : mJ s.1.2.2 t s') (K : kp A F s s') (hA : A.all pA = true) (hF : F.contains 21 = false) (hV : ∀ k, (21812 ≤ k ∧ k < 22468) ∨ (25748 ≤ k ∧ k < 25789) → ps_a s' 1134 k = ps_a s 1134 k) : ISt s' t := by
  refine ⟨LX_LI X e, LF_m H.2.1 J K (all_no hA rfl) (all_no hA rfl) (all_no hA rfl) (all_no hA rfl) (all_no hA rfl), LG_m H.2.2 J K ?_ hF hV⟩
  rw [List.all_eq_true] at hA ⊢
  intro a ha
  have z := hA a ha
  unfold pA at z
  rw [Bool.and_eq_true] at z ⊢
  refine ⟨z.1, ?_⟩
  have z2 := z.2
  rw [Bool.not_eq_true'] at z2 ⊢
  rw [Bool.eq_false_iff] at z2 ⊢
  intro q
  exact z2 (List.contains_iff_mem.mpr (List.mem_cons_of_mem _ (List.contains_iff_mem.mp q)))
theorem TRm_m {s s' : ps_S} {t : Int32} {A F : List Nat} {h : tx_H} {l : List Nat} (H : TRm s h l) (K : kp A F s s') (hA : A.all pA = true) (hF : F.contains 21 = false) (hV : ∀ k, (21812 ≤ k ∧ k < 22468) ∨ (25748 ≤ k ∧ k < 25789) → ps_a s' 1134 k = ps_a s 1134 k) : TRm s' h l := by
  obtain ⟨b, m1, m2, m3, m4⟩ := H
  refine ⟨b, m1, by rw [kp_i K 21 hF]; exact m2, mv_H_V m1 m3 (fun r hr => (K.2 r (all_no hA ?_)).1) (fun r hr => (K.2 r (all_no hA ?_)).2) (fun k a b => hV k (Or.inl ⟨a, b⟩)), mv_W_V m4 (fun k a b => hV k (Or.inr ⟨by omega, by omega⟩))⟩
  · exact (show ∀ r, r ∈ [1135, 1136, 1137, 1138, 1139] → pA r = false by decide) r hr
  · exact (show ∀ r, r ∈ [1140, 1141, 1142] → pA r = false by decide) r hr
theorem cx_152 {s : ps_S} {t : Int32} {x1 : Int32} (hI : LI s t) (hF : LF s t) : ps_Cl 299 152 [.ref 0, .int x1] s (ps_rI (fun _ s1 => XK t (fun _ => False) s s1)) :=
  xs_152 (d := 299) (LI_J hI) (fun v => ⟨LI_J hI, cfr_refl, ⟨rfl, rfl⟩, fun _ _ => rfl⟩)
theorem cx_154 {s : ps_S} {t : Int32} {x1 : Int32} (hI : LI s t) (hF : LF s t) : ps_Cl 299 154 [.ref 0, .int x1] s (ps_rI (fun _ s1 => XK t (fun _ => False) s s1)) :=
  xs_154 (d := 299) (LI_J hI) (fun v => ⟨LI_J hI, cfr_refl, ⟨rfl, rfl⟩, fun _ _ => rfl⟩)
theorem cx_155 {s : ps_S} {t : Int32} {x1 : Int32} {x2 : Int32} (hI : LI s t) (hF : LF s t) : ps_Cl 299 155 [.ref 0, .int x1, .int x2] s (ps_rI (fun _ s1 => XK t (fun _ => False) s s1)) :=
  xs_155 (d := 298) (LI_J hI) (fun v => ⟨LI_J hI, cfr_refl, ⟨rfl, rfl⟩, fun _ _ => rfl⟩)
theorem cx_156 {s : ps_S} {t : Int32} {x1 : Int32} {x2 : Int32} (hI : LI s t) (hF : LF s t) : ps_Cl 299 156 [.ref 0, .int x1, .int x2] s (ps_rI (fun _ s1 => XK t (fun _ => False) s s1)) :=
  xs_156 (d := 298) (LI_J hI) (fun v => ⟨LI_J hI, cfr_refl, ⟨rfl, rfl⟩, fun _ _ => rfl⟩)
theorem cx_157 {s : ps_S} {t : Int32} {x1 : Int32} {x2 : Int32} {x3 : Int32} (hI : LI s t) (hF : LF s t) : ps_Cl 299 157 [.ref 0, .int x1, .int x2, .int x3] s (ps_rI (fun _ s1 => XK t (fun _ => False) s s1)) :=
  xs_157 (d := 297) (LI_J hI) (fun v => ⟨LI_J hI, cfr_refl, ⟨rfl, rfl⟩, fun _ _ => rfl⟩)
theorem cx_159 {s : ps_S} {t : Int32} {x1 : Int32} {x2 : Int32} (hI : LI s t) (hF : LF s t) : ps_Cl 299 159 [.ref 0, .int x1, .int x2] s (ps_rI (fun _ s1 => XK t (fun _ => False) s s1)) :=
  xs_159 (d := 298) (LI_J hI) (fun v => ⟨LI_J hI, cfr_refl, ⟨rfl, rfl⟩, fun _ _ => rfl⟩)
theorem cx_160 {s : ps_S} {t : Int32} {x1 : Int32} {x2 : Int32} (hI : LI s t) (hF : LF s t) : ps_Cl 299 160 [.ref 0, .int x1, .int x2] s (ps_rI (fun _ s1 => XK t (fun _ => False) s s1)) :=
  xs_160 (d := 298) (LI_J hI) (fun v => ⟨LI_J hI, cfr_refl, ⟨rfl, rfl⟩, fun _ _ => rfl⟩)
theorem cx_163 {s : ps_S} {t : Int32} {x1 : Int32} (hI : LI s t) (hF : LF s t) : ps_Cl 299 163 [.ref 0, .int x1] s (ps_rI (fun _ s1 => XK t (fun _ => False) s s1)) :=
  xs_163 (d := 298) (LI_J hI) (fun v => ⟨LI_J hI, cfr_refl, ⟨rfl, rfl⟩, fun _ _ => rfl⟩)
theorem cx_164 {s : ps_S} {t : Int32}  (hI : LI s t) (hF : LF s t) : ps_Cl 299 164 [.ref 0] s (ps_rI (fun _ s1 => XK t (fun _ => False) s s1)) :=
  xs_164 (d := 297) (LI_J hI) (fun v => ⟨LI_J hI, cfr_refl, ⟨rfl, rfl⟩, fun _ _ => rfl⟩)
theorem cx_165 {s : ps_S} {t : Int32} {x1 : Int32} (hI : LI s t) (hF : LF s t) : ps_Cl 299 165 [.ref 0, .int x1] s (ps_rJ (fun _ s1 => XK t (fun _ => False) s s1)) :=
  xs_165 (d := 298) (LI_J hI) (fun v => ⟨LI_J hI, cfr_refl, ⟨rfl, rfl⟩, fun _ _ => rfl⟩)
theorem cx_170 {s : ps_S} {t : Int32} {x1 : Int32} (hI : LI s t) (hF : LF s t) : ps_Cl 299 170 [.ref 0, .int x1] s (ps_rI (fun _ s1 => XK t (fun _ => False) s s1)) :=
  xs_170 (d := 298) (LI_J hI) (fun v => ⟨LI_J hI, cfr_refl, ⟨rfl, rfl⟩, fun _ _ => rfl⟩)
theorem cx_178 {s : ps_S} {t : Int32} {x1 : Int32} (hI : LI s t) (hF : LF s t) : ps_Cl 299 178 [.ref 0, .int x1] s (ps_rI (fun _ s1 => XK t (fun _ => False) s s1)) :=
  xs_178 (d := 299) (LI_J hI) (fun v => ⟨LI_J hI, cfr_refl, ⟨rfl, rfl⟩, fun _ _ => rfl⟩)
theorem TRm_po {s s' : ps_S} {h0 : tx_H} {l l' : List Nat} (m : TRm s h0 l) (K : kq [1133, 1134, 1143, 1144, 1145, 1146, 1147, 1148] [3, 4, 5, 6, 7, 8, 9, 10, 11, 22, 23, 29, 30, 31, 32] s s') (P : mv_po 25748 s s') (W : mv_W s' 25748 l') : TRm s' h0 l' := by
  obtain ⟨b, m1, m2, m3, m4⟩ := m
  exact ⟨b, m1, by rw [kq_i K 21 rfl]; exact m2, mv_H_V m1 m3 (fun r hr => kq_a K r ((show ∀ r, r ∈ [1135, 1136, 1137, 1138, 1139] → [1133, 1134, 1143, 1144, 1145, 1146, 1147, 1148].contains r = false by decide) r hr)) (fun r hr => kq_b K r ((show ∀ r, r ∈ [1140, 1141, 1142] → [1133, 1134, 1143, 1144, 1145, 1146, 1147, 1148].contains r = false by decide) r hr)) (fun k a b => P k (by omega)), W⟩
theorem pc_x {n : Nat} {s : ps_S} {h : tx_H} {l : List Nat} {x1 : Int32} (c : TRc s h l) : pl_Cl n 163 [.ref 0, .int x1] s (ps_rI (fun v _ => pc_is l x1 v)) := fs_163 c.2.2 (fun v z => z)
theorem pc_m {n : Nat} {s : ps_S} {h : tx_H} {l : List Nat} {x1 : Int32} (m : TRm s h l) : pl_Cl n 275 [.ref 1131, .int x1] s (ps_rI (fun v _ => pc_is l x1 v)) := by
  obtain ⟨b, -, -, -, m4⟩ := m
  exact fm_275 m4 (fun v z => z)
/-- all of it, named -/
def FSa (s : ps_S) (t : Int32) (h : tx_H) (l : List Nat) (p p' : Nat) (D : List tq_R) (c : Nat) (Θ : List tq_H) (B : bx_T) (nl : List Nat) : Prop := LI s t ∧ LF s t ∧ TRc s h l ∧ TRm s h l ∧ BTh h ∧ EXc s p p' D c Θ B nl ∧ EXm s D c Θ B nl ∧ EXp h D Θ B ∧ EXf s
theorem FSt_to {s : ps_S} {t : Int32} (H : FSt s t) : ∃ h l p p' D c Θ B nl, FSa s t h l p p' D c Θ B nl := by
  obtain ⟨a, b, h, l, p, p', D, c, Θ, B, nl, z⟩ := H
  exact ⟨h, l, p, p', D, c, Θ, B, nl, a, b, z⟩
theorem l8_no {A L : List Nat} (h : L.all (fun q => !A.contains q) = true) {q : Nat} (hq : q ∈ L) : A.contains q = false := by
  rw [List.all_eq_true] at h
  have := h q hq
  rw [Bool.not_eq_true'] at this
  exact this
theorem TRm_n {s s' : ps_S} {A F : List Nat} {h : tx_H} {l : List Nat} (H : TRm s h l) (K : kp A F s s') (hA : A.all pA = true) (hF : F.contains 21 = false) (hV : ∀ k, (21812 ≤ k ∧ k < 22468) ∨ (25748 ≤ k ∧ k < 25789) → ps_a s' 1134 k = ps_a s 1134 k) : TRm s' h l := TRm_m (t := 0) H K hA hF hV
def CR (q : Nat) : Prop := 1131 ≤ q
def pC (a : Nat) : Bool := Nat.ble 1131 a && !(Nat.beq a 1132)
section FS
variable {s s' : ps_S} {t : Int32} {h : tx_H} {l : List Nat} {p p' : Nat} {D : List tq_R} {c : Nat} {Θ : List tq_H} {B : bx_T} {nl : List Nat}
theorem FSt_a (A : FSa s t h l p p' D c Θ B nl) : FSt s t := ⟨A.1, A.2.1, h, l, p, p', D, c, Θ, B, nl, A.2.2⟩
theorem mpP_V {A F : List Nat} (P : mpP s D c) (K : kq A F s s') (hA : [1157, 1158, 1159, 1160].all (fun q => !A.contains q) = true) (hF : [47, 48, 49].all (fun q => !F.contains q) = true) (hV : ∀ q, q < 21320 → ps_a s' 1134 q = ps_a s 1134 q) : mpP s' D c := by
  obtain ⟨⟨d1, d2⟩, e47, f0, f1⟩ := P
  refine ⟨⟨d1, fun k R hk => ?_⟩, by rw [kq_i K 47 (l8_no hF (by decide))]; exact e47, fun z => by rw [kq_i K 48 (l8_no hF (by decide)), kq_i K 49 (l8_no hF (by decide))]; exact f0 z, fun z => by rw [kq_i K 48 (l8_no hF (by decide)), kq_i K 49 (l8_no hF (by decide))]; exact f1 z⟩
  have hl := (List.getElem?_eq_some_iff.mp hk).1
  obtain ⟨a1, a2, a3, a4, a5, a6, a7⟩ := d2 k R hk
  refine ⟨mv_W_V a1 (fun q a b => hV q (by omega)), by rw [kq_a K 1157 (l8_no hA (by decide))]; exact a2, a3, fun n y hy => ?_, by rw [kq_a K 1158 (l8_no hA (by decide))]; exact a5, by rw [kq_a K 1159 (l8_no hA (by decide))]; exact a6, by rw [kq_b K 1160 (l8_no hA (by decide))]; exact a7⟩
  have hn := (List.getElem?_eq_some_iff.mp hy).1
  exact mv_W_V (a4 n y hy) (fun q a b => hV q (by omega))
theorem mSh_V {A F : List Nat} (S : mSh s Θ) (K : kq A F s s') (hA : [1161, 1162].all (fun q => !A.contains q) = true) (hF : F.contains 54 = false) (hV : ∀ q, 21320 ≤ q → q < 21812 → ps_a s' 1134 q = ps_a s 1134 q) : mSh s' Θ := by
  obtain ⟨z1, z2, z3⟩ := S
  refine ⟨by rw [kq_i K 54 hF]; exact z1, z2, fun k x hk => ?_⟩
  obtain ⟨a, b, d⟩ := z3 k x hk
  have hl := (List.getElem?_eq_some_iff.mp hk).1
  exact ⟨mv_W_V a (fun q u v => hV q (by omega) (by omega)), by rw [kq_a K 1161 (l8_no hA (by decide))]; exact b, by rw [kq_a K 1162 (l8_no hA (by decide))]; exact d⟩
theorem mBx_V {A F : List Nat} (H : mBx s B) (K : kq A F s s') (hA : [1176, 1177, 1178].all (fun q => !A.contains q) = true) (hV : ∀ q, 25830 ≤ q → ps_a s' 1134 q = ps_a s 1134 q) : mBx s' B := fun k hk => by
  obtain ⟨a, b⟩ := H k hk
  have e := kq_a K 1176 (l8_no hA (by decide))
  refine ⟨fun Θ' hΘ => ?_, fun hn => by rw [e]; exact b hn⟩
  obtain ⟨y1, y2, y3⟩ := a Θ' hΘ
  refine ⟨by rw [e]; exact y1, y2, fun i q hq => ?_⟩
  obtain ⟨u1, u2, u3⟩ := y3 i q hq
  have hl := (List.getElem?_eq_some_iff.mp hq).1
  exact ⟨mv_W_V u1 (fun q a b => hV q (by omega)), by rw [kq_a K 1177 (l8_no hA (by decide))]; exact u2, by rw [kq_a K 1178 (l8_no hA (by decide))]; exact u3⟩
theorem EXf_x {C : Nat → Prop} (J : XK t C s s') (hC : ¬ C 902) (E : EXf s) : EXf s' := by
  have I := (J.1.2.2 1131 (by decide)).1
  unfold EXf
  rw [(J.2.1 902 hC).1 9, (J.2.1 902 hC).1 10, I]
  exact E
/-- behind a call of the class that leaves the state's parts as they are -/
theorem FX {C : Nat → Prop} (A : FSa s t h l p p' D c Θ B nl) (J : XK t C s s') (hC : ∀ q, q < 50 ∨ (50 ≤ q ∧ q < 903) ∨ q = 934 ∨ q = 935 ∨ q = 1022 ∨ q = 1023 ∨ (1038 ≤ q ∧ q < 1131) → ¬ C q) : FSa s' t h l p p' D c Θ B nl := by
  obtain ⟨aI, aF, aC, aM, aB, aX, aN, aP, aE⟩ := A
  have f0 := J.2.1 0 (hC 0 (by omega))
  exact ⟨LX_LI (LI_x aI J.1) rfl, LF_k aF J (hC 1 (by omega)) (hC 6 (by omega)) (hC 30 (by omega)) (Int.le_refl _), TRc_x aC J (fun q a => hC q (by omega)), TRm_x aM J.1, aB, EXc_cfr aX J.2.1 (f0.2.2.1 4) (f0.2.2.1 5) (fun q a => hC q (by omega)), EXm_x aN J.1, aP, EXf_x J (hC 902 (by omega)) aE⟩
def RFr (s s' : ps_S) (t : Int32) : Prop := LI s' t ∧ LF s' t ∧ cfr CR s s' ∧ ps_r s' = ps_r s
def RFk (s s' : ps_S) : Prop := (∀ h l, TRm s h l → TRm s' h l) ∧ (∀ D c Θ B nl, EXm s D c Θ B nl → EXm s' D c Θ B nl) ∧ ps_i s' 1131 5 = ps_i s 1131 5 ∧ ps_i s' 1131 6 = ps_i s 1131 6
theorem RFr_c (R : RFr s s' t) (T : TRc s h l) : TRc s' h l := by
  obtain ⟨-, -, F, r⟩ := R
  obtain ⟨c1, c2, c3⟩ := T
  have := c1.2.2.1
  exact ⟨by rw [r]; exact cv_H_cfr c1 F (fun q a b => by unfold CR; omega), by rw [r]; exact c2, cv_W_cfr c3 F (by unfold CR; omega) (by unfold CR; omega)⟩
theorem RFr_x (R : RFr s s' t) (E : EXc s p p' D c Θ B nl) : EXc s' p p' D c Θ B nl := EXc_cfr E R.2.2.1 (by rw [R.2.2.2]) (by rw [R.2.2.2]) (fun q a => by unfold CR; omega)
theorem RFr_f (R : RFr s s' t) : ps_i s' 902 9 = ps_i s 902 9 ∧ ps_i s' 902 10 = ps_i s 902 10 := ⟨(R.2.2.1 902 (by unfold CR; omega)).1 9, (R.2.2.1 902 (by unfold CR; omega)).1 10⟩
/-- both calls done -/
theorem FMk (R : RFr s s' t) (aC : TRc s h l) (aX : EXc s p p' D c Θ B nl) (m : TRm s' h l) (b : BTh h) (n : EXm s' D c Θ B nl) (e : EXp h D Θ B) (f : ps_i s 902 9 = ps_i s' 1131 5 ∧ ps_i s 902 10 = ps_i s' 1131 6) : FSt s' t := ⟨R.1, R.2.1, h, l, p, p', D, c, Θ, B, nl, RFr_c R aC, m, b, RFr_x R aX, n, e, (RFr_f R).1.trans f.1, (RFr_f R).2.trans f.2⟩
theorem FM (A : FSa s t h l p p' D c Θ B nl) (R : RFr s s' t ∧ RFk s s') : FSt s' t := by
  obtain ⟨aI, aF, aC, aM, aB, aX, aN, aP, aE⟩ := A
  obtain ⟨R, k1, k2, k3, k4⟩ := R
  exact FMk R aC aX (k1 _ _ aM) aB (k2 _ _ _ _ _ aN) aP ⟨aE.1.trans k3.symm, aE.2.trans k4.symm⟩
theorem CR_m {A F : List Nat} (J : mJ s.1.2.2 t s') (K : kp A F s s') (hA : A.all (fun a => Nat.ble 1131 a) = true) : cfr CR s s' ∧ ps_r s' = ps_r s := by
  rw [List.all_eq_true] at hA
  refine ⟨fun q hq => ?_, J.1⟩
  have h1 : q < 1131 := by
    unfold CR at hq
    omega
  have h2 : A.contains q = false := by
    cases e : A.contains q with
    | false => rfl
    | true =>
      have := Nat.le_of_ble_eq_true (hA q (List.contains_iff_mem.mp e))
      omega
  exact ⟨fun f => (K.1 q f (fun e => by omega)).1, fun f => (K.1 q f (fun e => by omega)).2, fun f => congrFun (congrFun J.1 q) f, (K.2 q h2).1, (K.2 q h2).2⟩
theorem RFr_m {A F : List Nat} (hF : LF s t) (hI : LI s' t) (J : mJ s.1.2.2 t s') (K : kp A F s s') (hA : A.all pC = true) : RFr s s' t := by
  have h2 : A.all (fun a => Nat.ble 1131 a) = true := by
    rw [List.all_eq_true] at hA ⊢
    intro a ha
    have z := hA a ha
    unfold pC at z
    rw [Bool.and_eq_true] at z
    exact z.1
  obtain ⟨e1, e2⟩ := CR_m J K h2
  exact ⟨hI, LF_m hF J K (all_no hA rfl) (all_no hA rfl) (all_no hA rfl) (all_no hA rfl) (all_no hA rfl), e1, e2⟩
theorem RFk_m {A F : List Nat} (J : mJ s.1.2.2 t s') (K : kp A F s s') (hA : A.all pA = true) (hB : [1134, 1157, 1158, 1159, 1160, 1161, 1162, 1176, 1177, 1178].all (fun q => !A.contains q) = true) (hF : [5, 6, 21, 47, 48, 49, 54].all (fun q => !F.contains q) = true) : RFk s s' := by
  have V : ∀ q, ps_a s' 1134 q = ps_a s 1134 q := fun q => by rw [(K.2 1134 (l8_no hB (by decide))).1]
  have K2 : kq A F s s' := ⟨K, J.1⟩
  refine ⟨fun h l H => TRm_n H K hA (l8_no hF (by decide)) (fun q _ => V q), fun D c Θ B nl E => EXm_V E K2 ?_ ?_ (fun q _ => V q), kq_i K2 5 (l8_no hF (by decide)), kq_i K2 6 (l8_no hF (by decide))⟩
  · rw [List.all_eq_true] at hB ⊢
    exact fun q hq => hB q (List.mem_cons_of_mem _ hq)
  · rw [List.all_eq_true] at hF ⊢
    exact fun q hq => hF q (List.mem_cons_of_mem _ (List.mem_cons_of_mem _ (List.mem_cons_of_mem _ hq)))
theorem RF_0 (hI : LI s t) (hF : LF s t) : RFr s s t ∧ RFk s s := ⟨⟨hI, hF, cfr_refl, rfl⟩, fun _ _ z => z, fun _ _ _ _ _ z => z, rfl, rfl⟩
end FS
theorem rJ_and {f g : Int64 → ps_S → Prop} {o : Option Value} {s : ps_S} (h : ps_rJ f o s) (h' : ps_rJ g o s) : ps_rJ (fun v s => f v s ∧ g v s) o s := by
  obtain ⟨v, rfl, p⟩ := l2_lng h
  exact ⟨p, h'⟩
theorem ps_andlJ {d y : Nat} {args : List Value} {s : ps_S} {f : Int64 → ps_S → Prop} {P : Int64 → Prop} (h : ps_Cl d y args s (ps_rJ f)) (h2 : ∀ n, pl_Cl n y args s (ps_rJ (fun v _ => P v))) : ps_Cl d y args s (ps_rJ (fun v s' => f v s' ∧ P v)) := (ps_andl h h2 (fun o w s1 s2 r1 r2 q => by
  obtain ⟨v, rfl, q⟩ := l2_lng q
  exact q)).mono (fun _ _ z => rJ_and z.1 z.2)
theorem TRm_W {s : ps_S} {h : tx_H} {l : List Nat} (m : TRm s h l) : mv_W s 25748 l := by
  obtain ⟨b, -, -, -, m4⟩ := m
  exact m4
/-! what calls of the reference keep: the whole state but for what they are there to change -/
theorem cf_199 {s : ps_S} {t : Int32} {x1 : Int32} (hI : LI s t) (hF : LF s t) : ps_Cl 299 199 [.ref 1131, .int x1] s (ps_rI (fun _ s2 => RFr s s2 t ∧ RFk s s2)) := 
  ms_199 (d := 299) hI.2.1 (fun v => RF_0 hI hF)
theorem cf_261 {s : ps_S} {t : Int32} {x1 : Int32} (hI : LI s t) (hF : LF s t) : ps_Cl 299 261 [.ref 1131, .int x1] s (ps_rI (fun _ s2 => RFr s s2 t ∧ RFk s s2)) := 
  ms_261 (d := 299) hI.2.1 (fun v => RF_0 hI hF)
theorem cf_263 {s : ps_S} {t : Int32} {x1 : Int32} {x2 : Int32} (hI : LI s t) (hF : LF s t) : ps_Cl 299 263 [.ref 1131, .int x1, .int x2] s (ps_rI (fun _ s2 => RFr s s2 t ∧ RFk s s2)) := 
  ms_263 (d := 297) hI.2.1 (fun v => RF_0 hI hF)
theorem cf_265 {s : ps_S} {t : Int32} {x1 : Int32} {x2 : Int32} (hI : LI s t) (hF : LF s t) : ps_Cl 299 265 [.ref 1131, .int x1, .int x2] s (ps_rI (fun _ s2 => RFr s s2 t ∧ RFk s s2)) := 
  ms_265 (d := 297) hI.2.1 (fun v => RF_0 hI hF)
theorem cf_266 {s : ps_S} {t : Int32} {x1 : Int32} {x2 : Int32} {x3 : Int32} (hI : LI s t) (hF : LF s t) : ps_Cl 299 266 [.ref 1131, .int x1, .int x2, .int x3] s (ps_rI (fun _ s2 => RFr s s2 t ∧ RFk s s2)) := 
  ms_266 (d := 297) hI.2.1 (fun v => RF_0 hI hF)
theorem cf_269 {s : ps_S} {t : Int32} {x1 : Int32} {x2 : Int32} (hI : LI s t) (hF : LF s t) : ps_Cl 299 269 [.ref 1131, .int x1, .int x2] s (ps_rI (fun _ s2 => RFr s s2 t ∧ RFk s s2)) := 
  ms_269 (d := 297) hI.2.1 (fun v => RF_0 hI hF)
theorem cf_271 {s : ps_S} {t : Int32} {x1 : Int32} {x2 : Int32} (hI : LI s t) (hF : LF s t) : ps_Cl 299 271 [.ref 1131, .int x1, .int x2] s (ps_rI (fun _ s2 => RFr s s2 t ∧ RFk s s2)) := 
  ms_271 (d := 298) hI.2.1 (fun v => RF_0 hI hF)
theorem cf_275 {s : ps_S} {t : Int32} {x1 : Int32} (hI : LI s t) (hF : LF s t) : ps_Cl 299 275 [.ref 1131, .int x1] s (ps_rI (fun _ s2 => RFr s s2 t ∧ RFk s s2)) := 
  ms_275 (d := 297) hI.2.1 (fun v => RF_0 hI hF)
theorem cf_276 {s : ps_S} {t : Int32}  (hI : LI s t) (hF : LF s t) : ps_Cl 299 276 [.ref 1131] s (ps_rI (fun _ s2 => RFr s s2 t ∧ RFk s s2)) := 
  ms_276 (d := 297) hI.2.1 (fun v => RF_0 hI hF)
theorem cf_267 {s : ps_S} {t : Int32} {x1 : Int32} (hI : LI s t) (hF : LF s t) : ps_Cl 299 267 [.ref 1131, .int x1] s (ps_rJ (fun _ s2 => RFr s s2 t ∧ RFk s s2)) := 
  ms_267 (d := 297) hI.2.1 (fun v => RF_0 hI hF)
theorem cf_280 {s : ps_S} {t : Int32}  (hI : LI s t) (hF : LF s t) : ps_Cl 299 280 [.ref 1131] s (ps_rI (fun _ s2 => RFr s s2 t ∧ RFk s s2)) := by
  obtain ⟨σ, h4⟩ := hI.2.2.2.1
  exact ms_280 (d := 295) (LI_LX hI).2.1 h4 (fun v s2 J2 K2 => ⟨RFr_m hF (LX_LI (LX_mk (LI_LX hI) J2 (LX_3 (LI_LX hI) K2 rfl) (LX_M (LI_LX hI) K2 rfl rfl rfl rfl rfl rfl rfl rfl rfl rfl rfl) (LX_D (LI_LX hI) K2 rfl) (LX_F (LI_LX hI) K2 rfl)) rfl) J2 K2 rfl, RFk_m J2 K2 rfl rfl rfl⟩)
theorem cf_281 {s : ps_S} {t : Int32}  (hI : LI s t) (hF : LF s t) : ps_Cl 299 281 [.ref 1131] s (ps_rI (fun _ s2 => RFr s s2 t ∧ RFk s s2)) := by
  obtain ⟨σ, h4⟩ := hI.2.2.2.1
  exact ms_281 (d := 295) (LI_LX hI).2.1 h4 (fun v s2 J2 K2 => ⟨RFr_m hF (LX_LI (LX_mk (LI_LX hI) J2 (LX_3 (LI_LX hI) K2 rfl) (LX_M (LI_LX hI) K2 rfl rfl rfl rfl rfl rfl rfl rfl rfl rfl rfl) (LX_D (LI_LX hI) K2 rfl) (LX_F (LI_LX hI) K2 rfl)) rfl) J2 K2 rfl, RFk_m J2 K2 rfl rfl rfl⟩)
theorem cf_282 {s : ps_S} {t : Int32}  (hI : LI s t) (hF : LF s t) : ps_Cl 299 282 [.ref 1131] s (ps_rI (fun _ s2 => RFr s s2 t ∧ RFk s s2)) := by
  obtain ⟨σ, h4⟩ := hI.2.2.2.1
  exact ms_282 (d := 295) (LI_LX hI).2.1 h4 (fun v s2 J2 K2 => ⟨RFr_m hF (LX_LI (LX_mk (LI_LX hI) J2 (LX_3 (LI_LX hI) K2 rfl) (LX_M (LI_LX hI) K2 rfl rfl rfl rfl rfl rfl rfl rfl rfl rfl rfl) (LX_D (LI_LX hI) K2 rfl) (LX_F (LI_LX hI) K2 rfl)) rfl) J2 K2 rfl, RFk_m J2 K2 rfl rfl rfl⟩)
theorem cf_289 {s : ps_S} {t : Int32} {x1 : Int32} (hI : LI s t) (hF : LF s t) : ps_Cl 299 289 [.ref 1131, .int x1] s (ps_rI (fun _ s2 => RFr s s2 t ∧ RFk s s2)) := 
  ms_289 (d := 297) hI.2.1 (fun v => RF_0 hI hF)
theorem cf_285 {s : ps_S} {t : Int32}  (hI : LI s t) (hF : LF s t) : ps_Cl 299 285 [.ref 1131] s (ps_rI (fun _ s2 => RFr s s2 t ∧ RFk s s2)) := by
  obtain ⟨σ, h4⟩ := hI.2.2.2.1
  exact ms_285 (d := 296) (LI_LX hI).2.1 h4 (fun v s2 J2 K2 => ⟨RFr_m hF (LX_LI (LX_mk (LI_LX hI) J2 (LX_3 (LI_LX hI) K2 rfl) (LX_M (LI_LX hI) K2 rfl rfl rfl rfl rfl rfl rfl rfl rfl rfl rfl) (LX_D (LI_LX hI) K2 rfl) (LX_F (LI_LX hI) K2 rfl)) rfl) J2 K2 rfl, RFk_m J2 K2 rfl rfl rfl⟩)
theorem cf_301 {s : ps_S} {t : Int32} {x1 : Int32} (hI : LI s t) (hF : LF s t) : ps_Cl 299 301 [.ref 1131, .int x1] s (ps_rI (fun _ s2 => RFr s s2 t ∧ RFk s s2)) := by
  obtain ⟨σ, h4⟩ := hI.2.2.2.1
  exact ms_301 (d := 297) (LI_LX hI).2.1 (MI_S h4) (fun v s2 J2 K2 p0 p1 p2 => ⟨RFr_m hF (LX_LI (LX_mk (LI_LX hI) J2 (LX_3 (LI_LX hI) K2 rfl) (LX_M (LI_LX hI) K2 rfl rfl rfl rfl rfl rfl rfl rfl rfl rfl rfl) (LX_D (LI_LX hI) K2 rfl) (LX_F (LI_LX hI) K2 rfl)) rfl) J2 K2 rfl, RFk_m J2 K2 rfl rfl rfl⟩)
theorem cf_302 {s : ps_S} {t : Int32} {x1 : Int32} (hI : LI s t) (hF : LF s t) : ps_Cl 299 302 [.ref 1131, .int x1] s (ps_rI (fun _ s2 => RFr s s2 t ∧ RFk s s2)) := by
  obtain ⟨σ, h4⟩ := hI.2.2.2.1
  exact ms_302 (d := 293) (LI_LX hI).2.1 h4 (LI_LX hI).2.2.2.2.1 (LI_LX hI).2.2.2.2.2 (fun v s2 J2 K2 p0 p1 => ⟨RFr_m hF (LX_LI (LX_mk (LI_LX hI) J2 (LX_3 (LI_LX hI) K2 rfl) (LX_M (LI_LX hI) K2 rfl rfl rfl rfl rfl rfl rfl rfl rfl rfl rfl) (p0) (p1)) rfl) J2 K2 rfl, RFk_m J2 K2 rfl rfl rfl⟩)
theorem cf_303 {s : ps_S} {t : Int32} {x1 : Int32} {x2 : Int32} (hI : LI s t) (hF : LF s t) : ps_Cl 299 303 [.ref 1131, .int x1, .int x2] s (ps_rI (fun _ s2 => RFr s s2 t ∧ RFk s s2)) := by
  obtain ⟨σ, h4⟩ := hI.2.2.2.1
  exact ms_303 (d := 294) (LI_LX hI).2.1 h4 (LI_LX hI).2.2.2.2.1 (LI_LX hI).2.2.2.2.2 (fun v s2 J2 K2 p0 p1 => ⟨RFr_m hF (LX_LI (LX_mk (LI_LX hI) J2 (LX_3 (LI_LX hI) K2 rfl) (LX_M (LI_LX hI) K2 rfl rfl rfl rfl rfl rfl rfl rfl rfl rfl rfl) (p0) (p1)) rfl) J2 K2 rfl, RFk_m J2 K2 rfl rfl rfl⟩)
theorem cf_304 {s : ps_S} {t : Int32} {x1 : Int32} (hI : LI s t) (hF : LF s t) : ps_Cl 299 304 [.ref 1131, .int x1] s (ps_rI (fun _ s2 => RFr s s2 t ∧ RFk s s2)) := by
  obtain ⟨σ, h4⟩ := hI.2.2.2.1
  exact ms_304 (d := 293) (LI_LX hI).2.1 h4 (LI_LX hI).2.2.2.2.1 (LI_LX hI).2.2.2.2.2 (fun v s2 J2 K2 p0 p1 => ⟨RFr_m hF (LX_LI (LX_mk (LI_LX hI) J2 (LX_3 (LI_LX hI) K2 rfl) (LX_M (LI_LX hI) K2 rfl rfl rfl rfl rfl rfl rfl rfl rfl rfl rfl) (p0) (p1)) rfl) J2 K2 rfl, RFk_m J2 K2 rfl rfl rfl⟩)
theorem cf_307 {s : ps_S} {t : Int32} {x1 : Int32} (hI : LI s t) (hF : LF s t) : ps_Cl 299 307 [.ref 1131, .int x1] s (ps_rI (fun _ s2 => RFr s s2 t ∧ RFk s s2)) := 
  ms_307 (d := 298) hI.2.1 (fun v => RF_0 hI hF)
theorem cr_268 {s : ps_S} {t : Int32}  (hI : LI s t) (hF : LF s t) : ps_Cl 299 268 [.ref 1131] s (ps_rI (fun _ s2 => RFr s s2 t)) := by
  obtain ⟨σ, h4⟩ := hI.2.2.2.1
  exact mw_268 (d := 298) (LI_LX hI).2.1 h4 (gv := ps_a s 1134) (fun k _ => rfl) (fun v s2 J2 K2 p0 pV => RFr_m hF (LX_LI (LX_mk (LI_LX hI) J2 (LX_3 (LI_LX hI) K2 rfl) (⟨σ, p0⟩) (LX_D (LI_LX hI) K2 rfl) (LX_F (LI_LX hI) K2 rfl)) rfl) J2 K2 rfl)
theorem cr_273 {s : ps_S} {t : Int32}  (hI : LI s t) (hF : LF s t) : ps_Cl 299 273 [.ref 1131] s (ps_rI (fun _ s2 => RFr s s2 t)) := by
  obtain ⟨σ, h4⟩ := hI.2.2.2.1
  exact ms_273 (d := 298) (LI_LX hI).2.1 h4 (fun v s2 J2 K2 p0 => RFr_m hF (LX_LI (LX_mk (LI_LX hI) J2 (LX_3 (LI_LX hI) K2 rfl) (⟨σ, p0⟩) (LX_D (LI_LX hI) K2 rfl) (LX_F (LI_LX hI) K2 rfl)) rfl) J2 K2 rfl)
theorem cr_305 {s : ps_S} {t : Int32} {x1 : Int32} (hI : LI s t) (hF : LF s t) : ps_Cl 299 305 [.ref 1131, .int x1] s (ps_rI (fun _ s2 => RFr s s2 t)) := by
  obtain ⟨σ, h4⟩ := hI.2.2.2.1
  exact mw_305 (d := 298) (LI_LX hI).2.1 h4 (gv := ps_a s 1134) (fun k _ => rfl) (fun v s2 J2 K2 p0 pV => RFr_m hF (LX_LI (LX_mk (LI_LX hI) J2 (LX_3 (LI_LX hI) K2 rfl) (⟨σ, p0⟩) (LX_D (LI_LX hI) K2 rfl) (LX_F (LI_LX hI) K2 rfl)) rfl) J2 K2 rfl)
theorem cr_306 {s : ps_S} {t : Int32} {x1 : Int32} (hI : LI s t) (hF : LF s t) : ps_Cl 299 306 [.ref 1131, .int x1] s (ps_rI (fun _ s2 => RFr s s2 t)) := by
  obtain ⟨σ, h4⟩ := hI.2.2.2.1
  exact mw_306 (d := 298) (LI_LX hI).2.1 h4 (gv := ps_a s 1134) (fun k _ => rfl) (fun v s2 J2 K2 p0 pV => RFr_m hF (LX_LI (LX_mk (LI_LX hI) J2 (LX_3 (LI_LX hI) K2 rfl) (⟨σ, p0⟩) (LX_D (LI_LX hI) K2 rfl) (LX_F (LI_LX hI) K2 rfl)) rfl) J2 K2 rfl)
theorem cr_240 {s : ps_S}   {u : Int} (X : LX s 0 u) (hF : LF s 0) : ps_Cl 299 240 [.ref 1131] s (ps_rI (fun _ s2 => RFr s s2 0)) := by
  obtain ⟨σ, h4⟩ := X.2.2.2.1
  exact mw_240 (d := 292) X.2.1 h4 (gv := ps_a s 1134) (fun k _ => rfl) (fun v s2 J2 K2 p0 p1 pV => RFr_m hF (LX_LI (LX_mk X J2 (p1) (⟨σ, p0⟩) (LX_D X K2 rfl) (LX_F X K2 rfl)) rfl) J2 K2 rfl)
theorem cr_274 {s : ps_S}   {u : Int} (X : LX s 0 u) (hF : LF s 0) : ps_Cl 299 274 [.ref 1131] s (ps_rI (fun _ s2 => RFr s s2 0)) := by
  obtain ⟨σ, h4⟩ := X.2.2.2.1
  exact ms_274 (d := 293) X.2.1 h4 (fun v s2 J2 K2 p0 p1 => RFr_m hF (LX_LI (LX_mk X J2 (p1) (⟨σ, p0⟩) (LX_D X K2 rfl) (LX_F X K2 rfl)) rfl) J2 K2 rfl)
theorem cr_288 {s : ps_S}   {u : Int} (X : LX s 0 u) (hF : LF s 0) : ps_Cl 299 288 [.ref 1131] s (ps_rI (fun _ s2 => RFr s s2 0)) := by
  obtain ⟨σ, h4⟩ := X.2.2.2.1
  exact mw_288 (d := 293) X.2.1 h4 (gv := ps_a s 1134) (fun k _ => rfl) (fun v s2 J2 K2 p0 p1 pV => RFr_m hF (LX_LI (LX_mk X J2 (p1) (⟨σ, p0⟩) (LX_D X K2 rfl) (LX_F X K2 rfl)) rfl) J2 K2 rfl)
theorem cr_201 {s : ps_S}   {u : Int} (X : LX s 0 u) (hF : LF s 0) : ps_Cl 299 201 [.ref 1131] s (ps_rI (fun _ s2 => RFr s s2 0)) := by
  obtain ⟨σ, h4⟩ := X.2.2.2.1
  exact ms_201 (d := 292) X.2.1 h4 (fun v s2 J2 K2 p0 p1 => RFr_m hF (LX_LI (LX_mk X J2 (p1) (p0) (LX_D X K2 rfl) (LX_F X K2 rfl)) rfl) J2 K2 rfl)
/-! calls that only say, on both sides -/
theorem FP_5 {s : ps_S} {t : Int32} {x1 : Int32} (h : FSt s t) : ps_Cl 299 154 [.ref 0, .int x1] s (ps_rI (fun v s1 => ps_Cl 299 261 [.ref 1131, .int x1] s1 (ps_rI (fun v2 s2 => v = v2 ∧ ∃ t2, FSt s2 t2)))) := by
  obtain ⟨g, l, p, p', D, c, Θ, B, nl, A⟩ := FSt_to h
  obtain ⟨aI, aF, aC, aM, aB, aX, aN, aP, aE⟩ := id A
  obtain ⟨⟨q4, q5, hp⟩, xP, xS, xB, xW, xu, xv⟩ := id aX
  have hp1 : p = 50 ∨ p = 460 := by omega
  have wfc := WF_of (LI_LX aI) aM
  refine ps_monoI (ps_andlI (g := fun v _ => rf_is D c x1 v) (cx_154 aI aF) (fun n => fs_154 q4 xP (fun v z => z)) pdet_v) (fun v s1 z => ?_)
  obtain ⟨J, e⟩ := z
  have A1 := FX A J (fun q a z => z)
  obtain ⟨-, -, bC, bM, -, bX, bN, -, bE⟩ := id A1
  exact ps_monoI (ps_andlI (g := fun v _ => rf_is D c x1 v) (cf_261 A1.1 A1.2.1) (fun n => fm_261 bN.1 (fun v z => z)) pdet_v) (fun v2 s2 z2 => ⟨rf_eq e z2.2, t, FM A1 z2.1⟩)
theorem FP_6 {s : ps_S} {t : Int32} {x1 : Int32} {x2 : Int32} (h : FSt s t) : ps_Cl 299 155 [.ref 0, .int x1, .int x2] s (ps_rI (fun v s1 => ps_Cl 299 263 [.ref 1131, .int x1, .int x2] s1 (ps_rI (fun v2 s2 => v = v2 ∧ ∃ t2, FSt s2 t2)))) := by
  obtain ⟨g, l, p, p', D, c, Θ, B, nl, A⟩ := FSt_to h
  obtain ⟨aI, aF, aC, aM, aB, aX, aN, aP, aE⟩ := id A
  obtain ⟨⟨q4, q5, hp⟩, xP, xS, xB, xW, xu, xv⟩ := id aX
  have hp1 : p = 50 ∨ p = 460 := by omega
  have wfc := WF_of (LI_LX aI) aM
  refine ps_monoI (ps_andlI (g := fun v _ => sp_is D x1 (st_P x2 v) (v = -1)) (cx_155 aI aF) (fun n => fs_155 hp1 q4 xP (fun v z => z)) pdet_v) (fun v s1 z => ?_)
  obtain ⟨J, e⟩ := z
  have A1 := FX A J (fun q a z => z)
  obtain ⟨-, -, bC, bM, -, bX, bN, -, bE⟩ := id A1
  exact ps_monoI (ps_andlI (g := fun v _ => sp_is D x1 (st_P x2 v) (v = -1)) (cf_263 A1.1 A1.2.1) (fun n => fm_263 bN.1 (fun v z => z)) pdet_v) (fun v2 s2 z2 => ⟨sp_c e z2.2 (fun _ a b => st_eq a b) (fun a b => a.trans b.symm), t, FM A1 z2.1⟩)
theorem FP_7 {s : ps_S} {t : Int32} {x1 : Int32} {x2 : Int32} (h : FSt s t) : ps_Cl 299 156 [.ref 0, .int x1, .int x2] s (ps_rI (fun v s1 => ps_Cl 299 265 [.ref 1131, .int x1, .int x2] s1 (ps_rI (fun v2 s2 => v = v2 ∧ ∃ t2, FSt s2 t2)))) := by
  obtain ⟨g, l, p, p', D, c, Θ, B, nl, A⟩ := FSt_to h
  obtain ⟨aI, aF, aC, aM, aB, aX, aN, aP, aE⟩ := id A
  obtain ⟨⟨q4, q5, hp⟩, xP, xS, xB, xW, xu, xv⟩ := id aX
  have hp1 : p = 50 ∨ p = 460 := by omega
  have wfc := WF_of (LI_LX aI) aM
  refine ps_monoI (ps_andlI (g := fun v _ => sp_is D x1 (fun Ri => pc_is Ri.1 x2 v) (v = -1)) (cx_156 aI aF) (fun n => fs_156 hp1 q4 xP (fun v z => z)) pdet_v) (fun v s1 z => ?_)
  obtain ⟨J, e⟩ := z
  have A1 := FX A J (fun q a z => z)
  obtain ⟨-, -, bC, bM, -, bX, bN, -, bE⟩ := id A1
  exact ps_monoI (ps_andlI (g := fun v _ => sp_is D x1 (fun Ri => pc_is Ri.1 x2 v) (v = -1)) (cf_265 A1.1 A1.2.1) (fun n => fm_265 bN.1 (fun v z => z)) pdet_v) (fun v2 s2 z2 => ⟨sp_c e z2.2 (fun _ a b => pc_eq a b) (fun a b => a.trans b.symm), t, FM A1 z2.1⟩)
theorem FP_8 {s : ps_S} {t : Int32} {x1 : Int32} {x2 : Int32} {x3 : Int32} (h : FSt s t) : ps_Cl 299 157 [.ref 0, .int x1, .int x2, .int x3] s (ps_rI (fun v s1 => ps_Cl 299 266 [.ref 1131, .int x1, .int x2, .int x3] s1 (ps_rI (fun v2 s2 => v = v2 ∧ ∃ t2, FSt s2 t2)))) := by
  obtain ⟨g, l, p, p', D, c, Θ, B, nl, A⟩ := FSt_to h
  obtain ⟨aI, aF, aC, aM, aB, aX, aN, aP, aE⟩ := id A
  obtain ⟨⟨q4, q5, hp⟩, xP, xS, xB, xW, xu, xv⟩ := id aX
  have hp1 : p = 50 ∨ p = 460 := by omega
  have wfc := WF_of (LI_LX aI) aM
  refine ps_monoI (ps_andlI (g := fun v _ => sp_is D x1 (as_P x2 x3 v) (v = -1)) (cx_157 aI aF) (fun n => fs_157 hp1 q4 xP (fun v z => z)) pdet_v) (fun v s1 z => ?_)
  obtain ⟨J, e⟩ := z
  have A1 := FX A J (fun q a z => z)
  obtain ⟨-, -, bC, bM, -, bX, bN, -, bE⟩ := id A1
  exact ps_monoI (ps_andlI (g := fun v _ => sp_is D x1 (as_P x2 x3 v) (v = -1)) (cf_266 A1.1 A1.2.1) (fun n => fm_266 bN.1 (fun v z => z)) pdet_v) (fun v2 s2 z2 => ⟨sp_c e z2.2 (fun _ a b => as_eq a b) (fun a b => a.trans b.symm), t, FM A1 z2.1⟩)
theorem FP_10 {s : ps_S} {t : Int32} {x1 : Int32} {x2 : Int32} (h : FSt s t) : ps_Cl 299 159 [.ref 0, .int x1, .int x2] s (ps_rI (fun v s1 => ps_Cl 299 269 [.ref 1131, .int x1, .int x2] s1 (ps_rI (fun v2 s2 => v = v2 ∧ ∃ t2, FSt s2 t2)))) := by
  obtain ⟨g, l, p, p', D, c, Θ, B, nl, A⟩ := FSt_to h
  obtain ⟨aI, aF, aC, aM, aB, aX, aN, aP, aE⟩ := id A
  obtain ⟨⟨q4, q5, hp⟩, xP, xS, xB, xW, xu, xv⟩ := id aX
  have hp1 : p = 50 ∨ p = 460 := by omega
  have wfc := WF_of (LI_LX aI) aM
  refine ps_monoI (ps_andlI (g := fun v _ => sh_is Θ x1 (fun q => pc_is q.1 x2 v) (v = -1)) (cx_159 aI aF) (fun n => fs_159 xS (fun v z => z)) pdet_v) (fun v s1 z => ?_)
  obtain ⟨J, e⟩ := z
  have A1 := FX A J (fun q a z => z)
  obtain ⟨-, -, bC, bM, -, bX, bN, -, bE⟩ := id A1
  exact ps_monoI (ps_andlI (g := fun v _ => sh_is Θ x1 (fun q => pc_is q.1 x2 v) (v = -1)) (cf_269 A1.1 A1.2.1) (fun n => fm_269 bN.2.1 (fun v z => z)) pdet_v) (fun v2 s2 z2 => ⟨sh_c e z2.2 (fun _ a b => pc_eq a b) (fun a b => a.trans b.symm), t, FM A1 z2.1⟩)
theorem FP_11 {s : ps_S} {t : Int32} {x1 : Int32} {x2 : Int32} (h : FSt s t) : ps_Cl 299 160 [.ref 0, .int x1, .int x2] s (ps_rI (fun v s1 => ps_Cl 299 271 [.ref 1131, .int x1, .int x2] s1 (ps_rI (fun v2 s2 => v = v2 ∧ ∃ t2, FSt s2 t2)))) := by
  obtain ⟨g, l, p, p', D, c, Θ, B, nl, A⟩ := FSt_to h
  obtain ⟨aI, aF, aC, aM, aB, aX, aN, aP, aE⟩ := id A
  obtain ⟨⟨q4, q5, hp⟩, xP, xS, xB, xW, xu, xv⟩ := id aX
  have hp1 : p = 50 ∨ p = 460 := by omega
  have wfc := WF_of (LI_LX aI) aM
  refine ps_monoI (ps_andlI (g := fun v _ => sh_is Θ x1 (ln_P x2 v) (v = -1)) (cx_160 aI aF) (fun n => fs_160 xS (fun v z => z)) pdet_v) (fun v s1 z => ?_)
  obtain ⟨J, e⟩ := z
  have A1 := FX A J (fun q a z => z)
  obtain ⟨-, -, bC, bM, -, bX, bN, -, bE⟩ := id A1
  exact ps_monoI (ps_andlI (g := fun v _ => sh_is Θ x1 (ln_P x2 v) (v = -1)) (cf_271 A1.1 A1.2.1) (fun n => fm_271 bN.2.1 aP.1.2.2.1 (fun v z => z)) pdet_v) (fun v2 s2 z2 => ⟨sh_c e z2.2 (fun _ a b => ln_eq a b) (fun a b => a.trans b.symm), t, FM A1 z2.1⟩)
theorem FP_14 {s : ps_S} {t : Int32} {x1 : Int32} (h : FSt s t) : ps_Cl 299 163 [.ref 0, .int x1] s (ps_rI (fun v s1 => ps_Cl 299 275 [.ref 1131, .int x1] s1 (ps_rI (fun v2 s2 => v = v2 ∧ ∃ t2, FSt s2 t2)))) := by
  obtain ⟨g, l, p, p', D, c, Θ, B, nl, A⟩ := FSt_to h
  obtain ⟨aI, aF, aC, aM, aB, aX, aN, aP, aE⟩ := id A
  obtain ⟨⟨q4, q5, hp⟩, xP, xS, xB, xW, xu, xv⟩ := id aX
  have hp1 : p = 50 ∨ p = 460 := by omega
  have wfc := WF_of (LI_LX aI) aM
  refine ps_monoI (ps_andlI (g := fun v _ => pc_is l x1 v) (cx_163 aI aF) (fun n => pc_x aC) pdet_v) (fun v s1 z => ?_)
  obtain ⟨J, e⟩ := z
  have A1 := FX A J (fun q a z => z)
  obtain ⟨-, -, bC, bM, -, bX, bN, -, bE⟩ := id A1
  exact ps_monoI (ps_andlI (g := fun v _ => pc_is l x1 v) (cf_275 A1.1 A1.2.1) (fun n => pc_m bM) pdet_v) (fun v2 s2 z2 => ⟨pc_eq e z2.2, t, FM A1 z2.1⟩)
theorem FP_15 {s : ps_S} {t : Int32}  (h : FSt s t) : ps_Cl 299 164 [.ref 0] s (ps_rI (fun v s1 => ps_Cl 299 276 [.ref 1131] s1 (ps_rI (fun v2 s2 => v = v2 ∧ ∃ t2, FSt s2 t2)))) := by
  obtain ⟨g, l, p, p', D, c, Θ, B, nl, A⟩ := FSt_to h
  obtain ⟨aI, aF, aC, aM, aB, aX, aN, aP, aE⟩ := id A
  obtain ⟨⟨q4, q5, hp⟩, xP, xS, xB, xW, xu, xv⟩ := id aX
  have hp1 : p = 50 ∨ p = 460 := by omega
  have wfc := WF_of (LI_LX aI) aM
  refine ps_monoI (ps_andlI (g := fun v _ => al_is D l v) (cx_164 aI aF) (fun n => fs_164 hp1 q4 xP aC.2.2 (fun v z => z)) pdet_v) (fun v s1 z => ?_)
  obtain ⟨J, e⟩ := z
  have A1 := FX A J (fun q a z => z)
  obtain ⟨-, -, bC, bM, -, bX, bN, -, bE⟩ := id A1
  exact ps_monoI (ps_andlI (g := fun v _ => al_is D l v) (cf_276 A1.1 A1.2.1) (fun n => fm_276 aP.1.1 bN.1 (TRm_W bM) (fun v z => z)) pdet_v) (fun v2 s2 z2 => ⟨al_eq e z2.2, t, FM A1 z2.1⟩)
theorem FP_16 {s : ps_S} {t : Int32} {x1 : Int32} (h : FSt s t) : ps_Cl 299 165 [.ref 0, .int x1] s (ps_rJ (fun v s1 => ps_Cl 299 267 [.ref 1131, .int x1] s1 (ps_rJ (fun v2 s2 => v = v2 ∧ ∃ t2, FSt s2 t2)))) := by
  obtain ⟨g, l, p, p', D, c, Θ, B, nl, A⟩ := FSt_to h
  obtain ⟨aI, aF, aC, aM, aB, aX, aN, aP, aE⟩ := id A
  obtain ⟨⟨q4, q5, hp⟩, xP, xS, xB, xW, xu, xv⟩ := id aX
  have hp1 : p = 50 ∨ p = 460 := by omega
  have wfc := WF_of (LI_LX aI) aM
  refine ps_monoJ (ps_andlJ (P := fun v => sp_is D x1 (fun Ri => v = Ri.2.2.2.2) (v = -1)) (cx_165 aI aF) (fun n => fs_165 hp1 q4 xP (fun v z => z))) (fun v s1 z => ?_)
  obtain ⟨J, e⟩ := z
  have A1 := FX A J (fun q a z => z)
  obtain ⟨-, -, bC, bM, -, bX, bN, -, bE⟩ := id A1
  exact ps_monoJ (ps_andlJ (P := fun v => sp_is D x1 (fun Ri => v = Ri.2.2.2.2) (v = -1)) (cf_267 A1.1 A1.2.1) (fun n => fm_267 bN.1 (fun v z => z))) (fun v2 s2 z2 => ⟨sp_c e z2.2 (fun _ a b => a.trans b.symm) (fun a b => a.trans b.symm), t, FM A1 z2.1⟩)
theorem FP_17 {s : ps_S} {t : Int32}  (h : FSt s t) : ps_Cl 299 166 [.ref 0] s (ps_rI (fun v s1 => ps_Cl 299 280 [.ref 1131] s1 (ps_rI (fun v2 s2 => v = v2 ∧ ∃ t2, FSt s2 t2)))) := by
  obtain ⟨g, l, p, p', D, c, Θ, B, nl, A⟩ := FSt_to h
  obtain ⟨aI, aF, aC, aM, aB, aX, aN, aP, aE⟩ := id A
  obtain ⟨⟨q4, q5, hp⟩, xP, xS, xB, xW, xu, xv⟩ := id aX
  have hp1 : p = 50 ∨ p = 460 := by omega
  have wfc := WF_of (LI_LX aI) aM
  refine ps_monoI (ps_andlI (g := fun v _ => lt_A 0 g.1 l v) (cx_166 aI aF) (fun n => fs_166 aC wfc.2) pdet_v) (fun v s1 z => ?_)
  obtain ⟨J, e⟩ := z
  have A1 := FX A J (fun q a => by unfold C166; omega)
  obtain ⟨-, -, bC, bM, -, bX, bN, -, bE⟩ := id A1
  exact ps_monoI (ps_andlI (g := fun v _ => lt_A 0 g.1 l v) (cf_280 A1.1 A1.2.1) (fun n => fm_280 bM wfc.2) pdet_v) (fun v2 s2 z2 => ⟨lt_A_eq e z2.2, t, FM A1 z2.1⟩)
theorem FP_18 {s : ps_S} {t : Int32}  (h : FSt s t) : ps_Cl 299 167 [.ref 0] s (ps_rI (fun v s1 => ps_Cl 299 281 [.ref 1131] s1 (ps_rI (fun v2 s2 => v = v2 ∧ ∃ t2, FSt s2 t2)))) := by
  obtain ⟨g, l, p, p', D, c, Θ, B, nl, A⟩ := FSt_to h
  obtain ⟨aI, aF, aC, aM, aB, aX, aN, aP, aE⟩ := id A
  obtain ⟨⟨q4, q5, hp⟩, xP, xS, xB, xW, xu, xv⟩ := id aX
  have hp1 : p = 50 ∨ p = 460 := by omega
  have wfc := WF_of (LI_LX aI) aM
  refine ps_monoI (ps_andlI (g := fun v _ => lt_A 1 g.1 l v) (cx_167 aI aF) (fun n => fs_167 aC wfc.2) pdet_v) (fun v s1 z => ?_)
  obtain ⟨J, e⟩ := z
  have A1 := FX A J (fun q a => by unfold C166; omega)
  obtain ⟨-, -, bC, bM, -, bX, bN, -, bE⟩ := id A1
  exact ps_monoI (ps_andlI (g := fun v _ => lt_A 1 g.1 l v) (cf_281 A1.1 A1.2.1) (fun n => fm_281 bM wfc.2) pdet_v) (fun v2 s2 z2 => ⟨lt_A_eq e z2.2, t, FM A1 z2.1⟩)
theorem FP_19 {s : ps_S} {t : Int32}  (h : FSt s t) : ps_Cl 299 168 [.ref 0] s (ps_rI (fun v s1 => ps_Cl 299 282 [.ref 1131] s1 (ps_rI (fun v2 s2 => v = v2 ∧ ∃ t2, FSt s2 t2)))) := by
  obtain ⟨g, l, p, p', D, c, Θ, B, nl, A⟩ := FSt_to h
  obtain ⟨aI, aF, aC, aM, aB, aX, aN, aP, aE⟩ := id A
  obtain ⟨⟨q4, q5, hp⟩, xP, xS, xB, xW, xu, xv⟩ := id aX
  have hp1 : p = 50 ∨ p = 460 := by omega
  have wfc := WF_of (LI_LX aI) aM
  refine ps_monoI (ps_andlI (g := fun v _ => lt_A 2 g.1 l v) (cx_168 aI aF) (fun n => fs_168 aC wfc.2) pdet_v) (fun v s1 z => ?_)
  obtain ⟨J, e⟩ := z
  have A1 := FX A J (fun q a => by unfold C166; omega)
  obtain ⟨-, -, bC, bM, -, bX, bN, -, bE⟩ := id A1
  exact ps_monoI (ps_andlI (g := fun v _ => lt_A 2 g.1 l v) (cf_282 A1.1 A1.2.1) (fun n => fm_282 bM wfc.2) pdet_v) (fun v2 s2 z2 => ⟨lt_A_eq e z2.2, t, FM A1 z2.1⟩)
theorem FP_21 {s : ps_S} {t : Int32} {x1 : Int32} (h : FSt s t) : ps_Cl 299 170 [.ref 0, .int x1] s (ps_rI (fun v s1 => ps_Cl 299 289 [.ref 1131, .int x1] s1 (ps_rI (fun v2 s2 => v = v2 ∧ ∃ t2, FSt s2 t2)))) := by
  obtain ⟨g, l, p, p', D, c, Θ, B, nl, A⟩ := FSt_to h
  obtain ⟨aI, aF, aC, aM, aB, aX, aN, aP, aE⟩ := id A
  obtain ⟨⟨q4, q5, hp⟩, xP, xS, xB, xW, xu, xv⟩ := id aX
  have hp1 : p = 50 ∨ p = 460 := by omega
  have wfc := WF_of (LI_LX aI) aM
  refine ps_monoI (ps_andlI (g := fun v _ => pc_is nl x1 v) (cx_170 aI aF) (fun n => fs_170 xW (fun v z => z)) pdet_v) (fun v s1 z => ?_)
  obtain ⟨J, e⟩ := z
  have A1 := FX A J (fun q a z => z)
  obtain ⟨-, -, bC, bM, -, bX, bN, -, bE⟩ := id A1
  exact ps_monoI (ps_andlI (g := fun v _ => pc_is nl x1 v) (cf_289 A1.1 A1.2.1) (fun n => fm_289 bN.2.2.2 (fun v z => z)) pdet_v) (fun v2 s2 z2 => ⟨pc_eq e z2.2, t, FM A1 z2.1⟩)
theorem FP_23 {s : ps_S} {t : Int32} {x1 : Int32} (h : FSt s t) : ps_Cl 299 172 [.ref 0, .int x1] s (ps_rI (fun v s1 => ps_Cl 299 301 [.ref 1131, .int x1] s1 (ps_rI (fun v2 s2 => v = v2 ∧ ∃ t2, FSt s2 t2)))) := by
  obtain ⟨g, l, p, p', D, c, Θ, B, nl, A⟩ := FSt_to h
  obtain ⟨aI, aF, aC, aM, aB, aX, aN, aP, aE⟩ := id A
  obtain ⟨⟨q4, q5, hp⟩, xP, xS, xB, xW, xu, xv⟩ := id aX
  have hp1 : p = 50 ∨ p = 460 := by omega
  have wfc := WF_of (LI_LX aI) aM
  refine ps_monoI (ps_andlI (g := fun v _ => md_A g.1 x1 v) (cx_172 aI aF) (fun n => fs_172 aC) pdet_v) (fun v s1 z => ?_)
  obtain ⟨J, e⟩ := z
  have A1 := FX A J (fun q a => by unfold C172; omega)
  obtain ⟨-, -, bC, bM, -, bX, bN, -, bE⟩ := id A1
  exact ps_monoI (ps_andlI (g := fun v _ => md_A g.1 x1 v) (cf_301 A1.1 A1.2.1) (fun n => fm_301a bM) pdet_v) (fun v2 s2 z2 => ⟨md_A_eq e z2.2, t, FM A1 z2.1⟩)
theorem FP_24 {s : ps_S} {t : Int32} {x1 : Int32} (h : FSt s t) : ps_Cl 299 173 [.ref 0, .int x1] s (ps_rI (fun _ s1 => ps_Cl 299 302 [.ref 1131, .int x1] s1 (ps_rI (fun _ s2 => ∃ t2, FSt s2 t2)))) := by
  obtain ⟨g, l, p, p', D, c, Θ, B, nl, A⟩ := FSt_to h
  refine ps_monoI (cx_173 A.1 A.2.1) (fun v s1 J => ?_)
  have A1 := FX A J (fun q a => by unfold C172; omega)
  exact ps_monoI (cf_302 A1.1 A1.2.1) (fun v2 s2 R => ⟨t, FM A1 R⟩)
theorem FP_25 {s : ps_S} {t : Int32} {x1 : Int32} {x2 : Int32} (h : FSt s t) : ps_Cl 299 174 [.ref 0, .int x1, .int x2] s (ps_rI (fun _ s1 => ps_Cl 299 303 [.ref 1131, .int x1, .int x2] s1 (ps_rI (fun _ s2 => ∃ t2, FSt s2 t2)))) := by
  obtain ⟨g, l, p, p', D, c, Θ, B, nl, A⟩ := FSt_to h
  refine ps_monoI (cx_174 A.1 A.2.1) (fun v s1 J => ?_)
  have A1 := FX A J (fun q a => by unfold C172; omega)
  exact ps_monoI (cf_303 A1.1 A1.2.1) (fun v2 s2 R => ⟨t, FM A1 R⟩)
theorem FP_26 {s : ps_S} {t : Int32} {x1 : Int32} (h : FSt s t) : ps_Cl 299 175 [.ref 0, .int x1] s (ps_rI (fun _ s1 => ps_Cl 299 304 [.ref 1131, .int x1] s1 (ps_rI (fun _ s2 => ∃ t2, FSt s2 t2)))) := by
  obtain ⟨g, l, p, p', D, c, Θ, B, nl, A⟩ := FSt_to h
  refine ps_monoI (cx_175 A.1 A.2.1) (fun v s1 J => ?_)
  have A1 := FX A J (fun q a => by unfold C172; omega)
  exact ps_monoI (cf_304 A1.1 A1.2.1) (fun v2 s2 R => ⟨t, FM A1 R⟩)
theorem FP_29 {s : ps_S} {t : Int32} {x1 : Int32} (h : FSt s t) : ps_Cl 299 178 [.ref 0, .int x1] s (ps_rI (fun v s1 => ps_Cl 299 307 [.ref 1131, .int x1] s1 (ps_rI (fun v2 s2 => v = v2 ∧ ∃ t2, FSt s2 t2)))) := by
  obtain ⟨g, l, p, p', D, c, Θ, B, nl, A⟩ := FSt_to h
  obtain ⟨aI, aF, aC, aM, aB, aX, aN, aP, aE⟩ := id A
  obtain ⟨⟨q4, q5, hp⟩, xP, xS, xB, xW, xu, xv⟩ := id aX
  have hp1 : p = 50 ∨ p = 460 := by omega
  have wfc := WF_of (LI_LX aI) aM
  have hb := LI_t aI
  have ht : (ps_i s 0 1).toInt = (t.toInt.toNat : Nat) := by
    rw [aI.2.1.2.1]
    omega
  refine ps_monoI (ps_andlI (g := fun v _ => ab_is g D.length Θ.length t.toInt.toNat l.length x1 v) (cx_178 aI aF) (fun n => fs_178 rfl q4 aC.1 xP xS ht aC.2.2 (fun v z => z)) pdet_v) (fun v s1 z => ?_)
  obtain ⟨J, e⟩ := z
  have A1 := FX A J (fun q a z => z)
  obtain ⟨-, -, bC, bM, -, bX, bN, -, bE⟩ := id A1
  exact ps_monoI (ps_andlI (g := fun v _ => ab_is g D.length Θ.length t.toInt.toNat l.length x1 v) (cf_307 A1.1 A1.2.1) (fun n => (by
    obtain ⟨b, y1, y2, y3, y4⟩ := bM
    exact fm_307 y1 y2 y3 bN.1 bN.2.1 (by rw [A1.1.2.2.1]; omega) y4 (fun v z => z))) pdet_v) (fun v2 s2 z2 => ⟨ab_eq e z2.2, t, FM A1 z2.1⟩)
theorem fs_82_9f {th : Nat} {h : tx_H} {s : ps_S} (hth : th = 2 ∨ th = 26) (H : cv_H s th h) (hR : RLc s (arh h.1) h.2 h.2.length) {nl : List Nat} (W : cv_W s 1022 nl) : ∀ (n : Nat) {x2 x3 : Int32} {i : Nat}, x3.toInt = i → i ≤ h.2.length → x2 = rl_b (rl_P h) i → pl_At n 82 9 [(0, .ref 1021), (1, .ref th), (2, .int x2), (3, .int x3)] [] s (ps_rI (fun v s' => rl_A h v ∧ cv_W s' 1022 nl))
  | 0, _, _, _, _, _, _ => pl_At_0
  | n + 1, x2, x3, i, h3, hi, h2 => by
    have h8 := H.2.2.1
    have esz := H.2.1
    refine pl_82_9 (pl_nk_i (fun _ => ⟨fun z => ?_, fun z => ?_⟩))
    · have z := xle z
      have e : i = h.2.length := by omega
      subst e
      exact ⟨h2, W⟩
    · have z := xlt z
      obtain ⟨⟨w, l⟩, hk⟩ : ∃ p, h.2[i]? = some p := ⟨_, List.getElem?_eq_getElem (by omega)⟩
      obtain ⟨r1, r0⟩ := hR i w l (by omega) hk
      refine fs_182 (a := i) h3 (show i < 8 from by omega) (by decide) ⟨fun y => ?_, fun y => ?_⟩
      · have y := xeq y
        have cm : (-1 : Int32).toInt = -1 := by decide
        refine fs_82_9f hth H hR W n (xj1 h3 (by omega)) (by omega) ?_
        rw [rl_b_0 (fun q => ?_), h2]
        obtain ⟨w2, l2, hk2, q⟩ := q
        rw [hk] at hk2
        cases hk2
        have := (r1 q).2
        omega
      · have y := xne y
        have cm : (-1 : Int32).toInt = -1 := by decide
        refine fs_82_9f hth H hR W n (xj1 h3 (by omega)) (by omega) ?_
        have hP : rl_P h i := by
          by_cases q : rl_is (arh h.1) l
          · exact ⟨w, l, hk, q⟩
          · exact absurd (r0 q) (by omega)
        rw [rl_b_1 hP, h2, xnI h3]
theorem FP_3 {s : ps_S} {t : Int32} {x1 : Int32} (h : FSt s t) : ps_Cl 299 152 [.ref 0, .int x1] s (ps_rI (fun v s1 => ps_Cl 299 199 [.ref 1131, .int x1] s1 (ps_rI (fun v2 s2 => v = v2 ∧ ∃ t2, FSt s2 t2)))) := by
  obtain ⟨g, l, p, p', D, c, Θ, B, nl, A⟩ := FSt_to h
  obtain ⟨aI, aF, aC, aM, aB, aX, aN, aP, aE⟩ := id A
  refine ps_monoI (ps_andlI (g := fun v _ => ft_is (ps_i s 902 9) (ps_i s 902 10) x1 v) (cx_152 aI aF) (fun n => fs_152 (fun v z => z)) pdet_v) (fun v s1 z => ?_)
  obtain ⟨J, e⟩ := z
  have A1 := FX A J (fun q a z => z)
  have I := (J.1.2.2 1131 (by decide)).1
  refine ps_monoI (ps_andlI (g := fun v _ => ft_is (ps_i s1 1131 5) (ps_i s1 1131 6) x1 v) (cf_199 A1.1 A1.2.1) (fun n => fm_199 (fun v z => z)) pdet_v) (fun v2 s2 z2 => ⟨?_, t, FM A1 z2.1⟩)
  have e2 := z2.2
  rw [I, ← aE.1, ← aE.2] at e2
  exact Eq.trans e (Eq.symm e2)
/-- rules -/
theorem fs_171f {n : Nat} {s : ps_S} {h : tx_H} {l nl : List Nat} (c : TRc s h l) (hw : WFt h) (W : cv_W s 1022 nl) : pl_Cl n 171 [.ref 0] s (ps_rI (fun v s' => rl_A h v ∧ cv_W s' 1022 nl)) := by
  cases n with
  | zero => exact pl_At_0
  | succ n =>
  show pl_At (n + 1) 171 0 [(0, .ref 0)] [] s _
  have hth : ps_r s 0 2 = 2 ∨ ps_r s 0 2 = 26 := by have := c.2.1; omega
  refine pl_171_0 ?_
  cases n with
  | zero => exact pl_At_0
  | succ n =>
  show pl_At (n + 1) 82 0 [(0, .ref 1021), (1, .ref (ps_r s 0 2))] [] s _
  refine pl_82_0 ?_
  refine fs_83 hth c.1 hw (fun s1 hR F => ?_)
  have h8 := c.1.2.2.1
  exact pl_At.mono (fs_82_9f hth (cv_H_cfr c.1 F (fun q a b => by unfold RLq; omega)) hR (cv_W_cfr W F (by unfold RLq; omega) (by unfold RLq; omega)) n (i := 0) rfl (Nat.zero_le _) rfl) (fun o s2 z => rI_mono z (fun v y => y))
