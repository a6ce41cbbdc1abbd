set_option maxRecDepth 100000
/-! call by call: what holds before both sides' calls holds behind them -/
theorem ps_monoJ {d y : Nat} {args : List Value} {s : ps_S} {f g : Int64 → ps_S → Prop} (h : ps_Cl d y args s (ps_rJ f)) (k : ∀ v s', f v s' → g v s') : ps_Cl d y args s (ps_rJ g) := h.mono (fun _ s' z => rJ_mono z (fun v p => k v s' p))
theorem all_no {A : List Nat} {P : Nat → Bool} (hA : A.all P = true) {r : Nat} (hr : P r = false) : A.contains r = false := by
  cases e : A.contains r with
  | false => rfl
  | true =>
    rw [List.all_eq_true] at hA
    have := hA r (List.contains_iff_mem.mp e)
    rw [hr] at this
    cases this
def pA (a : Nat) : Bool := Nat.ble 1131 a && ![1132, 1135, 1136, 1137, 1138, 1139, 1140, 1141, 1142].contains a
theorem IMs_m {s s' : ps_S} {t : Int32} {u u' : Int} {A F : List Nat} (H : IMs s t u) (X : LX s' t u') (e : u' = t.toInt) (J : mJ s.1.2.2 t s') (K : kp A F s s') (hA : A.all pA = true) (hF : F.contains 21 = false) (hV : ∀ k, (21812 ≤ k ∧ k < 22468) ∨ (25748 ≤ k ∧ k < 25789) → ps_a s' 1134 k = ps_a s 1134 k) : ISt s' t := by
  refine ⟨LX_LI X e, LF_m H.2.1 J K (all_no hA rfl) (all_no hA rfl) (all_no hA rfl) (all_no hA rfl) (all_no hA rfl), LG_m H.2.2 J K ?_ hF hV⟩
  rw [List.all_eq_true] at hA ⊢
  intro a ha
  have z := hA a ha
  unfold pA at z
  rw [Bool.and_eq_true] at z ⊢
  refine ⟨z.1, ?_⟩
  have z2 := z.2
  rw [Bool.not_eq_true'] at z2 ⊢
  rw [Bool.eq_false_iff] at z2 ⊢
  intro q
  exact z2 (List.contains_iff_mem.mpr (List.mem_cons_of_mem _ (List.contains_iff_mem.mp q)))
theorem TRm_m {s s' : ps_S} {t : Int32} {A F : List Nat} {h : tx_H} {l : List Nat} (H : TRm s h l) (K : kp A F s s') (hA : A.all pA = true) (hF : F.contains 21 = false) (hV : ∀ k, (21812 ≤ k ∧ k < 22468) ∨ (25748 ≤ k ∧ k < 25789) → ps_a s' 1134 k = ps_a s 1134 k) : TRm s' h l := by
  obtain ⟨b, m1, m2, m3, m4⟩ := H
  refine ⟨b, m1, by rw [kp_i K 21 hF]; exact m2, mv_H_V m1 m3 (fun r hr => (K.2 r (all_no hA ?_)).1) (fun r hr => (K.2 r (all_no hA ?_)).2) (fun k a b => hV k (Or.inl ⟨a, b⟩)), mv_W_V m4 (fun k a b => hV k (Or.inr ⟨by omega, by omega⟩))⟩
  · exact (show ∀ r, r ∈ [1135, 1136, 1137, 1138, 1139] → pA r = false by decide) r hr
  · exact (show ∀ r, r ∈ [1140, 1141, 1142] → pA r = false by decide) r hr

theorem cx_152 {s : ps_S} {t : Int32} {x1 : Int32} (hI : LI s t) (hF : LF s t) : ps_Cl 299 152 [.ref 0, .int x1] s (ps_rI (fun _ s1 => XK t (fun _ => False) s s1)) :=
  xs_152 (d := 299) (LI_J hI) (fun v => ⟨LI_J hI, cfr_refl, ⟨rfl, rfl⟩, fun _ _ => rfl⟩)
theorem cm_199 {s : ps_S} {t : Int32} {u : Int} {x1 : Int32} (hM : IMs s t u) (hu : u = t.toInt) : ps_Cl 299 199 [.ref 1131, .int x1] s (ps_rI (fun _ s2 => ISt s2 t)) :=
  ms_199 (d := 299) hM.1.2.1 (fun v => IMs_L hM hu)
theorem cm_240 {s : ps_S} {t : Int32} {u : Int}  (hM : IMs s t u) (hu : (0 : Int) = t.toInt) : ps_Cl 299 240 [.ref 1131] s (ps_rI (fun _ s2 => ISt s2 t)) := by
  obtain ⟨σ, h4⟩ := hM.1.2.2.2.1
  exact mw_240 (d := 292) hM.1.2.1 h4 (gv := ps_a s 1134) (fun k _ => rfl) (fun v s2 J2 K2 p0 p1 pV => IMs_m hM (LX_mk hM.1 J2 (p1) (⟨σ, p0⟩) (LX_D hM.1 K2 rfl) (LX_F hM.1 K2 rfl)) hu J2 K2 rfl rfl (fun k hk => pV k (by omega)))
theorem cx_154 {s : ps_S} {t : Int32} {x1 : Int32} (hI : LI s t) (hF : LF s t) : ps_Cl 299 154 [.ref 0, .int x1] s (ps_rI (fun _ s1 => XK t (fun _ => False) s s1)) :=
  xs_154 (d := 299) (LI_J hI) (fun v => ⟨LI_J hI, cfr_refl, ⟨rfl, rfl⟩, fun _ _ => rfl⟩)
theorem cm_261 {s : ps_S} {t : Int32} {u : Int} {x1 : Int32} (hM : IMs s t u) (hu : u = t.toInt) : ps_Cl 299 261 [.ref 1131, .int x1] s (ps_rI (fun _ s2 => ISt s2 t)) :=
  ms_261 (d := 299) hM.1.2.1 (fun v => IMs_L hM hu)
theorem cx_155 {s : ps_S} {t : Int32} {x1 : Int32} {x2 : Int32} (hI : LI s t) (hF : LF s t) : ps_Cl 299 155 [.ref 0, .int x1, .int x2] s (ps_rI (fun _ s1 => XK t (fun _ => False) s s1)) :=
  xs_155 (d := 298) (LI_J hI) (fun v => ⟨LI_J hI, cfr_refl, ⟨rfl, rfl⟩, fun _ _ => rfl⟩)
theorem cm_263 {s : ps_S} {t : Int32} {u : Int} {x1 : Int32} {x2 : Int32} (hM : IMs s t u) (hu : u = t.toInt) : ps_Cl 299 263 [.ref 1131, .int x1, .int x2] s (ps_rI (fun _ s2 => ISt s2 t)) :=
  ms_263 (d := 297) hM.1.2.1 (fun v => IMs_L hM hu)
theorem cx_156 {s : ps_S} {t : Int32} {x1 : Int32} {x2 : Int32} (hI : LI s t) (hF : LF s t) : ps_Cl 299 156 [.ref 0, .int x1, .int x2] s (ps_rI (fun _ s1 => XK t (fun _ => False) s s1)) :=
  xs_156 (d := 298) (LI_J hI) (fun v => ⟨LI_J hI, cfr_refl, ⟨rfl, rfl⟩, fun _ _ => rfl⟩)
theorem cm_265 {s : ps_S} {t : Int32} {u : Int} {x1 : Int32} {x2 : Int32} (hM : IMs s t u) (hu : u = t.toInt) : ps_Cl 299 265 [.ref 1131, .int x1, .int x2] s (ps_rI (fun _ s2 => ISt s2 t)) :=
  ms_265 (d := 297) hM.1.2.1 (fun v => IMs_L hM hu)
theorem cx_157 {s : ps_S} {t : Int32} {x1 : Int32} {x2 : Int32} {x3 : Int32} (hI : LI s t) (hF : LF s t) : ps_Cl 299 157 [.ref 0, .int x1, .int x2, .int x3] s (ps_rI (fun _ s1 => XK t (fun _ => False) s s1)) :=
  xs_157 (d := 297) (LI_J hI) (fun v => ⟨LI_J hI, cfr_refl, ⟨rfl, rfl⟩, fun _ _ => rfl⟩)
theorem cm_266 {s : ps_S} {t : Int32} {u : Int} {x1 : Int32} {x2 : Int32} {x3 : Int32} (hM : IMs s t u) (hu : u = t.toInt) : ps_Cl 299 266 [.ref 1131, .int x1, .int x2, .int x3] s (ps_rI (fun _ s2 => ISt s2 t)) :=
  ms_266 (d := 297) hM.1.2.1 (fun v => IMs_L hM hu)
theorem cm_268 {s : ps_S} {t : Int32} {u : Int}  (hM : IMs s t u) (hu : u = t.toInt) : ps_Cl 299 268 [.ref 1131] s (ps_rI (fun _ s2 => ISt s2 t)) := by
  obtain ⟨σ, h4⟩ := hM.1.2.2.2.1
  exact mw_268 (d := 298) hM.1.2.1 h4 (gv := ps_a s 1134) (fun k _ => rfl) (fun v s2 J2 K2 p0 pV => IMs_m hM (LX_mk hM.1 J2 (LX_3 hM.1 K2 rfl) (⟨σ, p0⟩) (LX_D hM.1 K2 rfl) (LX_F hM.1 K2 rfl)) hu J2 K2 rfl rfl (fun k hk => pV k (by omega)))
theorem cx_159 {s : ps_S} {t : Int32} {x1 : Int32} {x2 : Int32} (hI : LI s t) (hF : LF s t) : ps_Cl 299 159 [.ref 0, .int x1, .int x2] s (ps_rI (fun _ s1 => XK t (fun _ => False) s s1)) :=
  xs_159 (d := 298) (LI_J hI) (fun v => ⟨LI_J hI, cfr_refl, ⟨rfl, rfl⟩, fun _ _ => rfl⟩)
theorem cm_269 {s : ps_S} {t : Int32} {u : Int} {x1 : Int32} {x2 : Int32} (hM : IMs s t u) (hu : u = t.toInt) : ps_Cl 299 269 [.ref 1131, .int x1, .int x2] s (ps_rI (fun _ s2 => ISt s2 t)) :=
  ms_269 (d := 297) hM.1.2.1 (fun v => IMs_L hM hu)
theorem cx_160 {s : ps_S} {t : Int32} {x1 : Int32} {x2 : Int32} (hI : LI s t) (hF : LF s t) : ps_Cl 299 160 [.ref 0, .int x1, .int x2] s (ps_rI (fun _ s1 => XK t (fun _ => False) s s1)) :=
  xs_160 (d := 298) (LI_J hI) (fun v => ⟨LI_J hI, cfr_refl, ⟨rfl, rfl⟩, fun _ _ => rfl⟩)
theorem cm_271 {s : ps_S} {t : Int32} {u : Int} {x1 : Int32} {x2 : Int32} (hM : IMs s t u) (hu : u = t.toInt) : ps_Cl 299 271 [.ref 1131, .int x1, .int x2] s (ps_rI (fun _ s2 => ISt s2 t)) :=
  ms_271 (d := 298) hM.1.2.1 (fun v => IMs_L hM hu)
theorem cm_273 {s : ps_S} {t : Int32} {u : Int}  (hM : IMs s t u) (hu : u = t.toInt) : ps_Cl 299 273 [.ref 1131] s (ps_rI (fun _ s2 => ISt s2 t)) := by
  obtain ⟨σ, h4⟩ := hM.1.2.2.2.1
  exact ms_273 (d := 298) hM.1.2.1 h4 (fun v s2 J2 K2 p0 => IMs_m hM (LX_mk hM.1 J2 (LX_3 hM.1 K2 rfl) (⟨σ, p0⟩) (LX_D hM.1 K2 rfl) (LX_F hM.1 K2 rfl)) hu J2 K2 rfl rfl (LG_p K2 rfl))
theorem cx_163 {s : ps_S} {t : Int32} {x1 : Int32} (hI : LI s t) (hF : LF s t) : ps_Cl 299 163 [.ref 0, .int x1] s (ps_rI (fun _ s1 => XK t (fun _ => False) s s1)) :=
  xs_163 (d := 298) (LI_J hI) (fun v => ⟨LI_J hI, cfr_refl, ⟨rfl, rfl⟩, fun _ _ => rfl⟩)
theorem cm_275 {s : ps_S} {t : Int32} {u : Int} {x1 : Int32} (hM : IMs s t u) (hu : u = t.toInt) : ps_Cl 299 275 [.ref 1131, .int x1] s (ps_rI (fun _ s2 => ISt s2 t)) :=
  ms_275 (d := 297) hM.1.2.1 (fun v => IMs_L hM hu)
theorem cx_164 {s : ps_S} {t : Int32}  (hI : LI s t) (hF : LF s t) : ps_Cl 299 164 [.ref 0] s (ps_rI (fun _ s1 => XK t (fun _ => False) s s1)) :=
  xs_164 (d := 297) (LI_J hI) (fun v => ⟨LI_J hI, cfr_refl, ⟨rfl, rfl⟩, fun _ _ => rfl⟩)
theorem cm_276 {s : ps_S} {t : Int32} {u : Int}  (hM : IMs s t u) (hu : u = t.toInt) : ps_Cl 299 276 [.ref 1131] s (ps_rI (fun _ s2 => ISt s2 t)) :=
  ms_276 (d := 297) hM.1.2.1 (fun v => IMs_L hM hu)
theorem cx_165 {s : ps_S} {t : Int32} {x1 : Int32} (hI : LI s t) (hF : LF s t) : ps_Cl 299 165 [.ref 0, .int x1] s (ps_rJ (fun _ s1 => XK t (fun _ => False) s s1)) :=
  xs_165 (d := 298) (LI_J hI) (fun v => ⟨LI_J hI, cfr_refl, ⟨rfl, rfl⟩, fun _ _ => rfl⟩)
theorem cm_267 {s : ps_S} {t : Int32} {u : Int} {x1 : Int32} (hM : IMs s t u) (hu : u = t.toInt) : ps_Cl 299 267 [.ref 1131, .int x1] s (ps_rJ (fun _ s2 => ISt s2 t)) :=
  ms_267 (d := 297) hM.1.2.1 (fun v => IMs_L hM hu)
theorem cm_280 {s : ps_S} {t : Int32} {u : Int}  (hM : IMs s t u) (hu : u = t.toInt) : ps_Cl 299 280 [.ref 1131] s (ps_rI (fun _ s2 => ISt s2 t)) := by
  obtain ⟨σ, h4⟩ := hM.1.2.2.2.1
  exact ms_280 (d := 295) hM.1.2.1 h4 (fun v s2 J2 K2 => IMs_m hM (LX_mk hM.1 J2 (LX_3 hM.1 K2 rfl) (LX_M hM.1 K2 rfl rfl rfl rfl rfl rfl rfl rfl rfl rfl rfl) (LX_D hM.1 K2 rfl) (LX_F hM.1 K2 rfl)) hu J2 K2 rfl rfl (LG_p K2 rfl))
theorem cm_281 {s : ps_S} {t : Int32} {u : Int}  (hM : IMs s t u) (hu : u = t.toInt) : ps_Cl 299 281 [.ref 1131] s (ps_rI (fun _ s2 => ISt s2 t)) := by
  obtain ⟨σ, h4⟩ := hM.1.2.2.2.1
  exact ms_281 (d := 295) hM.1.2.1 h4 (fun v s2 J2 K2 => IMs_m hM (LX_mk hM.1 J2 (LX_3 hM.1 K2 rfl) (LX_M hM.1 K2 rfl rfl rfl rfl rfl rfl rfl rfl rfl rfl rfl) (LX_D hM.1 K2 rfl) (LX_F hM.1 K2 rfl)) hu J2 K2 rfl rfl (LG_p K2 rfl))
theorem cm_282 {s : ps_S} {t : Int32} {u : Int}  (hM : IMs s t u) (hu : u = t.toInt) : ps_Cl 299 282 [.ref 1131] s (ps_rI (fun _ s2 => ISt s2 t)) := by
  obtain ⟨σ, h4⟩ := hM.1.2.2.2.1
  exact ms_282 (d := 295) hM.1.2.1 h4 (fun v s2 J2 K2 => IMs_m hM (LX_mk hM.1 J2 (LX_3 hM.1 K2 rfl) (LX_M hM.1 K2 rfl rfl rfl rfl rfl rfl rfl rfl rfl rfl rfl) (LX_D hM.1 K2 rfl) (LX_F hM.1 K2 rfl)) hu J2 K2 rfl rfl (LG_p K2 rfl))
theorem cm_288 {s : ps_S} {t : Int32} {u : Int}  (hM : IMs s t u) (hu : (0 : Int) = t.toInt) : ps_Cl 299 288 [.ref 1131] s (ps_rI (fun _ s2 => ISt s2 t)) := by
  obtain ⟨σ, h4⟩ := hM.1.2.2.2.1
  exact mw_288 (d := 293) hM.1.2.1 h4 (gv := ps_a s 1134) (fun k _ => rfl) (fun v s2 J2 K2 p0 p1 pV => IMs_m hM (LX_mk hM.1 J2 (p1) (⟨σ, p0⟩) (LX_D hM.1 K2 rfl) (LX_F hM.1 K2 rfl)) hu J2 K2 rfl rfl (fun k hk => pV k (by omega)))
theorem cx_170 {s : ps_S} {t : Int32} {x1 : Int32} (hI : LI s t) (hF : LF s t) : ps_Cl 299 170 [.ref 0, .int x1] s (ps_rI (fun _ s1 => XK t (fun _ => False) s s1)) :=
  xs_170 (d := 298) (LI_J hI) (fun v => ⟨LI_J hI, cfr_refl, ⟨rfl, rfl⟩, fun _ _ => rfl⟩)
theorem cm_289 {s : ps_S} {t : Int32} {u : Int} {x1 : Int32} (hM : IMs s t u) (hu : u = t.toInt) : ps_Cl 299 289 [.ref 1131, .int x1] s (ps_rI (fun _ s2 => ISt s2 t)) :=
  ms_289 (d := 297) hM.1.2.1 (fun v => IMs_L hM hu)
theorem cm_285 {s : ps_S} {t : Int32} {u : Int}  (hM : IMs s t u) (hu : u = t.toInt) : ps_Cl 299 285 [.ref 1131] s (ps_rI (fun _ s2 => ISt s2 t)) := by
  obtain ⟨σ, h4⟩ := hM.1.2.2.2.1
  exact ms_285 (d := 296) hM.1.2.1 h4 (fun v s2 J2 K2 => IMs_m hM (LX_mk hM.1 J2 (LX_3 hM.1 K2 rfl) (LX_M hM.1 K2 rfl rfl rfl rfl rfl rfl rfl rfl rfl rfl rfl) (LX_D hM.1 K2 rfl) (LX_F hM.1 K2 rfl)) hu J2 K2 rfl rfl (LG_p K2 rfl))
theorem cm_301 {s : ps_S} {t : Int32} {u : Int} {x1 : Int32} (hM : IMs s t u) (hu : u = t.toInt) : ps_Cl 299 301 [.ref 1131, .int x1] s (ps_rI (fun _ s2 => ISt s2 t)) := by
  obtain ⟨σ, h4⟩ := hM.1.2.2.2.1
  exact ms_301 (d := 297) hM.1.2.1 (MI_S h4) (fun v s2 J2 K2 p0 p1 p2 => IMs_m hM (LX_mk hM.1 J2 (LX_3 hM.1 K2 rfl) (LX_M hM.1 K2 rfl rfl rfl rfl rfl rfl rfl rfl rfl rfl rfl) (LX_D hM.1 K2 rfl) (LX_F hM.1 K2 rfl)) hu J2 K2 rfl rfl (LG_p K2 rfl))
theorem cm_302 {s : ps_S} {t : Int32} {u : Int} {x1 : Int32} (hM : IMs s t u) (hu : u = t.toInt) : ps_Cl 299 302 [.ref 1131, .int x1] s (ps_rI (fun _ s2 => ISt s2 t)) := by
  obtain ⟨σ, h4⟩ := hM.1.2.2.2.1
  exact ms_302 (d := 293) hM.1.2.1 h4 hM.1.2.2.2.2.1 hM.1.2.2.2.2.2 (fun v s2 J2 K2 p0 p1 => IMs_m hM (LX_mk hM.1 J2 (LX_3 hM.1 K2 rfl) (LX_M hM.1 K2 rfl rfl rfl rfl rfl rfl rfl rfl rfl rfl rfl) (p0) (p1)) hu J2 K2 rfl rfl (LG_p K2 rfl))
theorem cm_303 {s : ps_S} {t : Int32} {u : Int} {x1 : Int32} {x2 : Int32} (hM : IMs s t u) (hu : u = t.toInt) : ps_Cl 299 303 [.ref 1131, .int x1, .int x2] s (ps_rI (fun _ s2 => ISt s2 t)) := by
  obtain ⟨σ, h4⟩ := hM.1.2.2.2.1
  exact ms_303 (d := 294) hM.1.2.1 h4 hM.1.2.2.2.2.1 hM.1.2.2.2.2.2 (fun v s2 J2 K2 p0 p1 => IMs_m hM (LX_mk hM.1 J2 (LX_3 hM.1 K2 rfl) (LX_M hM.1 K2 rfl rfl rfl rfl rfl rfl rfl rfl rfl rfl rfl) (p0) (p1)) hu J2 K2 rfl rfl (LG_p K2 rfl))
theorem cm_304 {s : ps_S} {t : Int32} {u : Int} {x1 : Int32} (hM : IMs s t u) (hu : u = t.toInt) : ps_Cl 299 304 [.ref 1131, .int x1] s (ps_rI (fun _ s2 => ISt s2 t)) := by
  obtain ⟨σ, h4⟩ := hM.1.2.2.2.1
  exact ms_304 (d := 293) hM.1.2.1 h4 hM.1.2.2.2.2.1 hM.1.2.2.2.2.2 (fun v s2 J2 K2 p0 p1 => IMs_m hM (LX_mk hM.1 J2 (LX_3 hM.1 K2 rfl) (LX_M hM.1 K2 rfl rfl rfl rfl rfl rfl rfl rfl rfl rfl rfl) (p0) (p1)) hu J2 K2 rfl rfl (LG_p K2 rfl))
theorem cm_305 {s : ps_S} {t : Int32} {u : Int} {x1 : Int32} (hM : IMs s t u) (hu : u = t.toInt) : ps_Cl 299 305 [.ref 1131, .int x1] s (ps_rI (fun _ s2 => ISt s2 t)) := by
  obtain ⟨σ, h4⟩ := hM.1.2.2.2.1
  exact mw_305 (d := 298) hM.1.2.1 h4 (gv := ps_a s 1134) (fun k _ => rfl) (fun v s2 J2 K2 p0 pV => IMs_m hM (LX_mk hM.1 J2 (LX_3 hM.1 K2 rfl) (⟨σ, p0⟩) (LX_D hM.1 K2 rfl) (LX_F hM.1 K2 rfl)) hu J2 K2 rfl rfl (fun k hk => pV k (by omega)))
theorem cm_306 {s : ps_S} {t : Int32} {u : Int} {x1 : Int32} (hM : IMs s t u) (hu : u = t.toInt) : ps_Cl 299 306 [.ref 1131, .int x1] s (ps_rI (fun _ s2 => ISt s2 t)) := by
  obtain ⟨σ, h4⟩ := hM.1.2.2.2.1
  exact mw_306 (d := 298) hM.1.2.1 h4 (gv := ps_a s 1134) (fun k _ => rfl) (fun v s2 J2 K2 p0 pV => IMs_m hM (LX_mk hM.1 J2 (LX_3 hM.1 K2 rfl) (⟨σ, p0⟩) (LX_D hM.1 K2 rfl) (LX_F hM.1 K2 rfl)) hu J2 K2 rfl rfl (fun k hk => pV k (by omega)))
theorem cx_178 {s : ps_S} {t : Int32} {x1 : Int32} (hI : LI s t) (hF : LF s t) : ps_Cl 299 178 [.ref 0, .int x1] s (ps_rI (fun _ s1 => XK t (fun _ => False) s s1)) :=
  xs_178 (d := 299) (LI_J hI) (fun v => ⟨LI_J hI, cfr_refl, ⟨rfl, rfl⟩, fun _ _ => rfl⟩)
theorem cm_307 {s : ps_S} {t : Int32} {u : Int} {x1 : Int32} (hM : IMs s t u) (hu : u = t.toInt) : ps_Cl 299 307 [.ref 1131, .int x1] s (ps_rI (fun _ s2 => ISt s2 t)) :=
  ms_307 (d := 298) hM.1.2.1 (fun v => IMs_L hM hu)

/-- feed -/
theorem TRc_v {h : tx_H} {l : List Nat} : pdet (fun _ s => TRc s h l) := fun _ _ _ _ r1 r2 z => TRc_det r2 r1 z
theorem PR_0 {s : ps_S} {t : Int32} {x1 x2 x3 x4 x5 : Int32} (h : ISt s t) : ps_Cl 299 149 [.ref 0, .int x1, .int x2, .int x3, .int x4, .int x5] s (ps_rI (fun v s1 => ps_Cl 299 308 [.ref 1131, .int x1, .int x2, .int x3, .int x4, .int x5] s1 (ps_rI (fun v2 s2 => v = v2 ∧ ∃ t2, ISt s2 t2)))) := by
  obtain ⟨hI, hF, hG⟩ := h
  obtain ⟨g, l, c, m⟩ := LG_to hG
  have hb := LI_t hI
  have A : ps_Cl 299 149 [.ref 0, .int x1, .int x2, .int x3, .int x4, .int x5] s (ps_rI (fun v s1 => ∃ t1 : Int32, xJ s t1 s1 ∧ ((v.toInt = -1 ∧ t1 = t ∧ 1580 < t.toInt) ∨ (v = t1 ∧ t1.toInt = t.toInt + 20 ∧ t.toInt ≤ 1580)))) := xs_149 (d := 298) (LI_J hI) hb.1 hb.2 (fun v s1 t1 J p => ⟨t1, J, p⟩)
  have B : ∀ n, pl_Cl n 149 [.ref 0, .int x1, .int x2, .int x3, .int x4, .int x5] s (ps_rI (fun _ s1 => LM s1 t x1 x2 x3 x4 x5)) := fun n => LM_x hI hF n
  have D : ∀ n, pl_Cl n 149 [.ref 0, .int x1, .int x2, .int x3, .int x4, .int x5] s (ps_rI (fun _ s1 => TRc s1 g l)) := fun n => by
    have e : ps_i s 0 1 = t := hI.2.1.2.1
    refine fs_149 (t := t.toInt.toNat) (by omega) (by rw [e]; omega) (fun _ v s' q => ?_) (fun _ => c)
    obtain ⟨g1, g2, g3, g4, g5⟩ := q
    obtain ⟨c1, c2, c3⟩ := c
    have hl := c1.2.2.1
    exact ⟨by rw [g3]; exact cv_H_cfr c1 g2 (fun q a b z => by omega), by rw [g3]; exact c2, cv_W_cfr c3 g2 (by omega) (by omega)⟩
  refine ps_monoI (ps_andlI (ps_andlI A B (fun v w s1 s2 r1 r2 z => LM_det hb.1 hb.2 r2 r1 z)) D TRc_v) (fun v s1 z => ?_)
  obtain ⟨⟨⟨t1, J, q1⟩, hM1⟩, c1⟩ := z
  have m1 := TRm_x m J
  have hX := LI_x hI J
  obtain ⟨σ, h4⟩ := hX.2.2.2.1
  have A2 : ps_Cl 299 308 [.ref 1131, .int x1, .int x2, .int x3, .int x4, .int x5] s1 (ps_rI (fun v2 s2 => ∃ u2, LX s2 t1 u2 ∧ ((v2.toInt = -1 ∧ u2 = t.toInt ∧ 1580 < t.toInt) ∨ (v2.toInt = t.toInt + 20 ∧ u2 = t.toInt + 20 ∧ t.toInt ≤ 1580)) ∧ TRc s2 g l ∧ TRm s2 g l)) := ms_308 (d := 299) hX.2.1 (fun v s2 J2 K2 p0 => ⟨_, LX_mk hX J2 rfl (LX_M hX K2 rfl rfl rfl rfl rfl rfl rfl rfl rfl rfl rfl) (LX_D hX K2 rfl) (LX_F hX K2 rfl), by have e3 := hX.2.2.1; omega, TRc_m c1 J2 K2 rfl, by
    obtain ⟨b, y1, y2, y3, y4⟩ := m1
    exact ⟨b, y1, by rw [kp_i K2 21 rfl]; exact y2, mv_H_V y1 y3 (fun r hr => (K2.2 r ((show ∀ r, r ∈ [1135, 1136, 1137, 1138, 1139] → [1132].contains r = false by decide) r hr)).1) (fun r hr => (K2.2 r ((show ∀ r, r ∈ [1140, 1141, 1142] → [1132].contains r = false by decide) r hr)).2) (fun k _ _ => by rw [(K2.2 1134 rfl).1]), mv_W_V y4 (fun k _ _ => by rw [(K2.2 1134 rfl).1])⟩⟩)
  have B2 : ∀ n, pl_Cl n 308 [.ref 1131, .int x1, .int x2, .int x3, .int x4, .int x5] s1 (ps_rI (fun _ s2 => LF s2 t1)) := fun n => by
    refine pl_At.mono (LM_m hb.1 hb.2 hX.2.2.1 hM1 n) (fun o s2 z => rI_mono z (fun v y => ?_))
    exact y t1 (by rcases q1 with ⟨-, a2, a3⟩ | ⟨-, a2, a3⟩; exact Or.inl ⟨a2, a3⟩; exact Or.inr ⟨a2, a3⟩)
  refine ps_monoI (ps_andlI A2 B2 (fun v w y1 y2 r1 r2 z => LF_det (by rcases q1 with ⟨a1, a2, a3⟩ | ⟨a1, a2, a3⟩ <;> (try rw [a2]) <;> omega) r2 r1 z)) (fun v2 s2 z => ?_)
  obtain ⟨⟨u2, hL2, q2, c2, m2⟩, hF2⟩ := z
  refine ⟨Int32.toInt_inj.mp (by rcases q1 with ⟨a1, a2, a3⟩ | ⟨a1, a2, a3⟩ <;> rcases q2 with ⟨b1, b2, b3⟩ | ⟨b1, b2, b3⟩ <;> (try rw [a1]) <;> omega), t1, LX_LI hL2 (by rcases q1 with ⟨a1, a2, a3⟩ | ⟨a1, a2, a3⟩ <;> rcases q2 with ⟨b1, b2, b3⟩ | ⟨b1, b2, b3⟩ <;> (try rw [a2]) <;> omega), hF2, LG_of c2 m2⟩
/-- end -/
theorem PR_1 {s : ps_S} {t : Int32} {x1 : Int32} (h : ISt s t) : ps_Cl 299 150 [.ref 0, .int x1] s (ps_rI (fun v s1 => ps_Cl 299 309 [.ref 1131, .int x1] s1 (ps_rI (fun v2 s2 => v = v2 ∧ ∃ t2, ISt s2 t2)))) := by
  have hb := LI_t h.1
  refine ps_monoI (cx_150 h.1 h.2.1) (fun v s1 z => ?_)
  obtain ⟨t1, z, q1⟩ := z
  have hM := IMs_k h z (fun q a c => by omega) (by rcases q1 with ⟨-, e, -⟩ | ⟨-, e, -, e2⟩ <;> (rw [e]; omega))
  have hX := hM.1
  have A2 : ps_Cl 299 309 [.ref 1131, .int x1] s1 (ps_rI (fun v2 s2 => ∃ u2, ((v2.toInt = -1 ∧ u2 = t.toInt ∧ (x1.toInt < 0 ∨ t.toInt < x1.toInt)) ∨ (v2.toInt = x1.toInt ∧ u2 = x1.toInt ∧ 0 ≤ x1.toInt ∧ x1.toInt ≤ t.toInt)) ∧ (u2 = t1.toInt → ISt s2 t1))) := ms_309 (d := 299) hX.2.1 (fun v s2 J2 K2 p0 => ⟨(ps_i s2 1131 3).toInt, by have e3 := hX.2.2.1; omega, fun e => IMs_m hM (LX_mk hX J2 rfl (LX_M hX K2 rfl rfl rfl rfl rfl rfl rfl rfl rfl rfl rfl) (LX_D hX K2 rfl) (LX_F hX K2 rfl)) e J2 K2 rfl rfl (LG_p K2 rfl)⟩)
  refine ps_monoI A2 (fun v2 s2 y => ?_)
  obtain ⟨u2, q2, k⟩ := y
  refine ⟨Int32.toInt_inj.mp (by rcases q1 with ⟨a1, a2, a3⟩ | ⟨a1, a2, a3⟩ <;> rcases q2 with ⟨b1, b2, b3⟩ | ⟨b1, b2, b3⟩ <;> (try rw [a1]) <;> omega), t1, k (by rcases q1 with ⟨a1, a2, a3⟩ | ⟨a1, a2, a3⟩ <;> rcases q2 with ⟨b1, b2, b3⟩ | ⟨b1, b2, b3⟩ <;> (try rw [a2]) <;> omega)⟩
/-- theory -/
def KTc (s : ps_S) (t : Int32) (h0 : tx_H) (l0 : List Nat) (v : Int32) (s1 : ps_S) : Prop := (∃ (h : tx_H) (p : Nat), gt_go (tx_ln (TT s) t.toInt.toNat) (0, (([], []), []), 0, 0) (3, h, p, 0) ∧ v.toInt = h.2.length ∧ TRc s1 h []) ∨ ((∃ (h : tx_H) (pl k : Nat), gt_go (tx_ln (TT s) t.toInt.toNat) (0, (([], []), []), 0, 0) (4, h, pl, k) ∧ v.toInt = -1) ∧ TRc s1 h0 l0)
def KTm (s : ps_S) (t : Int32) (h0 : tx_H) (l0 : List Nat) (v : Int32) (s1 : ps_S) : Prop := (∃ (h : tx_H) (p : Nat), gt_go (tx_ln (TT s) t.toInt.toNat) (0, (([], []), []), 0, 0) (3, h, p, 0) ∧ v.toInt = h.2.length ∧ TRm s1 h []) ∨ ((∃ (h : tx_H) (pl k : Nat), gt_go (tx_ln (TT s) t.toInt.toNat) (0, (([], []), []), 0, 0) (4, h, pl, k) ∧ v.toInt = -1) ∧ TRm s1 h0 l0)
theorem KTc_v {s : ps_S} {t : Int32} {h0 : tx_H} {l0 : List Nat} : pdet (KTc s t h0 l0) := fun v w s1 s2 r1 r2 z => by
  rcases z with ⟨h, p, g, e, c⟩ | ⟨z, c⟩
  · exact Or.inl ⟨h, p, g, e, TRc_det r2 r1 c⟩
  · exact Or.inr ⟨z, TRc_det r2 r1 c⟩
theorem KTm_v {s : ps_S} {t : Int32} {h0 : tx_H} {l0 : List Nat} : pdet (KTm s t h0 l0) := fun v w s1 s2 r1 r2 z => by
  rcases z with ⟨h, p, g, e, c⟩ | ⟨z, c⟩
  · exact Or.inl ⟨h, p, g, e, TRm_det r2 r1 c⟩
  · exact Or.inr ⟨z, TRm_det r2 r1 c⟩
theorem KTm_m {s s1 : ps_S} {t t1 : Int32} {h0 : tx_H} {l0 : List Nat} (hI : LI s t) (hF : LF s t) (J : xJ s t1 s1) (hX : LX s1 t1 t.toInt) (m : TRm s1 h0 l0) (n : Nat) : pl_Cl n 201 [.ref 1131] s1 (ps_rI (fun v s2 => KTm s t h0 l0 v s2)) := by
  have ht := LI_t hI
  have h3 := hX.2.2.1
  obtain ⟨b, m1, m2, m3, m4⟩ := m
  refine fm_201x (b := b) (T := TT s) (N := t.toInt.toNat) m1 m2 (by omega) (by omega) (fun k hk => ?_) (fun v s2 z => ?_) (fun v s2 z => ?_)
  · rw [(J.2.2 1132 (by decide)).2.2.1, ← hF.1 k (by omega)]
    exact bytes_T
  · obtain ⟨⟨h, p, g, e, H, e21, -, -, -, -, -, -, e5, -, -⟩, -⟩ := z
    exact Or.inl ⟨h, p, g, e, 1 - b, by omega, e21, H, ⟨by rw [e5]; rfl, Nat.zero_le _, fun k c hk => by cases hk⟩⟩
  · obtain ⟨⟨h, p, k, g, e, -, -, -, e21, F⟩, V⟩ := z
    exact Or.inr ⟨⟨h, p, k, g, e⟩, b, m1, e21, F.2.1 h0 m3, mv_W_V m4 (fun k a c => V k (by omega))⟩
theorem PR_2 {s : ps_S} {t : Int32} (h : ISt s t) : ps_Cl 299 151 [.ref 0] s (ps_rI (fun v s1 => ps_Cl 299 201 [.ref 1131] s1 (ps_rI (fun v2 s2 => v = v2 ∧ ∃ t2, ISt s2 t2)))) := by
  obtain ⟨hI, hF, hG⟩ := h
  obtain ⟨h0, l0, c, m⟩ := LG_to hG
  have hb := LI_t hI
  have A : ps_Cl 299 151 [.ref 0] s (ps_rI (fun v s1 => yJ s 0 s1)) := ys_151 (d := 259) (LF_J hI hF) (fun v s1 J => J)
  have B : ∀ n, pl_Cl n 151 [.ref 0] s (ps_rI (fun v s1 => KTc s t h0 l0 v s1)) := fun n => pl_At.mono (KT_x hI hF hG n) (fun o s1 z => rI_mono z (fun v y => by
    rcases y with y | ⟨y1, y2⟩
    · exact Or.inl y
    · exact Or.inr ⟨y1, y2 _ _ c⟩))
  refine ps_monoI (ps_andlI A B KTc_v) (fun v s1 z => ?_)
  obtain ⟨J, c1⟩ := z
  have hX : LX s1 0 t.toInt := LI_x hI J.1
  have hF1 : LF s1 0 := LF_x hF J (by rw [Int32.toInt_zero]; exact hb.1)
  have m1 := TRm_x m J.1
  obtain ⟨σ, h4⟩ := hX.2.2.2.1
  have A2 : ps_Cl 299 201 [.ref 1131] s1 (ps_rI (fun _ s2 => LI s2 0 ∧ LF s2 0 ∧ ∀ h l, TRc s1 h l → TRc s2 h l)) := ms_201 (d := 292) hX.2.1 h4 (fun v s2 J2 K2 p0 p1 => ⟨LX_LI (LX_mk hX J2 (p1) (p0) (LX_D hX K2 rfl) (LX_F hX K2 rfl)) rfl, LF_m hF1 J2 K2 rfl rfl rfl rfl rfl, fun _ _ z => TRc_m z J2 K2 rfl⟩)
  have B2 : ∀ n, pl_Cl n 201 [.ref 1131] s1 (ps_rI (fun v s2 => KTm s t h0 l0 v s2)) := fun n => KTm_m hI hF J.1 hX m1 n
  refine ps_monoI (ps_andlI A2 B2 KTm_v) (fun v2 s2 z => ?_)
  obtain ⟨⟨hL, hF2, kc⟩, m2⟩ := z
  rcases c1 with ⟨ha, pa, ga, ea, ca⟩ | ⟨⟨ha, pa, ka, ga, ea⟩, ca⟩ <;> rcases m2 with ⟨hb', pb, gb, eb, mb⟩ | ⟨⟨hb', pb, kb, gb, eb⟩, mb⟩
  · have e := gt_det ga gb rfl rfl
    cases e
    exact ⟨Int32.toInt_inj.mp (by rw [ea, eb]), 0, hL, hF2, LG_of (kc _ _ ca) mb⟩
  · have e := gt_det ga gb rfl rfl
    cases e
  · have e := gt_det ga gb rfl rfl
    cases e
  · exact ⟨Int32.toInt_inj.mp (by rw [ea, eb]), 0, hL, hF2, LG_of (kc _ _ ca) mb⟩
/-- read -/
def KRc (s : ps_S) (t : Int32) (h0 : tx_H) (v : Int32) (s1 : ps_S) : Prop := (∃ l, rd_ok (TT s) t.toInt.toNat (h0.1, false) 1 l ∧ v.toInt = l.length ∧ cv_W s1 934 l) ∨ ((∃ k pl, rd_bad (TT s) t.toInt.toNat (h0.1, false) 1 k pl) ∧ v.toInt = -1 ∧ cv_W s1 934 [])
def KRm (s : ps_S) (t : Int32) (h0 : tx_H) (v : Int32) (s1 : ps_S) : Prop := (∃ l, rd_ok (TT s) t.toInt.toNat (h0.1, false) 1 l ∧ v.toInt = l.length ∧ TRm s1 h0 l) ∨ ((∃ k pl, rd_bad (TT s) t.toInt.toNat (h0.1, false) 1 k pl) ∧ v.toInt = -1 ∧ TRm s1 h0 [])
theorem KRc_v {s : ps_S} {t : Int32} {h0 : tx_H} : pdet (KRc s t h0) := fun v w s1 s2 r1 r2 z => by
  rcases z with ⟨l, g, e, c⟩ | ⟨z, e, c⟩
  · exact Or.inl ⟨l, g, e, cv_W_det r2 r1 (by decide) rfl rfl c⟩
  · exact Or.inr ⟨z, e, cv_W_det r2 r1 (by decide) rfl rfl c⟩
theorem KRm_v {s : ps_S} {t : Int32} {h0 : tx_H} : pdet (KRm s t h0) := fun v w s1 s2 r1 r2 z => by
  rcases z with ⟨l, g, e, c⟩ | ⟨z, e, c⟩
  · exact Or.inl ⟨l, g, e, TRm_det r2 r1 c⟩
  · exact Or.inr ⟨z, e, TRm_det r2 r1 c⟩
theorem TRm_po {s s' : ps_S} {h0 : tx_H} {l l' : List Nat} (m : TRm s h0 l) (K : kq [1133, 1134, 1143, 1144, 1145, 1146, 1147, 1148] [3, 4, 5, 6, 7, 8, 9, 10, 11, 22, 23, 29, 30, 31, 32] s s') (P : mv_po 25748 s s') (W : mv_W s' 25748 l') : TRm s' h0 l' := by
  obtain ⟨b, m1, m2, m3, m4⟩ := m
  exact ⟨b, m1, by rw [kq_i K 21 rfl]; exact m2, mv_H_V m1 m3 (fun r hr => kq_a K r ((show ∀ r, r ∈ [1135, 1136, 1137, 1138, 1139] → [1133, 1134, 1143, 1144, 1145, 1146, 1147, 1148].contains r = false by decide) r hr)) (fun r hr => kq_b K r ((show ∀ r, r ∈ [1140, 1141, 1142] → [1133, 1134, 1143, 1144, 1145, 1146, 1147, 1148].contains r = false by decide) r hr)) (fun k a b => P k (by omega)), W⟩
theorem PR_13 {s : ps_S} {t : Int32} (h : ISt s t) : ps_Cl 299 162 [.ref 0] s (ps_rI (fun v s1 => ps_Cl 299 274 [.ref 1131] s1 (ps_rI (fun v2 s2 => v = v2 ∧ ∃ t2, ISt s2 t2)))) := by
  obtain ⟨hI, hF, hG⟩ := h
  obtain ⟨h0, l0, c, m⟩ := LG_to hG
  have hb := LI_t hI
  have e : ps_i s 0 1 = t := hI.2.1.2.1
  have hth : ps_r s 0 2 = 2 ∨ ps_r s 0 2 = 26 := hF.2.2.2.2.1
  have B : ∀ n, pl_Cl n 162 [.ref 0] s (ps_rI (fun v s1 => KRc s t h0 v s1)) := fun n => fs_162 (th := ps_r s 0 2) (T := TT s) (N := t.toInt.toNat) hth rfl c.1.1 (by rw [e]; omega) (by omega) (fun k _ => bytes_T) hF.2.1 (fun v s1 l z1 z2 z3 _ _ => Or.inl ⟨l, z1, z2, z3⟩) (fun s1 k pl z1 z3 _ _ _ => Or.inr ⟨⟨k, pl, z1⟩, by decide, z3⟩)
  refine ps_monoI (ps_andlI (cx_162 hI hF) B KRc_v) (fun v s1 z => ?_)
  obtain ⟨J, c1⟩ := z
  have hX : LX s1 0 t.toInt := LI_x hI J.1
  have hF1 : LF s1 0 := LF_k hF J (by unfold C162; omega) (by unfold C162; omega) (by unfold C162; omega) (by rw [Int32.toInt_zero]; exact hb.1)
  have m1 := TRm_x m J.1
  have c1a : cv_H s1 (ps_r s1 0 2) h0 ∧ ((ps_r s1 0 2 = 2 ∧ ps_r s1 0 3 = 26) ∨ (ps_r s1 0 2 = 26 ∧ ps_r s1 0 3 = 2)) := by
    obtain ⟨d1, d2, d3⟩ := c
    have hl := d1.2.2.1
    obtain ⟨-, F, ⟨r2, r3⟩, -⟩ := J
    exact ⟨by rw [r2]; exact cv_H_cfr d1 F (fun q a b => by unfold C162; omega), by rw [r2, r3]; exact d2⟩
  obtain ⟨σ, h4⟩ := hX.2.2.2.1
  have A2 : ps_Cl 299 274 [.ref 1131] s1 (ps_rI (fun _ s2 => LI s2 0 ∧ LF s2 0 ∧ ∀ h l, TRc s1 h l → TRc s2 h l)) := ms_274 (d := 293) hX.2.1 h4 (fun v s2 J2 K2 p0 p1 => ⟨LX_LI (LX_mk hX J2 (p1) (⟨σ, p0⟩) (LX_D hX K2 rfl) (LX_F hX K2 rfl)) rfl, LF_m hF1 J2 K2 rfl rfl rfl rfl rfl, fun _ _ z => TRc_m z J2 K2 rfl⟩)
  have B2 : ∀ n, pl_Cl n 274 [.ref 1131] s1 (ps_rI (fun v s2 => KRm s t h0 v s2)) := fun n => by
    obtain ⟨b, y1, y2, y3, y4⟩ := id m1
    have h3 := hX.2.2.1
    refine fm_274 (b := b) (T := TT s) (N := t.toInt.toNat) y1 y2 y3.1 (by omega) (by omega) (fun k hk => ?_) (fun v s2 l z1 z2 z3 z4 => Or.inl ⟨l, z1, z2, TRm_po m1 z4.2.1 z4.2.2.1 z3⟩) (fun s2 z3 z4 => ?_)
    · rw [(J.1.2.2 1132 (by decide)).2.2.1, ← hF.1 k (by omega)]
      exact bytes_T
    · obtain ⟨⟨k, pl, z1, -, -⟩, z5⟩ := z4
      exact Or.inr ⟨⟨k, pl, z1⟩, by decide, TRm_po m1 z5.1 z5.2.1 z3⟩
  refine ps_monoI (ps_andlI A2 B2 KRm_v) (fun v2 s2 z => ?_)
  obtain ⟨⟨hL, hF2, kc⟩, m2⟩ := z
  rcases c1 with ⟨la, ga, ea, ca⟩ | ⟨⟨ka, pa, ga⟩, ea, ca⟩ <;> rcases m2 with ⟨lb, gb, eb, mb⟩ | ⟨⟨kb, pb, gb⟩, eb, mb⟩
  · have e := rd_oo ga gb
    subst e
    exact ⟨Int32.toInt_inj.mp (by rw [ea, eb]), 0, hL, hF2, LG_of (kc _ _ ⟨c1a.1, c1a.2, ca⟩) mb⟩
  · exact (rd_ob ga gb).elim
  · exact (rd_ob gb ga).elim
  · exact ⟨Int32.toInt_inj.mp (by rw [ea, eb]), 0, hL, hF2, LG_of (kc _ _ ⟨c1a.1, c1a.2, ca⟩) mb⟩
/-- piece -/
theorem pc_x {n : Nat} {s : ps_S} {h : tx_H} {l : List Nat} {x1 : Int32} (c : TRc s h l) : pl_Cl n 163 [.ref 0, .int x1] s (ps_rI (fun v _ => pc_is l x1 v)) := fs_163 c.2.2 (fun v z => z)
theorem pc_m {n : Nat} {s : ps_S} {h : tx_H} {l : List Nat} {x1 : Int32} (m : TRm s h l) : pl_Cl n 275 [.ref 1131, .int x1] s (ps_rI (fun v _ => pc_is l x1 v)) := by
  obtain ⟨b, -, -, -, m4⟩ := m
  exact fm_275 m4 (fun v z => z)

theorem PR_3 {s : ps_S} {t : Int32} {x1 : Int32} (h : ISt s t) : ps_Cl 299 152 [.ref 0, .int x1] s (ps_rI (fun _ s1 => ps_Cl 299 199 [.ref 1131, .int x1] s1 (ps_rI (fun _ s2 => ∃ t2, ISt s2 t2)))) :=
  ps_monoI (cx_152 h.1 h.2.1) (fun v s1 z => ps_monoI (cm_199 (IMs_k h z (fun q a c => c.elim) (Int.le_refl _)) rfl) (fun v2 s2 z2 => ⟨_, z2⟩))
theorem PR_4 {s : ps_S} {t : Int32}  (h : ISt s t) : ps_Cl 299 153 [.ref 0] s (ps_rI (fun _ s1 => ps_Cl 299 240 [.ref 1131] s1 (ps_rI (fun _ s2 => ∃ t2, ISt s2 t2)))) :=
  ps_monoI (cx_153 h.1 h.2.1) (fun v s1 z => ps_monoI (cm_240 (IMs_k h z (fun q a c => by unfold C153 at c; omega) (by rw [Int32.toInt_zero]; exact (LI_t h.1).1)) rfl) (fun v2 s2 z2 => ⟨_, z2⟩))
theorem PR_5 {s : ps_S} {t : Int32} {x1 : Int32} (h : ISt s t) : ps_Cl 299 154 [.ref 0, .int x1] s (ps_rI (fun _ s1 => ps_Cl 299 261 [.ref 1131, .int x1] s1 (ps_rI (fun _ s2 => ∃ t2, ISt s2 t2)))) :=
  ps_monoI (cx_154 h.1 h.2.1) (fun v s1 z => ps_monoI (cm_261 (IMs_k h z (fun q a c => c.elim) (Int.le_refl _)) rfl) (fun v2 s2 z2 => ⟨_, z2⟩))
theorem PR_6 {s : ps_S} {t : Int32} {x1 : Int32} {x2 : Int32} (h : ISt s t) : ps_Cl 299 155 [.ref 0, .int x1, .int x2] s (ps_rI (fun _ s1 => ps_Cl 299 263 [.ref 1131, .int x1, .int x2] s1 (ps_rI (fun _ s2 => ∃ t2, ISt s2 t2)))) :=
  ps_monoI (cx_155 h.1 h.2.1) (fun v s1 z => ps_monoI (cm_263 (IMs_k h z (fun q a c => c.elim) (Int.le_refl _)) rfl) (fun v2 s2 z2 => ⟨_, z2⟩))
theorem PR_7 {s : ps_S} {t : Int32} {x1 : Int32} {x2 : Int32} (h : ISt s t) : ps_Cl 299 156 [.ref 0, .int x1, .int x2] s (ps_rI (fun _ s1 => ps_Cl 299 265 [.ref 1131, .int x1, .int x2] s1 (ps_rI (fun _ s2 => ∃ t2, ISt s2 t2)))) :=
  ps_monoI (cx_156 h.1 h.2.1) (fun v s1 z => ps_monoI (cm_265 (IMs_k h z (fun q a c => c.elim) (Int.le_refl _)) rfl) (fun v2 s2 z2 => ⟨_, z2⟩))
theorem PR_8 {s : ps_S} {t : Int32} {x1 : Int32} {x2 : Int32} {x3 : Int32} (h : ISt s t) : ps_Cl 299 157 [.ref 0, .int x1, .int x2, .int x3] s (ps_rI (fun _ s1 => ps_Cl 299 266 [.ref 1131, .int x1, .int x2, .int x3] s1 (ps_rI (fun _ s2 => ∃ t2, ISt s2 t2)))) :=
  ps_monoI (cx_157 h.1 h.2.1) (fun v s1 z => ps_monoI (cm_266 (IMs_k h z (fun q a c => c.elim) (Int.le_refl _)) rfl) (fun v2 s2 z2 => ⟨_, z2⟩))
theorem PR_9 {s : ps_S} {t : Int32}  (h : ISt s t) : ps_Cl 299 158 [.ref 0] s (ps_rI (fun _ s1 => ps_Cl 299 268 [.ref 1131] s1 (ps_rI (fun _ s2 => ∃ t2, ISt s2 t2)))) :=
  ps_monoI (cx_158 h.1 h.2.1) (fun v s1 z => ps_monoI (cm_268 (IMs_k h z (fun q a c => by unfold C158 at c; omega) (Int.le_refl _)) rfl) (fun v2 s2 z2 => ⟨_, z2⟩))
theorem PR_10 {s : ps_S} {t : Int32} {x1 : Int32} {x2 : Int32} (h : ISt s t) : ps_Cl 299 159 [.ref 0, .int x1, .int x2] s (ps_rI (fun _ s1 => ps_Cl 299 269 [.ref 1131, .int x1, .int x2] s1 (ps_rI (fun _ s2 => ∃ t2, ISt s2 t2)))) :=
  ps_monoI (cx_159 h.1 h.2.1) (fun v s1 z => ps_monoI (cm_269 (IMs_k h z (fun q a c => c.elim) (Int.le_refl _)) rfl) (fun v2 s2 z2 => ⟨_, z2⟩))
theorem PR_11 {s : ps_S} {t : Int32} {x1 : Int32} {x2 : Int32} (h : ISt s t) : ps_Cl 299 160 [.ref 0, .int x1, .int x2] s (ps_rI (fun _ s1 => ps_Cl 299 271 [.ref 1131, .int x1, .int x2] s1 (ps_rI (fun _ s2 => ∃ t2, ISt s2 t2)))) :=
  ps_monoI (cx_160 h.1 h.2.1) (fun v s1 z => ps_monoI (cm_271 (IMs_k h z (fun q a c => c.elim) (Int.le_refl _)) rfl) (fun v2 s2 z2 => ⟨_, z2⟩))
theorem PR_12 {s : ps_S} {t : Int32}  (h : ISt s t) : ps_Cl 299 161 [.ref 0] s (ps_rI (fun _ s1 => ps_Cl 299 273 [.ref 1131] s1 (ps_rI (fun _ s2 => ∃ t2, ISt s2 t2)))) :=
  ps_monoI (cx_161 h.1 h.2.1) (fun v s1 z => ps_monoI (cm_273 (IMs_k h z (fun q a c => by unfold C161 at c; omega) (Int.le_refl _)) rfl) (fun v2 s2 z2 => ⟨_, z2⟩))
theorem PR_14 {s : ps_S} {t : Int32} {x1 : Int32} (h : ISt s t) : ps_Cl 299 163 [.ref 0, .int x1] s (ps_rI (fun v s1 => ps_Cl 299 275 [.ref 1131, .int x1] s1 (ps_rI (fun v2 s2 => v = v2 ∧ ∃ t2, ISt s2 t2)))) := by
  obtain ⟨g, l, c, m⟩ := LG_to h.2.2
  have wfc := WF_of (LI_LX h.1) m
  refine ps_monoI (ps_andlI (g := fun v _ => pc_is l x1 v) (cx_163 h.1 h.2.1) (fun n => pc_x c) pdet_v) (fun v s1 z => ?_)
  obtain ⟨z, e⟩ := z
  have m1 := TRm_x m z.1
  exact ps_monoI (ps_andlI (g := fun v _ => pc_is l x1 v) (cm_275 (IMs_k h z (fun q a c => c.elim) (Int.le_refl _)) rfl) (fun n => pc_m m1) pdet_v) (fun v2 s2 z2 => ⟨pc_eq e z2.2, _, z2.1⟩)
theorem PR_15 {s : ps_S} {t : Int32}  (h : ISt s t) : ps_Cl 299 164 [.ref 0] s (ps_rI (fun _ s1 => ps_Cl 299 276 [.ref 1131] s1 (ps_rI (fun _ s2 => ∃ t2, ISt s2 t2)))) :=
  ps_monoI (cx_164 h.1 h.2.1) (fun v s1 z => ps_monoI (cm_276 (IMs_k h z (fun q a c => c.elim) (Int.le_refl _)) rfl) (fun v2 s2 z2 => ⟨_, z2⟩))
theorem PR_16 {s : ps_S} {t : Int32} {x1 : Int32} (h : ISt s t) : ps_Cl 299 165 [.ref 0, .int x1] s (ps_rJ (fun _ s1 => ps_Cl 299 267 [.ref 1131, .int x1] s1 (ps_rJ (fun _ s2 => ∃ t2, ISt s2 t2)))) :=
  ps_monoJ (cx_165 h.1 h.2.1) (fun v s1 z => ps_monoJ (cm_267 (IMs_k h z (fun q a c => c.elim) (Int.le_refl _)) rfl) (fun v2 s2 z2 => ⟨_, z2⟩))
theorem PR_17 {s : ps_S} {t : Int32}  (h : ISt s t) : ps_Cl 299 166 [.ref 0] s (ps_rI (fun v s1 => ps_Cl 299 280 [.ref 1131] s1 (ps_rI (fun v2 s2 => v = v2 ∧ ∃ t2, ISt s2 t2)))) := by
  obtain ⟨g, l, c, m⟩ := LG_to h.2.2
  have wfc := WF_of (LI_LX h.1) m
  refine ps_monoI (ps_andlI (g := fun v _ => lt_A 0 g.1 l v) (cx_166 h.1 h.2.1) (fun n => fs_166 c wfc.2) pdet_v) (fun v s1 z => ?_)
  obtain ⟨z, e⟩ := z
  have m1 := TRm_x m z.1
  exact ps_monoI (ps_andlI (g := fun v _ => lt_A 0 g.1 l v) (cm_280 (IMs_k h z (fun q a c => by unfold C166 at c; omega) (Int.le_refl _)) rfl) (fun n => fm_280 m1 wfc.2) pdet_v) (fun v2 s2 z2 => ⟨lt_A_eq e z2.2, _, z2.1⟩)
theorem PR_18 {s : ps_S} {t : Int32}  (h : ISt s t) : ps_Cl 299 167 [.ref 0] s (ps_rI (fun v s1 => ps_Cl 299 281 [.ref 1131] s1 (ps_rI (fun v2 s2 => v = v2 ∧ ∃ t2, ISt s2 t2)))) := by
  obtain ⟨g, l, c, m⟩ := LG_to h.2.2
  have wfc := WF_of (LI_LX h.1) m
  refine ps_monoI (ps_andlI (g := fun v _ => lt_A 1 g.1 l v) (cx_167 h.1 h.2.1) (fun n => fs_167 c wfc.2) pdet_v) (fun v s1 z => ?_)
  obtain ⟨z, e⟩ := z
  have m1 := TRm_x m z.1
  exact ps_monoI (ps_andlI (g := fun v _ => lt_A 1 g.1 l v) (cm_281 (IMs_k h z (fun q a c => by unfold C166 at c; omega) (Int.le_refl _)) rfl) (fun n => fm_281 m1 wfc.2) pdet_v) (fun v2 s2 z2 => ⟨lt_A_eq e z2.2, _, z2.1⟩)
theorem PR_19 {s : ps_S} {t : Int32}  (h : ISt s t) : ps_Cl 299 168 [.ref 0] s (ps_rI (fun v s1 => ps_Cl 299 282 [.ref 1131] s1 (ps_rI (fun v2 s2 => v = v2 ∧ ∃ t2, ISt s2 t2)))) := by
  obtain ⟨g, l, c, m⟩ := LG_to h.2.2
  have wfc := WF_of (LI_LX h.1) m
  refine ps_monoI (ps_andlI (g := fun v _ => lt_A 2 g.1 l v) (cx_168 h.1 h.2.1) (fun n => fs_168 c wfc.2) pdet_v) (fun v s1 z => ?_)
  obtain ⟨z, e⟩ := z
  have m1 := TRm_x m z.1
  exact ps_monoI (ps_andlI (g := fun v _ => lt_A 2 g.1 l v) (cm_282 (IMs_k h z (fun q a c => by unfold C166 at c; omega) (Int.le_refl _)) rfl) (fun n => fm_282 m1 wfc.2) pdet_v) (fun v2 s2 z2 => ⟨lt_A_eq e z2.2, _, z2.1⟩)
theorem PR_20 {s : ps_S} {t : Int32}  (h : ISt s t) : ps_Cl 299 169 [.ref 0] s (ps_rI (fun _ s1 => ps_Cl 299 288 [.ref 1131] s1 (ps_rI (fun _ s2 => ∃ t2, ISt s2 t2)))) :=
  ps_monoI (cx_169 h.1 h.2.1) (fun v s1 z => ps_monoI (cm_288 (IMs_k h z (fun q a c => by unfold C169 at c; omega) (by rw [Int32.toInt_zero]; exact (LI_t h.1).1)) rfl) (fun v2 s2 z2 => ⟨_, z2⟩))
theorem PR_21 {s : ps_S} {t : Int32} {x1 : Int32} (h : ISt s t) : ps_Cl 299 170 [.ref 0, .int x1] s (ps_rI (fun _ s1 => ps_Cl 299 289 [.ref 1131, .int x1] s1 (ps_rI (fun _ s2 => ∃ t2, ISt s2 t2)))) :=
  ps_monoI (cx_170 h.1 h.2.1) (fun v s1 z => ps_monoI (cm_289 (IMs_k h z (fun q a c => c.elim) (Int.le_refl _)) rfl) (fun v2 s2 z2 => ⟨_, z2⟩))
theorem PR_22 {s : ps_S} {t : Int32}  (h : ISt s t) : ps_Cl 299 171 [.ref 0] s (ps_rI (fun v s1 => ps_Cl 299 285 [.ref 1131] s1 (ps_rI (fun v2 s2 => v = v2 ∧ ∃ t2, ISt s2 t2)))) := by
  obtain ⟨g, l, c, m⟩ := LG_to h.2.2
  have wfc := WF_of (LI_LX h.1) m
  refine ps_monoI (ps_andlI (g := fun v _ => rl_A g v) (cx_171 h.1 h.2.1) (fun n => fs_171 c wfc.1) pdet_v) (fun v s1 z => ?_)
  obtain ⟨z, e⟩ := z
  have m1 := TRm_x m z.1
  exact ps_monoI (ps_andlI (g := fun v _ => rl_A g v) (cm_285 (IMs_k h z (fun q a c => by unfold C171 at c; omega) (Int.le_refl _)) rfl) (fun n => fm_285 m1 wfc.1) pdet_v) (fun v2 s2 z2 => ⟨rl_A_eq e z2.2, _, z2.1⟩)
theorem PR_23 {s : ps_S} {t : Int32} {x1 : Int32} (h : ISt s t) : ps_Cl 299 172 [.ref 0, .int x1] s (ps_rI (fun v s1 => ps_Cl 299 301 [.ref 1131, .int x1] s1 (ps_rI (fun v2 s2 => v = v2 ∧ ∃ t2, ISt s2 t2)))) := by
  obtain ⟨g, l, c, m⟩ := LG_to h.2.2
  have wfc := WF_of (LI_LX h.1) m
  refine ps_monoI (ps_andlI (g := fun v _ => md_A g.1 x1 v) (cx_172 h.1 h.2.1) (fun n => fs_172 c) pdet_v) (fun v s1 z => ?_)
  obtain ⟨z, e⟩ := z
  have m1 := TRm_x m z.1
  exact ps_monoI (ps_andlI (g := fun v _ => md_A g.1 x1 v) (cm_301 (IMs_k h z (fun q a c => by unfold C172 at c; omega) (Int.le_refl _)) rfl) (fun n => fm_301a m1) pdet_v) (fun v2 s2 z2 => ⟨md_A_eq e z2.2, _, z2.1⟩)
theorem PR_24 {s : ps_S} {t : Int32} {x1 : Int32} (h : ISt s t) : ps_Cl 299 173 [.ref 0, .int x1] s (ps_rI (fun _ s1 => ps_Cl 299 302 [.ref 1131, .int x1] s1 (ps_rI (fun _ s2 => ∃ t2, ISt s2 t2)))) :=
  ps_monoI (cx_173 h.1 h.2.1) (fun v s1 z => ps_monoI (cm_302 (IMs_k h z (fun q a c => by unfold C172 at c; omega) (Int.le_refl _)) rfl) (fun v2 s2 z2 => ⟨_, z2⟩))
theorem PR_25 {s : ps_S} {t : Int32} {x1 : Int32} {x2 : Int32} (h : ISt s t) : ps_Cl 299 174 [.ref 0, .int x1, .int x2] s (ps_rI (fun _ s1 => ps_Cl 299 303 [.ref 1131, .int x1, .int x2] s1 (ps_rI (fun _ s2 => ∃ t2, ISt s2 t2)))) :=
  ps_monoI (cx_174 h.1 h.2.1) (fun v s1 z => ps_monoI (cm_303 (IMs_k h z (fun q a c => by unfold C172 at c; omega) (Int.le_refl _)) rfl) (fun v2 s2 z2 => ⟨_, z2⟩))
theorem PR_26 {s : ps_S} {t : Int32} {x1 : Int32} (h : ISt s t) : ps_Cl 299 175 [.ref 0, .int x1] s (ps_rI (fun _ s1 => ps_Cl 299 304 [.ref 1131, .int x1] s1 (ps_rI (fun _ s2 => ∃ t2, ISt s2 t2)))) :=
  ps_monoI (cx_175 h.1 h.2.1) (fun v s1 z => ps_monoI (cm_304 (IMs_k h z (fun q a c => by unfold C172 at c; omega) (Int.le_refl _)) rfl) (fun v2 s2 z2 => ⟨_, z2⟩))
theorem PR_27 {s : ps_S} {t : Int32} {x1 : Int32} (h : ISt s t) : ps_Cl 299 176 [.ref 0, .int x1] s (ps_rI (fun _ s1 => ps_Cl 299 305 [.ref 1131, .int x1] s1 (ps_rI (fun _ s2 => ∃ t2, ISt s2 t2)))) :=
  ps_monoI (cx_176 h.1 h.2.1) (fun v s1 z => ps_monoI (cm_305 (IMs_k h z (fun q a c => by unfold C176 at c; omega) (Int.le_refl _)) rfl) (fun v2 s2 z2 => ⟨_, z2⟩))
theorem PR_28 {s : ps_S} {t : Int32} {x1 : Int32} (h : ISt s t) : ps_Cl 299 177 [.ref 0, .int x1] s (ps_rI (fun _ s1 => ps_Cl 299 306 [.ref 1131, .int x1] s1 (ps_rI (fun _ s2 => ∃ t2, ISt s2 t2)))) :=
  ps_monoI (cx_177 h.1 h.2.1) (fun v s1 z => ps_monoI (cm_306 (IMs_k h z (fun q a c => by unfold C161 at c; omega) (Int.le_refl _)) rfl) (fun v2 s2 z2 => ⟨_, z2⟩))
theorem PR_29 {s : ps_S} {t : Int32} {x1 : Int32} (h : ISt s t) : ps_Cl 299 178 [.ref 0, .int x1] s (ps_rI (fun _ s1 => ps_Cl 299 307 [.ref 1131, .int x1] s1 (ps_rI (fun _ s2 => ∃ t2, ISt s2 t2)))) :=
  ps_monoI (cx_178 h.1 h.2.1) (fun v s1 z => ps_monoI (cm_307 (IMs_k h z (fun q a c => c.elim) (Int.le_refl _)) rfl) (fun v2 s2 z2 => ⟨_, z2⟩))
