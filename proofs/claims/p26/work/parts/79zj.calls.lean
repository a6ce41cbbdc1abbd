set_option maxRecDepth 100000
/-! call by call, what the judge keeps beside -/
/-- what lies below the reference stands -/
def LO (s s' : ps_S) : Prop := cfr (fun q => 1131 ≤ q) s s'
theorem LO_of {s s' : ps_S} {t : Int32} {A F : List Nat} (J : mJ s.1.2.2 t s') (K : kp A F s s') (hA : A.all (fun a => Nat.ble 1131 a) = true) : LO s s' := by
  have hr : ps_r s' = ps_r s := J.1
  rw [List.all_eq_true] at hA
  have hn : ∀ r, r < 1131 → A.contains r = false := fun r hr => by
    cases e : A.contains r with
    | false => rfl
    | true =>
      have := Nat.le_of_ble_eq_true (hA r (List.contains_iff_mem.mp e))
      omega
  exact fun q hq => by
    have hq : q < 1131 := by omega
    exact ⟨fun f => (K.1 q f (fun z => by omega)).1, fun f => (K.1 q f (fun z => by omega)).2, fun f => by rw [hr], (K.2 q (hn q hq)).1, (K.2 q (hn q hq)).2⟩
theorem TRc_lo {s s' : ps_S} {h : tx_H} {l : List Nat} (H : TRc s h l) (F : LO s s') : TRc s' h l := by
  obtain ⟨c1, c2, c3⟩ := H
  have hl := c1.2.2.1
  have r2 := (F 0 (by omega)).2.2.1 2
  have r3 := (F 0 (by omega)).2.2.1 3
  exact ⟨by rw [r2]; exact cv_H_cfr c1 F (fun q a b z => by omega), by rw [r2, r3]; exact c2, cv_W_cfr c3 F (by omega) (by omega)⟩
theorem JG_lo {s s' : ps_S} {h : tx_H} (H : JG s h) (F : LO s s') : JG s' h := JG_cfr H F (by omega) (by omega)
/-- what is told besides of a state between two calls -/
def XJ (s : ps_S) (h : tx_H) (l : List Nat) : Prop := TRc s h l ∧ TRm s h l ∧ BTh h ∧ (l ≠ [] → bc (arh h.1) [(0, 0)] l) ∧ JG s h
def JSt (s : ps_S) (t : Int32) : Prop := ISt s t ∧ ∃ h l, XJ s h l
theorem s1_JSt : JSt ps_s1 0 := by
  have e2 : ps_r ps_s1 0 2 = 2 := by decide +kernel
  have e3 : ps_r ps_s1 0 3 = 26 := by decide +kernel
  have hb : cv_base ps_s1 2 := s1_LF.2.2.1
  have hz : ∀ j, j < 192 → ps_b ps_s1 957 j = 0 := by decide +kernel
  refine ⟨⟨s1_LI, s1_LF, s1_LG⟩, (([], []), []), [], ⟨?_, Or.inl ⟨e2, e3⟩, ?_⟩, ⟨(ps_i ps_s1 1131 21).toInt.toNat, by decide +kernel, by decide +kernel, ?_, ?_⟩, BTh_0, fun y => absurd rfl y, JG_z hz⟩
  · rw [e2]
    exact ⟨⟨by decide +kernel, by decide +kernel, Nat.zero_le _, Nat.zero_le _, (fun k w a hk => by cases hk), (fun k w a hk => by cases hk), hb, (fun w m1 _ => by cases m1)⟩, by decide +kernel, Nat.zero_le _, (fun k w l hk => by cases hk)⟩
  · exact ⟨by decide +kernel, by decide +kernel, Nat.zero_le _, (fun k c hk => by cases hk)⟩
  · exact ⟨⟨by decide +kernel, by decide +kernel, Nat.zero_le _, Nat.zero_le _, (fun k w a hk => by cases hk), (fun k w a hk => by cases hk)⟩, by decide +kernel, Nat.zero_le _, (fun k w l hk => by cases hk)⟩
  · exact ⟨by decide +kernel, Nat.zero_le _, (fun k c hk => by cases hk)⟩
/-- the reference's call -/
def RMs (s s2 : ps_S) (t : Int32) : Prop := ISt s2 t ∧ LO s s2 ∧ ∀ h l, TRm s h l → TRm s2 h l
theorem cj_199 {s : ps_S} {t : Int32} {u : Int} {x1 : Int32} (hM : IMs s t u) (hu : u = t.toInt) : ps_Cl 299 199 [.ref 1131, .int x1] s (ps_rI (fun _ s2 => RMs s s2 t)) :=
  ms_199 (d := 299) hM.1.2.1 (fun v => ⟨IMs_L hM hu, cfr_refl, fun _ _ z => z⟩)
theorem cj_240 {s : ps_S} {t : Int32} {u : Int}  (hM : IMs s t u) (hu : (0 : Int) = t.toInt) : ps_Cl 299 240 [.ref 1131] s (ps_rI (fun _ s2 => RMs s s2 t)) := by
  obtain ⟨σ, h4⟩ := hM.1.2.2.2.1
  exact mw_240 (d := 292) hM.1.2.1 h4 (gv := ps_a s 1134) (fun k _ => rfl) (fun v s2 J2 K2 p0 p1 pV => ⟨IMs_m hM (LX_mk hM.1 J2 (p1) (⟨σ, p0⟩) (LX_D hM.1 K2 rfl) (LX_F hM.1 K2 rfl)) hu J2 K2 rfl rfl (fun k hk => pV k (by omega)), LO_of J2 K2 rfl, fun _ _ z => TRm_m (t := t) z K2 rfl rfl (fun k hk => pV k (by omega))⟩)
theorem cj_261 {s : ps_S} {t : Int32} {u : Int} {x1 : Int32} (hM : IMs s t u) (hu : u = t.toInt) : ps_Cl 299 261 [.ref 1131, .int x1] s (ps_rI (fun _ s2 => RMs s s2 t)) :=
  ms_261 (d := 299) hM.1.2.1 (fun v => ⟨IMs_L hM hu, cfr_refl, fun _ _ z => z⟩)
theorem cj_263 {s : ps_S} {t : Int32} {u : Int} {x1 : Int32} {x2 : Int32} (hM : IMs s t u) (hu : u = t.toInt) : ps_Cl 299 263 [.ref 1131, .int x1, .int x2] s (ps_rI (fun _ s2 => RMs s s2 t)) :=
  ms_263 (d := 297) hM.1.2.1 (fun v => ⟨IMs_L hM hu, cfr_refl, fun _ _ z => z⟩)
theorem cj_265 {s : ps_S} {t : Int32} {u : Int} {x1 : Int32} {x2 : Int32} (hM : IMs s t u) (hu : u = t.toInt) : ps_Cl 299 265 [.ref 1131, .int x1, .int x2] s (ps_rI (fun _ s2 => RMs s s2 t)) :=
  ms_265 (d := 297) hM.1.2.1 (fun v => ⟨IMs_L hM hu, cfr_refl, fun _ _ z => z⟩)
theorem cj_266 {s : ps_S} {t : Int32} {u : Int} {x1 : Int32} {x2 : Int32} {x3 : Int32} (hM : IMs s t u) (hu : u = t.toInt) : ps_Cl 299 266 [.ref 1131, .int x1, .int x2, .int x3] s (ps_rI (fun _ s2 => RMs s s2 t)) :=
  ms_266 (d := 297) hM.1.2.1 (fun v => ⟨IMs_L hM hu, cfr_refl, fun _ _ z => z⟩)
theorem cj_268 {s : ps_S} {t : Int32} {u : Int}  (hM : IMs s t u) (hu : u = t.toInt) : ps_Cl 299 268 [.ref 1131] s (ps_rI (fun _ s2 => RMs s s2 t)) := by
  obtain ⟨σ, h4⟩ := hM.1.2.2.2.1
  exact mw_268 (d := 298) hM.1.2.1 h4 (gv := ps_a s 1134) (fun k _ => rfl) (fun v s2 J2 K2 p0 pV => ⟨IMs_m hM (LX_mk hM.1 J2 (LX_3 hM.1 K2 rfl) (⟨σ, p0⟩) (LX_D hM.1 K2 rfl) (LX_F hM.1 K2 rfl)) hu J2 K2 rfl rfl (fun k hk => pV k (by omega)), LO_of J2 K2 rfl, fun _ _ z => TRm_m (t := t) z K2 rfl rfl (fun k hk => pV k (by omega))⟩)
theorem cj_269 {s : ps_S} {t : Int32} {u : Int} {x1 : Int32} {x2 : Int32} (hM : IMs s t u) (hu : u = t.toInt) : ps_Cl 299 269 [.ref 1131, .int x1, .int x2] s (ps_rI (fun _ s2 => RMs s s2 t)) :=
  ms_269 (d := 297) hM.1.2.1 (fun v => ⟨IMs_L hM hu, cfr_refl, fun _ _ z => z⟩)
theorem cj_271 {s : ps_S} {t : Int32} {u : Int} {x1 : Int32} {x2 : Int32} (hM : IMs s t u) (hu : u = t.toInt) : ps_Cl 299 271 [.ref 1131, .int x1, .int x2] s (ps_rI (fun _ s2 => RMs s s2 t)) :=
  ms_271 (d := 298) hM.1.2.1 (fun v => ⟨IMs_L hM hu, cfr_refl, fun _ _ z => z⟩)
theorem cj_273 {s : ps_S} {t : Int32} {u : Int}  (hM : IMs s t u) (hu : u = t.toInt) : ps_Cl 299 273 [.ref 1131] s (ps_rI (fun _ s2 => RMs s s2 t)) := by
  obtain ⟨σ, h4⟩ := hM.1.2.2.2.1
  exact ms_273 (d := 298) hM.1.2.1 h4 (fun v s2 J2 K2 p0 => ⟨IMs_m hM (LX_mk hM.1 J2 (LX_3 hM.1 K2 rfl) (⟨σ, p0⟩) (LX_D hM.1 K2 rfl) (LX_F hM.1 K2 rfl)) hu J2 K2 rfl rfl (LG_p K2 rfl), LO_of J2 K2 rfl, fun _ _ z => TRm_m (t := t) z K2 rfl rfl (LG_p K2 rfl)⟩)
theorem cj_275 {s : ps_S} {t : Int32} {u : Int} {x1 : Int32} (hM : IMs s t u) (hu : u = t.toInt) : ps_Cl 299 275 [.ref 1131, .int x1] s (ps_rI (fun _ s2 => RMs s s2 t)) :=
  ms_275 (d := 297) hM.1.2.1 (fun v => ⟨IMs_L hM hu, cfr_refl, fun _ _ z => z⟩)
theorem cj_276 {s : ps_S} {t : Int32} {u : Int}  (hM : IMs s t u) (hu : u = t.toInt) : ps_Cl 299 276 [.ref 1131] s (ps_rI (fun _ s2 => RMs s s2 t)) :=
  ms_276 (d := 297) hM.1.2.1 (fun v => ⟨IMs_L hM hu, cfr_refl, fun _ _ z => z⟩)
theorem cj_267 {s : ps_S} {t : Int32} {u : Int} {x1 : Int32} (hM : IMs s t u) (hu : u = t.toInt) : ps_Cl 299 267 [.ref 1131, .int x1] s (ps_rJ (fun _ s2 => RMs s s2 t)) :=
  ms_267 (d := 297) hM.1.2.1 (fun v => ⟨IMs_L hM hu, cfr_refl, fun _ _ z => z⟩)
theorem cj_280 {s : ps_S} {t : Int32} {u : Int}  (hM : IMs s t u) (hu : u = t.toInt) : ps_Cl 299 280 [.ref 1131] s (ps_rI (fun _ s2 => RMs s s2 t)) := by
  obtain ⟨σ, h4⟩ := hM.1.2.2.2.1
  exact ms_280 (d := 295) hM.1.2.1 h4 (fun v s2 J2 K2 => ⟨IMs_m hM (LX_mk hM.1 J2 (LX_3 hM.1 K2 rfl) (LX_M hM.1 K2 rfl rfl rfl rfl rfl rfl rfl rfl rfl rfl rfl) (LX_D hM.1 K2 rfl) (LX_F hM.1 K2 rfl)) hu J2 K2 rfl rfl (LG_p K2 rfl), LO_of J2 K2 rfl, fun _ _ z => TRm_m (t := t) z K2 rfl rfl (LG_p K2 rfl)⟩)
theorem cj_281 {s : ps_S} {t : Int32} {u : Int}  (hM : IMs s t u) (hu : u = t.toInt) : ps_Cl 299 281 [.ref 1131] s (ps_rI (fun _ s2 => RMs s s2 t)) := by
  obtain ⟨σ, h4⟩ := hM.1.2.2.2.1
  exact ms_281 (d := 295) hM.1.2.1 h4 (fun v s2 J2 K2 => ⟨IMs_m hM (LX_mk hM.1 J2 (LX_3 hM.1 K2 rfl) (LX_M hM.1 K2 rfl rfl rfl rfl rfl rfl rfl rfl rfl rfl rfl) (LX_D hM.1 K2 rfl) (LX_F hM.1 K2 rfl)) hu J2 K2 rfl rfl (LG_p K2 rfl), LO_of J2 K2 rfl, fun _ _ z => TRm_m (t := t) z K2 rfl rfl (LG_p K2 rfl)⟩)
theorem cj_282 {s : ps_S} {t : Int32} {u : Int}  (hM : IMs s t u) (hu : u = t.toInt) : ps_Cl 299 282 [.ref 1131] s (ps_rI (fun _ s2 => RMs s s2 t)) := by
  obtain ⟨σ, h4⟩ := hM.1.2.2.2.1
  exact ms_282 (d := 295) hM.1.2.1 h4 (fun v s2 J2 K2 => ⟨IMs_m hM (LX_mk hM.1 J2 (LX_3 hM.1 K2 rfl) (LX_M hM.1 K2 rfl rfl rfl rfl rfl rfl rfl rfl rfl rfl rfl) (LX_D hM.1 K2 rfl) (LX_F hM.1 K2 rfl)) hu J2 K2 rfl rfl (LG_p K2 rfl), LO_of J2 K2 rfl, fun _ _ z => TRm_m (t := t) z K2 rfl rfl (LG_p K2 rfl)⟩)
theorem cj_288 {s : ps_S} {t : Int32} {u : Int}  (hM : IMs s t u) (hu : (0 : Int) = t.toInt) : ps_Cl 299 288 [.ref 1131] s (ps_rI (fun _ s2 => RMs s s2 t)) := by
  obtain ⟨σ, h4⟩ := hM.1.2.2.2.1
  exact mw_288 (d := 293) hM.1.2.1 h4 (gv := ps_a s 1134) (fun k _ => rfl) (fun v s2 J2 K2 p0 p1 pV => ⟨IMs_m hM (LX_mk hM.1 J2 (p1) (⟨σ, p0⟩) (LX_D hM.1 K2 rfl) (LX_F hM.1 K2 rfl)) hu J2 K2 rfl rfl (fun k hk => pV k (by omega)), LO_of J2 K2 rfl, fun _ _ z => TRm_m (t := t) z K2 rfl rfl (fun k hk => pV k (by omega))⟩)
theorem cj_289 {s : ps_S} {t : Int32} {u : Int} {x1 : Int32} (hM : IMs s t u) (hu : u = t.toInt) : ps_Cl 299 289 [.ref 1131, .int x1] s (ps_rI (fun _ s2 => RMs s s2 t)) :=
  ms_289 (d := 297) hM.1.2.1 (fun v => ⟨IMs_L hM hu, cfr_refl, fun _ _ z => z⟩)
theorem cj_285 {s : ps_S} {t : Int32} {u : Int}  (hM : IMs s t u) (hu : u = t.toInt) : ps_Cl 299 285 [.ref 1131] s (ps_rI (fun _ s2 => RMs s s2 t)) := by
  obtain ⟨σ, h4⟩ := hM.1.2.2.2.1
  exact ms_285 (d := 296) hM.1.2.1 h4 (fun v s2 J2 K2 => ⟨IMs_m hM (LX_mk hM.1 J2 (LX_3 hM.1 K2 rfl) (LX_M hM.1 K2 rfl rfl rfl rfl rfl rfl rfl rfl rfl rfl rfl) (LX_D hM.1 K2 rfl) (LX_F hM.1 K2 rfl)) hu J2 K2 rfl rfl (LG_p K2 rfl), LO_of J2 K2 rfl, fun _ _ z => TRm_m (t := t) z K2 rfl rfl (LG_p K2 rfl)⟩)
theorem cj_301 {s : ps_S} {t : Int32} {u : Int} {x1 : Int32} (hM : IMs s t u) (hu : u = t.toInt) : ps_Cl 299 301 [.ref 1131, .int x1] s (ps_rI (fun _ s2 => RMs s s2 t)) := by
  obtain ⟨σ, h4⟩ := hM.1.2.2.2.1
  exact ms_301 (d := 297) hM.1.2.1 (MI_S h4) (fun v s2 J2 K2 p0 p1 p2 => ⟨IMs_m hM (LX_mk hM.1 J2 (LX_3 hM.1 K2 rfl) (LX_M hM.1 K2 rfl rfl rfl rfl rfl rfl rfl rfl rfl rfl rfl) (LX_D hM.1 K2 rfl) (LX_F hM.1 K2 rfl)) hu J2 K2 rfl rfl (LG_p K2 rfl), LO_of J2 K2 rfl, fun _ _ z => TRm_m (t := t) z K2 rfl rfl (LG_p K2 rfl)⟩)
theorem cj_302 {s : ps_S} {t : Int32} {u : Int} {x1 : Int32} (hM : IMs s t u) (hu : u = t.toInt) : ps_Cl 299 302 [.ref 1131, .int x1] s (ps_rI (fun _ s2 => RMs s s2 t)) := by
  obtain ⟨σ, h4⟩ := hM.1.2.2.2.1
  exact ms_302 (d := 293) hM.1.2.1 h4 hM.1.2.2.2.2.1 hM.1.2.2.2.2.2 (fun v s2 J2 K2 p0 p1 => ⟨IMs_m hM (LX_mk hM.1 J2 (LX_3 hM.1 K2 rfl) (LX_M hM.1 K2 rfl rfl rfl rfl rfl rfl rfl rfl rfl rfl rfl) (p0) (p1)) hu J2 K2 rfl rfl (LG_p K2 rfl), LO_of J2 K2 rfl, fun _ _ z => TRm_m (t := t) z K2 rfl rfl (LG_p K2 rfl)⟩)
theorem cj_303 {s : ps_S} {t : Int32} {u : Int} {x1 : Int32} {x2 : Int32} (hM : IMs s t u) (hu : u = t.toInt) : ps_Cl 299 303 [.ref 1131, .int x1, .int x2] s (ps_rI (fun _ s2 => RMs s s2 t)) := by
  obtain ⟨σ, h4⟩ := hM.1.2.2.2.1
  exact ms_303 (d := 294) hM.1.2.1 h4 hM.1.2.2.2.2.1 hM.1.2.2.2.2.2 (fun v s2 J2 K2 p0 p1 => ⟨IMs_m hM (LX_mk hM.1 J2 (LX_3 hM.1 K2 rfl) (LX_M hM.1 K2 rfl rfl rfl rfl rfl rfl rfl rfl rfl rfl rfl) (p0) (p1)) hu J2 K2 rfl rfl (LG_p K2 rfl), LO_of J2 K2 rfl, fun _ _ z => TRm_m (t := t) z K2 rfl rfl (LG_p K2 rfl)⟩)
theorem cj_304 {s : ps_S} {t : Int32} {u : Int} {x1 : Int32} (hM : IMs s t u) (hu : u = t.toInt) : ps_Cl 299 304 [.ref 1131, .int x1] s (ps_rI (fun _ s2 => RMs s s2 t)) := by
  obtain ⟨σ, h4⟩ := hM.1.2.2.2.1
  exact ms_304 (d := 293) hM.1.2.1 h4 hM.1.2.2.2.2.1 hM.1.2.2.2.2.2 (fun v s2 J2 K2 p0 p1 => ⟨IMs_m hM (LX_mk hM.1 J2 (LX_3 hM.1 K2 rfl) (LX_M hM.1 K2 rfl rfl rfl rfl rfl rfl rfl rfl rfl rfl rfl) (p0) (p1)) hu J2 K2 rfl rfl (LG_p K2 rfl), LO_of J2 K2 rfl, fun _ _ z => TRm_m (t := t) z K2 rfl rfl (LG_p K2 rfl)⟩)
theorem cj_305 {s : ps_S} {t : Int32} {u : Int} {x1 : Int32} (hM : IMs s t u) (hu : u = t.toInt) : ps_Cl 299 305 [.ref 1131, .int x1] s (ps_rI (fun _ s2 => RMs s s2 t)) := by
  obtain ⟨σ, h4⟩ := hM.1.2.2.2.1
  exact mw_305 (d := 298) hM.1.2.1 h4 (gv := ps_a s 1134) (fun k _ => rfl) (fun v s2 J2 K2 p0 pV => ⟨IMs_m hM (LX_mk hM.1 J2 (LX_3 hM.1 K2 rfl) (⟨σ, p0⟩) (LX_D hM.1 K2 rfl) (LX_F hM.1 K2 rfl)) hu J2 K2 rfl rfl (fun k hk => pV k (by omega)), LO_of J2 K2 rfl, fun _ _ z => TRm_m (t := t) z K2 rfl rfl (fun k hk => pV k (by omega))⟩)
theorem cj_306 {s : ps_S} {t : Int32} {u : Int} {x1 : Int32} (hM : IMs s t u) (hu : u = t.toInt) : ps_Cl 299 306 [.ref 1131, .int x1] s (ps_rI (fun _ s2 => RMs s s2 t)) := by
  obtain ⟨σ, h4⟩ := hM.1.2.2.2.1
  exact mw_306 (d := 298) hM.1.2.1 h4 (gv := ps_a s 1134) (fun k _ => rfl) (fun v s2 J2 K2 p0 pV => ⟨IMs_m hM (LX_mk hM.1 J2 (LX_3 hM.1 K2 rfl) (⟨σ, p0⟩) (LX_D hM.1 K2 rfl) (LX_F hM.1 K2 rfl)) hu J2 K2 rfl rfl (fun k hk => pV k (by omega)), LO_of J2 K2 rfl, fun _ _ z => TRm_m (t := t) z K2 rfl rfl (fun k hk => pV k (by omega))⟩)
theorem cj_307 {s : ps_S} {t : Int32} {u : Int} {x1 : Int32} (hM : IMs s t u) (hu : u = t.toInt) : ps_Cl 299 307 [.ref 1131, .int x1] s (ps_rI (fun _ s2 => RMs s s2 t)) :=
  ms_307 (d := 298) hM.1.2.1 (fun v => ⟨IMs_L hM hu, cfr_refl, fun _ _ z => z⟩)
theorem JP_0 {s : ps_S} {t : Int32} {x1 x2 x3 x4 x5 : Int32} (h : JSt s t) : ps_Cl 299 149 [.ref 0, .int x1, .int x2, .int x3, .int x4, .int x5] s (ps_rI (fun v s1 => ps_Cl 299 308 [.ref 1131, .int x1, .int x2, .int x3, .int x4, .int x5] s1 (ps_rI (fun v2 s2 => v = v2 ∧ ∃ t2, JSt s2 t2)))) := by
  obtain ⟨⟨hI, hF, hG⟩, g, l, c, m, hbt, hc, G⟩ := h
  have hb := LI_t hI
  have A : ps_Cl 299 149 [.ref 0, .int x1, .int x2, .int x3, .int x4, .int x5] s (ps_rI (fun v s1 => ∃ t1 : Int32, xJ s t1 s1 ∧ ((v.toInt = -1 ∧ t1 = t ∧ 1580 < t.toInt) ∨ (v = t1 ∧ t1.toInt = t.toInt + 20 ∧ t.toInt ≤ 1580)))) := xs_149 (d := 298) (LI_J hI) hb.1 hb.2 (fun v s1 t1 J p => ⟨t1, J, p⟩)
  have B : ∀ n, pl_Cl n 149 [.ref 0, .int x1, .int x2, .int x3, .int x4, .int x5] s (ps_rI (fun _ s1 => LM s1 t x1 x2 x3 x4 x5)) := fun n => LM_x hI hF n
  have D : ∀ n, pl_Cl n 149 [.ref 0, .int x1, .int x2, .int x3, .int x4, .int x5] s (ps_rI (fun _ s1 => TRc s1 g l ∧ JG s1 g)) := fun n => by
    have e : ps_i s 0 1 = t := hI.2.1.2.1
    refine fs_149 (t := t.toInt.toNat) (by omega) (by rw [e]; omega) (fun _ v s' q => ?_) (fun _ => ⟨c, G⟩)
    obtain ⟨g1, g2, g3, g4, g5⟩ := q
    obtain ⟨c1, c2, c3⟩ := c
    have hl := c1.2.2.1
    exact ⟨⟨by rw [g3]; exact cv_H_cfr c1 g2 (fun q a b z => by omega), by rw [g3]; exact c2, cv_W_cfr c3 g2 (by omega) (by omega)⟩, JG_cfr G g2 (by omega) (by omega)⟩
  refine ps_monoI (ps_andlI (ps_andlI A B (fun v w s1 s2 r1 r2 z => LM_det hb.1 hb.2 r2 r1 z)) D (pdet_and TRc_v JG_v)) (fun v s1 z => ?_)
  obtain ⟨⟨⟨t1, J, q1⟩, hM1⟩, c1, G1⟩ := z
  have m1 := TRm_x m J
  have hX := LI_x hI J
  obtain ⟨σ, h4⟩ := hX.2.2.2.1
  have A2 : ps_Cl 299 308 [.ref 1131, .int x1, .int x2, .int x3, .int x4, .int x5] s1 (ps_rI (fun v2 s2 => ∃ u2, LX s2 t1 u2 ∧ ((v2.toInt = -1 ∧ u2 = t.toInt ∧ 1580 < t.toInt) ∨ (v2.toInt = t.toInt + 20 ∧ u2 = t.toInt + 20 ∧ t.toInt ≤ 1580)) ∧ LO s1 s2 ∧ TRm s2 g l)) := ms_308 (d := 299) hX.2.1 (fun v s2 J2 K2 p0 => ⟨_, LX_mk hX J2 rfl (LX_M hX K2 rfl rfl rfl rfl rfl rfl rfl rfl rfl rfl rfl) (LX_D hX K2 rfl) (LX_F hX K2 rfl), by have e3 := hX.2.2.1; omega, LO_of J2 K2 rfl, by
    obtain ⟨b, y1, y2, y3, y4⟩ := m1
    exact ⟨b, y1, by rw [kp_i K2 21 rfl]; exact y2, mv_H_V y1 y3 (fun r hr => (K2.2 r ((show ∀ r, r ∈ [1135, 1136, 1137, 1138, 1139] → [1132].contains r = false by decide) r hr)).1) (fun r hr => (K2.2 r ((show ∀ r, r ∈ [1140, 1141, 1142] → [1132].contains r = false by decide) r hr)).2) (fun k _ _ => by rw [(K2.2 1134 rfl).1]), mv_W_V y4 (fun k _ _ => by rw [(K2.2 1134 rfl).1])⟩⟩)
  have B2 : ∀ n, pl_Cl n 308 [.ref 1131, .int x1, .int x2, .int x3, .int x4, .int x5] s1 (ps_rI (fun _ s2 => LF s2 t1)) := fun n => by
    refine pl_At.mono (LM_m hb.1 hb.2 hX.2.2.1 hM1 n) (fun o s2 z => rI_mono z (fun v y => ?_))
    exact y t1 (by rcases q1 with ⟨-, a2, a3⟩ | ⟨-, a2, a3⟩; exact Or.inl ⟨a2, a3⟩; exact Or.inr ⟨a2, a3⟩)
  refine ps_monoI (ps_andlI A2 B2 (fun v w y1 y2 r1 r2 z => LF_det (by rcases q1 with ⟨a1, a2, a3⟩ | ⟨a1, a2, a3⟩ <;> (try rw [a2]) <;> omega) r2 r1 z)) (fun v2 s2 z => ?_)
  obtain ⟨⟨u2, hL2, q2, lo, m2⟩, hF2⟩ := z
  refine ⟨Int32.toInt_inj.mp (by rcases q1 with ⟨a1, a2, a3⟩ | ⟨a1, a2, a3⟩ <;> rcases q2 with ⟨b1, b2, b3⟩ | ⟨b1, b2, b3⟩ <;> (try rw [a1]) <;> omega), t1, ⟨LX_LI hL2 (by rcases q1 with ⟨a1, a2, a3⟩ | ⟨a1, a2, a3⟩ <;> rcases q2 with ⟨b1, b2, b3⟩ | ⟨b1, b2, b3⟩ <;> (try rw [a2]) <;> omega), hF2, LG_of (TRc_lo c1 lo) m2⟩, g, l, TRc_lo c1 lo, m2, hbt, hc, JG_lo G1 lo⟩

theorem JP_1 {s : ps_S} {t : Int32} {x1 : Int32} (h : JSt s t) : ps_Cl 299 150 [.ref 0, .int x1] s (ps_rI (fun v s1 => ps_Cl 299 309 [.ref 1131, .int x1] s1 (ps_rI (fun v2 s2 => v = v2 ∧ ∃ t2, JSt s2 t2)))) := by
  obtain ⟨h, g, l, c, m, hbt, hc, G⟩ := h
  have hb := LI_t h.1
  refine ps_monoI (cx_150 h.1 h.2.1) (fun v s1 z => ?_)
  obtain ⟨t1, z, q1⟩ := z
  have hM := IMs_k h z (fun q a c => by omega) (by rcases q1 with ⟨-, e, -⟩ | ⟨-, e, -, e2⟩ <;> (rw [e]; omega))
  have hX := hM.1
  have c1 := TRc_x c z (fun q a c => by omega)
  have m1 := TRm_x m z.1
  have G1 : JG s1 g := JG_cfr G z.2.1 (by omega) (by omega)
  have A2 : ps_Cl 299 309 [.ref 1131, .int x1] s1 (ps_rI (fun v2 s2 => ∃ u2, ((v2.toInt = -1 ∧ u2 = t.toInt ∧ (x1.toInt < 0 ∨ t.toInt < x1.toInt)) ∨ (v2.toInt = x1.toInt ∧ u2 = x1.toInt ∧ 0 ≤ x1.toInt ∧ x1.toInt ≤ t.toInt)) ∧ (u2 = t1.toInt → JSt s2 t1))) := ms_309 (d := 299) hX.2.1 (fun v s2 J2 K2 p0 => ⟨(ps_i s2 1131 3).toInt, by have e3 := hX.2.2.1; omega, fun e => ⟨IMs_m hM (LX_mk hX J2 rfl (LX_M hX K2 rfl rfl rfl rfl rfl rfl rfl rfl rfl rfl rfl) (LX_D hX K2 rfl) (LX_F hX K2 rfl)) e J2 K2 rfl rfl (LG_p K2 rfl), g, l, TRc_lo c1 (LO_of J2 K2 rfl), TRm_m (t := t) m1 K2 rfl rfl (LG_p K2 rfl), hbt, hc, JG_lo G1 (LO_of J2 K2 rfl)⟩⟩)
  refine ps_monoI A2 (fun v2 s2 y => ?_)
  obtain ⟨u2, q2, k⟩ := y
  refine ⟨Int32.toInt_inj.mp (by rcases q1 with ⟨a1, a2, a3⟩ | ⟨a1, a2, a3⟩ <;> rcases q2 with ⟨b1, b2, b3⟩ | ⟨b1, b2, b3⟩ <;> (try rw [a1]) <;> omega), t1, k (by rcases q1 with ⟨a1, a2, a3⟩ | ⟨a1, a2, a3⟩ <;> rcases q2 with ⟨b1, b2, b3⟩ | ⟨b1, b2, b3⟩ <;> (try rw [a2]) <;> omega)⟩

theorem JP_2 {s : ps_S} {t : Int32} (h : JSt s t) : ps_Cl 299 151 [.ref 0] s (ps_rI (fun v s1 => ps_Cl 299 201 [.ref 1131] s1 (ps_rI (fun v2 s2 => v = v2 ∧ ∃ t2, JSt s2 t2)))) := by
  obtain ⟨⟨hI, hF, hG⟩, h0, l0, c, m, hbt, hc, G⟩ := h
  have hb := LI_t hI
  have A : ps_Cl 299 151 [.ref 0] s (ps_rI (fun v s1 => yJ s 0 s1)) := ys_151 (d := 259) (LF_J hI hF) (fun v s1 J => J)
  have B : ∀ n, pl_Cl n 151 [.ref 0] s (ps_rI (fun v s1 => KTc s t h0 l0 v s1)) := fun n => pl_At.mono (KT_x hI hF hG n) (fun o s1 z => rI_mono z (fun v y => by
    rcases y with y | ⟨y1, y2⟩
    · exact Or.inl y
    · exact Or.inr ⟨y1, y2 _ _ c⟩))
  refine ps_monoI (ps_andlI (ps_andlI A B KTc_v) (fun n => fs_151e hI hF hG) KJ_v) (fun v s1 z => ?_)
  obtain ⟨⟨J, c1⟩, kj⟩ := z
  have hX : LX s1 0 t.toInt := LI_x hI J.1
  have hF1 : LF s1 0 := LF_x hF J (by rw [Int32.toInt_zero]; exact hb.1)
  have m1 := TRm_x m J.1
  obtain ⟨σ, h4⟩ := hX.2.2.2.1
  have A2 : ps_Cl 299 201 [.ref 1131] s1 (ps_rI (fun _ s2 => LI s2 0 ∧ LF s2 0 ∧ LO s1 s2)) := ms_201 (d := 292) hX.2.1 h4 (fun v s2 J2 K2 p0 p1 => ⟨LX_LI (LX_mk hX J2 (p1) (p0) (LX_D hX K2 rfl) (LX_F hX K2 rfl)) rfl, LF_m hF1 J2 K2 rfl rfl rfl rfl rfl, LO_of J2 K2 rfl⟩)
  have B2 : ∀ n, pl_Cl n 201 [.ref 1131] s1 (ps_rI (fun v s2 => KTm s t h0 l0 v s2)) := fun n => KTm_m hI hF J.1 hX m1 n
  refine ps_monoI (ps_andlI A2 B2 KTm_v) (fun v2 s2 z => ?_)
  obtain ⟨⟨hL, hF2, lo⟩, m2⟩ := z
  rcases c1 with ⟨ha, pa, ga, ea, ca⟩ | ⟨⟨ha, pa, ka, ga, ea⟩, ca⟩ <;> rcases m2 with ⟨hb', pb, gb, eb, mb⟩ | ⟨⟨hb', pb, kb, gb, eb⟩, mb⟩
  · have e := gt_det ga gb rfl rfl
    cases e
    have G1 : JG s1 ha := by
      rcases kj with ⟨e, -, -⟩ | z
      · omega
      · exact JG_z z
    exact ⟨Int32.toInt_inj.mp (by rw [ea, eb]), 0, ⟨hL, hF2, LG_of (TRc_lo ca lo) mb⟩, ha, [], TRc_lo ca lo, mb, BTh_go ga, fun y => absurd rfl y, JG_lo G1 lo⟩
  · have e := gt_det ga gb rfl rfl
    cases e
  · have e := gt_det ga gb rfl rfl
    cases e
  · have G1 : JG s1 h0 := by
      rcases kj with ⟨-, z1, z2⟩ | z
      · exact JG_eq G z1 z2
      · exact JG_z z
    exact ⟨Int32.toInt_inj.mp (by rw [ea, eb]), 0, ⟨hL, hF2, LG_of (TRc_lo ca lo) mb⟩, h0, l0, TRc_lo ca lo, mb, hbt, hc, JG_lo G1 lo⟩

theorem JP_13 {s : ps_S} {t : Int32} (h : JSt s t) : ps_Cl 299 162 [.ref 0] s (ps_rI (fun v s1 => ps_Cl 299 274 [.ref 1131] s1 (ps_rI (fun v2 s2 => v = v2 ∧ ∃ t2, JSt s2 t2)))) := by
  obtain ⟨⟨hI, hF, hG⟩, h0, l0, c, m, hbt, hc, G⟩ := h
  have hb := LI_t hI
  have e : ps_i s 0 1 = t := hI.2.1.2.1
  have hth : ps_r s 0 2 = 2 ∨ ps_r s 0 2 = 26 := hF.2.2.2.2.1
  have B : ∀ n, pl_Cl n 162 [.ref 0] s (ps_rI (fun v s1 => KRc s t h0 v s1)) := fun n => fs_162 (th := ps_r s 0 2) (T := TT s) (N := t.toInt.toNat) hth rfl c.1.1 (by rw [e]; omega) (by omega) (fun k _ => bytes_T) hF.2.1 (fun v s1 l z1 z2 z3 _ _ => Or.inl ⟨l, z1, z2, z3⟩) (fun s1 k pl z1 z3 _ _ _ => Or.inr ⟨⟨k, pl, z1⟩, by decide, z3⟩)
  refine ps_monoI (ps_andlI (cx_162 hI hF) B KRc_v) (fun v s1 z => ?_)
  obtain ⟨J, c1⟩ := z
  have hX : LX s1 0 t.toInt := LI_x hI J.1
  have G1 : JG s1 h0 := JG_cfr G J.2.1 (by unfold C162; omega) (by unfold C162; omega)
  have hF1 : LF s1 0 := LF_k hF J (by unfold C162; omega) (by unfold C162; omega) (by unfold C162; omega) (by rw [Int32.toInt_zero]; exact hb.1)
  have m1 := TRm_x m J.1
  have c1a : cv_H s1 (ps_r s1 0 2) h0 ∧ ((ps_r s1 0 2 = 2 ∧ ps_r s1 0 3 = 26) ∨ (ps_r s1 0 2 = 26 ∧ ps_r s1 0 3 = 2)) := by
    obtain ⟨d1, d2, d3⟩ := c
    have hl := d1.2.2.1
    obtain ⟨-, F, ⟨r2, r3⟩, -⟩ := J
    exact ⟨by rw [r2]; exact cv_H_cfr d1 F (fun q a b => by unfold C162; omega), by rw [r2, r3]; exact d2⟩
  obtain ⟨σ, h4⟩ := hX.2.2.2.1
  have A2 : ps_Cl 299 274 [.ref 1131] s1 (ps_rI (fun _ s2 => LI s2 0 ∧ LF s2 0 ∧ LO s1 s2)) := ms_274 (d := 293) hX.2.1 h4 (fun v s2 J2 K2 p0 p1 => ⟨LX_LI (LX_mk hX J2 (p1) (⟨σ, p0⟩) (LX_D hX K2 rfl) (LX_F hX K2 rfl)) rfl, LF_m hF1 J2 K2 rfl rfl rfl rfl rfl, LO_of J2 K2 rfl⟩)
  have B2 : ∀ n, pl_Cl n 274 [.ref 1131] s1 (ps_rI (fun v s2 => KRm s t h0 v s2)) := fun n => by
    obtain ⟨b, y1, y2, y3, y4⟩ := id m1
    have h3 := hX.2.2.1
    refine fm_274 (b := b) (T := TT s) (N := t.toInt.toNat) y1 y2 y3.1 (by omega) (by omega) (fun k hk => ?_) (fun v s2 l z1 z2 z3 z4 => Or.inl ⟨l, z1, z2, TRm_po m1 z4.2.1 z4.2.2.1 z3⟩) (fun s2 z3 z4 => ?_)
    · rw [(J.1.2.2 1132 (by decide)).2.2.1, ← hF.1 k (by omega)]
      exact bytes_T
    · obtain ⟨⟨k, pl, z1, -, -⟩, z5⟩ := z4
      exact Or.inr ⟨⟨k, pl, z1⟩, by decide, TRm_po m1 z5.1 z5.2.1 z3⟩
  refine ps_monoI (ps_andlI A2 B2 KRm_v) (fun v2 s2 z => ?_)
  obtain ⟨⟨hL, hF2, lo⟩, m2⟩ := z
  rcases c1 with ⟨la, ga, ea, ca⟩ | ⟨⟨ka, pa, ga⟩, ea, ca⟩ <;> rcases m2 with ⟨lb, gb, eb, mb⟩ | ⟨⟨kb, pb, gb⟩, eb, mb⟩
  · have e := rd_oo ga gb
    subst e
    have c2 := TRc_lo ⟨c1a.1, c1a.2, ca⟩ lo
    exact ⟨Int32.toInt_inj.mp (by rw [ea, eb]), 0, ⟨hL, hF2, LG_of c2 mb⟩, h0, la, c2, mb, hbt, fun _ => (bc_rd hbt.1 hbt.2.1 (Or.inr rfl) ga).1, JG_lo G1 lo⟩
  · exact (rd_ob ga gb).elim
  · exact (rd_ob gb ga).elim
  · have c2 := TRc_lo ⟨c1a.1, c1a.2, ca⟩ lo
    exact ⟨Int32.toInt_inj.mp (by rw [ea, eb]), 0, ⟨hL, hF2, LG_of c2 mb⟩, h0, [], c2, mb, hbt, fun y => absurd rfl y, JG_lo G1 lo⟩

theorem JP_3 {s : ps_S} {t : Int32} {x1 : Int32} (h : JSt s t) : ps_Cl 299 152 [.ref 0, .int x1] s (ps_rI (fun v s1 => ps_Cl 299 199 [.ref 1131, .int x1] s1 (ps_rI (fun v2 s2 => ∃ t2, JSt s2 t2)))) := by
  obtain ⟨h, g, l, c, m, hb, hc, G⟩ := h
  have wfc := WF_of (LI_LX h.1) m
  refine ps_monoI (cx_152 h.1 h.2.1) (fun v s1 z => ?_)
  have c1 := TRc_x c z (fun q a c => c.elim)
  have m1 := TRm_x m z.1
  have G1 : JG s1 g := JG_cfr G z.2.1 (fun c => c.elim) (fun c => c.elim)
  exact ps_monoI (cj_199 (IMs_k h z (fun q a c => c.elim) (Int.le_refl _)) rfl) (fun v2 s2 z2 => ⟨_, z2.1, g, l, TRc_lo c1 z2.2.1, z2.2.2 _ _ m1, hb, hc, JG_lo G1 z2.2.1⟩)
theorem JP_4 {s : ps_S} {t : Int32}  (h : JSt s t) : ps_Cl 299 153 [.ref 0] s (ps_rI (fun v s1 => ps_Cl 299 240 [.ref 1131] s1 (ps_rI (fun v2 s2 => ∃ t2, JSt s2 t2)))) := by
  obtain ⟨h, g, l, c, m, hb, hc, G⟩ := h
  have wfc := WF_of (LI_LX h.1) m
  refine ps_monoI (cx_153 h.1 h.2.1) (fun v s1 z => ?_)
  have c1 := TRc_x c z (fun q a c => by unfold C153 at c; omega)
  have m1 := TRm_x m z.1
  have G1 : JG s1 g := JG_cfr G z.2.1 (fun c => by unfold C153 at c; omega) (fun c => by unfold C153 at c; omega)
  exact ps_monoI (cj_240 (IMs_k h z (fun q a c => by unfold C153 at c; omega) (by rw [Int32.toInt_zero]; exact (LI_t h.1).1)) rfl) (fun v2 s2 z2 => ⟨_, z2.1, g, l, TRc_lo c1 z2.2.1, z2.2.2 _ _ m1, hb, hc, JG_lo G1 z2.2.1⟩)
theorem JP_5 {s : ps_S} {t : Int32} {x1 : Int32} (h : JSt s t) : ps_Cl 299 154 [.ref 0, .int x1] s (ps_rI (fun v s1 => ps_Cl 299 261 [.ref 1131, .int x1] s1 (ps_rI (fun v2 s2 => ∃ t2, JSt s2 t2)))) := by
  obtain ⟨h, g, l, c, m, hb, hc, G⟩ := h
  have wfc := WF_of (LI_LX h.1) m
  refine ps_monoI (cx_154 h.1 h.2.1) (fun v s1 z => ?_)
  have c1 := TRc_x c z (fun q a c => c.elim)
  have m1 := TRm_x m z.1
  have G1 : JG s1 g := JG_cfr G z.2.1 (fun c => c.elim) (fun c => c.elim)
  exact ps_monoI (cj_261 (IMs_k h z (fun q a c => c.elim) (Int.le_refl _)) rfl) (fun v2 s2 z2 => ⟨_, z2.1, g, l, TRc_lo c1 z2.2.1, z2.2.2 _ _ m1, hb, hc, JG_lo G1 z2.2.1⟩)
theorem JP_6 {s : ps_S} {t : Int32} {x1 : Int32} {x2 : Int32} (h : JSt s t) : ps_Cl 299 155 [.ref 0, .int x1, .int x2] s (ps_rI (fun v s1 => ps_Cl 299 263 [.ref 1131, .int x1, .int x2] s1 (ps_rI (fun v2 s2 => ∃ t2, JSt s2 t2)))) := by
  obtain ⟨h, g, l, c, m, hb, hc, G⟩ := h
  have wfc := WF_of (LI_LX h.1) m
  refine ps_monoI (cx_155 h.1 h.2.1) (fun v s1 z => ?_)
  have c1 := TRc_x c z (fun q a c => c.elim)
  have m1 := TRm_x m z.1
  have G1 : JG s1 g := JG_cfr G z.2.1 (fun c => c.elim) (fun c => c.elim)
  exact ps_monoI (cj_263 (IMs_k h z (fun q a c => c.elim) (Int.le_refl _)) rfl) (fun v2 s2 z2 => ⟨_, z2.1, g, l, TRc_lo c1 z2.2.1, z2.2.2 _ _ m1, hb, hc, JG_lo G1 z2.2.1⟩)
theorem JP_7 {s : ps_S} {t : Int32} {x1 : Int32} {x2 : Int32} (h : JSt s t) : ps_Cl 299 156 [.ref 0, .int x1, .int x2] s (ps_rI (fun v s1 => ps_Cl 299 265 [.ref 1131, .int x1, .int x2] s1 (ps_rI (fun v2 s2 => ∃ t2, JSt s2 t2)))) := by
  obtain ⟨h, g, l, c, m, hb, hc, G⟩ := h
  have wfc := WF_of (LI_LX h.1) m
  refine ps_monoI (cx_156 h.1 h.2.1) (fun v s1 z => ?_)
  have c1 := TRc_x c z (fun q a c => c.elim)
  have m1 := TRm_x m z.1
  have G1 : JG s1 g := JG_cfr G z.2.1 (fun c => c.elim) (fun c => c.elim)
  exact ps_monoI (cj_265 (IMs_k h z (fun q a c => c.elim) (Int.le_refl _)) rfl) (fun v2 s2 z2 => ⟨_, z2.1, g, l, TRc_lo c1 z2.2.1, z2.2.2 _ _ m1, hb, hc, JG_lo G1 z2.2.1⟩)
theorem JP_8 {s : ps_S} {t : Int32} {x1 : Int32} {x2 : Int32} {x3 : Int32} (h : JSt s t) : ps_Cl 299 157 [.ref 0, .int x1, .int x2, .int x3] s (ps_rI (fun v s1 => ps_Cl 299 266 [.ref 1131, .int x1, .int x2, .int x3] s1 (ps_rI (fun v2 s2 => ∃ t2, JSt s2 t2)))) := by
  obtain ⟨h, g, l, c, m, hb, hc, G⟩ := h
  have wfc := WF_of (LI_LX h.1) m
  refine ps_monoI (cx_157 h.1 h.2.1) (fun v s1 z => ?_)
  have c1 := TRc_x c z (fun q a c => c.elim)
  have m1 := TRm_x m z.1
  have G1 : JG s1 g := JG_cfr G z.2.1 (fun c => c.elim) (fun c => c.elim)
  exact ps_monoI (cj_266 (IMs_k h z (fun q a c => c.elim) (Int.le_refl _)) rfl) (fun v2 s2 z2 => ⟨_, z2.1, g, l, TRc_lo c1 z2.2.1, z2.2.2 _ _ m1, hb, hc, JG_lo G1 z2.2.1⟩)
theorem JP_9 {s : ps_S} {t : Int32}  (h : JSt s t) : ps_Cl 299 158 [.ref 0] s (ps_rI (fun v s1 => ps_Cl 299 268 [.ref 1131] s1 (ps_rI (fun v2 s2 => ∃ t2, JSt s2 t2)))) := by
  obtain ⟨h, g, l, c, m, hb, hc, G⟩ := h
  have wfc := WF_of (LI_LX h.1) m
  refine ps_monoI (cx_158 h.1 h.2.1) (fun v s1 z => ?_)
  have c1 := TRc_x c z (fun q a c => by unfold C158 at c; omega)
  have m1 := TRm_x m z.1
  have G1 : JG s1 g := JG_cfr G z.2.1 (fun c => by unfold C158 at c; omega) (fun c => by unfold C158 at c; omega)
  exact ps_monoI (cj_268 (IMs_k h z (fun q a c => by unfold C158 at c; omega) (Int.le_refl _)) rfl) (fun v2 s2 z2 => ⟨_, z2.1, g, l, TRc_lo c1 z2.2.1, z2.2.2 _ _ m1, hb, hc, JG_lo G1 z2.2.1⟩)
theorem JP_10 {s : ps_S} {t : Int32} {x1 : Int32} {x2 : Int32} (h : JSt s t) : ps_Cl 299 159 [.ref 0, .int x1, .int x2] s (ps_rI (fun v s1 => ps_Cl 299 269 [.ref 1131, .int x1, .int x2] s1 (ps_rI (fun v2 s2 => ∃ t2, JSt s2 t2)))) := by
  obtain ⟨h, g, l, c, m, hb, hc, G⟩ := h
  have wfc := WF_of (LI_LX h.1) m
  refine ps_monoI (cx_159 h.1 h.2.1) (fun v s1 z => ?_)
  have c1 := TRc_x c z (fun q a c => c.elim)
  have m1 := TRm_x m z.1
  have G1 : JG s1 g := JG_cfr G z.2.1 (fun c => c.elim) (fun c => c.elim)
  exact ps_monoI (cj_269 (IMs_k h z (fun q a c => c.elim) (Int.le_refl _)) rfl) (fun v2 s2 z2 => ⟨_, z2.1, g, l, TRc_lo c1 z2.2.1, z2.2.2 _ _ m1, hb, hc, JG_lo G1 z2.2.1⟩)
theorem JP_11 {s : ps_S} {t : Int32} {x1 : Int32} {x2 : Int32} (h : JSt s t) : ps_Cl 299 160 [.ref 0, .int x1, .int x2] s (ps_rI (fun v s1 => ps_Cl 299 271 [.ref 1131, .int x1, .int x2] s1 (ps_rI (fun v2 s2 => ∃ t2, JSt s2 t2)))) := by
  obtain ⟨h, g, l, c, m, hb, hc, G⟩ := h
  have wfc := WF_of (LI_LX h.1) m
  refine ps_monoI (cx_160 h.1 h.2.1) (fun v s1 z => ?_)
  have c1 := TRc_x c z (fun q a c => c.elim)
  have m1 := TRm_x m z.1
  have G1 : JG s1 g := JG_cfr G z.2.1 (fun c => c.elim) (fun c => c.elim)
  exact ps_monoI (cj_271 (IMs_k h z (fun q a c => c.elim) (Int.le_refl _)) rfl) (fun v2 s2 z2 => ⟨_, z2.1, g, l, TRc_lo c1 z2.2.1, z2.2.2 _ _ m1, hb, hc, JG_lo G1 z2.2.1⟩)
theorem JP_12 {s : ps_S} {t : Int32}  (h : JSt s t) : ps_Cl 299 161 [.ref 0] s (ps_rI (fun v s1 => ps_Cl 299 273 [.ref 1131] s1 (ps_rI (fun v2 s2 => ∃ t2, JSt s2 t2)))) := by
  obtain ⟨h, g, l, c, m, hb, hc, G⟩ := h
  have wfc := WF_of (LI_LX h.1) m
  refine ps_monoI (cx_161 h.1 h.2.1) (fun v s1 z => ?_)
  have c1 := TRc_x c z (fun q a c => by unfold C161 at c; omega)
  have m1 := TRm_x m z.1
  have G1 : JG s1 g := JG_cfr G z.2.1 (fun c => by unfold C161 at c; omega) (fun c => by unfold C161 at c; omega)
  exact ps_monoI (cj_273 (IMs_k h z (fun q a c => by unfold C161 at c; omega) (Int.le_refl _)) rfl) (fun v2 s2 z2 => ⟨_, z2.1, g, l, TRc_lo c1 z2.2.1, z2.2.2 _ _ m1, hb, hc, JG_lo G1 z2.2.1⟩)
theorem JP_14 {s : ps_S} {t : Int32} {x1 : Int32} (h : JSt s t) : ps_Cl 299 163 [.ref 0, .int x1] s (ps_rI (fun v s1 => ps_Cl 299 275 [.ref 1131, .int x1] s1 (ps_rI (fun v2 s2 => ∃ t2, JSt s2 t2)))) := by
  obtain ⟨h, g, l, c, m, hb, hc, G⟩ := h
  have wfc := WF_of (LI_LX h.1) m
  refine ps_monoI (cx_163 h.1 h.2.1) (fun v s1 z => ?_)
  have c1 := TRc_x c z (fun q a c => c.elim)
  have m1 := TRm_x m z.1
  have G1 : JG s1 g := JG_cfr G z.2.1 (fun c => c.elim) (fun c => c.elim)
  exact ps_monoI (cj_275 (IMs_k h z (fun q a c => c.elim) (Int.le_refl _)) rfl) (fun v2 s2 z2 => ⟨_, z2.1, g, l, TRc_lo c1 z2.2.1, z2.2.2 _ _ m1, hb, hc, JG_lo G1 z2.2.1⟩)
theorem JP_15 {s : ps_S} {t : Int32}  (h : JSt s t) : ps_Cl 299 164 [.ref 0] s (ps_rI (fun v s1 => ps_Cl 299 276 [.ref 1131] s1 (ps_rI (fun v2 s2 => ∃ t2, JSt s2 t2)))) := by
  obtain ⟨h, g, l, c, m, hb, hc, G⟩ := h
  have wfc := WF_of (LI_LX h.1) m
  refine ps_monoI (cx_164 h.1 h.2.1) (fun v s1 z => ?_)
  have c1 := TRc_x c z (fun q a c => c.elim)
  have m1 := TRm_x m z.1
  have G1 : JG s1 g := JG_cfr G z.2.1 (fun c => c.elim) (fun c => c.elim)
  exact ps_monoI (cj_276 (IMs_k h z (fun q a c => c.elim) (Int.le_refl _)) rfl) (fun v2 s2 z2 => ⟨_, z2.1, g, l, TRc_lo c1 z2.2.1, z2.2.2 _ _ m1, hb, hc, JG_lo G1 z2.2.1⟩)
theorem JP_16 {s : ps_S} {t : Int32} {x1 : Int32} (h : JSt s t) : ps_Cl 299 165 [.ref 0, .int x1] s (ps_rJ (fun v s1 => ps_Cl 299 267 [.ref 1131, .int x1] s1 (ps_rJ (fun v2 s2 => ∃ t2, JSt s2 t2)))) := by
  obtain ⟨h, g, l, c, m, hb, hc, G⟩ := h
  have wfc := WF_of (LI_LX h.1) m
  refine ps_monoJ (cx_165 h.1 h.2.1) (fun v s1 z => ?_)
  have c1 := TRc_x c z (fun q a c => c.elim)
  have m1 := TRm_x m z.1
  have G1 : JG s1 g := JG_cfr G z.2.1 (fun c => c.elim) (fun c => c.elim)
  exact ps_monoJ (cj_267 (IMs_k h z (fun q a c => c.elim) (Int.le_refl _)) rfl) (fun v2 s2 z2 => ⟨_, z2.1, g, l, TRc_lo c1 z2.2.1, z2.2.2 _ _ m1, hb, hc, JG_lo G1 z2.2.1⟩)
theorem JP_17 {s : ps_S} {t : Int32}  (h : JSt s t) : ps_Cl 299 166 [.ref 0] s (ps_rI (fun v s1 => ps_Cl 299 280 [.ref 1131] s1 (ps_rI (fun v2 s2 => ∃ t2, JSt s2 t2)))) := by
  obtain ⟨h, g, l, c, m, hb, hc, G⟩ := h
  have wfc := WF_of (LI_LX h.1) m
  refine ps_monoI (cx_166 h.1 h.2.1) (fun v s1 z => ?_)
  have c1 := TRc_x c z (fun q a c => by unfold C166 at c; omega)
  have m1 := TRm_x m z.1
  have G1 : JG s1 g := JG_cfr G z.2.1 (fun c => by unfold C166 at c; omega) (fun c => by unfold C166 at c; omega)
  exact ps_monoI (cj_280 (IMs_k h z (fun q a c => by unfold C166 at c; omega) (Int.le_refl _)) rfl) (fun v2 s2 z2 => ⟨_, z2.1, g, l, TRc_lo c1 z2.2.1, z2.2.2 _ _ m1, hb, hc, JG_lo G1 z2.2.1⟩)
theorem JP_18 {s : ps_S} {t : Int32}  (h : JSt s t) : ps_Cl 299 167 [.ref 0] s (ps_rI (fun v s1 => ps_Cl 299 281 [.ref 1131] s1 (ps_rI (fun v2 s2 => ∃ t2, JSt s2 t2)))) := by
  obtain ⟨h, g, l, c, m, hb, hc, G⟩ := h
  have wfc := WF_of (LI_LX h.1) m
  refine ps_monoI (cx_167 h.1 h.2.1) (fun v s1 z => ?_)
  have c1 := TRc_x c z (fun q a c => by unfold C166 at c; omega)
  have m1 := TRm_x m z.1
  have G1 : JG s1 g := JG_cfr G z.2.1 (fun c => by unfold C166 at c; omega) (fun c => by unfold C166 at c; omega)
  exact ps_monoI (cj_281 (IMs_k h z (fun q a c => by unfold C166 at c; omega) (Int.le_refl _)) rfl) (fun v2 s2 z2 => ⟨_, z2.1, g, l, TRc_lo c1 z2.2.1, z2.2.2 _ _ m1, hb, hc, JG_lo G1 z2.2.1⟩)
theorem JP_19 {s : ps_S} {t : Int32}  (h : JSt s t) : ps_Cl 299 168 [.ref 0] s (ps_rI (fun v s1 => ps_Cl 299 282 [.ref 1131] s1 (ps_rI (fun v2 s2 => ∃ t2, JSt s2 t2)))) := by
  obtain ⟨h, g, l, c, m, hb, hc, G⟩ := h
  have wfc := WF_of (LI_LX h.1) m
  refine ps_monoI (cx_168 h.1 h.2.1) (fun v s1 z => ?_)
  have c1 := TRc_x c z (fun q a c => by unfold C166 at c; omega)
  have m1 := TRm_x m z.1
  have G1 : JG s1 g := JG_cfr G z.2.1 (fun c => by unfold C166 at c; omega) (fun c => by unfold C166 at c; omega)
  exact ps_monoI (cj_282 (IMs_k h z (fun q a c => by unfold C166 at c; omega) (Int.le_refl _)) rfl) (fun v2 s2 z2 => ⟨_, z2.1, g, l, TRc_lo c1 z2.2.1, z2.2.2 _ _ m1, hb, hc, JG_lo G1 z2.2.1⟩)
theorem JP_20 {s : ps_S} {t : Int32}  (h : JSt s t) : ps_Cl 299 169 [.ref 0] s (ps_rI (fun v s1 => ps_Cl 299 288 [.ref 1131] s1 (ps_rI (fun v2 s2 => ∃ t2, JSt s2 t2)))) := by
  obtain ⟨h, g, l, c, m, hb, hc, G⟩ := h
  have wfc := WF_of (LI_LX h.1) m
  refine ps_monoI (cx_169 h.1 h.2.1) (fun v s1 z => ?_)
  have c1 := TRc_x c z (fun q a c => by unfold C169 at c; omega)
  have m1 := TRm_x m z.1
  have G1 : JG s1 g := JG_cfr G z.2.1 (fun c => by unfold C169 at c; omega) (fun c => by unfold C169 at c; omega)
  exact ps_monoI (cj_288 (IMs_k h z (fun q a c => by unfold C169 at c; omega) (by rw [Int32.toInt_zero]; exact (LI_t h.1).1)) rfl) (fun v2 s2 z2 => ⟨_, z2.1, g, l, TRc_lo c1 z2.2.1, z2.2.2 _ _ m1, hb, hc, JG_lo G1 z2.2.1⟩)
theorem JP_21 {s : ps_S} {t : Int32} {x1 : Int32} (h : JSt s t) : ps_Cl 299 170 [.ref 0, .int x1] s (ps_rI (fun v s1 => ps_Cl 299 289 [.ref 1131, .int x1] s1 (ps_rI (fun v2 s2 => ∃ t2, JSt s2 t2)))) := by
  obtain ⟨h, g, l, c, m, hb, hc, G⟩ := h
  have wfc := WF_of (LI_LX h.1) m
  refine ps_monoI (cx_170 h.1 h.2.1) (fun v s1 z => ?_)
  have c1 := TRc_x c z (fun q a c => c.elim)
  have m1 := TRm_x m z.1
  have G1 : JG s1 g := JG_cfr G z.2.1 (fun c => c.elim) (fun c => c.elim)
  exact ps_monoI (cj_289 (IMs_k h z (fun q a c => c.elim) (Int.le_refl _)) rfl) (fun v2 s2 z2 => ⟨_, z2.1, g, l, TRc_lo c1 z2.2.1, z2.2.2 _ _ m1, hb, hc, JG_lo G1 z2.2.1⟩)
theorem JP_22 {s : ps_S} {t : Int32}  (h : JSt s t) : ps_Cl 299 171 [.ref 0] s (ps_rI (fun v s1 => ps_Cl 299 285 [.ref 1131] s1 (ps_rI (fun v2 s2 => ∃ t2, JSt s2 t2)))) := by
  obtain ⟨h, g, l, c, m, hb, hc, G⟩ := h
  have wfc := WF_of (LI_LX h.1) m
  refine ps_monoI (cx_171 h.1 h.2.1) (fun v s1 z => ?_)
  have c1 := TRc_x c z (fun q a c => by unfold C171 at c; omega)
  have m1 := TRm_x m z.1
  have G1 : JG s1 g := JG_cfr G z.2.1 (fun c => by unfold C171 at c; omega) (fun c => by unfold C171 at c; omega)
  exact ps_monoI (cj_285 (IMs_k h z (fun q a c => by unfold C171 at c; omega) (Int.le_refl _)) rfl) (fun v2 s2 z2 => ⟨_, z2.1, g, l, TRc_lo c1 z2.2.1, z2.2.2 _ _ m1, hb, hc, JG_lo G1 z2.2.1⟩)
theorem JP_23 {s : ps_S} {t : Int32} {x1 : Int32} (h : JSt s t) : ps_Cl 299 172 [.ref 0, .int x1] s (ps_rI (fun v s1 => ps_Cl 299 301 [.ref 1131, .int x1] s1 (ps_rI (fun v2 s2 => ∃ t2, JSt s2 t2)))) := by
  obtain ⟨h, g, l, c, m, hb, hc, G⟩ := h
  have wfc := WF_of (LI_LX h.1) m
  refine ps_monoI (ps_andlI (g := fun v s1 => md_A g.1 x1 v ∧ JG s1 g) (cx_172 h.1 h.2.1) (fun n => fs_172J c G) (pdet_and pdet_v JG_v)) (fun v s1 z => ?_)
  obtain ⟨z, e, G1⟩ := z
  have c1 := TRc_x c z (fun q a c => by unfold C172 at c; omega)
  have m1 := TRm_x m z.1
  exact ps_monoI (cj_301 (IMs_k h z (fun q a c => by unfold C172 at c; omega) (Int.le_refl _)) rfl) (fun v2 s2 z2 => ⟨_, z2.1, g, l, TRc_lo c1 z2.2.1, z2.2.2 _ _ m1, hb, hc, JG_lo G1 z2.2.1⟩)
theorem JP_24 {s : ps_S} {t : Int32} {x1 : Int32} (h : JSt s t) : ps_Cl 299 173 [.ref 0, .int x1] s (ps_rI (fun v s1 => ps_Cl 299 302 [.ref 1131, .int x1] s1 (ps_rI (fun v2 s2 => v = v2 ∧ ∃ t2, JSt s2 t2)))) := by
  obtain ⟨h, g, l, c, m, hb, hc, G⟩ := h
  have wfc := WF_of (LI_LX h.1) m
  refine ps_monoI (ps_andlI (g := fun v s1 => HO_A g x1 v ∧ JG s1 g) (cx_173 h.1 h.2.1) (fun n => fs_173 c wfc.1 hb G) (pdet_and pdet_v JG_v)) (fun v s1 z => ?_)
  obtain ⟨z, e, G1⟩ := z
  have c1 := TRc_x c z (fun q a c => by unfold C172 at c; omega)
  have m1 := TRm_x m z.1
  exact ps_monoI (ps_andlI (g := fun v _ => HO_A g x1 v) (cj_302 (IMs_k h z (fun q a c => by unfold C172 at c; omega) (Int.le_refl _)) rfl) (fun n => fm_302 m1 wfc.1 hb) pdet_v) (fun v2 s2 z2 => ⟨HO_A_eq e z2.2, ⟨_, z2.1.1, g, l, TRc_lo c1 z2.1.2.1, z2.1.2.2 _ _ m1, hb, hc, JG_lo G1 z2.1.2.1⟩⟩)
theorem JP_25 {s : ps_S} {t : Int32} {x1 : Int32} {x2 : Int32} (h : JSt s t) : ps_Cl 299 174 [.ref 0, .int x1, .int x2] s (ps_rI (fun v s1 => ps_Cl 299 303 [.ref 1131, .int x1, .int x2] s1 (ps_rI (fun v2 s2 => ∃ t2, JSt s2 t2)))) := by
  obtain ⟨h, g, l, c, m, hb, hc, G⟩ := h
  have wfc := WF_of (LI_LX h.1) m
  refine ps_monoI (ps_andlI (g := fun v s1 => JG s1 g) (cx_174 h.1 h.2.1) (fun n => fs_174 c wfc.2 hc G) (JG_v)) (fun v s1 z => ?_)
  obtain ⟨z, G1⟩ := z
  have c1 := TRc_x c z (fun q a c => by unfold C172 at c; omega)
  have m1 := TRm_x m z.1
  exact ps_monoI (cj_303 (IMs_k h z (fun q a c => by unfold C172 at c; omega) (Int.le_refl _)) rfl) (fun v2 s2 z2 => ⟨_, z2.1, g, l, TRc_lo c1 z2.2.1, z2.2.2 _ _ m1, hb, hc, JG_lo G1 z2.2.1⟩)
theorem JP_26 {s : ps_S} {t : Int32} {x1 : Int32} (h : JSt s t) : ps_Cl 299 175 [.ref 0, .int x1] s (ps_rI (fun v s1 => ps_Cl 299 304 [.ref 1131, .int x1] s1 (ps_rI (fun v2 s2 => v = v2 ∧ ∃ t2, JSt s2 t2)))) := by
  obtain ⟨h, g, l, c, m, hb, hc, G⟩ := h
  have wfc := WF_of (LI_LX h.1) m
  refine ps_monoI (ps_andlI (g := fun v s1 => CO_A g l x1 v ∧ JG s1 g) (cx_175 h.1 h.2.1) (fun n => fs_175 c wfc.1 hb wfc.2 hc G) (pdet_and pdet_v JG_v)) (fun v s1 z => ?_)
  obtain ⟨z, e, G1⟩ := z
  have c1 := TRc_x c z (fun q a c => by unfold C172 at c; omega)
  have m1 := TRm_x m z.1
  exact ps_monoI (ps_andlI (g := fun v _ => CO_A g l x1 v) (cj_304 (IMs_k h z (fun q a c => by unfold C172 at c; omega) (Int.le_refl _)) rfl) (fun n => fm_304 m1 wfc.1 hb wfc.2 hc) pdet_v) (fun v2 s2 z2 => ⟨CO_A_eq e z2.2, ⟨_, z2.1.1, g, l, TRc_lo c1 z2.1.2.1, z2.1.2.2 _ _ m1, hb, hc, JG_lo G1 z2.1.2.1⟩⟩)
theorem JP_27 {s : ps_S} {t : Int32} {x1 : Int32} (h : JSt s t) : ps_Cl 299 176 [.ref 0, .int x1] s (ps_rI (fun v s1 => ps_Cl 299 305 [.ref 1131, .int x1] s1 (ps_rI (fun v2 s2 => ∃ t2, JSt s2 t2)))) := by
  obtain ⟨h, g, l, c, m, hb, hc, G⟩ := h
  have wfc := WF_of (LI_LX h.1) m
  refine ps_monoI (cx_176 h.1 h.2.1) (fun v s1 z => ?_)
  have c1 := TRc_x c z (fun q a c => by unfold C176 at c; omega)
  have m1 := TRm_x m z.1
  have G1 : JG s1 g := JG_cfr G z.2.1 (fun c => by unfold C176 at c; omega) (fun c => by unfold C176 at c; omega)
  exact ps_monoI (cj_305 (IMs_k h z (fun q a c => by unfold C176 at c; omega) (Int.le_refl _)) rfl) (fun v2 s2 z2 => ⟨_, z2.1, g, l, TRc_lo c1 z2.2.1, z2.2.2 _ _ m1, hb, hc, JG_lo G1 z2.2.1⟩)
theorem JP_28 {s : ps_S} {t : Int32} {x1 : Int32} (h : JSt s t) : ps_Cl 299 177 [.ref 0, .int x1] s (ps_rI (fun v s1 => ps_Cl 299 306 [.ref 1131, .int x1] s1 (ps_rI (fun v2 s2 => ∃ t2, JSt s2 t2)))) := by
  obtain ⟨h, g, l, c, m, hb, hc, G⟩ := h
  have wfc := WF_of (LI_LX h.1) m
  refine ps_monoI (cx_177 h.1 h.2.1) (fun v s1 z => ?_)
  have c1 := TRc_x c z (fun q a c => by unfold C161 at c; omega)
  have m1 := TRm_x m z.1
  have G1 : JG s1 g := JG_cfr G z.2.1 (fun c => by unfold C161 at c; omega) (fun c => by unfold C161 at c; omega)
  exact ps_monoI (cj_306 (IMs_k h z (fun q a c => by unfold C161 at c; omega) (Int.le_refl _)) rfl) (fun v2 s2 z2 => ⟨_, z2.1, g, l, TRc_lo c1 z2.2.1, z2.2.2 _ _ m1, hb, hc, JG_lo G1 z2.2.1⟩)
theorem JP_29 {s : ps_S} {t : Int32} {x1 : Int32} (h : JSt s t) : ps_Cl 299 178 [.ref 0, .int x1] s (ps_rI (fun v s1 => ps_Cl 299 307 [.ref 1131, .int x1] s1 (ps_rI (fun v2 s2 => ∃ t2, JSt s2 t2)))) := by
  obtain ⟨h, g, l, c, m, hb, hc, G⟩ := h
  have wfc := WF_of (LI_LX h.1) m
  refine ps_monoI (cx_178 h.1 h.2.1) (fun v s1 z => ?_)
  have c1 := TRc_x c z (fun q a c => c.elim)
  have m1 := TRm_x m z.1
  have G1 : JG s1 g := JG_cfr G z.2.1 (fun c => c.elim) (fun c => c.elim)
  exact ps_monoI (cj_307 (IMs_k h z (fun q a c => c.elim) (Int.le_refl _)) rfl) (fun v2 s2 z2 => ⟨_, z2.1, g, l, TRc_lo c1 z2.2.1, z2.2.2 _ _ m1, hb, hc, JG_lo G1 z2.2.1⟩)
