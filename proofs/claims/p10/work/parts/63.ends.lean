set_option maxRecDepth 100000
/-! ends that are joined; what a call of the class leaves -/
theorem pm_T_det {X : Option (Nat × (Nat → Int32))} {d y pc : Nat} {L : pm_L} {st : List Value} {w : pm_W} {r r' : Option Value × pm_W} (h : pm_T X d y pc L st w r) (h' : pm_T X d y pc L st w r') : r = r' := by
  obtain ⟨n, h⟩ := h
  obtain ⟨k, h'⟩ := h'
  have a := pm_run_X (X := X) (Y := X) (Or.inr rfl) n k d y pc L st w r h
  have b := pm_run_X (X := X) (Y := X) (Or.inr rfl) k n d y pc L st w r' h'
  rw [Nat.add_comm] at b
  rw [a] at b
  exact Option.some.inj b
theorem ps_and2 {d y : Nat} {args : List Value} {s : ps_S} {P P2 : Option Value → ps_S → Prop} (h : ps_Cl d y args s P) (h2 : ps_Cl d y args s P2) (hd : ∀ (o : Option Value) (w : pm_W) (s1 s2 : ps_S), ps_R w s1 → ps_R w s2 → P2 o s2 → P2 o s1) : ps_Cl d y args s (fun o s' => P o s' ∧ P2 o s') := by
  intro w Lp hw hL
  obtain ⟨o, w', h1, s', r1, p1⟩ := h w Lp hw hL
  obtain ⟨o2, w2, g1, s2, r2, p2⟩ := h2 w Lp hw hL
  have e := pm_T_det h1 g1
  cases e
  exact ⟨o, w', h1, s', r1, p1, hd o w' s' s2 r1 r2 p2⟩
theorem ps_andl {d y : Nat} {args : List Value} {s : ps_S} {P P2 : Option Value → ps_S → Prop} (h : ps_Cl d y args s P) (h2 : ∀ n, pl_Cl n y args s P2) (hd : ∀ (o : Option Value) (w : pm_W) (s1 s2 : ps_S), ps_R w s1 → ps_R w s2 → P2 o s2 → P2 o s1) : ps_Cl d y args s (fun o s' => P o s' ∧ P2 o s') := by
  intro w Lp hw hL
  obtain ⟨o, w', h1, s', r1, p1⟩ := h w Lp hw hL
  obtain ⟨n, h1'⟩ := id h1
  obtain ⟨s2, r2, p2⟩ := h2 (n + 1) n d w Lp o w' (Nat.lt_succ_self n) hw hL h1'
  exact ⟨o, w', h1, s', r1, p1, hd o w' s' s2 r1 r2 p2⟩
theorem rI_and {f g : Int32 → ps_S → Prop} {o : Option Value} {s : ps_S} (h : ps_rI f o s) (h' : ps_rI g o s) : ps_rI (fun v s => f v s ∧ g v s) o s := by
  obtain ⟨v, rfl, p⟩ := l2_int h
  exact ⟨p, h'⟩
theorem rI_mono {f g : Int32 → ps_S → Prop} {o : Option Value} {s : ps_S} (h : ps_rI f o s) (k : ∀ v, f v s → g v s) : ps_rI g o s := by
  obtain ⟨v, rfl, p⟩ := l2_int h
  exact k v p
theorem rJ_mono {f g : Int64 → ps_S → Prop} {o : Option Value} {s : ps_S} (h : ps_rJ f o s) (k : ∀ v, f v s → g v s) : ps_rJ g o s := by
  obtain ⟨v, rfl, p⟩ := l2_lng h
  exact k v p
def pdet (g : Int32 → ps_S → Prop) : Prop := ∀ (v : Int32) (w : pm_W) (s1 s2 : ps_S), ps_R w s1 → ps_R w s2 → g v s2 → g v s1
theorem pdet_I {g : Int32 → ps_S → Prop} (h : pdet g) (o : Option Value) (w : pm_W) (s1 s2 : ps_S) (r1 : ps_R w s1) (r2 : ps_R w s2) (p : ps_rI g o s2) : ps_rI g o s1 := by
  obtain ⟨v, rfl, p⟩ := l2_int p
  exact h v w s1 s2 r1 r2 p
theorem ps_and2I {d y : Nat} {args : List Value} {s : ps_S} {f g : Int32 → ps_S → Prop} (h : ps_Cl d y args s (ps_rI f)) (h2 : ps_Cl d y args s (ps_rI g)) (hd : pdet g) : ps_Cl d y args s (ps_rI (fun v s' => f v s' ∧ g v s')) := (ps_and2 h h2 (pdet_I hd)).mono (fun _ _ z => rI_and z.1 z.2)
theorem ps_andlI {d y : Nat} {args : List Value} {s : ps_S} {f g : Int32 → ps_S → Prop} (h : ps_Cl d y args s (ps_rI f)) (h2 : ∀ n, pl_Cl n y args s (ps_rI g)) (hd : pdet g) : ps_Cl d y args s (ps_rI (fun v s' => f v s' ∧ g v s')) := (ps_andl h h2 (pdet_I hd)).mono (fun _ _ z => rI_and z.1 z.2)
theorem ps_monoI {d y : Nat} {args : List Value} {s : ps_S} {f g : Int32 → ps_S → Prop} (h : ps_Cl d y args s (ps_rI f)) (k : ∀ v s', f v s' → g v s') : ps_Cl d y args s (ps_rI g) := h.mono (fun _ s' z => rI_mono z (fun v p => k v s' p))
theorem pdet_v {P : Int32 → Prop} : pdet (fun v _ => P v) := fun _ _ _ _ _ _ h => h
theorem pdet_and {f g : Int32 → ps_S → Prop} (h : pdet f) (h' : pdet g) : pdet (fun v s => f v s ∧ g v s) := fun v w s1 s2 r1 r2 z => ⟨h v w s1 s2 r1 r2 z.1, h' v w s1 s2 r1 r2 z.2⟩
/-- the two theories' references stand -/
def RR (s s' : ps_S) : Prop := ps_r s' 0 2 = ps_r s 0 2 ∧ ps_r s' 0 3 = ps_r s 0 3
theorem det_r0 {w : pm_W} {s s' : ps_S} (h : ps_R w s) (h' : ps_R w s') {q : Nat} (hq : q < (pm_Ts 11).length) (ht : (pm_Ts 11).getD q .int ≠ .int ∧ (pm_Ts 11).getD q .int ≠ .long ∧ (pm_Ts 11).getD q .int ≠ .boolean ∧ (pm_Ts 11).getD q .int ≠ .byte) (hf : ps_fin 11 q = false) (ho : ∃ c, (pm_Ts 11).getD q .int = .object c) : ps_r s 0 q = ps_r s' 0 q := by
  have e := ps_det_f h h' (r := 0) (c := 11) (q := q) (by decide) rfl hq
  obtain ⟨c, hc⟩ := ho
  unfold ps_fv at e
  rw [hc, hf] at e
  exact Value.ref.inj e
theorem RR_det {s : ps_S} : pdet (fun _ s' => RR s s') := fun _ w s1 s2 r1 r2 z => by
  have f2 : ps_r s1 0 2 = ps_r s2 0 2 := Value.ref.inj (ps_det_f r1 r2 (r := 0) (c := 11) (q := 2) (by decide) rfl (by decide))
  have f3 : ps_r s1 0 3 = ps_r s2 0 3 := Value.ref.inj (ps_det_f r1 r2 (r := 0) (c := 11) (q := 3) (by decide) rfl (by decide))
  exact ⟨f2.trans z.1, f3.trans z.2⟩
/-- the class's key words stand -/
def KW (s s' : ps_S) : Prop := ∀ k, k < 28 → ps_b s' 904 k = ps_b s 904 k
theorem KW_det {s : ps_S} : pdet (fun _ s' => KW s s') := fun _ w s1 s2 r1 r2 z k hk => (ps_det_b r1 r2 (r := 904) (n := 28) (by decide) rfl hk).trans (z k hk)
def XK (t : Int32) (C : Nat → Prop) (s s' : ps_S) : Prop := xJ s t s' ∧ cfr C s s' ∧ RR s s' ∧ KW s s'
def kkp (a : Nat) : Nat → Bool
  | 0 => true
  | n + 1 => (!ps_is (a + n) 2 || (Nat.beq 50 (a + n) || Nat.beq 460 (a + n))) && (!ps_is (a + n) 7 || (Nat.beq 870 (a + n) || (Nat.beq 1038 (a + n) || (Nat.beq 1069 (a + n) || Nat.beq 1100 (a + n))))) && kkp a n
theorem kkp_ok {a : Nat} : ∀ {n : Nat}, kkp a n = true → ∀ r, a ≤ r → r < a + n → (ps_is r 2 = true → 50 = r ∨ 460 = r) ∧ (ps_is r 7 = true → 870 = r ∨ 1038 = r ∨ 1069 = r ∨ 1100 = r)
  | 0, _, r, h1, h2 => by omega
  | n + 1, h, r, h1, h2 => by
    unfold kkp at h
    rw [Bool.and_eq_true, Bool.and_eq_true] at h
    by_cases e : r = a + n
    · obtain ⟨⟨g1, g2⟩, -⟩ := h
      rw [← e] at g1 g2
      refine ⟨fun z => ?_, fun z => ?_⟩
      · rw [z, Bool.or_eq_true, Bool.or_eq_true] at g1
        rcases g1 with g1 | g1 | g1
        · cases g1
        · exact Or.inl (Nat.eq_of_beq_eq_true g1)
        · exact Or.inr (Nat.eq_of_beq_eq_true g1)
      · rw [z, Bool.or_eq_true, Bool.or_eq_true, Bool.or_eq_true, Bool.or_eq_true] at g2
        rcases g2 with g2 | g2 | g2 | g2 | g2
        · cases g2
        · exact Or.inl (Nat.eq_of_beq_eq_true g2)
        · exact Or.inr (Or.inl (Nat.eq_of_beq_eq_true g2))
        · exact Or.inr (Or.inr (Or.inl (Nat.eq_of_beq_eq_true g2)))
        · exact Or.inr (Or.inr (Or.inr (Nat.eq_of_beq_eq_true g2)))
    · exact kkp_ok h.2 r h1 (by omega)
set_option maxRecDepth 1000000
theorem kkp_0 : kkp 0 150 = true := by decide +kernel
theorem kkp_150 : kkp 150 150 = true := by decide +kernel
theorem kkp_300 : kkp 300 150 = true := by decide +kernel
theorem kkp_450 : kkp 450 150 = true := by decide +kernel
theorem kkp_600 : kkp 600 150 = true := by decide +kernel
theorem kkp_750 : kkp 750 150 = true := by decide +kernel
theorem kkp_900 : kkp 900 150 = true := by decide +kernel
theorem kkp_1050 : kkp 1050 81 = true := by decide +kernel
set_option maxRecDepth 100000
theorem kkp_is {r : Nat} (hr : r < 1131) : (ps_is r 2 = true → 50 = r ∨ 460 = r) ∧ (ps_is r 7 = true → 870 = r ∨ 1038 = r ∨ 1069 = r ∨ 1100 = r) := by
  by_cases h150 : r < 150
  · exact kkp_ok kkp_0 r (by omega) (by omega)
  by_cases h300 : r < 300
  · exact kkp_ok kkp_150 r (by omega) (by omega)
  by_cases h450 : r < 450
  · exact kkp_ok kkp_300 r (by omega) (by omega)
  by_cases h600 : r < 600
  · exact kkp_ok kkp_450 r (by omega) (by omega)
  by_cases h750 : r < 750
  · exact kkp_ok kkp_600 r (by omega) (by omega)
  by_cases h900 : r < 900
  · exact kkp_ok kkp_750 r (by omega) (by omega)
  by_cases h1050 : r < 1050
  · exact kkp_ok kkp_900 r (by omega) (by omega)
  exact kkp_ok kkp_1050 r (by omega) (by omega)
def C153 (q : Nat) : Prop := q = 0 ∨ (50 ≤ q ∧ q < 870) ∨ (902 ≤ q ∧ q < 933)
def C158 (q : Nat) : Prop := 870 ≤ q ∧ q < 901
def C161 (q : Nat) : Prop := q = 0 ∨ (50 ≤ q ∧ q < 870) ∨ (870 ≤ q ∧ q < 901)
def C162 (q : Nat) : Prop := q = 0 ∨ (902 ≤ q ∧ q < 933) ∨ (934 ≤ q ∧ q < 936)
def C166 (q : Nat) : Prop := 936 ≤ q ∧ q < 944
def C169 (q : Nat) : Prop := q = 0 ∨ (902 ≤ q ∧ q < 933) ∨ (1021 ≤ q ∧ q < 1038)
def C171 (q : Nat) : Prop := 1021 ≤ q ∧ q < 1038
def C172 (q : Nat) : Prop := 944 ≤ q ∧ q < 1021
def C176 (q : Nat) : Prop := q = 0 ∨ (870 ≤ q ∧ q < 901) ∨ (1038 ≤ q ∧ q < 1131)
theorem zP {C : Nat → Prop} (h : ∀ q, 50 ≤ q → q < 870 → C q) (r : Nat) (hr : ps_is r 2 = true) : zI C r 2 := ⟨hr, fun q a b => by
  have hz : zsz 2 = 410 := rfl
  rw [hz] at b
  rcases (kkp_is (xis_lt (by decide) hr)).1 hr with e | e <;> exact h q (by omega) (by omega)⟩
theorem zS {C : Nat → Prop} (h : ∀ q, (870 ≤ q ∧ q < 901) ∨ (1038 ≤ q ∧ q < 1131) → C q) (r : Nat) (hr : ps_is r 7 = true) : zI C r 7 := ⟨hr, fun q a b => by
  have hz : zsz 7 = 31 := rfl
  rw [hz] at b
  rcases (kkp_is (xis_lt (by decide) hr)).2 hr with e | e | e | e <;> exact h q (by omega)⟩
theorem XK_of {t : Int32} {C : Nat → Prop} {s s' : ps_S} (z : zJ C s t s') (h0 : ¬ C 0) (h9 : ¬ C 904) : XK t C s s' := ⟨z.1, z.2, ⟨(z.2 0 h0).2.2.1 2, (z.2 0 h0).2.2.1 3⟩, fun k _ => by rw [(z.2 904 h9).2.2.2.2]⟩
theorem uJ_of {s : ps_S} {t : Int32} (hI : LI s t) : uJ s t s := ⟨LI_J hI, rfl, rfl⟩
theorem cx_150 {s : ps_S} {t : Int32} {x1 : Int32} (hI : LI s t) (hF : LF s t) : ps_Cl 299 150 [.ref 0, .int x1] s (ps_rI (fun v s1 => ∃ t1 : Int32, XK t1 (fun q => q = 0) s s1 ∧ ((v.toInt = -1 ∧ t1 = t ∧ (x1.toInt < 0 ∨ t.toInt < x1.toInt)) ∨ (v = x1 ∧ t1 = x1 ∧ 0 ≤ x1.toInt ∧ x1.toInt ≤ t.toInt)))) := by
  have J := LI_J hI
  have e : ps_i s 0 1 = t := J.2.1
  refine pg_150_0 (And.intro (fun h1 => ?_) (fun h1 => And.intro (fun h2 => ?_) (fun h2 => ?_)))
  · exact ⟨t, ⟨J, cfr_refl, ⟨rfl, rfl⟩, fun _ _ => rfl⟩, Or.inl ⟨by decide, rfl, Or.inl (xlt h1)⟩⟩
  · rw [e] at h2
    exact ⟨x1, ⟨xw_tape J, cfr_i cfr_refl rfl, ⟨rfl, rfl⟩, fun _ _ => rfl⟩, Or.inr ⟨rfl, rfl, xle h1, xle h2⟩⟩
  · rw [e] at h2
    exact ⟨t, ⟨J, cfr_refl, ⟨rfl, rfl⟩, fun _ _ => rfl⟩, Or.inl ⟨by decide, rfl, Or.inr (xlt h2)⟩⟩
theorem cx_153 {s : ps_S} {t : Int32}  (hI : LI s t) (hF : LF s t) : ps_Cl 299 153 [.ref 0] s (ps_rI (fun _ s1 => XK 0 C153 s s1)) := by
  have A : ps_Cl 299 153 [.ref 0] s (ps_rI (fun _ s1 => zJ C153 s 0 s1)) := zs_153 (C := C153) (d := 259) (Or.inl rfl) (zP (fun q a b => Or.inr (Or.inl ⟨a, b⟩))) ⟨rfl, fun q a b => by have hz : zsz 3 = 6 := rfl; rw [hz] at b; unfold C153; omega⟩ (zJ_refl (LI_J hI)) (fun v s1 z => z)
  have B : ps_Cl 299 153 [.ref 0] s (ps_rI (fun _ s1 => RR s s1)) := us_153 (d := 259) (uJ_of hI) (fun v s1 z => z.2)
  have D : ps_Cl 299 153 [.ref 0] s (ps_rI (fun _ s1 => KW s s1)) := ys_153 (d := 259) (LF_J hI hF) (fun v s1 z k _ => by rw [z.2.2.1])
  exact ps_monoI (ps_and2I (ps_and2I A B RR_det) D KW_det) (fun v s1 z => ⟨z.1.1.1, z.1.1.2, z.1.2, z.2⟩)
theorem cx_158 {s : ps_S} {t : Int32}  (hI : LI s t) (hF : LF s t) : ps_Cl 299 158 [.ref 0] s (ps_rI (fun _ s1 => XK t C158 s s1)) := by
  have A : ps_Cl 299 158 [.ref 0] s (ps_rI (fun _ s1 => zJ C158 s t s1)) := zs_158 (C := C158) (d := 295) ⟨rfl, fun q a b => by have hz : zsz 7 = 31 := rfl; rw [hz] at b; unfold C158; omega⟩ (zJ_refl (LI_J hI)) (fun v s1 z => z)
  exact ps_monoI A (fun v s1 z => XK_of z (fun c => by unfold C158 at c; omega) (fun c => by unfold C158 at c; omega))
theorem cx_161 {s : ps_S} {t : Int32}  (hI : LI s t) (hF : LF s t) : ps_Cl 299 161 [.ref 0] s (ps_rI (fun _ s1 => XK t C161 s s1)) := by
  have A : ps_Cl 299 161 [.ref 0] s (ps_rI (fun _ s1 => zJ C161 s t s1)) := zs_161 (C := C161) (d := 298) (Or.inl rfl) (zP (fun q a b => Or.inr (Or.inl ⟨a, b⟩))) ⟨rfl, fun q a b => by have hz : zsz 7 = 31 := rfl; rw [hz] at b; unfold C161; omega⟩ (zJ_refl (LI_J hI)) (fun v s1 z => z)
  have B : ps_Cl 299 161 [.ref 0] s (ps_rI (fun _ s1 => RR s s1)) := us_161 (d := 298) (uJ_of hI) (fun v s1 z => z.2)
  exact ps_monoI (ps_and2I A B RR_det) (fun v s1 z => ⟨z.1.1, z.1.2, z.2, fun k _ => by rw [(z.1.2 904 (fun c => by unfold C161 at c; omega)).2.2.2.2]⟩)
theorem cx_162 {s : ps_S} {t : Int32}  (hI : LI s t) (hF : LF s t) : ps_Cl 299 162 [.ref 0] s (ps_rI (fun _ s1 => XK 0 C162 s s1)) := by
  have A : ps_Cl 299 162 [.ref 0] s (ps_rI (fun _ s1 => zJ C162 s 0 s1)) := zs_162 (C := C162) (d := 260) (Or.inl rfl) ⟨rfl, fun q a b => by have hz : zsz 3 = 6 := rfl; rw [hz] at b; unfold C162; omega⟩ ⟨rfl, fun q a b => by have hz : zsz 5 = 2 := rfl; rw [hz] at b; unfold C162; omega⟩ (zJ_refl (LI_J hI)) (fun v s1 z => z)
  have B : ps_Cl 299 162 [.ref 0] s (ps_rI (fun _ s1 => RR s s1)) := us_162 (d := 260) (uJ_of hI) (fun v s1 z => z.2)
  have D : ps_Cl 299 162 [.ref 0] s (ps_rI (fun _ s1 => KW s s1)) := ys_162 (d := 260) (LF_J hI hF) (fun v s1 z k _ => by rw [z.2.2.1])
  exact ps_monoI (ps_and2I (ps_and2I A B RR_det) D KW_det) (fun v s1 z => ⟨z.1.1.1, z.1.1.2, z.1.2, z.2⟩)
theorem cx_166 {s : ps_S} {t : Int32}  (hI : LI s t) (hF : LF s t) : ps_Cl 299 166 [.ref 0] s (ps_rI (fun _ s1 => XK t C166 s s1)) := by
  have A : ps_Cl 299 166 [.ref 0] s (ps_rI (fun _ s1 => zJ C166 s t s1)) := zs_166 (C := C166) (d := 295) ⟨rfl, fun q a b => by have hz : zsz 1 = 8 := rfl; rw [hz] at b; unfold C166; omega⟩ (zJ_refl (LI_J hI)) (fun v s1 z => z)
  exact ps_monoI A (fun v s1 z => XK_of z (fun c => by unfold C166 at c; omega) (fun c => by unfold C166 at c; omega))
theorem cx_167 {s : ps_S} {t : Int32}  (hI : LI s t) (hF : LF s t) : ps_Cl 299 167 [.ref 0] s (ps_rI (fun _ s1 => XK t C166 s s1)) := by
  have A : ps_Cl 299 167 [.ref 0] s (ps_rI (fun _ s1 => zJ C166 s t s1)) := zs_167 (C := C166) (d := 295) ⟨rfl, fun q a b => by have hz : zsz 1 = 8 := rfl; rw [hz] at b; unfold C166; omega⟩ (zJ_refl (LI_J hI)) (fun v s1 z => z)
  exact ps_monoI A (fun v s1 z => XK_of z (fun c => by unfold C166 at c; omega) (fun c => by unfold C166 at c; omega))
theorem cx_168 {s : ps_S} {t : Int32}  (hI : LI s t) (hF : LF s t) : ps_Cl 299 168 [.ref 0] s (ps_rI (fun _ s1 => XK t C166 s s1)) := by
  have A : ps_Cl 299 168 [.ref 0] s (ps_rI (fun _ s1 => zJ C166 s t s1)) := zs_168 (C := C166) (d := 295) ⟨rfl, fun q a b => by have hz : zsz 1 = 8 := rfl; rw [hz] at b; unfold C166; omega⟩ (zJ_refl (LI_J hI)) (fun v s1 z => z)
  exact ps_monoI A (fun v s1 z => XK_of z (fun c => by unfold C166 at c; omega) (fun c => by unfold C166 at c; omega))
theorem cx_169 {s : ps_S} {t : Int32}  (hI : LI s t) (hF : LF s t) : ps_Cl 299 169 [.ref 0] s (ps_rI (fun _ s1 => XK 0 C169 s s1)) := by
  have A : ps_Cl 299 169 [.ref 0] s (ps_rI (fun _ s1 => zJ C169 s 0 s1)) := zs_169 (C := C169) (d := 260) (Or.inl rfl) ⟨rfl, fun q a b => by have hz : zsz 3 = 6 := rfl; rw [hz] at b; unfold C169; omega⟩ ⟨rfl, fun q a b => by have hz : zsz 4 = 17 := rfl; rw [hz] at b; unfold C169; omega⟩ (zJ_refl (LI_J hI)) (fun v s1 z => z)
  have B : ps_Cl 299 169 [.ref 0] s (ps_rI (fun _ s1 => RR s s1)) := us_169 (d := 260) (uJ_of hI) (fun v s1 z => z.2)
  have D : ps_Cl 299 169 [.ref 0] s (ps_rI (fun _ s1 => KW s s1)) := ys_169 (d := 260) (LF_J hI hF) (fun v s1 z k _ => by rw [z.2.2.1])
  exact ps_monoI (ps_and2I (ps_and2I A B RR_det) D KW_det) (fun v s1 z => ⟨z.1.1.1, z.1.1.2, z.1.2, z.2⟩)
theorem cx_171 {s : ps_S} {t : Int32}  (hI : LI s t) (hF : LF s t) : ps_Cl 299 171 [.ref 0] s (ps_rI (fun _ s1 => XK t C171 s s1)) := by
  have A : ps_Cl 299 171 [.ref 0] s (ps_rI (fun _ s1 => zJ C171 s t s1)) := zs_171 (C := C171) (d := 295) ⟨rfl, fun q a b => by have hz : zsz 4 = 17 := rfl; rw [hz] at b; unfold C171; omega⟩ (zJ_refl (LI_J hI)) (fun v s1 z => z)
  exact ps_monoI A (fun v s1 z => XK_of z (fun c => by unfold C171 at c; omega) (fun c => by unfold C171 at c; omega))
theorem cx_172 {s : ps_S} {t : Int32} {x1 : Int32} (hI : LI s t) (hF : LF s t) : ps_Cl 299 172 [.ref 0, .int x1] s (ps_rI (fun _ s1 => XK t C172 s s1)) := by
  have A : ps_Cl 299 172 [.ref 0, .int x1] s (ps_rI (fun _ s1 => zJ C172 s t s1)) := zs_172 (C := C172) (d := 295) ⟨rfl, fun q a b => by have hz : zsz 0 = 77 := rfl; rw [hz] at b; unfold C172; omega⟩ (zJ_refl (LI_J hI)) (fun v s1 z => z)
  exact ps_monoI A (fun v s1 z => XK_of z (fun c => by unfold C172 at c; omega) (fun c => by unfold C172 at c; omega))
theorem cx_173 {s : ps_S} {t : Int32} {x1 : Int32} (hI : LI s t) (hF : LF s t) : ps_Cl 299 173 [.ref 0, .int x1] s (ps_rI (fun _ s1 => XK t C172 s s1)) := by
  have A : ps_Cl 299 173 [.ref 0, .int x1] s (ps_rI (fun _ s1 => zJ C172 s t s1)) := zs_173 (C := C172) (d := 259) ⟨rfl, fun q a b => by have hz : zsz 0 = 77 := rfl; rw [hz] at b; unfold C172; omega⟩ (zJ_refl (LI_J hI)) (fun v s1 z => z)
  exact ps_monoI A (fun v s1 z => XK_of z (fun c => by unfold C172 at c; omega) (fun c => by unfold C172 at c; omega))
theorem cx_174 {s : ps_S} {t : Int32} {x1 : Int32} {x2 : Int32} (hI : LI s t) (hF : LF s t) : ps_Cl 299 174 [.ref 0, .int x1, .int x2] s (ps_rI (fun _ s1 => XK t C172 s s1)) := by
  have A : ps_Cl 299 174 [.ref 0, .int x1, .int x2] s (ps_rI (fun _ s1 => zJ C172 s t s1)) := zs_174 (C := C172) (d := 260) ⟨rfl, fun q a b => by have hz : zsz 0 = 77 := rfl; rw [hz] at b; unfold C172; omega⟩ (zJ_refl (LI_J hI)) (fun v s1 z => z)
  exact ps_monoI A (fun v s1 z => XK_of z (fun c => by unfold C172 at c; omega) (fun c => by unfold C172 at c; omega))
theorem cx_175 {s : ps_S} {t : Int32} {x1 : Int32} (hI : LI s t) (hF : LF s t) : ps_Cl 299 175 [.ref 0, .int x1] s (ps_rI (fun _ s1 => XK t C172 s s1)) := by
  have A : ps_Cl 299 175 [.ref 0, .int x1] s (ps_rI (fun _ s1 => zJ C172 s t s1)) := zs_175 (C := C172) (d := 259) ⟨rfl, fun q a b => by have hz : zsz 0 = 77 := rfl; rw [hz] at b; unfold C172; omega⟩ (zJ_refl (LI_J hI)) (fun v s1 z => z)
  exact ps_monoI A (fun v s1 z => XK_of z (fun c => by unfold C172 at c; omega) (fun c => by unfold C172 at c; omega))
theorem cx_176 {s : ps_S} {t : Int32} {x1 : Int32} (hI : LI s t) (hF : LF s t) : ps_Cl 299 176 [.ref 0, .int x1] s (ps_rI (fun _ s1 => XK t C176 s s1)) := by
  have A : ps_Cl 299 176 [.ref 0, .int x1] s (ps_rI (fun _ s1 => zJ C176 s t s1)) := zs_176 (C := C176) (d := 295) (Or.inl rfl) (zS (fun q a => Or.inr a)) (zJ_refl (LI_J hI)) (fun v s1 z => z)
  have B : ps_Cl 299 176 [.ref 0, .int x1] s (ps_rI (fun _ s1 => RR s s1)) := us_176 (d := 295) (uJ_of hI) (fun v s1 z => z.2)
  exact ps_monoI (ps_and2I A B RR_det) (fun v s1 z => ⟨z.1.1, z.1.2, z.2, fun k _ => by rw [(z.1.2 904 (fun c => by unfold C176 at c; omega)).2.2.2.2]⟩)
theorem cx_177 {s : ps_S} {t : Int32} {x1 : Int32} (hI : LI s t) (hF : LF s t) : ps_Cl 299 177 [.ref 0, .int x1] s (ps_rI (fun _ s1 => XK t C161 s s1)) := by
  have A : ps_Cl 299 177 [.ref 0, .int x1] s (ps_rI (fun _ s1 => zJ C161 s t s1)) := zs_177 (C := C161) (d := 295) (Or.inl rfl) (zP (fun q a b => Or.inr (Or.inl ⟨a, b⟩))) ⟨rfl, fun q a b => by have hz : zsz 7 = 31 := rfl; rw [hz] at b; unfold C161; omega⟩ (zJ_refl (LI_J hI)) (fun v s1 z => z)
  have B : ps_Cl 299 177 [.ref 0, .int x1] s (ps_rI (fun _ s1 => RR s s1)) := us_177 (d := 295) (uJ_of hI) (fun v s1 z => z.2)
  exact ps_monoI (ps_and2I A B RR_det) (fun v s1 z => ⟨z.1.1, z.1.2, z.2, fun k _ => by rw [(z.1.2 904 (fun c => by unfold C161 at c; omega)).2.2.2.2]⟩)
/-- the class's half of a theory and a formula -/
theorem TRc_x {s s' : ps_S} {t : Int32} {C : Nat → Prop} {h : tx_H} {l : List Nat} (H : TRc s h l) (J : XK t C s s') (hC : ∀ q, (1 ≤ q ∧ q < 50) ∨ q = 934 ∨ q = 935 → ¬ C q) : TRc s' h l := by
  obtain ⟨c1, c2, c3⟩ := H
  obtain ⟨-, F, ⟨r2, r3⟩, -⟩ := J
  have hl := c1.2.2.1
  refine ⟨by rw [r2]; exact cv_H_cfr c1 F (fun q a b => hC q (Or.inl (by omega))), by rw [r2, r3]; exact c2, cv_W_cfr c3 F (hC _ (by omega)) (hC _ (by omega))⟩
theorem TRm_x {s s' : ps_S} {t : Int32} {h : tx_H} {l : List Nat} (H : TRm s h l) (J : xJ s t s') : TRm s' h l := by
  obtain ⟨b, m1, m2, m3, m4⟩ := H
  have E : ∀ r, 1131 ≤ r → ps_i s' r = ps_i s r ∧ ps_j s' r = ps_j s r ∧ ps_a s' r = ps_a s r ∧ ps_b s' r = ps_b s r := J.2.2
  refine ⟨b, m1, by rw [(E 1131 (by decide)).1]; exact m2, mv_H_V m1 m3 (fun r hr => (E r ?_).2.2.1) (fun r hr => (E r ?_).2.2.2) (fun k _ _ => by rw [(E 1134 (by decide)).2.2.1]), mv_W_V m4 (fun k _ _ => by rw [(E 1134 (by decide)).2.2.1])⟩
  · exact (show ∀ r, r ∈ [1135, 1136, 1137, 1138, 1139] → 1131 ≤ r by decide) r hr
  · exact (show ∀ r, r ∈ [1140, 1141, 1142] → 1131 ≤ r by decide) r hr
theorem LF_k {s s' : ps_S} {t t' : Int32} {C : Nat → Prop} (H : LF s t) (J : XK t' C s s') (h1 : ¬ C 1) (h6 : ¬ C 6) (h30 : ¬ C 30) (ht : t'.toInt ≤ t.toInt) : LF s' t' := by
  obtain ⟨J, F, ⟨r2, r3⟩, kw⟩ := J
  refine ⟨fun k hk => ?_, LB_mk H.2 kw (fun i _ => ⟨by rw [(F 6 h6).2.2.2.1], by rw [(F 30 h30).2.2.2.1]⟩) (by rw [r2]; exact H.2.2.2.2.1) (by rw [r3]; exact H.2.2.2.2.2)⟩
  rw [(F 1 h1).2.2.2.1, (J.2.2 1132 (by decide)).2.2.1]
  exact H.1 k (by omega)
/-- all that holds between two calls -/
def ISt (s : ps_S) (t : Int32) : Prop := LI s t ∧ LF s t ∧ LG s
/-- between the two sides' calls: u is the reference's count -/
def IMs (s : ps_S) (t : Int32) (u : Int) : Prop := LX s t u ∧ LF s t ∧ LG s
theorem ISt_M {s : ps_S} {t : Int32} (h : ISt s t) : IMs s t t.toInt := ⟨LI_LX h.1, h.2.1, h.2.2⟩
theorem IMs_L {s : ps_S} {t : Int32} {u : Int} (h : IMs s t u) (e : u = t.toInt) : ISt s t := ⟨LX_LI h.1 e, h.2.1, h.2.2⟩
theorem LG_k {s s' : ps_S} {t : Int32} {C : Nat → Prop} (H : LG s) (J : XK t C s s') (hC : ∀ q, (1 ≤ q ∧ q < 50) ∨ q = 934 ∨ q = 935 → ¬ C q) : LG s' := by
  obtain ⟨h, l, c, m⟩ := LG_to H
  exact LG_of (TRc_x c J hC) (TRm_x m J.1)
theorem IMs_k {s s' : ps_S} {t t' : Int32} {C : Nat → Prop} (H : ISt s t) (J : XK t' C s s') (hC : ∀ q, (1 ≤ q ∧ q < 50) ∨ q = 934 ∨ q = 935 → ¬ C q) (ht : t'.toInt ≤ t.toInt) : IMs s' t' t.toInt :=
  ⟨LI_x H.1 J.1, LF_k H.2.1 J (hC _ (by omega)) (hC _ (by omega)) (hC _ (by omega)) ht, LG_k H.2.2 J (fun q a => hC q a)⟩
theorem TRc_m {s s' : ps_S} {t : Int32} {A F : List Nat} {h : tx_H} {l : List Nat} (H : TRc s h l) (J : mJ s.1.2.2 t s') (K : kp A F s s') (hA : A.all (fun a => Nat.ble 1131 a) = true) : TRc s' h l := by
  have hr : ps_r s' = ps_r s := J.1
  rw [List.all_eq_true] at hA
  have hn : ∀ r, r < 1131 → A.contains r = false := fun r hr => by
    cases e : A.contains r with
    | false => rfl
    | true =>
      have := Nat.le_of_ble_eq_true (hA r (List.contains_iff_mem.mp e))
      omega
  have Fr : cfr (fun q => 1131 ≤ q) s s' := fun q hq => by
    have hq : q < 1131 := by omega
    exact ⟨fun f => (K.1 q f (fun z => by omega)).1, fun f => (K.1 q f (fun z => by omega)).2, fun f => by rw [hr], (K.2 q (hn q hq)).1, (K.2 q (hn q hq)).2⟩
  obtain ⟨c1, c2, c3⟩ := H
  have hl := c1.2.2.1
  exact ⟨by rw [hr]; exact cv_H_cfr c1 Fr (fun q a b z => by omega), by rw [hr]; exact c2, cv_W_cfr c3 Fr (by omega) (by omega)⟩
