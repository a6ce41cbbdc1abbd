set_option maxRecDepth 100000
theorem pl_214_133 {n : Nat} {s : ps_S} {Q : Option Value → ps_S → Prop} (h :
  pl_Cl n 192 [.ref 1131] s (ps_rI (fun v1 s1 =>
    (v1 ≠ 0 →
      pl_Cl n 211 [.ref 1131, .int 1, .int 0] s1 (ps_rV (fun s2 =>
        (pm_in ((ps_i s2 1131 29) - 1) 16 = true →
          (pm_in ((ps_i (ps_ua s2 1147 (Int32.toNatClampNeg ((ps_i s2 1131 29) - 1)) ((1 : Int32) &&& 1)) 1131 29) - 1) 16 = true →
            pl_Cl n 194 [.ref 1131] (ps_ui (ps_ub (ps_ua s2 1147 (Int32.toNatClampNeg ((ps_i s2 1131 29) - 1)) ((1 : Int32) &&& 1)) 1148 (Int32.toNatClampNeg ((ps_i (ps_ua s2 1147 (Int32.toNatClampNeg ((ps_i s2 1131 29) - 1)) ((1 : Int32) &&& 1)) 1131 29) - 1)) (ps_j (ps_ua s2 1147 (Int32.toNatClampNeg ((ps_i s2 1131 29) - 1)) ((1 : Int32) &&& 1)) 1131 11)) 1131 30 ((ps_i (ps_ub (ps_ua s2 1147 (Int32.toNatClampNeg ((ps_i s2 1131 29) - 1)) ((1 : Int32) &&& 1)) 1148 (Int32.toNatClampNeg ((ps_i (ps_ua s2 1147 (Int32.toNatClampNeg ((ps_i s2 1131 29) - 1)) ((1 : Int32) &&& 1)) 1131 29) - 1)) (ps_j (ps_ua s2 1147 (Int32.toNatClampNeg ((ps_i s2 1131 29) - 1)) ((1 : Int32) &&& 1)) 1131 11)) 1131 30) + 1)) (ps_rV (fun s3 =>
              Q none s3))))))) ∧
    (v1 = 0 →
      Q none s1)))) : pl_At (n + 1) 214 133 [(0, .ref 1131)] [] s Q :=
  pl_wp_at (stops := [(23, [0, 1, 2, 3]), (84, [0, 1, 2, 3, 4, 5]), (88, [0, 1, 2, 3, 4, 5]), (133, [0])]) (f := 37) h rfl


theorem fm_214_88b {n to : Nat} {s0 s : ps_S} {T : Nat → Nat} {N : Nat} {E : tx_E} {c0 : tx_C} {S' : List tx_F} {pl : Nat} {l' : List Nat} {fr' : List (List Nat)} {kd : Nat} {x1 x2 x3 x4 x5 : Int32} {R : ps_S → Prop} (hs : tx_st T N E c0 = (4, S', pl, l', fr', kd)) (hb : mv_bad to s0 s kd pl) (k : ∀ s', mv_res to s0 s' T N E c0 → R s') : pl_At n 214 88 [(0, .ref 1131), (1, .int x1), (2, .int x2), (3, .int x3), (4, .int x4), (5, .int x5)] [] s (ps_rV R) := by
  cases n with
  | zero => exact pl_At_0
  | succ n =>
  refine pl_214_88 ?_
  refine fm_192 (fun z => ?_) (fun z => ?_)
  · exfalso
    have := hb.1
    have := hb.2.1
    omega
  · exact ⟨fun h => absurd rfl h, fun _ => k _ (Or.inr ⟨S', pl, l', fr', kd, hs, hb⟩)⟩

theorem fm_214_84 {n : Nat} {rb to : Nat} {s : ps_S} {T : Nat → Nat} {N : Nat} {E : tx_E} {S : List tx_F} {p : Nat} {l : List Nat} {fr : List (List Nat)} {x1 x2 x3 x4 x5 : Int32} {R : ps_S → Prop} (HC : mv_C to s T N S p l fr) (hs : tx_st T N E (1, S, p, l, fr, 0) = (4, S, (tx_tok T N p).2.1, l, fr, tx_bk (tx_tok T N p))) (k : ∀ s', mv_res to s s' T N E (1, S, p, l, fr, 0) → R s') : pl_At n 214 84 [(0, .ref 1131), (1, .int x1), (2, .int x2), (3, .int x3), (4, .int x4), (5, .int x5)] [] s (ps_rV R) := by
  cases n with
  | zero => exact pl_At_0
  | succ n =>
  refine pl_214_84 ?_
  refine fm_196 HC.2.2.2.2.2.2.2.2.1 HC.2.2.1 (fun s1 q1 => ?_)
  exact fm_214_88b hs (mv_bad_mis q1.1 q1.2.1 q1.2.2) k

theorem fm_214_133b {n to : Nat} {s0 s : ps_S} {T : Nat → Nat} {N : Nat} {E : tx_E} {c0 : tx_C} {S' : List tx_F} {pl : Nat} {l' : List Nat} {fr' : List (List Nat)} {kd : Nat} {R : ps_S → Prop} (hs : tx_st T N E c0 = (4, S', pl, l', fr', kd)) (hb : mv_bad to s0 s kd pl) (k : ∀ s', mv_res to s0 s' T N E c0 → R s') : pl_At n 214 133 [(0, .ref 1131)] [] s (ps_rV R) := by
  cases n with
  | zero => exact pl_At_0
  | succ n =>
  refine pl_214_133 ?_
  refine fm_192 (fun z => ?_) (fun z => ?_)
  · exfalso
    have := hb.1
    have := hb.2.1
    omega
  · exact ⟨fun h => absurd rfl h, fun _ => k _ (Or.inr ⟨S', pl, l', fr', kd, hs, hb⟩)⟩


