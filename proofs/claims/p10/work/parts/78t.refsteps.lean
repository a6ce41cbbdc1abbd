set_option maxRecDepth 100000
/-! the reference: the steps of a proof, one after the other -/
-- ProofBenchModel.prove()I
theorem pl_240_0 {n : Nat} {s : ps_S} {Q : Option Value → ps_S → Prop} (h :
  pl_Cl n 198 [.ref 1131] s (ps_rV (fun s1 =>
    pl_At n 240 9 [(0, .ref 1131)] [] (ps_ui s1 1131 42 0) Q))) : pl_At (n + 1) 240 0 [(0, .ref 1131)] [] s Q :=
  pl_wp_at (stops := [(9, [0]), (30, [0]), (54, [0])]) (f := 7) h rfl

theorem pl_240_9 {n : Nat} {s : ps_S} {Q : Option Value → ps_S → Prop} (h :
  pl_Cl n 192 [.ref 1131] s (ps_rI (fun v1 s1 =>
    (v1 = 0 →
      pl_At n 240 30 [(0, .ref 1131)] [] s1 Q) ∧
    (v1 ≠ 0 →
      ((ps_i s1 1131 9) = 0 →
        pl_At n 240 30 [(0, .ref 1131)] [] s1 Q) ∧
      ((ps_i s1 1131 9) ≠ 0 →
        pl_Cl n 238 [.ref 1131] s1 (ps_rV (fun s2 =>
          pl_At n 240 9 [(0, .ref 1131)] [] s2 Q))))))) : pl_At (n + 1) 240 9 [(0, .ref 1131)] [] s Q :=
  pl_wp_at (stops := [(9, [0]), (30, [0]), (54, [0])]) (f := 11) h rfl

theorem pl_240_30 {n : Nat} {s : ps_S} {Q : Option Value → ps_S → Prop} (h :
  pl_Cl n 192 [.ref 1131] s (ps_rI (fun v1 s1 =>
    (v1 ≠ 0 →
      pl_At n 240 54 [(0, .ref 1131)] [] (ps_ui (ps_ui (ps_ui s1 1131 47 0) 1131 48 (-1)) 1131 49 (-1)) Q) ∧
    (v1 = 0 →
      Q (some (.int (-1))) s1)))) : pl_At (n + 1) 240 30 [(0, .ref 1131)] [] s Q :=
  pl_wp_at (stops := [(9, [0]), (30, [0]), (54, [0])]) (f := 16) h rfl

theorem pl_240_54 {n : Nat} {s : ps_S} {Q : Option Value → ps_S → Prop} (h :
  ((ps_i s 1131 42) ≤ (ps_i s 1131 47) →
    Q (some (.int (ps_i s 1131 47))) s) ∧
  ((ps_i s 1131 47) < (ps_i s 1131 42) →
    (0 ≤ (ps_i s 1131 48) →
      Q (some (.int (ps_i s 1131 47))) s) ∧
    ((ps_i s 1131 48) < 0 →
      pl_Cl n 252 [.ref 1131, .int (ps_i s 1131 47)] s (ps_rV (fun s1 =>
        ((ps_i s1 1131 50) ≠ 0 →
          pl_At n 240 54 [(0, .ref 1131)] [] (ps_ui (ps_ui s1 1131 48 (ps_i s1 1131 47)) 1131 49 (ps_i (ps_ui s1 1131 48 (ps_i s1 1131 47)) 1131 50)) Q) ∧
        ((ps_i s1 1131 50) = 0 →
          pl_At n 240 54 [(0, .ref 1131)] [] (ps_ui s1 1131 47 ((ps_i s1 1131 47) + 1)) Q)))))) : pl_At (n + 1) 240 54 [(0, .ref 1131)] [] s Q :=
  pl_wp_at (stops := [(9, [0]), (30, [0]), (54, [0])]) (f := 39) h rfl

/-- a proof as it stands -/
def mpP (s : ps_S) (D : List tq_R) (c : Nat) : Prop := mpD s D ∧ (ps_i s 1131 47).toInt = D.length ∧ (c = 0 → ps_i s 1131 48 = -1 ∧ ps_i s 1131 49 = -1) ∧ (c ≠ 0 → (ps_i s 1131 48).toInt = D.length ∧ (ps_i s 1131 49).toInt = c)
/-- what the steps may change -/
def KF (s0 s : ps_S) : Prop := kq [1134, 1149, 1150, 1151, 1157, 1158, 1159, 1160] [34, 47, 48, 49, 50, 51] s0 s ∧ ∀ q, 21320 ≤ q → ps_a s 1134 q = ps_a s0 1134 q
theorem KF_S {i : Nat} {s0 s s' : ps_S} (K : KF s0 s) (q : KS i s s') (hi : i < 40) : KF s0 s' := ⟨kqt K.1 q.1 (by decide) (by decide), fun p hp => (q.2.1 p (by omega) (by omega)).trans (K.2 p hp)⟩
theorem KF_i {q : Nat} {v : Int32} {s0 s : ps_S} (K : KF s0 s) (hq : [34, 47, 48, 49, 50, 51].contains q = true) : KF s0 (ps_ui s 1131 q v) := ⟨kqi K.1 hq, K.2⟩
theorem mpD_q {F : List Nat} {s s' : ps_S} {D : List tq_R} (H : mpD s D) (K : kq [] F s s') : mpD s' D := ⟨H.1, fun k R hk => by
  obtain ⟨e1, e2, e3, e4, e5, e6, e7⟩ := H.2 k R hk
  exact ⟨mv_W_kq e1 K (by decide), by rw [kq_a K 1157 (by decide)]; exact e2, e3, fun n y hy => mv_W_kq (e4 n y hy) K (by decide), by rw [kq_a K 1158 (by decide)]; exact e5, by rw [kq_a K 1159 (by decide)]; exact e6, by rw [kq_b K 1160 (by decide)]; exact e7⟩⟩
theorem rkT_q {F : List Nat} {s s' : ps_S} {j : Nat} {st : tp_P} (H : rkT s j st) (K : kq [] F s s') : rkT s' j st := by
  obtain ⟨t1, t2, t3, t4, t5, t6, t7, t8⟩ := H
  have e : ∀ r, ps_a s' r = ps_a s r := fun r => kq_a K r rfl
  exact ⟨by rw [e]; exact t1, by rw [e]; exact t2, by rw [e]; exact t3, by rw [e]; exact t4, by rw [e]; exact t5, by rw [e]; exact t6, fun z => mv_W_kq (t7 z) K (by decide), fun z => mv_W_kq (t8 z) K (by decide)⟩
theorem mSh_q {F : List Nat} {s s' : ps_S} {Θ : List tq_H} (H : mSh s Θ) (K : kq [] F s s') (hF : F.contains 54 = false) : mSh s' Θ := by
  obtain ⟨y1, y2, y3⟩ := H
  refine ⟨by rw [kq_i K 54 hF]; exact y1, y2, fun k q hk => ?_⟩
  obtain ⟨e1, e2, e3⟩ := y3 k q hk
  exact ⟨mv_W_kq e1 K (by decide), by rw [kq_a K 1161 (by decide)]; exact e2, by rw [kq_a K 1162 (by decide)]; exact e3⟩
section T240
variable {b : Nat} {h : tx_H} {Θ : List tq_H} {L : List tp_P} {s0 : ps_S} {R : Int32 → ps_S → Prop}
theorem fm_240_54 (hb : b < 2) (hT : tq_GT h.1 Θ) (hwt : WFt h) (hL : L.length ≤ 40) (hG : ∀ (k : Nat) (st : tp_P), L[k]? = some st → tp_G h.1 h.2.length st) (k : ∀ s' D c, tq_run h Θ L [] = (D, c) → tq_GD h.1 D → mpP s' D c → KF s0 s' → R (ps_i s' 1131 47) s') : ∀ (n : Nat) {s : ps_S} {D : List tq_R}, D.length ≤ L.length → tq_run h Θ L [] = tq_run h Θ (L.drop D.length) D → tq_GD h.1 D → (ps_i s 1131 21).toInt = b → mv_H s b h → mSh s Θ → mpD s D → (∀ (k : Nat) (st : tp_P), D.length ≤ k → L[k]? = some st → rkT s k st) → (ps_i s 1131 42).toInt = L.length → (ps_i s 1131 47).toInt = D.length → ps_i s 1131 48 = -1 → ps_i s 1131 49 = -1 → KF s0 s → pl_At n 240 54 [(0, .ref 1131)] [] s (ps_rI R)
  | 0, _, _, _, _, _, _, _, _, _, _, _, _, _, _, _ => pl_At_0
  | n + 1, s, D, hDL, hrun, hD, h21, H, hS, cD, cW, e42, e47, e48, e49, F => by
    have c0 : (0 : Int32).toInt = 0 := Int32.toInt_zero
    have cm : (-1 : Int32).toInt = -1 := by decide
    refine pl_240_54 ⟨fun z => ?_, fun z => ⟨fun w => ?_, fun _ => ?_⟩⟩
    · have z := xle z
      have e : D.length = L.length := by omega
      rw [e, List.drop_length] at hrun
      exact k s D 0 hrun hD ⟨cD, e47, fun _ => ⟨e48, e49⟩, fun w => absurd rfl w⟩ F
    · have w := xle w
      rw [e48] at w
      omega
    · have z := xlt z
      have hlt : D.length < L.length := by omega
      obtain ⟨st, hst⟩ : ∃ st, L[D.length]? = some st := ⟨_, List.getElem?_eq_getElem hlt⟩
      have hi : D.length < 40 := by omega
      have w1 := cW D.length st (Nat.le_refl _) hst
      rw [drop_g hst] at hrun
      refine fm_252 e47 hi ⟨⟨hb, h21, H⟩, hS, cD, w1⟩ hD hT hwt (hG _ st hst) (fun s1 q => ?_)
      obtain ⟨q1, q2, K1⟩ := q
      have g47 : ps_i s1 1131 47 = ps_i s 1131 47 := kq_i K1.1 47 (by decide)
      have g42 : ps_i s1 1131 42 = ps_i s 1131 42 := kq_i K1.1 42 (by decide)
      have g48 : ps_i s1 1131 48 = -1 := (kq_i K1.1 48 (by decide)).trans e48
      have g49 : ps_i s1 1131 49 = -1 := (kq_i K1.1 49 (by decide)).trans e49
      have F1 : KF s0 s1 := KF_S F K1 hi
      refine ⟨fun y => ?_, fun y => ?_⟩
      · have y := xne y
        have hc : tq_cs h Θ D st ≠ 0 := fun e => y (by rw [q1, e, c0]; rfl)
        rw [tq_run_c hc] at hrun
        have Kq : kq [] [48, 49] s1 (ps_ui (ps_ui s1 1131 48 (ps_i s1 1131 47)) 1131 49 (ps_i (ps_ui s1 1131 48 (ps_i s1 1131 47)) 1131 50)) := kqi (kqi kq_refl (by decide)) (by decide)
        have k47 : ps_i (ps_ui (ps_ui s1 1131 48 (ps_i s1 1131 47)) 1131 49 (ps_i (ps_ui s1 1131 48 (ps_i s1 1131 47)) 1131 50)) 1131 47 = ps_i s 1131 47 := (kq_i Kq 47 (by decide)).trans g47
        have k42 : ps_i (ps_ui (ps_ui s1 1131 48 (ps_i s1 1131 47)) 1131 49 (ps_i (ps_ui s1 1131 48 (ps_i s1 1131 47)) 1131 50)) 1131 42 = ps_i s 1131 42 := (kq_i Kq 42 (by decide)).trans g42
        have k48 : ps_i (ps_ui (ps_ui s1 1131 48 (ps_i s1 1131 47)) 1131 49 (ps_i (ps_ui s1 1131 48 (ps_i s1 1131 47)) 1131 50)) 1131 48 = ps_i s 1131 47 := by rw [ps_i_ui, if_neg (by omega), ps_i_ui, if_pos ⟨rfl, rfl⟩, g47]
        have k49 : ps_i (ps_ui (ps_ui s1 1131 48 (ps_i s1 1131 47)) 1131 49 (ps_i (ps_ui s1 1131 48 (ps_i s1 1131 47)) 1131 50)) 1131 49 = ps_i s1 1131 50 := by rw [ps_i_ui, if_pos ⟨rfl, rfl⟩, ps_i_ui, if_neg (by omega)]
        have FF : KF s0 (ps_ui (ps_ui s1 1131 48 (ps_i s1 1131 47)) 1131 49 (ps_i (ps_ui s1 1131 48 (ps_i s1 1131 47)) 1131 50)) := KF_i (KF_i F1 (by decide)) (by decide)
        have D1 : mpD s1 D := mpD_KS cD (Nat.le_refl _) hi K1
        have D2 := mpD_q D1 Kq
        generalize ps_ui (ps_ui s1 1131 48 (ps_i s1 1131 47)) 1131 49 (ps_i (ps_ui s1 1131 48 (ps_i s1 1131 47)) 1131 50) = s2 at Kq k47 k42 k48 k49 FF D2 ⊢
        cases n with
        | zero => exact pl_At_0
        | succ n =>
        refine pl_240_54 ⟨fun z2 => ?_, fun _ => ⟨fun _ => ?_, fun w => ?_⟩⟩
        · have z2 := xle z2
          rw [k47, k42] at z2
          omega
        · exact k s2 D _ hrun hD ⟨D2, by rw [k47]; exact e47, fun e => absurd e hc, fun _ => ⟨by rw [k48]; exact e47, by rw [k49]; exact q1⟩⟩ FF
        · have w := xlt w
          rw [k48] at w
          omega
      · have y := xeq y
        have hc : tq_cs h Θ D st = 0 := by
          rw [q1, c0] at y
          omega
        obtain ⟨c1, c2, c3⟩ := tq_cs_is hc
        rw [tq_run_0 hc] at hrun
        have hlen : (D ++ [tq_res h Θ D st]).length = D.length + 1 := List.length_append
        have Kq : kq [] [47] s1 (ps_ui s1 1131 47 (ps_i s1 1131 47 + 1)) := kqi kq_refl (by decide)
        refine fm_240_54 hb hT hwt hL hG k n (D := D ++ [tq_res h Θ D st]) (by omega) (by rw [hlen]; exact hrun) (tq_G_step hD hT hwt (hG _ st hst) c1 c2 c3) ?_ (mv_H_kq (mv_H_KS hb H hi K1) Kq (by decide)) (mSh_q (mSh_KS hS hi K1) Kq (by decide)) (mpD_q (q2 hc) Kq) (fun kk st2 hk hs2 => rkT_q (rkT_KS (cW kk st2 (by omega) hs2) hi K1) Kq) ?_ ?_ ?_ ?_ (KF_i F1 (by decide))
        · rw [kq_i Kq 21 (by decide), kq_i K1.1 21 (by decide)]
          exact h21
        · rw [kq_i Kq 42 (by decide), g42]
          exact e42
        · rw [ps_i_ui, if_pos ⟨rfl, rfl⟩, g47, hlen]
          exact xj1 e47 (by omega)
        · rw [kq_i Kq 48 (by decide)]
          exact g48
        · rw [kq_i Kq 49 (by decide)]
          exact g49
end T240

