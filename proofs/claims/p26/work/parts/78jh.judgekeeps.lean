set_option maxRecDepth 100000
/-! the judge's memory, call by call -/
theorem fs_1e_2 {s0 : ps_S} {R : ps_S → Prop} (k : ∀ s', cfr (fun q => q = 957) s0 s' → (∀ j, j < 192 → ps_b s' 957 j = 0) → R s') : ∀ (n : Nat) {s : ps_S} {x1 : Int32} {i : Nat}, x1.toInt = i → cfr (fun q => q = 957) s0 s → (∀ j, j < i → ps_b s 957 j = 0) → pl_At n 1 2 [(0, .ref 944), (1, .int x1)] [] s (ps_rV R)
  | 0, _, _, _, _, _, _ => pl_At_0
  | n + 1, s, x1, i, h1, K, hj => by
    have c192 : (nI 192).toInt = 192 := by decide
    refine pl_1_2 ⟨fun z => ?_, fun z => ?_⟩
    · have z := xle z
      exact k s K (fun j hj2 => hj j (by omega))
    · have z := xlt z
      intro _
      rw [xtn h1]
      refine fs_1e_2 k n (xj1 h1 (by omega)) (cfr_b K rfl) (fun j hj2 => ?_)
      rw [ps_b_ub]
      by_cases e : j = i
      · rw [if_pos ⟨rfl, e⟩]
      · rw [if_neg (fun w => e w.2)]
        exact hj j (by omega)
theorem fs_1e {n : Nat} {s : ps_S} {R : ps_S → Prop} (k : ∀ s', cfr (fun q => q = 957) s s' → (∀ j, j < 192 → ps_b s' 957 j = 0) → R s') : pl_Cl n 1 [.ref 944] s (ps_rV R) := by
  cases n with
  | zero => exact pl_At_0
  | succ n =>
  show pl_At (n + 1) 1 0 [(0, .ref 944)] [] s (ps_rV R)
  exact pl_1_0 (fs_1e_2 (s0 := s) k n (i := 0) rfl cfr_refl (fun j hj => absurd hj (Nat.not_lt_zero _)))
theorem fs_151e_65 {R : Int32 → ps_S → Prop} (k : ∀ (v : Int32) (s' : ps_S), (∀ j, j < 192 → ps_b s' 957 j = 0) → R v s') : ∀ (n : Nat) {s : ps_S} {x3 : Int32}, pl_At n 151 65 [(0, .ref 0), (3, .int x3)] [] s (ps_rI R)
  | 0, _, _ => pl_At_0
  | n + 1, s, x3 => by
    refine pl_151_65 ⟨fun _ => ?_, fun _ => ?_⟩
    · refine fs_91 ?_
      refine fs_81d (fun s2 q2 => ?_)
      refine fs_1e (fun s3 q3 z3 => ?_)
      refine pl_nk_i (fun _ => ?_)
      exact k _ s3 z3
    · refine fs_180 (fun v76 => ?_)
      refine fs_108d (fun s5 q5 => ?_)
      exact fs_151e_65 k n
/-- the judge's memory stands or is forgotten -/
def KJ (s : ps_S) (v : Int32) (s1 : ps_S) : Prop := (v.toInt = -1 ∧ (∀ j, j < 192 → ps_b s1 957 j = ps_b s 957 j) ∧ ∀ j, j < 192 → ps_b s1 958 j = ps_b s 958 j) ∨ ∀ j, j < 192 → ps_b s1 957 j = 0
theorem fs_151e {n : Nat} {s : ps_S} {t : Int32} (hI : LI s t) (hF : LF s t) (hG : LG s) : pl_Cl n 151 [.ref 0] s (ps_rI (fun v s1 => KJ s v s1)) := by
  cases n with
  | zero => exact pl_At_0
  | succ n =>
  show pl_At (n + 1) 151 0 [(0, .ref 0)] [] s _
  have ht := LI_t hI
  have e : (ps_i s 0 1).toInt = (t.toInt.toNat : Nat) := by rw [hI.2.1.2.1]; omega
  have main : ∀ th, (th = 2 ∨ th = 26) → ps_r s 0 3 = th → cv_base s th → pl_At (n + 1) 151 0 [(0, .ref 0)] [] s (ps_rI (fun v s1 => KJ s v s1)) := fun th hth h3 hb => by
    refine pl_151_0 ?_
    rw [h3]
    refine fs_58 hth hb e (by omega) (fun k _ => bytes_T) hF.2.1 (fun s16 q16 => ⟨fun _ => ?_, fun z => absurd z (by decide)⟩) (fun s16 q16 => ⟨fun z => absurd rfl z, fun _ => ?_⟩)
    · refine fs_31d (fun s53 q53 => ?_)
      refine fs_108d (fun s60 q60 => ?_)
      exact fs_151e_65 (fun v s' z => Or.inr z) n
    · obtain ⟨h, pl, k, g, e1, e2, F⟩ := q16
      have hn : ∀ q, q = 957 ∨ q = 958 → ¬ cv_HC th q := fun q a b => by unfold cv_HC at b; omega
      refine Or.inl ⟨by decide, fun j _ => ?_, fun j _ => ?_⟩
      · show ps_b s16 957 j = ps_b s 957 j
        rw [(F 957 (hn _ (Or.inl rfl))).2.2.2.2]
      · show ps_b s16 958 j = ps_b s 958 j
        rw [(F 958 (hn _ (Or.inr rfl))).2.2.2.2]
  obtain ⟨h0, l0, b0, -, -, -, -, hr, -, -⟩ := hG
  rcases hr with ⟨r2, r3⟩ | ⟨r2, r3⟩
  · exact main 26 (Or.inr rfl) r3 hF.2.2.2.1
  · exact main 2 (Or.inl rfl) r3 hF.2.2.1
theorem JG_eq {s s' : ps_S} {h : tx_H} (H : JG s h) (h7 : ∀ j, j < 192 → ps_b s' 957 j = ps_b s 957 j) (h8 : ∀ j, j < 192 → ps_b s' 958 j = ps_b s 958 j) : JG s' h := fun m M a1 a2 a3 a4 => by
  have hb : bx m M < 192 := by unfold bx; omega
  rw [h7 _ hb] at a4
  rw [h8 _ hb]
  exact H m M a1 a2 a3 a4
theorem JG_z {s : ps_S} {h : tx_H} (h7 : ∀ j, j < 192 → ps_b s 957 j = 0) : JG s h := fun m M a1 a2 a3 a4 => by
  have hb : bx m M < 192 := by unfold bx; omega
  rw [h7 _ hb] at a4
  have e : tb 0 (M % 64) = false := by
    unfold tb
    rw [show (0 : Int64).toBitVec = 0#64 from rfl]
    exact BitVec.getLsbD_zero
  rw [e] at a4
  cases a4
theorem JG_v {h : tx_H} : pdet (fun _ s => JG s h) := fun _ w s1 s2 r1 r2 z => JG_eq z (fun j hj => ps_det_b r1 r2 (r := 957) (n := 192) (by decide) rfl hj) (fun j hj => ps_det_b r1 r2 (r := 958) (n := 192) (by decide) rfl hj)
theorem KJ_v {s : ps_S} : pdet (KJ s) := fun v w s1 s2 r1 r2 z => by
  have d7 : ∀ j, j < 192 → ps_b s1 957 j = ps_b s2 957 j := fun j hj => ps_det_b r1 r2 (r := 957) (n := 192) (by decide) rfl hj
  have d8 : ∀ j, j < 192 → ps_b s1 958 j = ps_b s2 958 j := fun j hj => ps_det_b r1 r2 (r := 958) (n := 192) (by decide) rfl hj
  rcases z with ⟨z1, z2, z3⟩ | z
  · exact Or.inl ⟨z1, fun j hj => (d7 j hj).trans (z2 j hj), fun j hj => (d8 j hj).trans (z3 j hj)⟩
  · exact Or.inr (fun j hj => (d7 j hj).trans (z j hj))
theorem fs_172J {n : Nat} {s : ps_S} {h : tx_H} {l : List Nat} {x1 : Int32} (c : TRc s h l) (G : JG s h) : pl_Cl n 172 [.ref 0, .int x1] s (ps_rI (fun v s' => md_A h.1 x1 v ∧ JG s' h)) := by
  cases n with
  | zero => exact pl_At_0
  | succ n =>
  show pl_At (n + 1) 172 0 [(0, .ref 0), (1, .int x1)] [] s _
  refine pl_172_0 ?_
  have hth : ps_r s 0 2 = 2 ∨ ps_r s 0 2 = 26 := by have := c.2.1; omega
  refine fs_181 (fun h1 h2 => ⟨fun z => absurd z (by decide), fun _ => ?_⟩) (fun h0 => ⟨fun _ => ⟨⟨fun z => absurd z h0, fun _ => by decide⟩, G⟩, fun z => absurd rfl z⟩)
  exact fs_2 (m := x1.toInt.toNat) (by omega) hth c.1.1 (by omega) (fun v s2 e _ F => ⟨⟨fun _ => e, fun z => absurd ⟨h1, h2⟩ z⟩, JG_cfr G F (by unfold JC; omega) (by unfold JC; omega)⟩)
theorem lg_ltN {x : Int32} {c : Nat} (hc : c ≤ 1099511627776) : lg_cmp (Int32.toInt64 x) (Int64.ofNat c) < 0 → x.toInt < c := fun z => by
  have e1 : (Int64.ofNat c).toInt = (c : Nat) := Int64.toInt_ofNat_of_lt (by omega)
  have e2 : (Int32.toInt64 x).toInt = x.toInt := Int32.toInt_toInt64 x
  unfold lg_cmp at z
  by_cases h : Int32.toInt64 x > Int64.ofNat c
  · rw [if_pos h] at z
    exact absurd z (by decide)
  · rw [if_neg h] at z
    by_cases e : Int32.toInt64 x = Int64.ofNat c
    · rw [if_pos e] at z
      exact absurd z (by decide)
    · have h2 : ¬ (Int64.ofNat c).toInt < (Int32.toInt64 x).toInt := fun w => h (Int64.lt_iff_toInt_lt.mpr w)
      have h3 : (Int32.toInt64 x).toInt ≠ (Int64.ofNat c).toInt := fun w => e (Int64.toInt_inj.mp w)
      omega
/-- holds() leaves what is kept as it is -/
theorem fs_174 {n : Nat} {s : ps_S} {h : tx_H} {l : List Nat} {x1 x2 : Int32} (c : TRc s h l) (hf : WFf h.1 l) (hbc : l ≠ [] → bc (arh h.1) [(0, 0)] l) (G : JG s h) : pl_Cl n 174 [.ref 0, .int x1, .int x2] s (ps_rI (fun v s' => JG s' h)) := by
  cases n with
  | zero => exact pl_At_0
  | succ n =>
  show pl_At (n + 1) 174 0 [(0, .ref 0), (1, .int x1), (2, .int x2)] [] s _
  refine pl_174_0 ?_
  have hth : ps_r s 0 2 = 2 ∨ ps_r s 0 2 = 26 := by have := c.2.1; omega
  have h8 := c.1.2.2.1
  have hsz := c.2.2.1
  have hl40 := c.2.2.2.2.1
  have c0 : (0 : Int32).toInt = 0 := by decide
  have c4 : (4 : Int32).toInt = 4 := by decide
  refine fs_181 (fun h1 h2 => ⟨fun z => absurd z (by decide), fun _ => ⟨fun _ => G, fun z2 => ⟨fun z => ?_, fun _ => G⟩⟩⟩) (fun h0 => ⟨fun _ => G, fun z => absurd rfl z⟩)
  have z := xne z
  have z2 := xle z2
  have hl : l ≠ [] := fun y => by rw [y] at hsz; exact z hsz
  have hf : wf (sg h.1) 5 l [(true, 0)] := by
    rcases hf with hf | hf
    · exact absurd hf hl
    · exact hf
  cases n with
  | zero => exact pl_At_0
  | succ n =>
  show pl_At (n + 1) 4 0 [(0, .ref 944), (1, .ref (ps_r s 0 2)), (2, .ref 934), (3, .int x1), (4, .int x2)] [] s _
  refine pl_4_0 ?_
  refine fs_6 (m := x1.toInt.toNat) (by omega) hth c.1.1 (by omega) (fun s1 J K => ?_)
  have F := JC_of K
  have hq := lg4096 (c := min (md_p (md_B x1.toInt.toNat (md_sy x1.toInt.toNat h.1))) 1099511627776) (Nat.min_le_right _ _)
  have H1 := cv_H_cfr c.1 F (fun q a b => by unfold JC; omega)
  have W1 := cv_W_cfr c.2.2 F (by unfold JC; omega) (by unfold JC; omega)
  have G1 : JG s1 h := JG_cfr G F (by unfold JC; omega) (by unfold JC; omega)
  refine ⟨fun y0 => ?_, fun _ => G1⟩
  have y0 := lg_ltN (Nat.min_le_right _ _) y0
  refine fs_13 W1 (fun s2 FF2 K2 => ?_)
  have hne : ∀ q, q = 944 ∨ [956].contains q = true → q = 944 ∨ q = 956 := fun q b => by
    rcases b with b | b
    · exact Or.inl b
    · have := List.contains_iff_mem.mp b
      rw [List.mem_singleton] at this
      exact Or.inr this
  have F2 : cfr (fun q => q = 944 ∨ q = 956) s1 s2 := cfr_mono (jq_cfr K2) hne
  have G2 : JG s2 h := JG_cfr G1 F2 (by omega) (by omega)
  have H2 := cv_H_cfr H1 F2 (fun q a b => by omega)
  have W2 := cv_W_cfr W1 F2 (by omega) (by omega)
  have hff := FF2.1
  refine ⟨fun _ => G2, fun y => ⟨fun y2 => ?_, fun _ => G2⟩⟩
  have y := hq.1.mp y
  have y2 := xle y2
  have er2 : ps_r s2 944 16 = ps_r s 0 2 := by rw [jq_r K2]; exact J.1
  rw [er2]
  refine fs_103 (r := 950) (r1 := 934) (l := l) rfl rfl hth ⟨by omega, by omega⟩ (wf_ws hf) (Or.inl rfl) W2 H2.1 (fun s3 Z F3 => ?_)
  have G3 : JG s3 h := JG_cfr G2 F3 (by unfold CSh; omega) (by unfold CSh; omega)
  have W3 := cv_W_cfr W2 F3 (by unfold CSh; omega) (by unfold CSh; omega)
  have J2 : JB s2 (ps_r s 0 2) x1.toInt.toNat h := JB_cfr ⟨H1, J⟩ F2 hth (fun q a b => by omega) (by rw [jq_r K2]) (jq_i K2 2 rfl) (jq_i K2 11 rfl)
  have f3 := F3 944 (by unfold CSh; omega)
  have J3 : JB s3 (ps_r s 0 2) x1.toInt.toNat h := JB_cfr J2 F3 hth (fun q a b => by unfold CSh at b; omega) (f3.2.2.1 16) (f3.1 2) (f3.1 11)
  have FF3 : FF s3 l 12 := by
    unfold FF
    rw [f3.1, (F3 956 (by unfold CSh; omega)).2.2.2.1]
    exact FF2
  have h90 : (md_B x1.toInt.toNat (md_sy x1.toInt.toNat h.1)).length ≤ 90 := by
    have hl2 := md_o_le (m := x1.toInt.toNat) (by omega) (md_sy_ar (m := x1.toInt.toNat) c.1.1) (md_sy x1.toInt.toNat h.1).length (Nat.le_refl _)
    unfold md_o at hl2
    rw [List.take_length, md_sy_len] at hl2
    have := c.1.1.2.2.1
    have := c.1.1.2.2.2.1
    omega
  refine fs_8 (M := x2.toInt.toNat) (by omega) (fun b hb2 => md_b3 (by omega) hb2) h90 J3.2.2.2.1 (by omega) (fun s4 K4 D => ?_)
  have hne4 : ∀ q, q = 944 ∨ [946].contains q = true → q = 944 ∨ q = 946 := fun q b => by
    rcases b with b | b
    · exact Or.inl b
    · have := List.contains_iff_mem.mp b
      rw [List.mem_singleton] at this
      exact Or.inr this
  have F4 : cfr (fun q => q = 944 ∨ q = 946) s3 s4 := cfr_mono (jq_cfr K4) hne4
  have G4 : JG s4 h := JG_cfr G3 F4 (by omega) (by omega)
  have J4 : JB s4 (ps_r s 0 2) x1.toInt.toNat h := JB_cfr J3 F4 hth (fun q a b => by omega) (by rw [jq_r K4]) (jq_i K4 2 rfl) (jq_i K4 11 rfl)
  have W4 := cv_W_cfr W3 F4 (by omega) (by omega)
  have E4 : shE s4 950 (arh h.1) l 0 := fun j a b => by
    rw [(F4 951 (by omega)).2.2.2.1]
    exact Z.1 j a b
  have FF4 : FF s4 l 12 := by
    unfold FF
    rw [(funext fun f => jq_i K4 f rfl : ps_i s4 944 = ps_i s3 944), (F4 956 (by omega)).2.2.2.1]
    exact FF3
  refine fs_14 (M := x2.toInt.toNat) hth (by omega) hf (hbc hl) hl40 (by omega) ⟨J4, W4, E4, FF4, D⟩ (fun s5 q => ⟨fun y => absurd y (by decide), fun _ => ?_⟩) (fun s5 q => ⟨fun _ => ?_, fun y => absurd rfl y⟩)
  · exact JG_cfr G4 q.2.2.1 (by unfold CFo; omega) (by unfold CFo; omega)
  · exact JG_cfr G4 q.2.2.1 (by unfold CFo; omega) (by unfold CFo; omega)

