set_option maxRecDepth 100000
theorem ms_232_10 {x : Nat → Nat → Nat} {t : Int32} {d : Nat} {s0 : ps_S} {σ : mSig} {l ml : List Nat} {Wb_k : List Bool} {x1 : Int32} {x2 : Int32} {Q : Option Value → ps_S → Prop} (k : ∀ (s' : ps_S), mJ x t s' → kp [1149, 1150] [34] s0 s' → (∃ m : List Nat, m.length ≤ 40 ∧ rp σ l m ∧ Md (ps_a s' 1149) (ps_i s' 1131 34).toInt ((ml ++ [4]) ++ m)) → Q none s') : ∀ (n : Nat) (x3 : Int32) (x4 : Int32) (b1_k : List Nat) (b2_k : List Nat) (W_k : List Bool) (m1_k : List Nat) (s : ps_S), (mJ x t s) → (kp [1149, 1150] [34] s0 s) → (Sg (ps_a s 1135) (ps_a s 1136) (ps_a s 1138) (ps_a s 1139) (ps_i s 1131 21).toInt σ) → (Rw (ps_a s 1134) x1.toInt l) → (ml.length ≤ 1000) → (qn l ≤ 29) → (0 ≤ x2.toInt) → (x2.toInt ≤ 11) → (0 ≤ x3.toInt) → (x3.toInt ≤ (qn b1_k : Int)) → (x4.toInt = (b1_k.length : Int)) → (l = b1_k ++ b2_k) → (ws σ b2_k W_k) → (rp σ b1_k m1_k) → (m1_k.length = b1_k.length) → (Md (ps_a s 1149) (ps_i s 1131 34).toInt ((ml ++ [4]) ++ m1_k)) → 41 - x4.toInt ≤ (n : Int) → ps_At (d + 2) 232 10 [(0, .ref 1131), (1, .int x1), (2, .int x2), (3, .int x3), (4, .int x4)] [] s Q := by
  refine xstr (fun n ih => ?_)
  intro x3 x4 b1_k b2_k W_k m1_k s J K hS hR i2_k i3_k i4_k i5_k i6_k i7_k i8_k i9_k i10_k i11_k i12_k i13_k hm
  refine pg_232_10 (d := d + 1) ?_
  obtain ⟨hr1, hr2, hr3, hr4, hr5, hr6⟩ := id hR
  have hr1 : x1.toInt % 41 = 0 := hr1
  have hr2 : 0 ≤ x1.toInt := hr2
  have hr3 : x1.toInt < 27306 := hr3
  have i8_k : x4.toInt = (b1_k.length : Int) := i8_k
  have hl_k : (l.length : Int) = b1_k.length + b2_k.length := by rw [i9_k]; exact llen
  have hn_k : (ps_a s 1134 (Int32.toNatClampNeg x1)).toInt = (l.length : Int) := Rw_n hR
  refine pg_219_0 ?_
  refine ps_nd_i (show pm_in x1 27400 = true from xgi (show 0 ≤ x1.toInt from by omega) (show x1.toInt < 27400 from by omega)) ?_
  have r1_k : x1.toInt % 41 = 0 → x1.toInt < 27306 → 0 ≤ (ps_a s 1134 (Int32.toNatClampNeg x1)).toInt ∧ (ps_a s 1134 (Int32.toNatClampNeg x1)).toInt ≤ 40 := fun z1_k z2_k => mp_row (i := x1) J z1_k (show 0 ≤ x1.toInt from by omega) z2_k
  refine And.intro (fun h2_k => ?_) (fun h2_k => ?_)
  · have f3_k : (ps_a s 1134 (Int32.toNatClampNeg x1)).toInt ≤ x4.toInt := xle h2_k
    have e0_k := lnil (W := b2_k) (by omega)
    subst e0_k
    rw [List.append_nil] at i9_k
    subst i9_k
    exact k _ J K (⟨m1_k, by omega, i11_k, i13_k⟩)
  · have f4_k : x4.toInt < (ps_a s 1134 (Int32.toNatClampNeg x1)).toInt := xlt h2_k
    obtain ⟨c, b3_k, rfl⟩ := lpos (W := b2_k) (by omega)
    exact ms_232_20 (x1 := x1) (x2 := x2) (σ := σ) (l := l) (ml := ml) (Wb_k := Wb_k) k n (fun x3z x4z b1z b2z Wz m1z sz Jz Kz i0z i1z i2z i3z i4z i5z i6z i7z i8z i9z i10z i11z i12z i13z hm => ih (n - 1) (show n - 1 < n from by omega) x3z x4z b1z b2z Wz m1z sz Jz Kz i0z i1z i2z i3z i4z i5z i6z i7z i8z i9z i10z i11z i12z i13z (show _ ≤ ((n - 1 : Nat) : Int) from by omega)) (x3.toInt).toNat x3 x4 b1_k c b3_k W_k m1_k _ J K hS hR (by assumption) (by assumption) (show 0 ≤ x2.toInt from by omega) (show x2.toInt ≤ 11 from by omega) (show 0 ≤ x3.toInt from by omega) (by assumption) (by assumption) (by assumption) (by assumption) (by assumption) (by assumption) (by assumption) (show 41 - x4.toInt ≤ ((n : Nat) : Int) from by omega) (show x3.toInt ≤ (((x3.toInt).toNat : Nat) : Int) from by omega)

