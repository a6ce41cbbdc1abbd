set_option maxRecDepth 100000
theorem ms_232_20 {x : Nat → Nat → Nat} {t : Int32} {d : Nat} {s0 : ps_S} {σ : mSig} {l ml : List Nat} {Wb_k : List Bool} {x1 : Int32} {x2 : Int32} {Q : Option Value → ps_S → Prop} (k : ∀ (s' : ps_S), mJ x t s' → kp [1149, 1150] [34] s0 s' → (∃ m : List Nat, m.length ≤ 40 ∧ rp σ l m ∧ Md (ps_a s' 1149) (ps_i s' 1131 34).toInt ((ml ++ [4]) ++ m)) → Q none s') (n10 : Nat) (KH10 : ∀ (x3 : Int32) (x4 : Int32) (b1_k : List Nat) (b2_k : List Nat) (W_k : List Bool) (m1_k : List Nat) (s : ps_S), (mJ x t s) → (kp [1149, 1150] [34] s0 s) → (Sg (ps_a s 1135) (ps_a s 1136) (ps_a s 1138) (ps_a s 1139) (ps_i s 1131 21).toInt σ) → (Rw (ps_a s 1134) x1.toInt l) → (ml.length ≤ 1000) → (qn l ≤ 29) → (0 ≤ x2.toInt) → (x2.toInt ≤ 11) → (0 ≤ x3.toInt) → (x3.toInt ≤ (qn b1_k : Int)) → (x4.toInt = (b1_k.length : Int)) → (l = b1_k ++ b2_k) → (ws σ b2_k W_k) → (rp σ b1_k m1_k) → (m1_k.length = b1_k.length) → (Md (ps_a s 1149) (ps_i s 1131 34).toInt ((ml ++ [4]) ++ m1_k)) → (41 - x4.toInt ≤ (n10 : Int) - 1) → ps_At (d + 2) 232 10 [(0, .ref 1131), (1, .int x1), (2, .int x2), (3, .int x3), (4, .int x4)] [] s Q) : ∀ (n : Nat) (x3 : Int32) (x4 : Int32) (b1_k : List Nat) (c : Nat) (b3_k : List Nat) (W_k : List Bool) (m1_k : List Nat) (s : ps_S), (mJ x t s) → (kp [1149, 1150] [34] s0 s) → (Sg (ps_a s 1135) (ps_a s 1136) (ps_a s 1138) (ps_a s 1139) (ps_i s 1131 21).toInt σ) → (Rw (ps_a s 1134) x1.toInt l) → (ml.length ≤ 1000) → (qn l ≤ 29) → (0 ≤ x2.toInt) → (x2.toInt ≤ 11) → (0 ≤ x3.toInt) → (x3.toInt ≤ (qn b1_k : Int)) → (x4.toInt = (b1_k.length : Int)) → (l = b1_k ++ c :: b3_k) → (ws σ (c :: b3_k) W_k) → (rp σ b1_k m1_k) → (m1_k.length = b1_k.length) → (Md (ps_a s 1149) (ps_i s 1131 34).toInt ((ml ++ [4]) ++ m1_k)) → (41 - x4.toInt ≤ (n10 : Int)) → x3.toInt ≤ (n : Int) → ps_At (d + 2) 232 20 [(0, .ref 1131), (1, .int x1), (2, .int x2), (3, .int x3), (4, .int x4)] [] s Q := by
  refine xstr (fun n ih => ?_)
  intro x3 x4 b1_k c b3_k W_k m1_k s J K hS hR i2_k i3_k i4_k i5_k i6_k i7_k i8_k i9_k i10_k i11_k i12_k i13_k hm10 hm
  refine pg_232_20 (d := d + 1) ?_
  obtain ⟨hr1, hr2, hr3, hr4, hr5, hr6⟩ := id hR
  have hr1 : x1.toInt % 41 = 0 := hr1
  have hr2 : 0 ≤ x1.toInt := hr2
  have hr3 : x1.toInt < 27306 := hr3
  have i7_k : x3.toInt ≤ (qn b1_k : Int) := i7_k
  have i8_k : x4.toInt = (b1_k.length : Int) := i8_k
  have hl_k : (l.length : Int) = b1_k.length + (b3_k.length + 1) := by rw [i9_k, llen, llenc]
  have hq_k : qn l = qn b1_k + ((if c = 4 ∨ c = 5 then 1 else 0) + qn b3_k) := by rw [i9_k, qn_app]; rfl
  have hq2_k : qn (b1_k ++ [c]) = qn b1_k + (if c = 4 ∨ c = 5 then 1 else 0) := by rw [qn_app]; rfl
  refine And.intro (fun h1_k => ?_) (fun h1_k => ?_)
  · have f2_k : x3.toInt ≤ (0 : Int) := xle h1_k
    exact ms_232_43 (x1 := x1) (x2 := x2) (σ := σ) (l := l) (ml := ml) (Wb_k := Wb_k) k n10 KH10 x3 x4 b1_k c b3_k W_k m1_k _ J K hS hR (by assumption) (by assumption) (show 0 ≤ x2.toInt from by omega) (show x2.toInt ≤ 11 from by omega) (show 0 ≤ x3.toInt from by omega) (by assumption) (by assumption) (by assumption) (by assumption) (by assumption) (by assumption) (by assumption) (show 41 - x4.toInt ≤ (n10 : Int) from by omega)
  · have f3_k : (0 : Int) < x3.toInt := xlt h1_k
    have a4_k : (x3 - 1).toInt = x3.toInt - (1 : Int) := xIs (show -2147483648 ≤ x3.toInt - (1 : Int) from by omega) (show x3.toInt - (1 : Int) < 2147483648 from by omega)
    refine ps_nd_i (show pm_in (x3 - 1) 260 = true from xgi (show 0 ≤ (x3 - 1).toInt from by omega) (show (x3 - 1).toInt < 260 from by omega)) ?_
    refine And.intro (fun h5_k => ?_) (fun h5_k => ?_)
    · have f6_k : x4.toInt < (ps_a s 1150 (Int32.toNatClampNeg (x3 - 1))).toInt := xlt h5_k
      exact ms_232_43 (x1 := x1) (x2 := x2) (σ := σ) (l := l) (ml := ml) (Wb_k := Wb_k) k n10 KH10 x3 x4 b1_k c b3_k W_k m1_k _ J K hS hR (by assumption) (by assumption) (show 0 ≤ x2.toInt from by omega) (show x2.toInt ≤ 11 from by omega) (show 0 ≤ x3.toInt from by omega) (by assumption) (by assumption) (by assumption) (by assumption) (by assumption) (by assumption) (by assumption) (show 41 - x4.toInt ≤ (n10 : Int) from by omega)
    · have f7_k : (ps_a s 1150 (Int32.toNatClampNeg (x3 - 1))).toInt ≤ x4.toInt := xle h5_k
      generalize hx9 : (x3 + (Int32.ofInt (-1))) = xd8
      have a10_k : xd8.toInt = x3.toInt + (-1) := by rw [← hx9]; exact xdec (show -2147483648 < x3.toInt from by omega)
      clear hx9
      exact ih (n - 1) (show n - 1 < n from by omega) xd8 x4 b1_k c b3_k W_k m1_k _ J K hS hR (by assumption) (by assumption) (show 0 ≤ x2.toInt from by omega) (show x2.toInt ≤ 11 from by omega) (show 0 ≤ xd8.toInt from by omega) ((show (xd8).toInt ≤ (qn b1_k : Int) from by omega)) (by assumption) (by assumption) (by assumption) (by assumption) (by assumption) (by assumption) (show 41 - x4.toInt ≤ (n10 : Int) from by omega) (show xd8.toInt ≤ ((n - 1 : Nat) : Int) from by omega)

