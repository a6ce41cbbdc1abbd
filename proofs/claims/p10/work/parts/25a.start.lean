/-! THE START: the state behind the two constructors -/
def ps_s1 : ps_S := (((fun r q => match pm_wx r with
  | .inr (_, fs) => (match fs[q]? with
    | some (.int v) => v
    | _ => 0)
  | _ => 0), ((fun r q => match pm_wx r with
  | .inr (_, fs) => (match fs[q]? with
    | some (.long v) => v
    | _ => 0)
  | _ => 0), (fun r q => match pm_wx r with
  | .inr (_, fs) => (match fs[q]? with
    | some (.ref v) => v
    | _ => 0)
  | _ => 0))), ((fun r i => match pm_wx r with
  | .inl (_, _, .inl f) => pm_rd 0 f i
  | _ => 0), (fun r i => match pm_wx r with
  | .inl (_, _, .inr (.inl f)) => pm_rd 0 f i
  | _ => 0)))
def s1_v (c q : Nat) (v : Value) : Bool := match (pm_Ts c).getD q .int with
  | .long => (match v with
    | .long _ => true
    | _ => false)
  | .object _ => (match v with
    | .ref _ => true
    | _ => false)
  | .array _ => (match v with
    | .ref _ => true
    | _ => false)
  | _ => (match v with
    | .int _ => true
    | _ => false)
def s1_fs (c : Nat) : Nat → List Value → Bool
  | _, [] => true
  | q, v :: l => s1_v c q v && s1_fs c (q + 1) l
theorem s1_fs_ok {c : Nat} : ∀ {l : List Value} {q j : Nat} {v : Value}, s1_fs c q l = true → l[j]? = some v → s1_v c (q + j) v = true
  | [], q, j, v, _, h => by simp at h
  | u :: l, q, 0, v, h, hj => by
    unfold s1_fs at h
    rw [Bool.and_eq_true] at h
    simp at hj
    subst hj
    exact h.1
  | u :: l, q, j + 1, v, h, hj => by
    unfold s1_fs at h
    rw [Bool.and_eq_true] at h
    have := s1_fs_ok (j := j) h.2 (by simpa using hj)
    rw [show q + (j + 1) = q + 1 + j from by omega]
    exact this
def s1_so (f : List (Nat × Option Nat)) : Nat → Bool
  | 0 => true
  | n + 1 => (pm_rd none f n).isSome && s1_so f n
theorem s1_so_ok {f : List (Nat × Option Nat)} : ∀ {n i : Nat}, s1_so f n = true → i < n → (pm_rd none f i).isSome = true
  | 0, i, _, h => by omega
  | n + 1, i, h, hi => by
    unfold s1_so at h
    rw [Bool.and_eq_true] at h
    by_cases e : i = n
    · rw [e]; exact h.1
    · exact s1_so_ok h.2 (by omega)
def s1_xF : Nat → List (Nat × Nat)
  | 0 => [(14, 5), (15, 6), (16, 9)]
  | 2 => [(6, 9)]
  | 3 => [(5, 9), (6, 5)]
  | 10 => [(1, 101)]
  | 11 => [(2, 9), (3, 9), (4, 2), (5, 2)]
  | _ => []
theorem s1_xF_ok {c q k : Nat} (h : xF c q = some k) : (q, k) ∈ s1_xF c := by
  unfold xF at h
  split at h <;> first | (cases h; decide) | cases h
def s1_ok (r : Nat) : Bool := match pm_wx r with
  | .inl (t, _, .inl _) => Nat.blt t 3
  | .inl (t, _, .inr (.inl _)) => Nat.beq t 3
  | .inl (t, n, .inr (.inr f)) => Nat.blt 3 t && (Nat.blt t 8 && s1_so f n)
  | .inr (c, fs) => Nat.beq fs.length (pm_Ts c).length && (s1_fs c 0 fs && (s1_xF c).all (fun p => xKb p.2 (ps_r ps_s1 r p.1)))
def s1_all (a : Nat) : Nat → Bool
  | 0 => true
  | n + 1 => s1_ok (a + n) && s1_all a n
theorem s1_all_ok {a : Nat} : ∀ {n : Nat}, s1_all a n = true → ∀ r, a ≤ r → r < a + n → s1_ok r = true
  | 0, _, r, h1, h2 => by omega
  | n + 1, h, r, h1, h2 => by
    unfold s1_all at h
    rw [Bool.and_eq_true] at h
    by_cases e : r = a + n
    · rw [e]; exact h.1
    · exact s1_all_ok h.2 r h1 (by omega)
set_option maxRecDepth 1000000
theorem s1_c0 : s1_all 0 200 = true := by decide +kernel
theorem s1_c1 : s1_all 200 200 = true := by decide +kernel
theorem s1_c2 : s1_all 400 200 = true := by decide +kernel
theorem s1_c3 : s1_all 600 200 = true := by decide +kernel
theorem s1_c4 : s1_all 800 200 = true := by decide +kernel
theorem s1_c5 : s1_all 1000 179 = true := by decide +kernel
theorem s1_every {r : Nat} (h : r < 1179) : s1_ok r = true := by
  rcases Nat.lt_or_ge r 200 with g | g
  · exact s1_all_ok s1_c0 r (by omega) (by omega)
  rcases Nat.lt_or_ge r 400 with g2 | g2
  · exact s1_all_ok s1_c1 r (by omega) (by omega)
  rcases Nat.lt_or_ge r 600 with g3 | g3
  · exact s1_all_ok s1_c2 r (by omega) (by omega)
  rcases Nat.lt_or_ge r 800 with g4 | g4
  · exact s1_all_ok s1_c3 r (by omega) (by omega)
  rcases Nat.lt_or_ge r 1000 with g5 | g5
  · exact s1_all_ok s1_c4 r (by omega) (by omega)
  · exact s1_all_ok s1_c5 r (by omega) (by omega)
theorem s1_R : ps_R pm_w1 ps_s1 := by
  refine ⟨rfl, fun r hr => ⟨rfl, ?_⟩⟩
  have h := s1_every hr
  show ps_Ok r (pm_wx r) ps_s1
  unfold s1_ok at h
  unfold ps_Ok
  split
  · next t n f e =>
    rw [e] at h
    exact ⟨Nat.le_of_ble_eq_true h, fun i _ => by
      show _ = (match pm_wx r with
        | .inl (_, _, .inl f) => pm_rd 0 f i
        | _ => 0)
      rw [e]⟩
  · next t n f e =>
    rw [e] at h
    exact ⟨Nat.eq_of_beq_eq_true h, fun i _ => by
      show _ = (match pm_wx r with
        | .inl (_, _, .inr (.inl f)) => pm_rd 0 f i
        | _ => 0)
      rw [e]⟩
  · next t n f e =>
    rw [e] at h
    dsimp only at h
    rw [Bool.and_eq_true, Bool.and_eq_true] at h
    refine ⟨⟨Nat.le_of_ble_eq_true h.1, Nat.le_of_ble_eq_true h.2.1⟩, fun i hi => ?_⟩
    have := s1_so_ok h.2.2 hi
    unfold ps_e0
    rw [e]
    dsimp only
    cases g : pm_rd none f i with
    | none => rw [g] at this; cases this
    | some x => rfl
  · next c fs e =>
    rw [e] at h
    dsimp only at h
    rw [Bool.and_eq_true, Bool.and_eq_true] at h
    have hl := Nat.eq_of_beq_eq_true h.1
    refine ⟨hl, fun q hq => ?_⟩
    have hq2 : q < fs.length := by omega
    obtain ⟨v, hv⟩ : ∃ v, fs[q]? = some v := ⟨fs[q], List.getElem?_eq_getElem hq2⟩
    have k := s1_fs_ok h.2.1 hv
    rw [Nat.zero_add] at k
    rw [hv]
    have e1 : ∀ x, v = .int x → ps_i ps_s1 r q = x := fun x z => by
      show (match pm_wx r with
        | .inr (_, fs) => (match fs[q]? with
          | some (.int v) => v
          | _ => 0)
        | _ => 0) = x
      rw [e]; dsimp only; rw [hv, z]
    have e2 : ∀ x, v = .long x → ps_j ps_s1 r q = x := fun x z => by
      show (match pm_wx r with
        | .inr (_, fs) => (match fs[q]? with
          | some (.long v) => v
          | _ => 0)
        | _ => 0) = x
      rw [e]; dsimp only; rw [hv, z]
    have e3 : ∀ x, v = .ref x → ps_r ps_s1 r q = x ∧ ps_c0 r q = x := fun x z => by
      constructor
      · show (match pm_wx r with
          | .inr (_, fs) => (match fs[q]? with
            | some (.ref v) => v
            | _ => 0)
          | _ => 0) = x
        rw [e]; dsimp only; rw [hv, z]
      · unfold ps_c0
        rw [e]; dsimp only; rw [hv, z]
    have er : ∀ x, v = .ref x → cond (ps_fin c q) (ps_c0 r q) (ps_r ps_s1 r q) = x := fun x z => by
      rw [(e3 x z).1, (e3 x z).2]
      cases ps_fin c q <;> rfl
    unfold s1_v at k
    unfold ps_fv
    split at k
    · next hT =>
      split at k
      · next x => rw [hT]; dsimp only; rw [e2 x rfl]
      · cases k
    · next hT =>
      split at k
      · next x => rw [hT]; dsimp only; rw [er x rfl]
      · cases k
    · next hT =>
      split at k
      · next x => rw [hT]; dsimp only; rw [er x rfl]
      · cases k
    · next h1 h2 h3 =>
      split at k
      · next x =>
        split
        · next hT => exact (h1 hT).elim
        · next hT => exact (h2 _ hT).elim
        · next hT => exact (h3 _ hT).elim
        · rw [e1 x rfl]
      · cases k
