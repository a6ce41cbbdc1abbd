set_option maxRecDepth 100000
theorem cpM_0 {C : Nat → Prop} {s s' : ps_S} {p : Nat} {h : tx_H} {Θ : List tq_H} {D : List tq_R} {st : tp_P} {L : List Nat} (hm : tq_mk h Θ D st = (0, L, [], [], [])) (h10 : st.1.1 ≠ 10) (h11 : st.1.1 ≠ 11) (h12 : st.1.1 ≠ 12) (B : cpB s p (stc p D.length)) (N : cpN s (stc p D.length) st) (F : cfr C s s') (h1 : ¬ C (stc p D.length)) (h1' : ¬ C (stc p D.length + 1)) (h2 : ∀ q, p + 404 ≤ q → q ≤ p + 409 → ¬ C q) (W : CW s' (stc p D.length + 6) L) : cpM s' p h Θ D st := by
  obtain ⟨b1, b2, b3, b4, b5⟩ := B
  have f := F _ h1
  unfold cpM
  rw [hm, if_neg h10, if_neg h12]
  refine ⟨W, ⟨CW_cfr (b1 0 (by decide)) F (h2 _ (by unfold otc; omega) (by unfold otc; omega)) (h2 _ (by unfold otc; omega) (by unfold otc; omega)), CW_cfr (b1 1 (by decide)) F (h2 _ (by unfold otc; omega) (by unfold otc; omega)) (h2 _ (by unfold otc; omega) (by unfold otc; omega)), CW_cfr (b1 2 (by decide)) F (h2 _ (by unfold otc; omega) (by unfold otc; omega)) (h2 _ (by unfold otc; omega) (by unfold otc; omega))⟩, ⟨by rw [f.1]; exact b4, by rw [f.1]; exact b5⟩, fun _ => PA_0 (by rw [f.1]; exact b2) (by rw [f.1]; exact b3), fun z => absurd z h11, cpN_eq N (by rw [f.1]) (F _ h1').2.2.2.1⟩

/-- one row apart from the made one is filled -/
theorem C2_CTO {p i : Nat} (q : Nat) (h : C2 (stc p i + 6) q) : CTO p i q := by
  unfold C2 at h
  unfold CTO
  omega

theorem C2_out {p i k : Nat} (hk : k < 3) (q : Nat) (h : C2 (otc p k) q) : CTO p i q := by
  unfold C2 otc at h
  unfold CTO
  omega

theorem CSh_CTO {p i : Nat} (q : Nat) (h : CSh (p + 16) q) : CTO p i q := by
  unfold CSh at h
  unfold CTO
  omega
