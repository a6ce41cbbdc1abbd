set_option maxRecDepth 100000
theorem mx_195 {x : Nat → Nat → Nat} {t : Int32} {s : ps_S} {d : Nat} {l1 : Int64} {f : Int32 → ps_S → Prop} (J : mJ x t s) (k : ∀ (v : Int32), (0 ≤ v.toInt) → (v.toInt ≤ 1) → (v.toInt = 0 ∨ ((ps_i s 1131 9).toInt = 3 ∧ (lg_cmp (ps_j s 1131 11) l1).toInt = 0)) → (v.toInt ≠ 0 ∨ (ps_i s 1131 9).toInt ≠ 3 ∨ (lg_cmp (ps_j s 1131 11) l1).toInt ≠ 0) → v &&& 1 = v → f v s) : ps_Cl d 195 [.ref 1131, .long l1] s (ps_rI f) := by
  refine pg_195_0 ?_
  have r1 := mf_9 J
  refine And.intro (fun h2 => ?_) (fun h2 => ?_)
  · have f3 : (ps_i s 1131 9).toInt ≠ (3 : Int) := xne h2
    exact k (0 : Int32) (show 0 ≤ (0 : Int) from by omega) (show (0 : Int) ≤ 1 from by omega) ((by first | exact Or.inl (by decide) | exact Or.inr ⟨by omega, by omega⟩)) ((by first | exact Or.inl (by decide) | exact Or.inr (Or.inl (by omega)) | exact Or.inr (Or.inr (by omega)))) (by decide)
  · have f4 : (ps_i s 1131 9).toInt = (3 : Int) := xeq h2
    refine And.intro (fun h5 => ?_) (fun h5 => ?_)
    · have f6 : (lg_cmp (ps_j s 1131 11) l1).toInt ≠ (0 : Int) := xne h5
      exact k (0 : Int32) (show 0 ≤ (0 : Int) from by omega) (show (0 : Int) ≤ 1 from by omega) ((by first | exact Or.inl (by decide) | exact Or.inr ⟨by omega, by omega⟩)) ((by first | exact Or.inl (by decide) | exact Or.inr (Or.inl (by omega)) | exact Or.inr (Or.inr (by omega)))) (by decide)
    · have f7 : (lg_cmp (ps_j s 1131 11) l1).toInt = (0 : Int) := xeq h5
      exact k (1 : Int32) (show 0 ≤ (1 : Int) from by omega) (show (1 : Int) ≤ 1 from by omega) ((by first | exact Or.inl (by decide) | exact Or.inr ⟨by omega, by omega⟩)) ((by first | exact Or.inl (by decide) | exact Or.inr (Or.inl (by omega)) | exact Or.inr (Or.inr (by omega)))) (by decide)
