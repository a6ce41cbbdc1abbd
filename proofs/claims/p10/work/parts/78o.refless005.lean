set_option maxRecDepth 100000
theorem pl_255_255 {n : Nat} {x1 : Int32} {x2 : Int32} {x3 : Int32} {s : ps_S} {Q : Option Value → ps_S → Prop} (h :
  pl_Cl n 227 [.ref 1131, .int x3] s (ps_rV (fun s1 =>
    (pm_in x1 40 = true →
      ((ps_a s1 1152 (Int32.toNatClampNeg x1)) ≠ 10 →
        Q none s1) ∧
      ((ps_a s1 1152 (Int32.toNatClampNeg x1)) = 10 →
        pl_Cl n 227 [.ref 1131, .int x2] s1 (ps_rV (fun s2 =>
          Q none s2))))))) : pl_At (n + 1) 255 255 [(0, .ref 1131), (1, .int x1), (2, .int x2), (3, .int x3)] [] s Q :=
  pl_wp_at (stops := [(89, [0, 1, 2, 4]), (94, [0, 1, 2, 4]), (116, [0, 1]), (165, [0, 1, 2, 3]), (181, [0, 1, 2, 3]), (207, [0, 1, 2, 3]), (255, [0, 1, 2, 3])]) (f := 16) h rfl


theorem t1_is {ar : Nat → Nat} {l : List Nat} : [] ++ (l.drop 1).take (1 + en ar (l.drop 1) 1 - 1) = tq_1 ar l := by
  unfold tq_1
  rw [show 1 + en ar (l.drop 1) 1 - 1 = en ar (l.drop 1) 1 from by omega]
  rfl

theorem t2_is {ar : Nat → Nat} {l : List Nat} : [] ++ (l.drop (1 + en ar (l.drop 1) 1)).take (l.length - (1 + en ar (l.drop 1) 1)) = tq_2 ar l := by
  unfold tq_2
  rw [List.take_of_length_le (by rw [List.length_drop]; exact Nat.le_refl _), ← List.drop_drop]
  rfl

theorem TKf_0 {i : Nat} {s0 s : ps_S} (T : TKf i s0 s) : TKf i s0 (ps_ui s 1131 34 0) := TKf_q T (kqi kq_refl rfl : kq [] [34] s _) (by decide) (by decide) (by decide)

theorem PAm_0 {i bd : Nat} {s : ps_S} {A : List (List Nat)} (P : PAm s i A bd) : PAm (ps_ui s 1131 34 0) i A bd := PAm_kq P (kqi kq_refl rfl : kq [] [34] s _) (by decide) (by decide)
