set_option maxRecDepth 100000
theorem pl_257_281 {n : Nat} {x1 : Int32} {s : ps_S} {Q : Option Value → ps_S → Prop} (h :
  (pm_in x1 40 = true →
    pl_Cl n 249 [.ref 1131, .int x1, .int (ps_a s 1153 (Int32.toNatClampNeg x1)), .int 0] s (ps_rV (fun s1 =>
      (pm_in x1 40 = true →
        ((ps_a s1 1152 (Int32.toNatClampNeg x1)) ≠ 16 →
          Q none s1) ∧
        ((ps_a s1 1152 (Int32.toNatClampNeg x1)) = 16 →
          (pm_in x1 40 = true →
            pl_Cl n 249 [.ref 1131, .int x1, .int (ps_a s1 1154 (Int32.toNatClampNeg x1)), .int 0] s1 (ps_rV (fun s2 =>
              Q none s2))))))))) : pl_At (n + 1) 257 281 [(0, .ref 1131), (1, .int x1)] [] s Q :=
  pl_wp_at (stops := [(67, [0, 1, 2, 5]), (177, [0, 1, 2, 4]), (195, [0, 1, 4]), (200, [0, 1, 4]), (275, [0, 1, 4]), (281, [0, 1])]) (f := 26) h rfl


theorem any_ts {p : List Nat → Bool} : ∀ {l : List (List Nat)} {m : Nat} {y : List Nat}, l[m]? = some y → (l.take (m + 1)).any p = ((l.take m).any p || p y)
  | [], _, _, h => by cases h
  | a :: l, 0, y, h => by
    cases h
    exact Bool.or_comm (p a) false
  | a :: l, m + 1, y, h => by
    show (p a || (l.take (m + 1)).any p) = ((p a || (l.take m).any p) || p y)
    rw [any_ts (p := p) (l := l) (m := m) h, Bool.or_assoc]

def c3 (q : Bool) : Nat := if q = true then 3 else 0

theorem c3_or {q r : Bool} (h : r = true) : bcs (c3 q) 3 = c3 (q || r) := by
  rw [h]
  cases q <;> rfl

theorem c3_no {q r : Bool} (h : r = false) : c3 q = c3 (q || r) := by
  rw [h]
  cases q <;> rfl
