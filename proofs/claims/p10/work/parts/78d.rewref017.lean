set_option maxRecDepth 100000
/-- what is bound, by places: the reference's -/
def BNm (s : ps_S) (l : List Nat) (B : Nat → Option (List Nat)) : Prop := ∀ k, k < 20 → (B k = none ∧ (ps_a s 1167 k).toInt = -1) ∨ ∃ a b : Nat, (ps_a s 1167 k).toInt = a ∧ (ps_a s 1168 k).toInt = b ∧ a ≤ b ∧ b ≤ l.length ∧ B k = some ((l.drop a).take (b - a))

theorem BNm_put {s : ps_S} {l T : List Nat} {B : Nat → Option (List Nat)} {k p e : Nat} {x v : Int32} (b : BNm s l B) (hx : x.toInt = p) (hv : v.toInt = e) (hpe : p ≤ e) (he : e ≤ l.length) (hT : T = (l.drop p).take (e - p)) : BNm (ps_ua (ps_ua s 1167 k x) 1168 k v) l (rw_u B k T) := fun j hj => by
  unfold rw_u
  by_cases ej : j = k
  · right
    refine ⟨p, e, ?_, ?_, hpe, he, ?_⟩
    · rw [ps_a_ua, if_neg (by omega), ps_a_ua, if_pos ⟨rfl, ej⟩]
      exact hx
    · rw [ps_a_ua, if_pos ⟨rfl, ej⟩]
      exact hv
    · rw [if_pos ej, hT]
  · rw [if_neg ej, ps_a_ua, if_neg (by omega), ps_a_ua, if_neg (by omega), ps_a_ua, if_neg (by omega), ps_a_ua, if_neg (by omega)]
    exact b j hj

theorem rw_u_id {B : Nat → Option (List Nat)} {k : Nat} {U : List Nat} (h : B k = some U) : rw_u B k U = B := by
  funext q
  unfold rw_u
  by_cases e : q = k
  · rw [if_pos e, e, h]
  · rw [if_neg e]

def KBm (s0 s : ps_S) : Prop := kq [1167, 1168] [65] s0 s
