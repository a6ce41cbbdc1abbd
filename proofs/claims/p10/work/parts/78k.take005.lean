set_option maxRecDepth 100000
/-! premise by premise -/
def pr_k (st : tp_P) (k : Nat) : Nat := if k = 0 then st.1.2.1 else if k = 1 then st.1.2.2.1 else st.1.2.2.2

def ou_k (o : List Nat × (List Nat × List Nat)) (k : Nat) : List Nat := if k = 0 then o.1 else if k = 1 then o.2.1 else o.2.2

def tq_zi (D : List tq_R) (F : tq_R → Int32) (z : Int32) (st : tp_P) : Nat → Int32
  | 0 => z
  | k + 1 => tq_zi D F z st k ||| F (D.getD (pr_k st k) ([], [], 0, 0, 0))

def tq_zj (D : List tq_R) (F : tq_R → Int64) (z : Int64) (st : tp_P) : Nat → Int64
  | 0 => z
  | k + 1 => tq_zj D F z st k ||| F (D.getD (pr_k st k) ([], [], 0, 0, 0))

def tq_za (D : List tq_R) (st : tp_P) (o : List Nat × (List Nat × List Nat)) : Nat → List (List Nat)
  | 0 => []
  | k + 1 => tq_ga (ou_k o k) (tq_za D st o k) (tq_a D (pr_k st k))
