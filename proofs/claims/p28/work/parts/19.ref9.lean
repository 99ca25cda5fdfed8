/-! the text: what an order is, and how the reference reads it -/
/-- the characters of a text -/
def pOK (p : Nat → Int32) (n : Nat) : Prop := n ≤ 60 ∧ ∀ k, k < n → ∃ c, 33 ≤ c ∧ c ≤ 126 ∧ p k = nI c
