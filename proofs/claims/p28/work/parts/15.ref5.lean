/-! the reference: asides, the history, the changes -/
/-- the first 135 of s over a -/
def cpA (s a : Nat → Int32) : Nat → Int32 := zlp (fun k x => upd x k (s k)) 135 0 a
def sMost (v : Int32) : Int32 := if v = nI 0 ∨ v = nI 1 then nI 20 else if v = nI 2 ∨ v = nI 3 ∨ v = nI 5 then nI 90 else if v = nI 6 then nI 30 else nI 9
def sSet (s : Nat → Int32) (v w : Int32) : Int32 × (Nat → Int32) := if nI 0 ≤ v ∧ v ≤ nI 7 then (if (if v = nI 6 then nI 1 else nI 0) ≤ w ∧ w ≤ sMost v then (s v.toNatClampNeg, upd s v.toNatClampNeg w) else (-2, s)) else (-2, s)
def sPlaces (s : Nat → Int32) (v w : Int32) : Int32 × (Nat → Int32) := if nI 0 ≤ v ∧ v ≤ nI 4 then (if nI 1 ≤ w ∧ w ≤ nI 4 then (s (10 + v.toNatClampNeg), upd s (10 + v.toNatClampNeg) w) else (-2, s)) else (-1, s)
def sGro (s : Nat → Int32) (v w : Int32) : Int32 × (Nat → Int32) := if nI 0 ≤ v ∧ v ≤ s 33 - nI 1 then (if nI 0 ≤ w ∧ w ≤ nI 30 then (s (34 + 10 * v.toNatClampNeg + 4), upd s (34 + 10 * v.toNatClampNeg + 4) w) else (-2, s)) else (-1, s)
