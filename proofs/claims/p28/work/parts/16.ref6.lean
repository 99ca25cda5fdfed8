/-! the reference: what it tells -/
def sSk (s : Nat → Int32) (v w : Int32) : Int32 := if nI 0 ≤ v ∧ v ≤ s 33 - nI 1 then (if w = nI 0 then s (34 + 10 * v.toNatClampNeg + 0) else if w = nI 1 then s (34 + 10 * v.toNatClampNeg + 1) else if w = nI 2 then s (34 + 10 * v.toNatClampNeg + 2) else if w = nI 3 then s (34 + 10 * v.toNatClampNeg + 3) else if w = nI 4 then nI 20 + nI 20 * s (34 + 10 * v.toNatClampNeg + 1) else if w = nI 5 then s (34 + 10 * v.toNatClampNeg + 4) else if w = nI 6 then s (34 + 10 * v.toNatClampNeg + 5) else if w = nI 7 then s (34 + 10 * v.toNatClampNeg + 6) else if w = nI 8 then s (34 + 10 * v.toNatClampNeg + 7) else if w = nI 9 then s 8 - s (34 + 10 * v.toNatClampNeg + 8) else if w = nI 10 then s (34 + 10 * v.toNatClampNeg + 9) else -2) else -1
def sStr (s : Nat → Int32) (n : Nat) (v w : Int32) : Int32 := if nI 0 ≤ v ∧ v ≤ nI 4 then (if w = nI 0 then s (10 + v.toNatClampNeg) else if w = nI 1 then sCntSt s n v else if w = nI 2 then sCntNp s n v else -2) else -1
def sCus (s : Nat → Int32) (n : Nat) (v w : Int32) : Int32 := if nI 0 ≤ v ∧ v ≤ nI 5 then (if w = nI 0 then s (15 + 3 * v.toNatClampNeg + 0) else if w = nI 1 then sCntCu s n v else if w = nI 2 then s (15 + 3 * v.toNatClampNeg + 1) else if w = nI 3 then s (15 + 3 * v.toNatClampNeg + 2) else -2) else -1
def sCou (F s : Nat → Int32) (n : Nat) (v : Int32) : Int32 := if nI 0 ≤ v ∧ v ≤ nI 7 then s v.toNatClampNeg else if v = nI 8 then s 8 else if v = nI 9 then s 33 else if v = nI 10 then sTl s else if v = nI 11 then sSum s 0 else if v = nI 12 then sSum s 1 else if v = nI 13 then s 134 else if v = nI 14 then sSum s 2 else if v = nI 15 then sLds s n (nI 0) else if v = nI 16 then sLds s n (nI 1) else if v = nI 17 then F 7 else if v = nI 18 then F 3 else -2
def sHo (s : Nat → Int32) (j : Nat) : Int32 := nI 20 + nI 20 * s (34 + 10 * j + 1)
def sUf (s : Nat → Int32) (v : Int32) : Int32 := if nI 0 ≤ v ∧ v ≤ s 33 - nI 1 then
    (if sHo s v.toNatClampNeg - s (34 + 10 * v.toNatClampNeg + 3) = 0 then nI 0 else if s (34 + 10 * v.toNatClampNeg + 4) = 0 then -6 else (sHo s v.toNatClampNeg - s (34 + 10 * v.toNatClampNeg + 3) + s (34 + 10 * v.toNatClampNeg + 4) - nI 1) / s (34 + 10 * v.toNatClampNeg + 4)) else -1
def sUn (s : Nat → Int32) (v : Int32) : Int32 := if nI 0 ≤ v ∧ v ≤ s 33 - nI 1 then
    (if s (34 + 10 * v.toNatClampNeg + 2) < nI 5 then
      (let ov := if s (34 + 10 * v.toNatClampNeg + 6) ≠ -6 ∧ s 8 ≤ s (34 + 10 * v.toNatClampNeg + 6) then s (34 + 10 * v.toNatClampNeg + 6) - s 8 + nI 1 else nI 1
       let dk := s (34 + 10 * v.toNatClampNeg + 5) + nI 1
       if dk ≤ ov then dk else ov) else -6) else -1
def sCo (s a : Nat → Int32) (n : Nat) (v w : Int32) : Int32 := if nI 0 ≤ v ∧ v ≤ nI 5 then (if nI 0 ≤ w ∧ w ≤ nI 200 then sPs s n w.toNatClampNeg (15 + 3 * v.toNatClampNeg + 0) - cpA s a (15 + 3 * v.toNatClampNeg + 0) else -2) else -1
def sWf (s : Nat → Int32) (j : Nat) (ld d : Int32) : Int32 := if ld + s (34 + 10 * j + 4) * d ≤ sHo s j then nI 0 else ld + s (34 + 10 * j + 4) * d - sHo s j
def sBi (s : Nat → Int32) (j : Nat) (d k : Int32) : Int32 := sWf s j (s (34 + 10 * j + 3)) k + sWf s j (nI 0) (d - k)
def sBf (s : Nat → Int32) (j : Nat) (d : Int32) (k : Nat) (x : Int32 × Int32) : Int32 × Int32 := (if nI k = 0 ∨ sBi s j d (nI k) ≤ x.2 then nI k else x.1, if nI k = 0 ∨ sBi s j d (nI k) ≤ x.2 then sBi s j d (nI k) else x.2)
def sBs (s : Nat → Int32) (v d w : Int32) : Int32 := if nI 0 ≤ v ∧ v ≤ s 33 - nI 1 then (if (nI 1 ≤ d ∧ d ≤ nI 60) ∧ (nI 0 ≤ w ∧ w ≤ nI 1) then
    (if w = 0 then (zlp (sBf s v.toNatClampNeg d) (d.toNatClampNeg + 1) 0 (nI 0, nI 0)).1 else (zlp (sBf s v.toNatClampNeg d) (d.toNatClampNeg + 1) 0 (nI 0, nI 0)).2) else -2) else -1
