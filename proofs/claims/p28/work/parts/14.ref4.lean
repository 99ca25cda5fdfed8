/-! the reference: puts, tips, swaps, takes, permits, oils -/
def sTi (s : Nat → Int32) (n c : Nat) : Nat → Int32 :=
  let ld := s (34 + 10 * n + 3)
  let s1 := upd s 9 (s 9 + nI 1)
  let s2 := sCh s1 n c (s1 5 + s1 4 * ld)
  let s3 := upd s2 (15 + 3 * c + 1) (s2 (15 + 3 * c + 1) + ld)
  upd s3 (34 + 10 * n + 3) (nI 0)
/-- swaps(v): what it answers, and the row behind it -/
def sSw (s : Nat → Int32) (v : Int32) : Int32 × (Nat → Int32) := if nI 0 ≤ v ∧ v ≤ s 33 - nI 1 then (if sTl s = 0 then (-5, s) else (s (34 + 10 * v.toNatClampNeg + 3), sTi s v.toNatClampNeg (cuN s v.toNatClampNeg))) else (-1, s)
def sTk (s : Nat → Int32) (v : Int32) : Int32 × (Nat → Int32) := if (sSw s v).1 < 0 then sSw s v else
  ((sSw s v).1, let x := zlp (fun k x => upd x (34 + 10 * v.toNatClampNeg + 0 + k) (x (34 + 10 * v.toNatClampNeg + 0 + k + 10))) (90 - 10 * v.toNatClampNeg) 0 (sSw s v).2; upd x 33 (x 33 - nI 1))
def sPe (s : Nat → Int32) (v d : Int32) : Int32 × (Nat → Int32) := if nI 0 ≤ v ∧ v ≤ s 33 - nI 1 then (if nI 1 ≤ d ∧ d ≤ nI 99 then (if s (34 + 10 * v.toNatClampNeg + 2) < nI 5 then
    (let fr := if s (34 + 10 * v.toNatClampNeg + 6) ≠ -6 ∧ s 8 ≤ s (34 + 10 * v.toNatClampNeg + 6) then s (34 + 10 * v.toNatClampNeg + 6) else s 8 - nI 1
     let s1 := upd s (34 + 10 * v.toNatClampNeg + 6) (fr + d)
     (fr + d, sCh s1 v.toNatClampNeg (cuN s v.toNatClampNeg) (s1 1 * d))) else (-5, s)) else (-2, s)) else (-1, s)
def sOi (s : Nat → Int32) (v : Int32) : Int32 × (Nat → Int32) := if nI 0 ≤ v ∧ v ≤ s 33 - nI 1 then (s (34 + 10 * v.toNatClampNeg + 5), upd s (34 + 10 * v.toNatClampNeg + 5) (s 6)) else (-1, s)
def sPu (s : Nat → Int32) (n c : Nat) (z st g : Int32) : Nat → Int32 :=
  let s1 := upd s 33 (s 33 + nI 1)
  let s2 := zlp (fun w x => upd x (34 + 10 * n + w) (nI 0)) 10 0 s1
  let s3 := upd s2 (34 + 10 * n + 0) (nI c)
  let s4 := upd s3 (34 + 10 * n + 1) z
  let s5 := upd s4 (34 + 10 * n + 2) st
  let s6 := upd s5 (34 + 10 * n + 4) g
  let s7 := upd s6 (34 + 10 * n + 5) (s6 6)
  let s8 := upd s7 (34 + 10 * n + 6) (-6)
  let s9 := upd s8 (34 + 10 * n + 8) (s8 8)
  let s10 := upd s9 9 (s9 9 + nI 1)
  sCh s10 n c (s10 5)
def sPuts (s : Nat → Int32) (n : Nat) (cu z st g : Int32) : Int32 × (Nat → Int32) := if (nI 0 ≤ cu ∧ cu ≤ nI 5) ∧ (nI 0 ≤ st ∧ st ≤ nI 5) then (if (nI 0 ≤ z ∧ z ≤ nI 3) ∧ (nI 0 ≤ g ∧ g ≤ nI 30) then
    (if (st = nI 5 ∨ sCntSt s n st < s (10 + st.toNatClampNeg)) ∧ ¬ sTl s = 0 then (if s 33 = nI 10 then (-4, s) else (nI n, sPu s n cu.toNatClampNeg z st g)) else (-5, s)) else (-2, s)) else (-1, s)
theorem sSw_nn {s : Nat → Int32} {n : Nat} {v : Int32} (hw : sWF s n) (h : ¬ (sSw s v).1 < 0) : nI 0 ≤ v ∧ v ≤ s 33 - nI 1 := by
  by_cases q : nI 0 ≤ v ∧ v ≤ s 33 - nI 1
  · exact q
  · exfalso
    unfold sSw at h
    rw [if_neg q] at h
    exact h (show (-1 : Int32) < 0 by decide)
