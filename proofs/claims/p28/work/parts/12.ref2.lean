/-! the reference: what changes its row s, and loops over it -/
def sCh (s : Nat → Int32) (n c : Nat) (x : Int32) : Nat → Int32 := upd (upd s (34 + 10 * n + 9) (s (34 + 10 * n + 9) + x)) (15 + 3 * c + 0) (upd s (34 + 10 * n + 9) (s (34 + 10 * n + 9) + x) (15 + 3 * c + 0) + x)
def sFi (s : Nat → Int32) (n c : Nat) (x : Int32) : Nat → Int32 := upd (sCh s n c x) (15 + 3 * c + 2) (sCh s n c x (15 + 3 * c + 2) + x)
theorem sCh_ne {s : Nat → Int32} {n c : Nat} {x : Int32} {k : Nat} (h1 : k ≠ 34 + 10 * n + 9) (h2 : k ≠ 15 + 3 * c) : sCh s n c x k = s k := by
  unfold sCh
  rw [pk_un (by omega), pk_un h1]
theorem sFi_ne {s : Nat → Int32} {n c : Nat} {x : Int32} {k : Nat} (h1 : k ≠ 34 + 10 * n + 9) (h2 : k ≠ 15 + 3 * c) (h3 : k ≠ 15 + 3 * c + 2) : sFi s n c x k = s k := by
  unfold sFi
  rw [pk_un h3, sCh_ne h1 h2]
def sHi (s : Nat → Int32) (n c : Nat) : Nat → Int32 := sCh s n c (s 0 * (nI 1 + s (34 + 10 * n + 1)))
def sSt (s : Nat → Int32) (n c : Nat) : Nat → Int32 :=
  let s1 := sFi s n c (if s (34 + 10 * n + 6) ≠ -6 ∧ s 8 ≤ s (34 + 10 * n + 6) then nI 0 else s 2)
  let s2 := sFi s1 n c (if s1 (34 + 10 * n + 5) ≤ 0 then s1 3 else nI 0)
  upd s2 (34 + 10 * n + 5) (s2 (34 + 10 * n + 5) - (if s2 (34 + 10 * n + 5) ≤ 0 then nI 0 else nI 1))
def sLd (s : Nat → Int32) (n : Nat) : Nat → Int32 :=
  let ld := s (34 + 10 * n + 3) + s (34 + 10 * n + 4)
  let b := if ld ≤ nI 20 + nI 20 * s (34 + 10 * n + 1) then nI 0 else ld - (nI 20 + nI 20 * s (34 + 10 * n + 1))
  let s1 := upd s (34 + 10 * n + 3) (ld - b)
  let s2 := upd s1 (34 + 10 * n + 7) (s1 (34 + 10 * n + 7) + b)
  upd s2 134 (s2 134 + b)
def sDo (s : Nat → Int32) (n c : Nat) : Nat → Int32 := sLd (if sHi s n c (34 + 10 * n + 2) < nI 5 then sSt (sHi s n c) n c else sHi s n c) n
