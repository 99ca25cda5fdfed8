/-! the class: undo; the pad -/
/-- the pad: L signs of q -/
def zPd (h : zhp) (q : Nat → Int32) (m : Nat) : Prop := (zT h 143 = 1 ∧ zR h 143 0 = some 144 ∧ zT h 144 = 9 ∧ zL h 144 = 60) ∧ zI h 143 1 = nI m ∧ pOK q m ∧ ∀ k, k < m → zI h 144 k = q k
theorem zsI_at {h : zhp} {a k : Nat} {v : Int32} : zI (zsI h a k v) a k = v := if_pos ⟨rfl, rfl⟩
theorem zsI_ne {h : zhp} {a k x j : Nat} {v : Int32} (hx : x ≠ a ∨ j ≠ k) : zI (zsI h a k v) x j = zI h x j := if_neg (fun q => hx.elim (fun z => z q.1) (fun z => z q.2))
theorem znz {a : Nat} (h : nI a = 0) (ha : a < 2 ^ 31) : a = 0 := by
  rcases Nat.eq_zero_or_pos a with q | q
  · exact q
  · have h1 : (0 : Int32) < nI a := (nI_ltI (a := 0) (by omega) ha).mpr q
    rw [h] at h1
    exact absurd h1 (by decide)
