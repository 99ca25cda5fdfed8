/-! the reference: loops over customers and skips, puts, tips, takes, permits, oils, the days -/
theorem zlp_fst {α β : Type} (g : Nat → α → α) (u : Nat → β) : ∀ (r k : Nat) (x : α × β), (zlp (fun j (x : α × β) => (g j x.1, u j)) r k x).1 = zlp g r k x.1
  | 0, _, _ => rfl
  | r + 1, k, x => zlp_fst g u r (k + 1) (g k x.1, u k)
def cuN (s : Nat → Int32) (j : Nat) : Nat := (s (34 + 10 * j + 0)).toNatClampNeg
/-- n skips stand, each of one of the 6 customers -/
def sWF (s : Nat → Int32) (n : Nat) : Prop := n ≤ 10 ∧ s 33 = nI n ∧ ∀ j, j < n → ∃ c, c < 6 ∧ s (34 + 10 * j + 0) = nI c
theorem cuN_eq {s : Nat → Int32} {j c : Nat} (hc : c < 6) (h : s (34 + 10 * j + 0) = nI c) : cuN s j = c := by
  unfold cuN
  rw [h]
  exact nI_clamp (by omega)
theorem sLd_ne {s : Nat → Int32} {n k : Nat} (h1 : k ≠ 34 + 10 * n + 3) (h2 : k ≠ 34 + 10 * n + 7) (h3 : k ≠ 134) : sLd s n k = s k := by
  unfold sLd
  rw [pk_un h3, pk_un h2, pk_un h1]
def sDay (s : Nat → Int32) (n : Nat) : Nat → Int32 := zlp (fun j x => sDo x j (cuN x j)) n 0 (upd (upd s 8 (s 8 + nI 1)) 9 (nI 0))
def sSum (s : Nat → Int32) (w : Nat) : Int32 := zlp (fun c x => x + s (15 + 3 * c + w)) 6 0 (nI 0)
def sCntSt (s : Nat → Int32) (n : Nat) (v : Int32) : Int32 := zlp (fun j x => x + (if s (34 + 10 * j + 2) = v then nI 1 else nI 0)) n 0 (nI 0)
def sCntCu (s : Nat → Int32) (n : Nat) (v : Int32) : Int32 := zlp (fun j x => x + (if s (34 + 10 * j + 0) = v then nI 1 else nI 0)) n 0 (nI 0)
def sCntNp (s : Nat → Int32) (n : Nat) (v : Int32) : Int32 := zlp (fun j x => x + (if s (34 + 10 * j + 2) = v ∧ ¬ (s (34 + 10 * j + 6) ≠ -6 ∧ s 8 ≤ s (34 + 10 * j + 6)) then nI 1 else nI 0)) n 0 (nI 0)
def sLds (s : Nat → Int32) (n : Nat) (b : Int32) : Int32 := zlp (fun j x => x + (if b = 0 then s (34 + 10 * j + 3) else if s (34 + 10 * j + 3) = nI 20 + nI 20 * s (34 + 10 * j + 1) then nI 1 else nI 0)) n 0 (nI 0)
/-- trips left -/
def sTl (s : Nat → Int32) : Int32 := if s 7 ≤ s 9 then nI 0 else s 7 - s 9
theorem zrng {x : Int32} {b : Nat} (hb : b < 2 ^ 31) (h : nI 0 ≤ x ∧ x ≤ nI b) : ∃ c, c ≤ b ∧ x = nI c := nI_of2 (nI_toInt hb) (Int32.not_lt.mpr h.1) h.2
theorem zskip {s : Nat → Int32} {n : Nat} {x : Int32} (hn : n ≤ 10) (h33 : s 33 = nI n) (h : nI 0 ≤ x ∧ x ≤ s 33 - nI 1) : ∃ j, j < n ∧ x = nI j := by
  rw [h33] at h
  rcases Nat.eq_zero_or_pos n with z | z
  · subst z
    exact absurd (Int32.le_trans h.1 h.2) (by decide)
  · rw [pk_sub (by omega : 1 ≤ n)] at h
    obtain ⟨c, h1, h2⟩ := zrng (by omega) h
    exact ⟨c, by omega, h2⟩
def sPs (s : Nat → Int32) (n d : Nat) : Nat → Int32 := zlp (fun _ x => sDay x n) d 0 s
def sPas (s : Nat → Int32) (n : Nat) (v : Int32) : Int32 × (Nat → Int32) := if nI 1 ≤ v ∧ v ≤ nI 99 then (if s 8 + v ≤ nI 9999 then (sSum (sPs s n v.toNatClampNeg) 0 - sSum s 0, sPs s n v.toNatClampNeg) else (-4, s)) else (-2, s)
