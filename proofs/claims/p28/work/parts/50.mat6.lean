/-! days that pass by: a skip's numbers behind d days, in one formula -/
/-- a sum over n skips -/
def zS (n : Nat) (g : Nat → Int32) : Int32 := zlp (fun j x => x + g j) n 0 (nI 0)
theorem zS_add : ∀ (r k : Nat) (x y : Int32) (g : Nat → Int32), zlp (fun j x => x + g j) r k (x + y) = zlp (fun j x => x + g j) r k x + y
  | 0, _, _, _, _ => rfl
  | r + 1, k, x, y, g => by
    show zlp (fun j x => x + g j) r (k + 1) (x + y + g k) = zlp (fun j x => x + g j) r (k + 1) (x + g k) + y
    rw [show x + y + g k = x + g k + y by rw [Int32.add_assoc, Int32.add_comm y, ← Int32.add_assoc], zS_add r (k + 1)]
theorem zS_up : ∀ (r k : Nat) (x d : Int32) (g g2 : Nat → Int32) (j : Nat), k ≤ j → j < k + r → (∀ i, i ≠ j → g2 i = g i) → g2 j = g j + d → zlp (fun j x => x + g2 j) r k x = zlp (fun j x => x + g j) r k x + d
  | 0, k, x, d, g, g2, j, h1, h2, _, _ => by omega
  | r + 1, k, x, d, g, g2, j, h1, h2, h3, h4 => by
    show zlp (fun j x => x + g2 j) r (k + 1) (x + g2 k) = zlp (fun j x => x + g j) r (k + 1) (x + g k) + d
    by_cases q : j = k
    · subst q
      rw [h4, ← Int32.add_assoc, zS_add]
      congr 1
      refine zlp_cong (N := j + 1 + r) r (j + 1) _ rfl (fun i y hi _ => ?_)
      rw [h3 i (by omega)]
    · rw [h3 k (fun z => q z.symm)]
      exact zS_up r (k + 1) (x + g k) d g g2 j (by omega) (by omega) h3 h4
theorem zS_upd {n : Nat} {d : Int32} {g g2 : Nat → Int32} {j : Nat} (hj : j < n) (h3 : ∀ i, i ≠ j → g2 i = g i) (h4 : g2 j = g j + d) : zS n g2 = zS n g + d := zS_up n 0 (nI 0) d g g2 j (by omega) (by omega) h3 h4
/-- a skip's numbers: size, street, growth, load, nights; permit days ahead of day t -/
def zNm (b : Nat → Int32) (j t z st g l v P : Nat) : Prop := z ≤ 3 ∧ st ≤ 5 ∧ g ≤ 30 ∧ l ≤ 20 + 20 * z ∧ v ≤ 30 ∧ b (34 + 10 * j + 1) = nI z ∧ b (34 + 10 * j + 2) = nI st ∧ b (34 + 10 * j + 4) = nI g ∧ b (34 + 10 * j + 3) = nI l ∧ b (34 + 10 * j + 5) = nI v ∧ P < 2 ^ 30 + 1 ∧ kPa b j (nI t) = nI P ∧ ∀ d, 1 ≤ d → d ≤ 1000 → ((b (34 + 10 * j + 6) ≠ -6 ∧ nI (t + d) ≤ b (34 + 10 * j + 6)) ↔ d ≤ P)
theorem zNm_of {b : Nat → Int32} {j B t : Nat} (h : zSk b j B) (hB : B ≤ 2 ^ 30) (ht : t ≤ 9999) : ∃ z st g l v P, zNm b j t z st g l v P := by
  obtain ⟨z, st, g, l, v, a1, a2, a3, a4, a5, b1, b2, b3, b4, b5, b6⟩ := h
  rcases b6 with e | ⟨d, hd, e⟩
  · refine ⟨z, st, g, l, v, 0, a1, a2, a3, a4, a5, b1, b2, b3, b4, b5, by omega, ?_, fun d h1 h2 => ⟨fun y => absurd e y.1, fun y => by omega⟩⟩
    unfold kPa
    rw [e, pa_6 (by omega)]
  · refine ⟨z, st, g, l, v, d - t, a1, a2, a3, a4, a5, b1, b2, b3, b4, b5, by omega, ?_, fun d2 h1 h2 => ?_⟩
    · unfold kPa
      rw [e, pa_N (by omega) (by omega)]
    · rw [e]
      exact ⟨fun y => by have := (nI_leI (by omega) (by omega)).mp y.2; omega, fun y => ⟨zm6 (by omega), (nI_leI (by omega) (by omega)).mpr (by omega)⟩⟩
theorem pk_dist (x : Int32) (a b : Nat) : x * nI (a + b) = x * nI a + x * nI b := by
  rw [← nI_add, Int32.mul_add]
/-- the formulas of the class, in Nats -/
theorem kDf_N {b : Nat → Int32} {j t z st g l v P d : Nat} (h : zNm b j t z st g l v P) (hd : d ≤ 1000) : kDf b j (nI d) (nI t) = if st = 5 then nI 0 else nI (d - P) := by
  obtain ⟨a1, a2, a3, a4, a5, b1, b2, b3, b4, b5, b6, b7, b8⟩ := h
  unfold kDf
  rw [b2, b7]
  by_cases q : st = 5
  · rw [if_pos (by rw [q]), if_pos q]
  · rw [if_neg (fun y => q ((nI_eqI (by omega) (by omega)).mp y)), if_neg q, mx0_N (by omega) (by omega)]
theorem kDd_N {b : Nat → Int32} {j t z st g l v P d : Nat} (h : zNm b j t z st g l v P) (hd : d ≤ 1000) : kDd b j (nI d) = if st = 5 then nI 0 else nI (d - v) := by
  obtain ⟨a1, a2, a3, a4, a5, b1, b2, b3, b4, b5, b6, b7, b8⟩ := h
  unfold kDd
  rw [b2, b5]
  by_cases q : st = 5
  · rw [if_pos (by rw [q]), if_pos q]
  · rw [if_neg (fun y => q ((nI_eqI (by omega) (by omega)).mp y)), if_neg q, mx0_N (by omega) (by omega)]
theorem kBe_NN {b : Nat → Int32} {j t z st g l v P d : Nat} (h : zNm b j t z st g l v P) (hd : d ≤ 1000) : kBe b j (nI d) (b (34 + 10 * j + 3)) = nI (l + g * d - (20 + 20 * z)) := by
  obtain ⟨a1, a2, a3, a4, a5, b1, b2, b3, b4, b5, b6, b7, b8⟩ := h
  have hg : g * d ≤ 30 * 1000 := Nat.mul_le_mul a3 hd
  unfold kBe kHo
  rw [b1, b3, b4, pk_mul, pk_mul, nI_add, nI_add, mx0_N (by omega) (by omega)]
theorem kHi_0 (b : Nat → Int32) (j : Nat) : kHi b j (nI 0) = nI 0 := by
  unfold kHi
  exact Int32.mul_zero
theorem kHi_s (b : Nat → Int32) (j d : Nat) : kHi b j (nI (d + 1)) = kHi b j (nI d) + b 0 * (nI 1 + b (34 + 10 * j + 1)) := by
  unfold kHi
  rw [pk_dist]
  congr 1
  exact Int32.mul_one _
theorem kFi_0 {b : Nat → Int32} {j t z st g l v P : Nat} (h : zNm b j t z st g l v P) (h8 : b 8 = nI t) : kFi b j (nI 0) = nI 0 := by
  unfold kFi
  rw [h8, kDf_N h (by omega), kDd_N h (by omega), Nat.zero_sub, Nat.zero_sub, ite_self]
  rw [show nI 0 = 0 from rfl, Int32.mul_zero, Int32.mul_zero]
  rfl
theorem kFi_s {b : Nat → Int32} {j t z st g l v P d : Nat} (h : zNm b j t z st g l v P) (h8 : b 8 = nI t) (hd : d + 1 ≤ 1000) : kFi b j (nI (d + 1)) = if st = 5 then kFi b j (nI d) else kFi b j (nI d) + (if d + 1 ≤ P then nI 0 else b 2) + (if v ≤ d then b 3 else nI 0) := by
  unfold kFi
  rw [h8, kDf_N h hd, kDd_N h hd, kDf_N h (by omega), kDd_N h (by omega)]
  by_cases q : st = 5
  · simp only [if_pos q]
  · rw [if_neg q, if_neg q, if_neg q, if_neg q, if_neg q]
    have e1 : b 2 * nI (d + 1 - P) = b 2 * nI (d - P) + (if d + 1 ≤ P then nI 0 else b 2) := by
      by_cases q1 : d + 1 ≤ P
      · rw [if_pos q1, show d + 1 - P = d - P by omega]
        exact (Int32.add_zero _).symm
      · rw [if_neg q1, show d + 1 - P = d - P + 1 by omega, pk_dist]
        congr 1
        exact Int32.mul_one _
    have e2 : b 3 * nI (d + 1 - v) = b 3 * nI (d - v) + (if v ≤ d then b 3 else nI 0) := by
      by_cases q1 : v ≤ d
      · rw [if_pos q1, show d + 1 - v = d - v + 1 by omega, pk_dist]
        congr 1
        exact Int32.mul_one _
      · rw [if_neg q1, show d + 1 - v = d - v by omega]
        exact (Int32.add_zero _).symm
    rw [e1, e2]
    generalize (if d + 1 ≤ P then nI 0 else b 2) = x
    generalize (if v ≤ d then b 3 else nI 0) = y
    generalize b 2 * nI (d - P) = u
    generalize b 3 * nI (d - v) = w
    rw [Int32.add_assoc u x, Int32.add_assoc u w, Int32.add_assoc u (w + x)]
    congr 1
    rw [← Int32.add_assoc, Int32.add_comm x w]

