/-! one day more: what isDaySo asks -/
theorem day_8 {s : Nat → Int32} {n B0 : Nat} {y9 : Int32} (hI : zIv s n B0) : cE s n (fun _ => 1) (s 8 + nI 1) y9 8 = nI (tn (s 8) + 1) := by
  rw [cE_lo (by omega), if_pos rfl, (dyN hI).2, nI_add, tn_N (by have := (dyN hI).1; omega)]
theorem day_lo {s : Nat → Int32} {n k : Nat} {y8 y9 : Int32} (hk : k < 15) (h8 : k ≠ 8) (h9 : k ≠ 9) : cE s n (fun _ => 1) y8 y9 k = s k := by rw [cE_lo hk, if_neg h8, if_neg h9]
/-- pass(1) -/
theorem day_1 {s : Nat → Int32} {n B0 B : Nat} (hI : zIv s n B0) (hJ : zJ s n B) (hB : B + 600000 ≤ 2 ^ 28) (ht : tn (s 8) < 9999) : kPas s n (nI 1) = (nI (qS n (gH s 1)), cE s n (fun _ => 1) (s 8 + nI 1) (nI 0)) := by
  have hc : nI 1 ≤ nI 1 ∧ nI 1 ≤ nI 99 := by decide
  have h8 : s 8 + nI 1 ≤ nI 9999 := by
    rw [(dyN hI).2, nI_add]
    exact (nI_leI (by omega) (by omega)).mpr (by omega)
  have e1 : (kPas s n (nI 1)).1 = nI (qS n (gH s 1)) := by
    unfold kPas
    rw [if_pos hc, if_pos h8]
    exact kDy_N hI hJ (by omega) hB
  have e2 : (kPas s n (nI 1)).2 = cE s n (fun _ => 1) (s 8 + nI 1) (nI 0) := by
    rw [kPas_eq hI]
    unfold sPas
    rw [if_pos hc, if_pos h8]
    obtain ⟨t, ht, hN⟩ := zNs_of hI
    exact sPs_E hI.1 hN ht 1 (by omega)
  rw [← e1, ← e2]
def gw (s : Nat → Int32) (j : Nat) : Nat := if fld s j 3 + fld s j 4 < 20 + 20 * fld s j 1 then fld s j 3 + fld s j 4 else 20 + 20 * fld s j 1
theorem gw_f {s : Nat → Int32} {j : Nat} (h : fld s j 3 ≤ 20 + 20 * fld s j 1) : gw s j = fld s j 3 + fld s j 4 - (fld s j 3 + fld s j 4 - (20 + 20 * fld s j 1)) ∧ gw s j ≤ fld s j 3 + fld s j 4 ∧ gw s j ≤ 20 + 20 * fld s j 1 := by
  unfold gw
  split <;> omega
theorem day_be {s : Nat → Int32} {n B0 B j : Nat} (hI : zIv s n B0) (hJ : zJ s n B) (hB : B ≤ 2 ^ 28) (hj : j < n) : kBe s j (nI 1) (s (34 + 10 * j + 3)) = nI (fld s j 3 + fld s j 4 - gw s j) := by
  obtain ⟨⟨k0, k1, k2, k3, k4, k5, k7, k8, k9⟩, h⟩ := skN hI hJ hB hj
  have := gw_f k3
  rw [h 3 (by omega) (by omega), kBe_l hI hJ hB hj (by omega) (by omega), Nat.mul_one]
  exact nIE (by omega)
theorem day_s3 {s : Nat → Int32} {n B0 B j : Nat} (hI : zIv s n B0) (hJ : zJ s n B) (hB : B ≤ 2 ^ 28) (hj : j < n) {y8 y9 : Int32} : cE s n (fun _ => 1) y8 y9 (34 + 10 * j + 3) = nI (gw s j) := by
  obtain ⟨⟨k0, k1, k2, k3, k4, k5, k7, k8, k9⟩, h⟩ := skN hI hJ hB hj
  have := gw_f k3
  rw [cE_r hI.1.1 hj (by omega)]
  show s (34 + 10 * j + 3) + (s (34 + 10 * j + 4) * nI 1 - kBe s j (nI 1) (s (34 + 10 * j + 3))) = _
  rw [day_be hI hJ hB hj, h 3 (by omega) (by omega), h 4 (by omega) (by omega), pk_mul, Nat.mul_one, pk_sub (by omega), nI_add]
  exact nIE (by omega)
theorem day_s7 {s : Nat → Int32} {n B0 B j : Nat} (hI : zIv s n B0) (hJ : zJ s n B) (hB : B ≤ 2 ^ 28) (hj : j < n) {y8 y9 : Int32} : cE s n (fun _ => 1) y8 y9 (34 + 10 * j + 7) = nI (fld s j 7 + (fld s j 3 + fld s j 4 - gw s j)) := by
  obtain ⟨-, h⟩ := skN hI hJ hB hj
  rw [cE_r hI.1.1 hj (by omega)]
  show s (34 + 10 * j + 7) + kBe s j (nI 1) (s (34 + 10 * j + 3)) = _
  rw [day_be hI hJ hB hj, h 7 (by omega) (by omega), nI_add]
theorem day_s9 {s : Nat → Int32} {n B0 B j : Nat} (hI : zIv s n B0) (hJ : zJ s n B) (hB : B ≤ 2 ^ 28) (hj : j < n) {y8 y9 : Int32} : cE s n (fun _ => 1) y8 y9 (34 + 10 * j + 9) = nI (fld s j 9 + gH s 1 j) := by
  obtain ⟨-, h⟩ := skN hI hJ hB hj
  rw [cE_r hI.1.1 hj (by omega)]
  show s (34 + 10 * j + 9) + (kHi s j (nI 1) + kFi s j (nI 1)) = _
  rw [(gHF hI hJ hj (by omega)).1, h 9 (by omega) (by omega), nI_add]
theorem day_s5 {s : Nat → Int32} {n B0 B j : Nat} (hI : zIv s n B0) (hJ : zJ s n B) (hB : B ≤ 2 ^ 28) (hj : j < n) {y8 y9 : Int32} : cE s n (fun _ => 1) y8 y9 (34 + 10 * j + 5) = nI (if fld s j 2 = 5 then fld s j 5 else fld s j 5 - 1) := by
  obtain ⟨⟨k0, k1, k2, k3, k4, k5, k7, k8, k9⟩, h⟩ := skN hI hJ hB hj
  rw [cE_r hI.1.1 hj (by omega)]
  show (if s (34 + 10 * j + 2) = nI 5 then s (34 + 10 * j + 5) else mx0 (s (34 + 10 * j + 5) - nI 1)) = _
  rw [h 2 (by omega) (by omega), h 5 (by omega) (by omega), mx0_N (by omega) (by omega)]
  by_cases q : fld s j 2 = 5
  · rw [if_pos q, if_pos (nIE q)]
  · rw [if_neg q, if_neg (fun z => q ((nI_eqI (by omega) (by omega)).mp z))]
theorem day_sf {s : Nat → Int32} {n B0 j : Nat} (hI : zIv s n B0) (hj : j < n) {y8 y9 : Int32} {f : Nat} (hf : f < 10) (h3 : f ≠ 3) (h5 : f ≠ 5) (h7 : f ≠ 7) (h9 : f ≠ 9) : cE s n (fun _ => 1) y8 y9 (34 + 10 * j + f) = s (34 + 10 * j + f) := by
  rw [cE_r hI.1.1 hj hf]
  unfold cR
  rw [if_neg h3, if_neg h7, if_neg h5, if_neg h9]
theorem day_cu {s : Nat → Int32} {n B0 B : Nat} (hI : zIv s n B0) (hJ : zJ s n B) (hB : B ≤ 2 ^ 28) {y8 y9 : Int32} {c : Nat} (hc : c < 6) : cE s n (fun _ => 1) y8 y9 (15 + 3 * c + 0) = nI (tn (s (15 + 3 * c + 0)) + qS n (fun i => if cuN s i = c then gH s 1 i else 0)) := by
  rw [cE_h hc, cH_N hI hJ (by omega), (cuN3 hJ hB hc).2.1, nI_add, tn_N (by have := (cuN3 hJ hB hc).1.2.1; omega)]
/-- the permit: for how many days ahead -/
theorem day_P {s : Nat → Int32} {n B0 j : Nat} (hI : zIv s n B0) (hj : j < n) : ∃ P, P < 2 ^ 30 + 1 ∧ kPa s j (s 8) = nI P ∧ (s (34 + 10 * j + 6) ≤ s 8 ↔ P = 0) ∧ (tn (s 8) < 9999 → ∀ y8 y9 : Int32, kPa (cE s n (fun _ => 1) y8 y9) j (nI (tn (s 8) + 1)) = nI (P - 1)) := by
  obtain ⟨t, ht, e8⟩ := hI.2.2.2.2.2.1
  have et : tn (s 8) = t := by rw [e8, tn_N (by omega)]
  rw [et]
  obtain ⟨z, st, g, l, v, a1, a2, a3, a4, a5, b1, b2, b3, b4, b5, b6⟩ := hI.2.2.2.2.2.2 j hj
  have hB0 := hI.2.1
  have e6 : ∀ y8 y9 : Int32, cE s n (fun _ => 1) y8 y9 (34 + 10 * j + 6) = s (34 + 10 * j + 6) := fun y8 y9 => day_sf hI hj (by omega) (by omega) (by omega) (by omega) (by omega)
  rcases b6 with e | ⟨d, hd, e⟩
  · refine ⟨0, by omega, ?_, ⟨fun _ => rfl, fun _ => ?_⟩, fun _ y8 y9 => ?_⟩
    · unfold kPa
      rw [e, e8, pa_6 (by omega)]
    · rw [e, e8]
      exact Int32.le_of_lt (Int32.not_le.mp (zm6l (by omega)))
    · unfold kPa
      rw [e6, e, pa_6 (by omega)]
  · refine ⟨d - t, by omega, ?_, ⟨fun z => ?_, fun z => ?_⟩, fun _ y8 y9 => ?_⟩
    · unfold kPa
      rw [e, e8, pa_N (by omega) (by omega)]
    · rw [e, e8] at z
      have := (nI_leI (by omega) (by omega)).mp z
      omega
    · rw [e, e8]
      exact (nI_leI (by omega) (by omega)).mpr (by omega)
    · unfold kPa
      rw [e6, e, pa_N (by omega) (by omega)]
      exact nIE (by omega)
/-- what the skip costs in that day -/
theorem day_due {s : Nat → Int32} {n B0 B j P : Nat} (hI : zIv s n B0) (hJ : zJ s n B) (hB : B ≤ 2 ^ 28) (hj : j < n) (hP : P < 2 ^ 30 + 1) (eP : kPa s j (s 8) = nI P) : gH s 1 j = tn (s 0) * (1 + fld s j 1) + (if fld s j 2 = 5 then 0 else if P = 0 then tn (s 2) else 0) + (if fld s j 2 = 5 then 0 else if fld s j 5 = 0 then tn (s 3) else 0) := by
  obtain ⟨⟨k0, k1, k2, k3, k4, k5, k7, k8, k9⟩, h⟩ := skN hI hJ hB hj
  obtain ⟨q0, e0⟩ := seN hI hJ (show 0 < 8 by omega)
  obtain ⟨q2, e2⟩ := seN hI hJ (show 2 < 8 by omega)
  obtain ⟨q3, e3⟩ := seN hI hJ (show 3 < 8 by omega)
  have m0 : tn (s 0) * (1 + fld s j 1) ≤ 90 * 4 := Nat.mul_le_mul q0 (by omega)
  have eH : kHi s j (nI 1) = nI (tn (s 0) * (1 + fld s j 1)) := by
    unfold kHi
    rw [e0, h 1 (by omega) (by omega), nI_add, pk_mul, pk_mul, Nat.mul_one, tn_N (by omega)]
  have eF : kFi s j (nI 1) = nI ((if fld s j 2 = 5 then 0 else if P = 0 then tn (s 2) else 0) + (if fld s j 2 = 5 then 0 else if fld s j 5 = 0 then tn (s 3) else 0)) := by
    unfold kFi kDf kDd
    rw [eP, h 2 (by omega) (by omega), h 5 (by omega) (by omega), mx0_N (by omega) (by omega), mx0_N (by omega) (by omega), e2, e3]
    by_cases q : fld s j 2 = 5
    · rw [if_pos (nIE q), if_pos (nIE q), if_pos q, if_pos q, pk_mul, pk_mul, nI_add, Nat.mul_zero, Nat.mul_zero]
    · rw [if_neg (fun z => q ((nI_eqI (by omega) (by omega)).mp z)), if_neg (fun z => q ((nI_eqI (by omega) (by omega)).mp z)), if_neg q, if_neg q, pk_mul, pk_mul, nI_add, tn_N (by omega), tn_N (by omega)]
      refine nIE ?_
      have a2 : tn (s 2) * (1 - P) = if P = 0 then tn (s 2) else 0 := by
        by_cases y : P = 0
        · rw [if_pos y, y, Nat.sub_zero, Nat.mul_one]
        · rw [if_neg y, show 1 - P = 0 by omega, Nat.mul_zero]
      have a3 : tn (s 3) * (1 - fld s j 5) = if fld s j 5 = 0 then tn (s 3) else 0 := by
        by_cases y : fld s j 5 = 0
        · rw [if_pos y, y, Nat.sub_zero, Nat.mul_one]
        · rw [if_neg y, show 1 - fld s j 5 = 0 by omega, Nat.mul_zero]
      rw [a2, a3]
  unfold gH
  rw [eH, eF, nI_add, tn_N, Nat.add_assoc]
  have x2 : (if fld s j 2 = 5 then 0 else if P = 0 then tn (s 2) else 0) ≤ 90 := by
    split
    · omega
    · split <;> omega
  have x3 : (if fld s j 2 = 5 then 0 else if fld s j 5 = 0 then tn (s 3) else 0) ≤ 90 := by
    split
    · omega
    · split <;> omega
  omega
/-- when it is full, when it is fined -/
theorem day_fine {s : Nat → Int32} {n B0 B j P : Nat} (hI : zIv s n B0) (hJ : zJ s n B) (hB : B ≤ 2 ^ 28) (hj : j < n) (hP : P < 2 ^ 30 + 1) (eP : kPa s j (s 8) = nI P) : kUn s j (s 8) = if fld s j 2 = 5 then -6 else nI (1 + (if fld s j 5 < P then fld s j 5 else P)) := by
  obtain ⟨⟨k0, k1, k2, k3, k4, k5, k7, k8, k9⟩, h⟩ := skN hI hJ hB hj
  unfold kUn
  rw [eP, h 2 (by omega) (by omega), h 5 (by omega) (by omega)]
  by_cases q : fld s j 2 = 5
  · rw [if_pos (nIE q), if_pos q]
  · rw [if_neg (fun z => q ((nI_eqI (by omega) (by omega)).mp z)), if_neg q]
    by_cases y : fld s j 5 < P
    · rw [if_pos y, if_pos ((nI_ltI (by omega) (by omega)).mpr y), nI_add]
    · rw [if_neg y, if_neg (fun z => y ((nI_ltI (by omega) (by omega)).mp z)), nI_add]
theorem day_full {s : Nat → Int32} {n B0 B j : Nat} (hI : zIv s n B0) (hJ : zJ s n B) (hB : B ≤ 2 ^ 28) (hj : j < n) : kUf s j = if 20 + 20 * fld s j 1 ≤ fld s j 3 then nI 0 else if fld s j 4 = 0 then -6 else nI ((20 + 20 * fld s j 1 - fld s j 3 + fld s j 4 - 1) / fld s j 4) := by
  obtain ⟨⟨k0, k1, k2, k3, k4, k5, k7, k8, k9⟩, h⟩ := skN hI hJ hB hj
  unfold kUf kHo
  rw [h 1 (by omega) (by omega), h 3 (by omega) (by omega), h 4 (by omega) (by omega), pk_mul, nI_add]
  by_cases q : 20 + 20 * fld s j 1 ≤ fld s j 3
  · rw [if_pos q, if_pos ((nI_leI (by omega) (by omega)).mpr q)]
  · rw [if_neg q, if_neg (fun z => q ((nI_leI (by omega) (by omega)).mp z))]
    by_cases y : fld s j 4 = 0
    · rw [if_pos y, if_pos (by rw [y]; rfl)]
    · rw [if_neg y, if_neg (fun z => y (znz z (by omega))), pk_sub (by omega), nI_add, pk_sub (by omega), pk_div (by omega) (by omega) (by omega)]
theorem day_U {l g H w : Nat} (hl : l < H) (hg : 0 < g) (hw : w = if l + g < H then l + g else H) : 1 ≤ (H - l + g - 1) / g ∧ (H - l + g - 1) / g - 1 = if H ≤ w then 0 else (H - w + g - 1) / g := by
  have e : H - l + g - 1 = (H - l - 1) + g := by omega
  rw [e, Nat.add_div_right _ hg, hw]
  refine ⟨Nat.succ_le_succ (Nat.zero_le _), ?_⟩
  show (H - l - 1) / g = _
  by_cases q : l + g < H
  · rw [if_pos q, if_neg (by omega), show H - (l + g) + g - 1 = H - l - 1 by omega]
  · rw [if_neg q, if_pos (Nat.le_refl _), Nat.div_eq_of_lt (by omega)]
