/-! the reference lets a day pass by for a skip -/
theorem sFi_f {s : Nat → Int32} {n c : Nat} {x : Int32} (hc : c < 6) : sFi s n c x (15 + 3 * c + 2) = s (15 + 3 * c + 2) + x := by
  unfold sFi
  rw [pk_us, sCh_ne (by omega) (by omega)]
theorem sFi_c {s : Nat → Int32} {n c : Nat} {x : Int32} (hc : c < 6) : sFi s n c x (15 + 3 * c + 0) = s (15 + 3 * c + 0) + x := by
  unfold sFi
  rw [pk_un (by omega), sCh_c hc]
theorem sFi_9 {s : Nat → Int32} {n c : Nat} {x : Int32} (hc : c < 6) : sFi s n c x (34 + 10 * n + 9) = s (34 + 10 * n + 9) + x := by
  unfold sFi
  rw [pk_un (by omega), sCh_9 hc]
/-- before the load grows: hire and fines are charged, the lamp has burnt -/
theorem sDo_y {x : Nat → Int32} {j c : Nat} (hc : c < 6) {st v : Nat} (hst : st ≤ 5) (h2 : x (34 + 10 * j + 2) = nI st) (h5 : st ≠ 5 → x (34 + 10 * j + 5) = nI v) (hv : v ≤ 30) : ∃ y, sDo x j c = sLd y j ∧
    (let h := x 0 * (nI 1 + x (34 + 10 * j + 1))
     let f := if st = 5 then nI 0 else (if x (34 + 10 * j + 6) ≠ -6 ∧ x 8 ≤ x (34 + 10 * j + 6) then nI 0 else x 2) + (if v = 0 then x 3 else nI 0)
     y (34 + 10 * j + 9) = x (34 + 10 * j + 9) + (h + f) ∧ y (15 + 3 * c + 0) = x (15 + 3 * c + 0) + (h + f) ∧ y (15 + 3 * c + 2) = x (15 + 3 * c + 2) + f ∧ y (34 + 10 * j + 5) = (if st = 5 then x (34 + 10 * j + 5) else nI (v - 1)) ∧ ∀ k, k ≠ 34 + 10 * j + 9 → k ≠ 15 + 3 * c → k ≠ 15 + 3 * c + 2 → k ≠ 34 + 10 * j + 5 → y k = x k) := by
  obtain ⟨hh, ehh⟩ : ∃ hh, hh = sHi x j c := ⟨_, rfl⟩
  have hn : ∀ k, k ≠ 34 + 10 * j + 9 → k ≠ 15 + 3 * c → hh k = x k := fun k h1 h2 => by rw [ehh]; exact sCh_ne h1 h2
  have h9 : hh (34 + 10 * j + 9) = x (34 + 10 * j + 9) + x 0 * (nI 1 + x (34 + 10 * j + 1)) := by rw [ehh]; exact sCh_9 hc
  have hcc : hh (15 + 3 * c + 0) = x (15 + 3 * c + 0) + x 0 * (nI 1 + x (34 + 10 * j + 1)) := by rw [ehh]; exact sCh_c hc
  have hdo : sDo x j c = sLd (if hh (34 + 10 * j + 2) < nI 5 then sSt hh j c else hh) j := by rw [ehh]; rfl
  rw [hn (34 + 10 * j + 2) (by omega) (by omega), h2] at hdo
  by_cases q : st = 5
  · rw [if_neg (fun z => by have := (nI_ltI (by omega) (by omega)).mp z; omega)] at hdo
    refine ⟨hh, hdo, ?_⟩
    dsimp only
    rw [if_pos q, if_pos q, h9, hcc, hn (15 + 3 * c + 2) (by omega) (by omega), hn (34 + 10 * j + 5) (by omega) (by omega)]
    refine ⟨?_, ?_, (Int32.add_zero _).symm, rfl, fun k a1 a2 a3 a4 => hn k a1 a2⟩
    · rw [show nI 0 = 0 from rfl, Int32.add_zero]
    · rw [show nI 0 = 0 from rfl, Int32.add_zero]
  · rw [if_pos ((nI_ltI (by omega) (by omega)).mpr (by omega))] at hdo
    refine ⟨_, hdo, ?_⟩
    dsimp only
    rw [if_neg q, if_neg q]
    obtain ⟨f1, ef1⟩ : ∃ f1, f1 = (if hh (34 + 10 * j + 6) ≠ -6 ∧ hh 8 ≤ hh (34 + 10 * j + 6) then nI 0 else hh 2) := ⟨_, rfl⟩
    obtain ⟨s1, es1⟩ : ∃ s1, s1 = sFi hh j c f1 := ⟨_, rfl⟩
    obtain ⟨f2, ef2⟩ : ∃ f2, f2 = (if s1 (34 + 10 * j + 5) ≤ 0 then s1 3 else nI 0) := ⟨_, rfl⟩
    obtain ⟨s2, es2⟩ : ∃ s2, s2 = sFi s1 j c f2 := ⟨_, rfl⟩
    have hS : sSt hh j c = upd s2 (34 + 10 * j + 5) (s2 (34 + 10 * j + 5) - (if s2 (34 + 10 * j + 5) ≤ 0 then nI 0 else nI 1)) := by
      rw [es2, ef2, es1, ef1]
      rfl
    have n1 : s1 (34 + 10 * j + 5) = nI v := by rw [es1, sFi_ne (by omega) (by omega) (by omega), hn _ (by omega) (by omega), h5 q]
    have n2 : s2 (34 + 10 * j + 5) = nI v := by rw [es2, sFi_ne (by omega) (by omega) (by omega), n1]
    have z0 : nI v ≤ 0 ↔ v = 0 := ⟨fun z => by have := (nI_leI (b := 0) (by omega) (by omega)).mp z; omega, fun z => by rw [z]; decide⟩
    have g1 : f1 = (if x (34 + 10 * j + 6) ≠ -6 ∧ x 8 ≤ x (34 + 10 * j + 6) then nI 0 else x 2) := by rw [ef1, hn (34 + 10 * j + 6) (by omega) (by omega), hn 8 (by omega) (by omega), hn 2 (by omega) (by omega)]
    have g2 : f2 = (if v = 0 then x 3 else nI 0) := by
      rw [ef2, n1, es1, sFi_ne (by omega) (by omega) (by omega), hn 3 (by omega) (by omega)]
      by_cases q0 : v = 0
      · rw [if_pos (z0.mpr q0), if_pos q0]
      · rw [if_neg (fun z => q0 (z0.mp z)), if_neg q0]
    rw [← g1, ← g2, hS]
    have ng : ∀ k, k ≠ 34 + 10 * j + 9 → k ≠ 15 + 3 * c → k ≠ 15 + 3 * c + 2 → s2 k = x k := fun k a1 a2 a3 => by rw [es2, sFi_ne a1 a2 a3, es1, sFi_ne a1 a2 a3, hn k a1 a2]
    refine ⟨?_, ?_, ?_, ?_, fun k a1 a2 a3 a4 => by rw [pk_un a4, ng k a1 a2 a3]⟩
    · rw [pk_un (by omega), es2, sFi_9 hc, es1, sFi_9 hc, h9, Int32.add_assoc, Int32.add_assoc]
    · rw [pk_un (by omega), es2, sFi_c hc, es1, sFi_c hc, hcc, Int32.add_assoc, Int32.add_assoc]
    · rw [pk_un (by omega), es2, sFi_f hc, es1, sFi_f hc, hn (15 + 3 * c + 2) (by omega) (by omega), Int32.add_assoc]
    · rw [pk_us, n2]
      by_cases q0 : v = 0
      · rw [if_pos (z0.mpr q0), q0]
        exact Int32.sub_zero _
      · rw [if_neg (fun z => q0 (z0.mp z)), pk_sub (by omega)]
/-- the load grows -/
theorem sLd_y {y : Nat → Int32} {j z g l : Nat} (hz : z ≤ 3) (hg : g ≤ 30) (hl : l ≤ 20 + 20 * z) (h1 : y (34 + 10 * j + 1) = nI z) (h4 : y (34 + 10 * j + 4) = nI g) (h3 : y (34 + 10 * j + 3) = nI l) (hj : j < 10) : sLd y j (34 + 10 * j + 3) = nI (l + g - (l + g - (20 + 20 * z))) ∧ sLd y j (34 + 10 * j + 7) = y (34 + 10 * j + 7) + nI (l + g - (20 + 20 * z)) ∧ sLd y j 134 = y 134 + nI (l + g - (20 + 20 * z)) := by
  have eb : (if nI (l + g) ≤ nI (20 + 20 * z) then nI 0 else nI (l + g) - nI (20 + 20 * z)) = nI (l + g - (20 + 20 * z)) := by
    by_cases q : l + g ≤ 20 + 20 * z
    · rw [if_pos ((nI_leI (by omega) (by omega)).mpr q), show l + g - (20 + 20 * z) = 0 by omega]
    · rw [if_neg (fun w => q ((nI_leI (by omega) (by omega)).mp w)), pk_sub (by omega)]
  unfold sLd
  rw [h1, h3, h4, pk_mul, nI_add, nI_add, eb]
  refine ⟨?_, ?_, ?_⟩
  · rw [pk_un (by omega), pk_un (by omega), pk_us, pk_sub (by omega)]
  · rw [pk_un (by omega), pk_us, pk_un (by omega)]
  · rw [pk_us, pk_un (by omega), pk_un (by omega)]

