/-! a change on two rows that agree; a refused one leaves the row as it was -/
theorem nI_nn {v : Nat} (h : v < 2 ^ 31) : ¬ nI v < 0 := fun z => by
  have := (nI_ltI (b := 0) h (by omega)).mp z
  omega
def AP (f : (Nat → Int32) → Nat → Int32 × (Nat → Int32)) : Prop := ∀ (a b : Nat → Int32) (n B0 B : Nat), sim n a b → zIv b n B0 → zJ b n B → 9999 ≤ B0 → B0 + 99 ≤ 2 ^ 30 → B + 600000 ≤ 2 ^ 28 →
  (f a n).1 = (f b n).1 ∧ ((f b n).1 < 0 → (f a n).2 = a ∧ (f b n).2 = b) ∧ ∃ n2, sim n2 (f a n).2 (f b n).2 ∧ zIv (f b n).2 n2 (B0 + 99) ∧ zJ (f b n).2 n2 (B + 600000)
theorem AP_of {f : (Nat → Int32) → Nat → Int32 × (Nat → Int32)} (hr : ∀ s n B0 B, zIv s n B0 → zJ s n B → B + 600000 ≤ 2 ^ 28 → (f s n).1 < 0 → (f s n).2 = s) (h : ∀ (a b : Nat → Int32) (n B0 B : Nat), sim n a b → zIv b n B0 → zJ b n B → 9999 ≤ B0 → B0 + 99 ≤ 2 ^ 30 → B + 600000 ≤ 2 ^ 28 → (f a n).1 = (f b n).1 ∧ ∃ n2, sim n2 (f a n).2 (f b n).2 ∧ zIv (f b n).2 n2 (B0 + 99) ∧ zJ (f b n).2 n2 (B + 600000)) : AP f := by
  intro a b n B0 B hs hI hJ h1 h2 h3
  obtain ⟨e, q⟩ := h a b n B0 B hs hI hJ h1 h2 h3
  exact ⟨e, fun z => ⟨hr a n B0 B (zIv_sim hs hI) (zJ_sim hs hJ) h3 (by rw [e]; exact z), hr b n B0 B hI hJ h3 z⟩, q⟩
theorem set_N {s : Nat → Int32} {n B0 B k : Nat} (hI : zIv s n B0) (hJ : zJ s n B) (hk : k < 8) : ∃ v, v ≤ 90 ∧ s k = nI v := by
  by_cases q : k < 6
  · exact hJ.1 k q
  · by_cases q6 : k = 6
    · subst q6
      obtain ⟨v, hv, e⟩ := hI.2.2.2.2.1
      exact ⟨v, by omega, e⟩
    · have q7 : k = 7 := by omega
      subst q7
      obtain ⟨v, hv, e⟩ := hI.2.2.1
      exact ⟨v, by omega, e⟩
theorem sSet_R {s : Nat → Int32} {n B0 B : Nat} {v w : Int32} (hI : zIv s n B0) (hJ : zJ s n B) (q : (sSet s v w).1 < 0) : (sSet s v w).2 = s := by
  unfold sSet at q ⊢
  by_cases q1 : nI 0 ≤ v ∧ v ≤ nI 7
  · rw [if_pos q1] at q ⊢
    obtain ⟨j, hj, rfl⟩ := zrng (by omega) q1
    by_cases q2 : (if nI j = nI 6 then nI 1 else nI 0) ≤ w ∧ w ≤ sMost (nI j)
    · rw [if_pos q2, nI_clamp (by omega)] at q
      obtain ⟨x, hx, e⟩ := set_N hI hJ (show j < 8 by omega)
      have q : s j < 0 := q
      rw [e] at q
      exact absurd q (nI_nn (by omega))
    · rw [if_neg q2]
  · rw [if_neg q1]
theorem sPlaces_R {s : Nat → Int32} {n B : Nat} {v w : Int32} (hJ : zJ s n B) (q : (sPlaces s v w).1 < 0) : (sPlaces s v w).2 = s := by
  unfold sPlaces at q ⊢
  by_cases q1 : nI 0 ≤ v ∧ v ≤ nI 4
  · rw [if_pos q1] at q ⊢
    obtain ⟨j, hj, rfl⟩ := zrng (by omega) q1
    by_cases q2 : nI 1 ≤ w ∧ w ≤ nI 4
    · rw [if_pos q2, nI_clamp (by omega)] at q
      obtain ⟨x, hx, e⟩ := hJ.2.1 j (by omega)
      have q : s (10 + j) < 0 := q
      rw [e] at q
      exact absurd q (nI_nn (by omega))
    · rw [if_neg q2]
  · rw [if_neg q1]
theorem kPuts_R {s : Nat → Int32} {n : Nat} {cu z st g : Int32} (hw : sWF s n) (q : (kPuts s n cu z st g).1 < 0) : (kPuts s n cu z st g).2 = s := by
  have hn := hw.1
  unfold kPuts at q ⊢
  by_cases q1 : (nI 0 ≤ cu ∧ cu ≤ nI 5) ∧ (nI 0 ≤ st ∧ st ≤ nI 5)
  · rw [if_pos q1] at q ⊢
    by_cases q2 : (nI 0 ≤ z ∧ z ≤ nI 3) ∧ (nI 0 ≤ g ∧ g ≤ nI 30)
    · rw [if_pos q2] at q ⊢
      by_cases q3 : (st = nI 5 ∨ nI (kCs s n st) < s (10 + st.toNatClampNeg)) ∧ ¬ kTl s = 0
      · rw [if_pos q3] at q ⊢
        by_cases q4 : s 33 < nI 10
        · rw [if_pos q4] at q
          exact absurd q (nI_nn (by omega))
        · rw [if_neg q4]
      · rw [if_neg q3]
    · rw [if_neg q2]
  · rw [if_neg q1]
theorem sSw_R {s : Nat → Int32} {n B0 : Nat} {v : Int32} (hI : zIv s n B0) (q : (sSw s v).1 < 0) : (sSw s v).2 = s := by
  have hw := hI.1
  have hn := hw.1
  unfold sSw at q ⊢
  by_cases q1 : nI 0 ≤ v ∧ v ≤ s 33 - nI 1
  · rw [if_pos q1] at q ⊢
    by_cases q2 : sTl s = 0
    · rw [if_pos q2]
    · rw [if_neg q2] at q
      obtain ⟨j, hj, rfl⟩ := zskip hw.1 hw.2.1 q1
      rw [nI_clamp (by omega)] at q
      obtain ⟨z, st, g, l, vv, a1, a2, a3, a4, a5, b1, b2, b3, b4, b5, b6⟩ := hI.2.2.2.2.2.2 j hj
      have q : s (34 + 10 * j + 3) < 0 := q
      rw [b4] at q
      exact absurd q (nI_nn (by omega))
  · rw [if_neg q1]
theorem sOi_R {s : Nat → Int32} {n B0 : Nat} {v : Int32} (hI : zIv s n B0) (q : (sOi s v).1 < 0) : (sOi s v).2 = s := by
  have hw := hI.1
  have hn := hw.1
  unfold sOi at q ⊢
  by_cases q1 : nI 0 ≤ v ∧ v ≤ s 33 - nI 1
  · rw [if_pos q1] at q
    obtain ⟨j, hj, rfl⟩ := zskip hw.1 hw.2.1 q1
    rw [nI_clamp (by omega)] at q
    obtain ⟨z, st, g, l, vv, a1, a2, a3, a4, a5, b1, b2, b3, b4, b5, b6⟩ := hI.2.2.2.2.2.2 j hj
    have q : s (34 + 10 * j + 5) < 0 := q
    rw [b5] at q
    exact absurd q (nI_nn (by omega))
  · rw [if_neg q1]
theorem sGro_R {s : Nat → Int32} {n B0 : Nat} {v w : Int32} (hI : zIv s n B0) (q : (sGro s v w).1 < 0) : (sGro s v w).2 = s := by
  have hw := hI.1
  have hn := hw.1
  unfold sGro at q ⊢
  by_cases q1 : nI 0 ≤ v ∧ v ≤ s 33 - nI 1
  · rw [if_pos q1] at q ⊢
    by_cases q2 : nI 0 ≤ w ∧ w ≤ nI 30
    · rw [if_pos q2] at q
      obtain ⟨j, hj, rfl⟩ := zskip hw.1 hw.2.1 q1
      rw [nI_clamp (by omega)] at q
      obtain ⟨z, st, g, l, vv, a1, a2, a3, a4, a5, b1, b2, b3, b4, b5, b6⟩ := hI.2.2.2.2.2.2 j hj
      have q : s (34 + 10 * j + 4) < 0 := q
      rw [b3] at q
      exact absurd q (nI_nn (by omega))
    · rw [if_neg q2]
  · rw [if_neg q1]
theorem sPe_R {s : Nat → Int32} {n B0 : Nat} {v d : Int32} (hI : zIv s n B0) (q : (sPe s v d).1 < 0) : (sPe s v d).2 = s := by
  have hw := hI.1
  have hn := hw.1
  unfold sPe at q ⊢
  by_cases q1 : nI 0 ≤ v ∧ v ≤ s 33 - nI 1
  · rw [if_pos q1] at q ⊢
    by_cases q2 : nI 1 ≤ d ∧ d ≤ nI 99
    · rw [if_pos q2] at q ⊢
      obtain ⟨j, hj, rfl⟩ := zskip hw.1 hw.2.1 q1
      rw [nI_clamp (by omega)] at q ⊢
      by_cases q3 : s (34 + 10 * j + 2) < nI 5
      · rw [if_pos q3] at q
        dsimp only at q
        obtain ⟨x, hx, rfl⟩ := zrng (x := d) (b := 99) (by omega) ⟨Int32.le_trans (by decide) q2.1, q2.2⟩
        have hx1 := (nI_leI (by omega) (by omega)).mp q2.1
        obtain ⟨z, st, g, l, vv, a1, a2, a3, a4, a5, b1, b2, b3, b4, b5, b6⟩ := hI.2.2.2.2.2.2 j hj
        obtain ⟨t, ht, e8⟩ := hI.2.2.2.2.2.1
        have hB := hI.2.1
        by_cases q4 : s (34 + 10 * j + 6) ≠ -6 ∧ s 8 ≤ s (34 + 10 * j + 6)
        · rw [if_pos q4] at q
          rcases b6 with y | ⟨u, hu, y⟩
          · exact absurd y q4.1
          · rw [y, nI_add] at q
            exact absurd q (nI_nn (by omega))
        · rw [if_neg q4, e8, zsa, nI_add, pk_sub (by omega)] at q
          exact absurd q (nI_nn (by omega))
      · rw [if_neg q3]
    · rw [if_neg q2]
  · rw [if_neg q1]
/-- what all customers are charged in d days -/
theorem sSum_N {s : Nat → Int32} {n B : Nat} (hJ : zJ s n B) (hB : B ≤ 2 ^ 28) : sSum s 0 = nI (qS 6 (fun c => tn (s (15 + 3 * c + 0)))) := qS_I (fun c hc => by
  obtain ⟨C, T, F, q1, q2, q3, q4, q5, q6⟩ := hJ.2.2.1 c hc
  rw [q4, tn_N (by omega)])
theorem kDy_N {s : Nat → Int32} {n B B0 d : Nat} (hI : zIv s n B0) (hJ : zJ s n B) (hd : d ≤ 99) (hB : B + 600000 ≤ 2 ^ 28) : (kDy s n (nI d)).1 = nI (qS n (gH s d)) := by
  have hw := hI.1
  have hn := hw.1
  obtain ⟨t, ht, hN⟩ := zNs_of hI
  have hJ2 := cE_J (y9 := s 9) hI hJ hd hN.1 ht hB
  rw [(kDy_E hw hN (show d ≤ 1000 by omega)).2, cE_cong (E := fun _ => d) hn (fun j hj => if_pos hj), sSum_cE (u8 := s 8 + nI d) (u9 := s 9), sSum_N hJ2 (by omega), sSum_N hJ (by omega), qS_cong (f := fun c => tn (cE s n (fun _ => d) (s 8 + nI d) (s 9) (15 + 3 * c + 0))) (g := fun c => tn (s (15 + 3 * c + 0)) + qS n (fun j => if cuN s j = c then gH s d j else 0)) (fun c hc => by
      obtain ⟨C, T, F, q1, q2, q3, q4, q5, q6⟩ := hJ.2.2.1 c hc
      have := cH_le (c := c) hI hJ hd
      rw [cE_h hc, cH_N hI hJ hd, q4, nI_add, tn_N (by omega), tn_N (by omega)]), qS_add 6 (fun c => tn (s (15 + 3 * c + 0))) (fun c => qS n (fun j => if cuN s j = c then gH s d j else 0)), cH_all hw, pk_sub (by omega), Nat.add_sub_cancel_left]
theorem gH_le {s : Nat → Int32} {n B B0 d : Nat} (hI : zIv s n B0) (hJ : zJ s n B) (hd : d ≤ 99) : qS n (gH s d) ≤ 534600 := by
  have h1 : qS n (gH s d) ≤ n * 53460 := qS_bd (fun j hj => (gHF hI hJ hj hd).2.2.2)
  have := hI.1.1
  omega
theorem sPas_R {s : Nat → Int32} {n B0 B : Nat} {v : Int32} (hI : zIv s n B0) (hJ : zJ s n B) (hB : B + 600000 ≤ 2 ^ 28) (q : (kPas s n v).1 < 0) : (kPas s n v).2 = s := by
  unfold kPas at q ⊢
  by_cases q1 : nI 1 ≤ v ∧ v ≤ nI 99
  · rw [if_pos q1] at q ⊢
    by_cases q2 : s 8 + v ≤ nI 9999
    · rw [if_pos q2] at q
      obtain ⟨d, hd, rfl⟩ := zrng (x := v) (b := 99) (by omega) ⟨Int32.le_trans (by decide) q1.1, q1.2⟩
      dsimp only at q
      rw [kDy_N hI hJ hd hB] at q
      have := gH_le hI hJ hd
      exact absurd q (nI_nn (by omega))
    · rw [if_neg q2]
  · rw [if_neg q1]
