/-! the numbers stay in range -/
theorem zSk_fr {s s' : Nat → Int32} {j B : Nat} (e : ∀ f, 1 ≤ f → f ≤ 6 → s' (34 + 10 * j + f) = s (34 + 10 * j + f)) (h : zSk s j B) : zSk s' j B := by
  unfold zSk
  rw [e 1 (by omega) (by omega), e 2 (by omega) (by omega), e 3 (by omega) (by omega), e 4 (by omega) (by omega), e 5 (by omega) (by omega), e 6 (by omega) (by omega)]
  exact h
theorem zSk_mono {s : Nat → Int32} {j B B2 : Nat} (hB : B ≤ B2) (h : zSk s j B) : zSk s j B2 := by
  obtain ⟨z, st, g, l, v, a1, a2, a3, a4, a5, b1, b2, b3, b4, b5, b6⟩ := h
  exact ⟨z, st, g, l, v, a1, a2, a3, a4, a5, b1, b2, b3, b4, b5, b6.imp id (fun ⟨d, h1, h2⟩ => ⟨d, by omega, h2⟩)⟩
theorem zIv_mono {s : Nat → Int32} {n B B2 : Nat} (hB : B ≤ B2) (h2 : B2 ≤ 2 ^ 30) (h : zIv s n B) : zIv s n B2 := ⟨h.1, h2, h.2.2.1, h.2.2.2.1, h.2.2.2.2.1, h.2.2.2.2.2.1, fun j hj => zSk_mono hB (h.2.2.2.2.2.2 j hj)⟩
/-- a row that differs only where no range is asked for, or in one skip -/
theorem zIv_fr {s s' : Nat → Int32} {n B : Nat} (h : zIv s n B) (e33 : s' 33 = s 33) (e7 : ∃ v, v ≤ 9 ∧ s' 7 = nI v) (e9 : ∃ v, v ≤ 9 ∧ s' 9 = nI v) (e6 : ∃ v, v ≤ 30 ∧ s' 6 = nI v) (e8 : ∃ d, d ≤ 9999 ∧ s' 8 = nI d) (e0 : ∀ j, j < n → s' (34 + 10 * j + 0) = s (34 + 10 * j + 0)) (ek : ∀ j, j < n → zSk s' j B) : zIv s' n B := ⟨h.1.of e33 e0, h.2.1, e7, e9, e6, e8, ek⟩
theorem sTi_Iv {s : Nat → Int32} {n B j c : Nat} (h : zIv s n B) (hj : j < n) (hc : c < 6) (ht : ¬ sTl s = 0) : zIv (sTi s j c) n B := by
  obtain ⟨hw, hB, h7, h9, h6, h8, hs⟩ := h
  have hn := hw.1
  have e : ∀ k, k ≠ 9 → k ≠ 34 + 10 * j + 9 → k ≠ 15 + 3 * c → k ≠ 15 + 3 * c + 1 → k ≠ 34 + 10 * j + 3 → sTi s j c k = s k := fun k a1 a2 a3 a4 a5 => sTi_ne a1 a2 a3 a4 a5
  have e9 : sTi s j c 9 = s 9 + nI 1 := by
    unfold sTi
    rw [pk_un (by omega), pk_un (by omega), sCh_ne (by omega) (by omega), pk_us]
  have e3 : sTi s j c (34 + 10 * j + 3) = nI 0 := by
    unfold sTi
    rw [pk_us]
  refine zIv_fr ⟨hw, hB, h7, h9, h6, h8, hs⟩ (e 33 (by omega) (by omega) (by omega) (by omega) (by omega)) ?_ ?_ ?_ ?_ (fun i hi => e _ (by omega) (by omega) (by omega) (by omega) (by omega)) (fun i hi => ?_)
  · rw [e 7 (by omega) (by omega) (by omega) (by omega) (by omega)]; exact h7
  · obtain ⟨v, hv, q9⟩ := h9
    obtain ⟨u, hu, q7⟩ := h7
    refine ⟨v + 1, ?_, by rw [e9, q9, nI_add]⟩
    unfold sTl at ht
    rw [q7, q9] at ht
    by_cases q : u ≤ v
    · rw [if_pos ((nI_leI (by omega) (by omega)).mpr q)] at ht
      exact absurd rfl ht
    · omega
  · rw [e 6 (by omega) (by omega) (by omega) (by omega) (by omega)]; exact h6
  · rw [e 8 (by omega) (by omega) (by omega) (by omega) (by omega)]; exact h8
  · by_cases q : i = j
    · subst q
      obtain ⟨z, st, g, l, v, a1, a2, a3, a4, a5, b1, b2, b3, b4, b5, b6⟩ := hs i hi
      refine ⟨z, st, g, 0, v, a1, a2, a3, by omega, a5, ?_, ?_, ?_, e3, ?_, ?_⟩
      · rw [e _ (by omega) (by omega) (by omega) (by omega) (by omega)]; exact b1
      · rw [e _ (by omega) (by omega) (by omega) (by omega) (by omega)]; exact b2
      · rw [e _ (by omega) (by omega) (by omega) (by omega) (by omega)]; exact b3
      · rw [e _ (by omega) (by omega) (by omega) (by omega) (by omega)]; exact b5
      · rw [e _ (by omega) (by omega) (by omega) (by omega) (by omega)]; exact b6
    · exact zSk_fr (fun f h1 h2 => e _ (by omega) (by omega) (by omega) (by omega) (by omega)) (hs i hi)
theorem sSw_Iv {s : Nat → Int32} {n B : Nat} {v : Int32} (h : zIv s n B) : zIv (sSw s v).2 n B := by
  have hw := h.1
  unfold sSw
  by_cases q : nI 0 ≤ v ∧ v ≤ s 33 - nI 1
  · rw [if_pos q]
    by_cases q2 : sTl s = 0
    · rw [if_pos q2]; exact h
    · rw [if_neg q2]
      obtain ⟨j, hj, rfl⟩ := zskip hw.1 hw.2.1 q
      have hn := hw.1
      obtain ⟨c, hc, hcu⟩ := hw.2.2 j hj
      show zIv (sTi s (nI j).toNatClampNeg (cuN s (nI j).toNatClampNeg)) n B
      rw [nI_clamp (by omega), cuN_eq hc hcu]
      exact sTi_Iv h hj hc q2
  · rw [if_neg q]; exact h
theorem sOi_Iv {s : Nat → Int32} {n B : Nat} {v : Int32} (h : zIv s n B) : zIv (sOi s v).2 n B := by
  have hw := h.1
  have hn := hw.1
  unfold sOi
  by_cases q : nI 0 ≤ v ∧ v ≤ s 33 - nI 1
  · rw [if_pos q]
    obtain ⟨j, hj, rfl⟩ := zskip hw.1 hw.2.1 q
    show zIv (upd s (34 + 10 * (nI j).toNatClampNeg + 5) (s 6)) n B
    rw [nI_clamp (by omega)]
    obtain ⟨-, hB, h7, h9, h6, h8, hs⟩ := id h
    refine zIv_fr h (pk_un (by omega)) (by rw [pk_un (by omega)]; exact h7) (by rw [pk_un (by omega)]; exact h9) (by rw [pk_un (by omega)]; exact h6) (by rw [pk_un (by omega)]; exact h8) (fun i hi => pk_un (by omega)) (fun i hi => ?_)
    by_cases q : i = j
    · subst q
      obtain ⟨z, st, g, l, v, a1, a2, a3, a4, a5, b1, b2, b3, b4, b5, b6⟩ := hs i hi
      obtain ⟨v2, hv2, e6⟩ := h6
      refine ⟨z, st, g, l, v2, a1, a2, a3, a4, hv2, ?_, ?_, ?_, ?_, by rw [pk_us]; exact e6, ?_⟩
      · rw [pk_un (by omega)]; exact b1
      · rw [pk_un (by omega)]; exact b2
      · rw [pk_un (by omega)]; exact b3
      · rw [pk_un (by omega)]; exact b4
      · rw [pk_un (by omega)]; exact b6
    · exact zSk_fr (fun f h1 h2 => pk_un (by omega)) (hs i hi)
  · rw [if_neg q]; exact h
theorem sGro_Iv {s : Nat → Int32} {n B : Nat} {v w : Int32} (h : zIv s n B) : zIv (sGro s v w).2 n B := by
  have hw := h.1
  have hn := hw.1
  unfold sGro
  by_cases q : nI 0 ≤ v ∧ v ≤ s 33 - nI 1
  · rw [if_pos q]
    by_cases q2 : nI 0 ≤ w ∧ w ≤ nI 30
    · rw [if_pos q2]
      obtain ⟨j, hj, rfl⟩ := zskip hw.1 hw.2.1 q
      show zIv (upd s (34 + 10 * (nI j).toNatClampNeg + 4) w) n B
      rw [nI_clamp (by omega)]
      obtain ⟨-, hB, h7, h9, h6, h8, hs⟩ := id h
      refine zIv_fr h (pk_un (by omega)) (by rw [pk_un (by omega)]; exact h7) (by rw [pk_un (by omega)]; exact h9) (by rw [pk_un (by omega)]; exact h6) (by rw [pk_un (by omega)]; exact h8) (fun i hi => pk_un (by omega)) (fun i hi => ?_)
      by_cases q : i = j
      · subst q
        obtain ⟨z, st, g, l, v, a1, a2, a3, a4, a5, b1, b2, b3, b4, b5, b6⟩ := hs i hi
        obtain ⟨g2, hg2, rfl⟩ := zrng (by omega) q2
        refine ⟨z, st, g2, l, v, a1, a2, hg2, a4, a5, ?_, ?_, pk_us, ?_, ?_, ?_⟩
        · rw [pk_un (by omega)]; exact b1
        · rw [pk_un (by omega)]; exact b2
        · rw [pk_un (by omega)]; exact b4
        · rw [pk_un (by omega)]; exact b5
        · rw [pk_un (by omega)]; exact b6
      · exact zSk_fr (fun f h1 h2 => pk_un (by omega)) (hs i hi)
    · rw [if_neg q2]; exact h
  · rw [if_neg q]; exact h

