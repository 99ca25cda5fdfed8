/-! the numbers stay in range: a skip less, a skip more, days -/
theorem sTk_Iv {s : Nat → Int32} {n B : Nat} {v : Int32} (h : zIv s n B) : zIv (sTk s v).2 (nS (sTk s v).2) B := by
  have hw := h.1
  have hn := hw.1
  have hI := sSw_Iv (v := v) h
  by_cases q : (sSw s v).1 < 0
  · have e : (sTk s v).2 = (sSw s v).2 := by
      unfold sTk
      rw [if_pos q]
    rw [e, sWF_nS hI.1]
    exact hI
  · obtain ⟨j, hj, rfl⟩ := zskip hw.1 hw.2.1 (sSw_nn hw q)
    rw [sTk_nS hw hj q]
    have e := sTk_at hw hj q
    obtain ⟨hw2, hB, h7, h9, h6, h8, hs⟩ := hI
    have el : ∀ k, k < 33 → (sTk s (nI j)).2 k = (sSw s (nI j)).2 k := fun k hk => by rw [e k (by omega), if_neg (by omega), if_neg (by omega)]
    refine ⟨⟨by omega, by rw [e 33 (by omega), if_pos rfl], fun i hi => ?_⟩, hB, by rw [el 7 (by omega)]; exact h7, by rw [el 9 (by omega)]; exact h9, by rw [el 6 (by omega)]; exact h6, by rw [el 8 (by omega)]; exact h8, fun i hi => ?_⟩
    · by_cases q2 : i < j
      · rw [e _ (by omega), if_neg (by omega), if_neg (by omega)]
        exact hw2.2.2 i (by omega)
      · rw [e _ (by omega), if_neg (by omega), if_pos (by omega), show 34 + 10 * i + 0 + 10 = 34 + 10 * (i + 1) + 0 by omega]
        exact hw2.2.2 (i + 1) (by omega)
    · by_cases q2 : i < j
      · exact zSk_fr (fun f h1 h2 => by rw [e _ (by omega), if_neg (by omega), if_neg (by omega)]) (hs i (by omega))
      · have := hs (i + 1) (by omega)
        unfold zSk at this ⊢
        rw [show 34 + 10 * (i + 1) + 1 = 34 + 10 * i + 1 + 10 by omega, show 34 + 10 * (i + 1) + 2 = 34 + 10 * i + 2 + 10 by omega, show 34 + 10 * (i + 1) + 3 = 34 + 10 * i + 3 + 10 by omega, show 34 + 10 * (i + 1) + 4 = 34 + 10 * i + 4 + 10 by omega, show 34 + 10 * (i + 1) + 5 = 34 + 10 * i + 5 + 10 by omega, show 34 + 10 * (i + 1) + 6 = 34 + 10 * i + 6 + 10 by omega] at this
        rw [e (34 + 10 * i + 1) (by omega), e (34 + 10 * i + 2) (by omega), e (34 + 10 * i + 3) (by omega), e (34 + 10 * i + 4) (by omega), e (34 + 10 * i + 5) (by omega), e (34 + 10 * i + 6) (by omega), if_neg (by omega), if_pos (by omega), if_neg (by omega), if_pos (by omega), if_neg (by omega), if_pos (by omega), if_neg (by omega), if_pos (by omega), if_neg (by omega), if_pos (by omega), if_neg (by omega), if_pos (by omega)]
        exact this
theorem sTl_lt {s : Nat → Int32} (h7 : ∃ v, v ≤ 9 ∧ s 7 = nI v) (h9 : ∃ v, v ≤ 9 ∧ s 9 = nI v) (ht : ¬ sTl s = 0) : ∃ v, v ≤ 9 ∧ s 9 + nI 1 = nI v := by
  obtain ⟨v, hv, q9⟩ := h9
  obtain ⟨u, hu, q7⟩ := h7
  refine ⟨v + 1, ?_, by rw [q9, nI_add]⟩
  unfold sTl at ht
  rw [q7, q9] at ht
  by_cases q : u ≤ v
  · rw [if_pos ((nI_leI (by omega) (by omega)).mpr q)] at ht
    exact absurd rfl ht
  · omega
theorem sPuts_Iv {s : Nat → Int32} {n B : Nat} {cu z st g : Int32} (h : zIv s n B) : zIv (sPuts s n cu z st g).2 (nS (sPuts s n cu z st g).2) B := by
  have hw := h.1
  have hn := hw.1
  unfold sPuts
  by_cases q1 : (nI 0 ≤ cu ∧ cu ≤ nI 5) ∧ (nI 0 ≤ st ∧ st ≤ nI 5)
  · rw [if_pos q1]
    by_cases q2 : (nI 0 ≤ z ∧ z ≤ nI 3) ∧ (nI 0 ≤ g ∧ g ≤ nI 30)
    · rw [if_pos q2]
      by_cases q3 : (st = nI 5 ∨ sCntSt s n st < s (10 + st.toNatClampNeg)) ∧ ¬ sTl s = 0
      · rw [if_pos q3]
        by_cases q4 : s 33 = nI 10
        · rw [if_pos q4, sWF_nS hw]; exact h
        · rw [if_neg q4]
          have hn9 : n < 10 := by
            rcases Nat.lt_or_ge n 10 with y | y
            · exact y
            · exact absurd (by rw [hw.2.1, show n = 10 by omega]) q4
          obtain ⟨c, hc, rfl⟩ := zrng (x := cu) (b := 5) (by omega) q1.1
          rw [nI_clamp (by omega)]
          show zIv (sPu s n c z st g) (nS (sPu s n c z st g)) B
          have e33 : sPu s n c z st g 33 = nI (n + 1) := by rw [sPu_33 (by omega), hw.2.1, nI_add]
          have eS : nS (sPu s n c z st g) = n + 1 := by
            unfold nS
            rw [e33]
            exact nI_clamp (by omega)
          rw [eS]
          obtain ⟨-, hB, h7, h9, h6, h8, hs⟩ := id h
          have ei : ∀ k, k ≠ 33 → k ≠ 9 → (k < 34 + 10 * n ∨ 34 + 10 * n + 10 ≤ k) → k ≠ 15 + 3 * c → sPu s n c z st g k = s k := fun k a1 a2 a3 a4 => sPu_in (by omega) a1 a2 a3 a4
          have en : ∀ k, k ≠ 9 → k ≠ 34 + 10 * n + 9 → k ≠ 15 + 3 * c → sPu s n c z st g k = nSk s n c z st g k := fun k a1 a2 a3 => by rw [sPu_n, sCh_ne a2 a3, pk_un a1]
          have e9 : sPu s n c z st g 9 = s 9 + nI 1 := by rw [sPu_n, sCh_ne (by omega) (by omega), pk_us]
          refine ⟨⟨by omega, e33, fun i hi => ?_⟩, hB, by rw [ei 7 (by omega) (by omega) (by omega) (by omega)]; exact h7, by rw [e9]; exact sTl_lt h7 h9 q3.2, by rw [ei 6 (by omega) (by omega) (by omega) (by omega)]; exact h6, by rw [ei 8 (by omega) (by omega) (by omega) (by omega)]; exact h8, fun i hi => ?_⟩
          · by_cases q : i = n
            · subst q
              exact ⟨c, by omega, sPu_cu (by omega)⟩
            · rw [ei _ (by omega) (by omega) (by omega) (by omega)]
              exact hw.2.2 i (by omega)
          · by_cases q : i = n
            · subst q
              obtain ⟨zn, hz, rfl⟩ := zrng (by omega) q2.1
              obtain ⟨gn, hg, rfl⟩ := zrng (by omega) q2.2
              obtain ⟨sn, hsn, rfl⟩ := zrng (by omega) q1.2
              obtain ⟨vn, hv, e6⟩ := h6
              refine ⟨zn, sn, gn, 0, vn, hz, hsn, hg, by omega, hv, ?_, ?_, ?_, ?_, ?_, Or.inl ?_⟩
              · rw [en _ (by omega) (by omega) (by omega)]
                unfold nSk
                rw [if_neg (by omega), if_neg (by omega), if_pos rfl]
              · rw [en _ (by omega) (by omega) (by omega)]
                unfold nSk
                rw [if_neg (by omega), if_neg (by omega), if_neg (by omega), if_pos rfl]
              · rw [en _ (by omega) (by omega) (by omega)]
                unfold nSk
                rw [if_neg (by omega), if_neg (by omega), if_neg (by omega), if_neg (by omega), if_pos rfl]
              · rw [en _ (by omega) (by omega) (by omega)]
                unfold nSk
                rw [if_neg (by omega), if_neg (by omega), if_neg (by omega), if_neg (by omega), if_neg (by omega), if_neg (by omega), if_neg (by omega), if_neg (by omega), if_pos (by omega)]
              · rw [en _ (by omega) (by omega) (by omega)]
                unfold nSk
                rw [if_neg (by omega), if_neg (by omega), if_neg (by omega), if_neg (by omega), if_neg (by omega), if_pos rfl]
                exact e6
              · rw [en _ (by omega) (by omega) (by omega)]
                unfold nSk
                rw [if_neg (by omega), if_neg (by omega), if_neg (by omega), if_neg (by omega), if_neg (by omega), if_neg (by omega), if_pos rfl]
            · exact zSk_fr (fun f h1 h2 => ei _ (by omega) (by omega) (by omega) (by omega)) (hs i (by omega))
      · rw [if_neg q3, sWF_nS hw]; exact h
    · rw [if_neg q2, sWF_nS hw]; exact h
  · rw [if_neg q1, sWF_nS hw]; exact h

