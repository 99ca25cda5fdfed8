/-! what the class does with an order leaves its skips standing in order -/
theorem kPe_WF {s : Nat → Int32} {n : Nat} {v d : Int32} (h : sWF s n) : sWF (kPe s v d).2 n := by
  unfold kPe
  by_cases q : nI 0 ≤ v ∧ v ≤ s 33 - nI 1
  · rw [if_pos q]
    obtain ⟨j, hj, rfl⟩ := zskip h.1 h.2.1 q
    have hn := h.1
    obtain ⟨c, hc, hcu⟩ := h.2.2 j hj
    rw [nI_clamp (show j < 2 ^ 31 by omega), cuN_eq hc hcu]
    unfold kPej
    by_cases q1 : nI 1 ≤ d ∧ d ≤ nI 99
    · rw [if_pos q1]
      by_cases q2 : s (34 + 10 * j + 2) = nI 5
      · rw [if_pos q2]; exact h
      · rw [if_neg q2]
        exact h.of ((sCh_ne (by omega) (by omega)).trans (pk_un (by omega))) (fun i hi => (sCh_ne (by omega) (by omega)).trans (pk_un (by omega)))
    · rw [if_neg q1]; exact h
  · rw [if_neg q]; exact h
theorem kPu_eq {s : Nat → Int32} {n c : Nat} {z st g : Int32} : kPu s n c z st g = sPu s n c z st g := by rw [kPu_n, sPu_n]
theorem kPuts_WF {s : Nat → Int32} {n : Nat} {cu z st g : Int32} (h : sWF s n) : sWF (kPuts s n cu z st g).2 n ∨ (n < 10 ∧ sWF (kPuts s n cu z st g).2 (n + 1)) := by
  unfold kPuts
  by_cases q : (nI 0 ≤ cu ∧ cu ≤ nI 5) ∧ (nI 0 ≤ st ∧ st ≤ nI 5)
  · rw [if_pos q]
    split
    · split
      · split
        · next h4 =>
          obtain ⟨c, hc, rfl⟩ := zrng (by omega) q.1
          have hn := h.1
          have hn9 : n < 10 := (nI_ltI (by omega) (by omega)).mp (by rw [← h.2.1]; exact h4)
          refine Or.inr ⟨hn9, ?_⟩
          show sWF (kPu s n (nI c).toNatClampNeg z st g) (n + 1)
          rw [nI_clamp (by omega), kPu_eq]
          refine ⟨by omega, by rw [sPu_33 (by omega), h.2.1, nI_add], fun j hj => ?_⟩
          by_cases hjn : j = n
          · subst hjn
            exact ⟨c, by omega, sPu_cu (by omega)⟩
          · obtain ⟨d, g1, g2⟩ := h.2.2 j (by omega)
            exact ⟨d, g1, by rw [sPu_in (by omega) (by omega) (by omega) (by omega) (by omega)]; exact g2⟩
        · exact Or.inl h
      · exact Or.inl h
    · exact Or.inl h
  · rw [if_neg q]; exact Or.inl h
theorem kTk_WF {s : Nat → Int32} {n : Nat} {v : Int32} (h : sWF s n) : sWF (kTk s n v).2 n ∨ sWF (kTk s n v).2 (n - 1) := by
  unfold kTk
  by_cases q : (kSw s v).1 < 0
  · rw [if_pos q]; exact Or.inl (kSw_WF h)
  · rw [if_neg q]
    obtain ⟨j, hj, rfl⟩ := zskip h.1 h.2.1 (kSw_nn q)
    have hn := h.1
    have hW := kSw_WF (v := nI j) h
    refine Or.inr ?_
    generalize (kSw s (nI j)).2 = s1 at hW
    show sWF (kRo (upd s1 33 (s1 33 - nI 1)) (nI j).toNatClampNeg n) (n - 1)
    rw [nI_clamp (show j < 2 ^ 31 by omega)]
    refine ⟨by omega, ?_, fun i hi => ?_⟩
    · unfold kRo
      rw [if_neg (by omega), pk_us, hW.2.1, pk_sub (by omega)]
    · unfold kRo kSg
      rw [if_pos (by omega), show (34 + 10 * i + 0 - 34) / 10 = i by omega, show (34 + 10 * i + 0 - 34) % 10 = 0 by omega]
      by_cases q2 : i < j
      · rw [if_pos q2, pk_un (by omega)]; exact hW.2.2 i (by omega)
      · rw [if_neg q2, if_pos (by omega), pk_un (by omega)]; exact hW.2.2 (i + 1) (by omega)
theorem kPas_WF {s : Nat → Int32} {n : Nat} {d : Int32} (h : sWF s n) : sWF (kPas s n d).2 n := by
  have hD : sWF (kDy s n d).2 n := zlp_inv (f := fun j (x : Int32 × (Nat → Int32)) => (x.1 + (kHi x.2 j d + kFi x.2 j d), kPd x.2 j (cuN x.2 j) d)) (fun _ x => sWF x.2 n) n 0 (nI 0, s) h (fun k x _ hk hx => kDyI k x.2 (by omega) hx)
  unfold kPas
  split
  · split
    · show sWF (upd (upd (kDy s n d).2 8 ((kDy s n d).2 8 + d)) 9 (nI 0)) n
      exact hD.of (by rw [pk_un (show (33 : Nat) ≠ 9 by omega), pk_un (show (33 : Nat) ≠ 8 by omega)]) (fun i hi => by rw [pk_un (show 34 + 10 * i + 0 ≠ 9 by omega), pk_un (show 34 + 10 * i + 0 ≠ 8 by omega)])
    · exact h
  · exact h
