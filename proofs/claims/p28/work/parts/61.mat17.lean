/-! the numbers stay in range: days -/
theorem sPas_Iv {s : Nat → Int32} {n B : Nat} {v : Int32} (h : zIv s n B) : zIv (sPas s n v).2 n B := by
  have hw := h.1
  have hn := hw.1
  obtain ⟨t, ht, hN⟩ := zNs_of h
  unfold sPas
  by_cases q : nI 1 ≤ v ∧ v ≤ nI 99
  · rw [if_pos q]
    obtain ⟨d, hd, rfl⟩ := zrng (x := v) (b := 99) (by omega) ⟨Int32.le_trans (by decide) q.1, q.2⟩
    by_cases q2 : s 8 + nI d ≤ nI 9999
    · rw [if_pos q2, nI_clamp (by omega)]
      show zIv (sPs s n d) n B
      have hd1 : d ≠ 0 := fun z => by rw [z] at q; exact absurd q.1 (by decide)
      rw [sPs_E hw hN ht d (by omega), if_neg hd1]
      have h8 := hN.1
      rw [h8, nI_add] at q2
      have htd : t + d ≤ 9999 := (nI_leI (by omega) (by omega)).mp q2
      obtain ⟨-, hB, h7, h9, h6, -, hs⟩ := id h
      refine zIv_fr h (cE_o (Or.inl rfl)) (by rw [cE_lo (by omega), if_neg (by omega), if_neg (by omega)]; exact h7) ⟨0, by omega, by rw [cE_lo (by omega), if_neg (by omega), if_pos rfl]⟩ (by rw [cE_lo (by omega), if_neg (by omega), if_neg (by omega)]; exact h6) ⟨t + d, htd, by rw [cE_lo (by omega), if_pos rfl, h8, nI_add]⟩ (fun i hi => cE_cu hn hi) (fun i hi => ?_)
      obtain ⟨z, st, g, l, vv, P, hz⟩ := hN.2 i hi
      obtain ⟨z2, st2, g2, l2, v2, -, -, -, -, -, -, -, -, -, -, b6⟩ := hs i hi
      have eB := kBe_NN hz (d := d) (by omega)
      obtain ⟨a1, a2, a3, a4, a5, b1, b2, b3, b4, b5, c6, c7, c8⟩ := hz
      have hgd : g * d ≤ 30 * 99 := Nat.mul_le_mul a3 hd
      have r : ∀ f, f < 10 → cE s n (fun _ => d) (s 8 + nI d) (nI 0) (34 + 10 * i + f) = cR s i d f := fun f hf => cE_r hn hi hf
      refine ⟨z, st, g, l + g * d - (l + g * d - (20 + 20 * z)), if st = 5 then vv else vv - d, a1, a2, a3, by omega, by split <;> omega, (r 1 (by omega)).trans b1, (r 2 (by omega)).trans b2, (r 4 (by omega)).trans b3, ?_, ?_, ?_⟩
      · rw [r 3 (by omega)]
        show s (34 + 10 * i + 3) + (s (34 + 10 * i + 4) * nI d - kBe s i (nI d) (s (34 + 10 * i + 3))) = _
        rw [eB, b3, b4, pk_mul, pk_sub (by omega), nI_add, show l + (g * d - (l + g * d - (20 + 20 * z))) = l + g * d - (l + g * d - (20 + 20 * z)) by omega]
      · rw [r 5 (by omega)]
        show (if s (34 + 10 * i + 2) = nI 5 then s (34 + 10 * i + 5) else mx0 (s (34 + 10 * i + 5) - nI d)) = _
        rw [b2, b5]
        by_cases q5 : st = 5
        · rw [if_pos (by rw [q5]), if_pos q5]
        · rw [if_neg (fun w => q5 ((nI_eqI (by omega) (by omega)).mp w)), if_neg q5, mx0_N (by omega) (by omega)]
      · have e6 : cE s n (fun _ => d) (s 8 + nI d) (nI 0) (34 + 10 * i + 6) = s (34 + 10 * i + 6) := r 6 (by omega)
        rw [e6]
        exact b6
    · rw [if_neg q2]; exact h
  · rw [if_neg q]; exact h
