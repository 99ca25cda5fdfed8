/-! the numbers stay in range: settings, places, permits -/
theorem sSet_Iv {s : Nat → Int32} {n B : Nat} {v w : Int32} (h : zIv s n B) : zIv (sSet s v w).2 n B := by
  unfold sSet
  by_cases q : nI 0 ≤ v ∧ v ≤ nI 7
  · rw [if_pos q]
    by_cases q2 : (if v = nI 6 then nI 1 else nI 0) ≤ w ∧ w ≤ sMost v
    · rw [if_pos q2]
      obtain ⟨j, hj, rfl⟩ := zrng (by omega) q
      show zIv (upd s (nI j).toNatClampNeg w) n B
      rw [nI_clamp (by omega)]
      obtain ⟨-, hB, h7, h9, h6, h8, hs⟩ := id h
      refine zIv_fr h (pk_un (by omega)) ?_ (by rw [pk_un (by omega)]; exact h9) ?_ (by rw [pk_un (by omega)]; exact h8) (fun i hi => pk_un (by omega)) (fun i hi => zSk_fr (fun f h1 h2 => pk_un (by omega)) (hs i hi))
      · by_cases q7 : j = 7
        · subst q7
          rw [pk_us]
          have e : sMost (nI 7) = nI 9 := by decide
          rw [e] at q2
          exact zrng (by omega) ⟨Int32.le_trans (by decide) q2.1, q2.2⟩
        · rw [pk_un (by omega)]; exact h7
      · by_cases q6 : j = 6
        · subst q6
          rw [pk_us]
          have e : sMost (nI 6) = nI 30 := by decide
          rw [e] at q2
          exact zrng (by omega) ⟨Int32.le_trans (by decide) q2.1, q2.2⟩
        · rw [pk_un (by omega)]; exact h6
    · rw [if_neg q2]; exact h
  · rw [if_neg q]; exact h
theorem sPlaces_Iv {s : Nat → Int32} {n B : Nat} {v w : Int32} (h : zIv s n B) : zIv (sPlaces s v w).2 n B := by
  unfold sPlaces
  by_cases q : nI 0 ≤ v ∧ v ≤ nI 4
  · rw [if_pos q]
    by_cases q2 : nI 1 ≤ w ∧ w ≤ nI 4
    · rw [if_pos q2]
      obtain ⟨j, hj, rfl⟩ := zrng (by omega) q
      show zIv (upd s (10 + (nI j).toNatClampNeg) w) n B
      rw [nI_clamp (by omega)]
      obtain ⟨-, hB, h7, h9, h6, h8, hs⟩ := id h
      exact zIv_fr h (pk_un (by omega)) (by rw [pk_un (by omega)]; exact h7) (by rw [pk_un (by omega)]; exact h9) (by rw [pk_un (by omega)]; exact h6) (by rw [pk_un (by omega)]; exact h8) (fun i hi => pk_un (by omega)) (fun i hi => zSk_fr (fun f h1 h2 => pk_un (by omega)) (hs i hi))
    · rw [if_neg q2]; exact h
  · rw [if_neg q]; exact h
/-- a permit lasts 99 days longer at most -/
theorem sPe_Iv {s : Nat → Int32} {n B : Nat} {v d : Int32} (h : zIv s n B) (h9 : 9999 ≤ B) (hB2 : B + 99 ≤ 2 ^ 30) : zIv (sPe s v d).2 n (B + 99) := by
  have hw := h.1
  have hn := hw.1
  have hm := zIv_mono (B2 := B + 99) (by omega) hB2 h
  unfold sPe
  by_cases q : nI 0 ≤ v ∧ v ≤ s 33 - nI 1
  · rw [if_pos q]
    by_cases q1 : nI 1 ≤ d ∧ d ≤ nI 99
    · rw [if_pos q1]
      obtain ⟨j, hj, rfl⟩ := zskip hw.1 hw.2.1 q
      obtain ⟨c, hc, hcu⟩ := hw.2.2 j hj
      rw [nI_clamp (by omega), cuN_eq hc hcu]
      by_cases q2 : s (34 + 10 * j + 2) < nI 5
      · rw [if_pos q2]
        obtain ⟨dn, hd, rfl⟩ := zrng (x := d) (b := 99) (by omega) ⟨Int32.le_trans (by decide) q1.1, q1.2⟩
        have hd1 : dn ≠ 0 := fun z => by rw [z] at q1; exact absurd q1.1 (by decide)
        obtain ⟨-, -, h7, h9', h6, h8, hs⟩ := id hm
        obtain ⟨x, hx⟩ : ∃ x, x = sCh (upd s (34 + 10 * j + 6) ((if s (34 + 10 * j + 6) ≠ -6 ∧ s 8 ≤ s (34 + 10 * j + 6) then s (34 + 10 * j + 6) else s 8 - nI 1) + nI dn)) j c (upd s (34 + 10 * j + 6) ((if s (34 + 10 * j + 6) ≠ -6 ∧ s 8 ≤ s (34 + 10 * j + 6) then s (34 + 10 * j + 6) else s 8 - nI 1) + nI dn) 1 * nI dn) := ⟨_, rfl⟩
        have e : ∀ k, k ≠ 34 + 10 * j + 6 → k ≠ 34 + 10 * j + 9 → k ≠ 15 + 3 * c → x k = s k := fun k a1 a2 a3 => by rw [hx, sCh_ne a2 a3, pk_un a1]
        have e6 : x (34 + 10 * j + 6) = (if s (34 + 10 * j + 6) ≠ -6 ∧ s 8 ≤ s (34 + 10 * j + 6) then s (34 + 10 * j + 6) else s 8 - nI 1) + nI dn := by rw [hx, sCh_ne (by omega) (by omega), pk_us]
        show zIv (sCh (upd s (34 + 10 * j + 6) _) j c _) n (B + 99)
        rw [← hx]
        refine zIv_fr hm (e 33 (by omega) (by omega) (by omega)) (by rw [e 7 (by omega) (by omega) (by omega)]; exact h7) (by rw [e 9 (by omega) (by omega) (by omega)]; exact h9') (by rw [e 6 (by omega) (by omega) (by omega)]; exact h6) (by rw [e 8 (by omega) (by omega) (by omega)]; exact h8) (fun i hi => e _ (by omega) (by omega) (by omega)) (fun i hi => ?_)
        by_cases q3 : i = j
        · subst q3
          obtain ⟨z, st, g, l, vv, a1, a2, a3, a4, a5, b1, b2, b3, b4, b5, b6⟩ := h.2.2.2.2.2.2 i hi
          obtain ⟨t, ht, e8⟩ := h8
          refine ⟨z, st, g, l, vv, a1, a2, a3, a4, a5, (e _ (by omega) (by omega) (by omega)).trans b1, (e _ (by omega) (by omega) (by omega)).trans b2, (e _ (by omega) (by omega) (by omega)).trans b3, (e _ (by omega) (by omega) (by omega)).trans b4, (e _ (by omega) (by omega) (by omega)).trans b5, Or.inr ?_⟩
          rw [e6]
          by_cases q4 : s (34 + 10 * i + 6) ≠ -6 ∧ s 8 ≤ s (34 + 10 * i + 6)
          · rw [if_pos q4]
            rcases b6 with y | ⟨d2, hd2, y⟩
            · exact absurd y q4.1
            · exact ⟨d2 + dn, by omega, by rw [y, nI_add]⟩
          · rw [if_neg q4, e8]
            refine ⟨t + dn - 1, by omega, ?_⟩
            rw [← pk_sub (show 1 ≤ t + dn by omega), ← nI_add, Int32.sub_eq_add_neg, Int32.sub_eq_add_neg, Int32.add_assoc, Int32.add_assoc, Int32.add_comm (-nI 1)]
        · exact zSk_fr (fun f h1 h2 => e _ (by omega) (by omega) (by omega)) (hs i hi)
      · rw [if_neg q2]; exact hm
    · rw [if_neg q1]; exact hm
  · rw [if_neg q]; exact hm

