/-! the reference lets days pass by -/
theorem sDo_cE {b : Nat → Int32} {n t : Nat} {D : Nat → Nat} {y9 : Int32} (hw : sWF b n) (hN : zNs b n t) (ht : t ≤ 9999) {j : Nat} (hj : j < n) {c : Nat} (hc : c < 6) (hcu : b (34 + 10 * j + 0) = nI c) (hd : D j + 1 ≤ 1000) : sDo (cE b n D (b 8 + nI (D j + 1)) y9) j c = cE b n (up D j (D j + 1)) (b 8 + nI (D j + 1)) y9 := by
  have hn := hw.1
  obtain ⟨z, st, g, l, v, P, hz⟩ := hN.2 j hj
  have h8 := hN.1
  obtain ⟨d, ed⟩ : ∃ d, d = D j := ⟨_, rfl⟩
  have hcN := cuN_eq hc hcu
  have eB0 := kBe_NN hz (d := d) (by omega)
  have eB1 := kBe_NN hz (d := d + 1) (by omega)
  have eF1 := kFi_s hz h8 (d := d) (by omega)
  have hz2 := hz
  obtain ⟨a1, a2, a3, a4, a5, b1, b2, b3, b4, b5, b6, b7, b8⟩ := hz
  have hgd : g * d ≤ 30 * 1000 := Nat.mul_le_mul a3 (by omega)
  have hgd1 : g * (d + 1) = g * d + g := Nat.mul_succ g d
  rw [hgd1] at eB1
  obtain ⟨G, eG⟩ : ∃ G, G = g * d := ⟨_, rfl⟩
  rw [← eG] at eB0 eB1 hgd
  rw [← ed]
  obtain ⟨x, hx⟩ : ∃ x, x = cE b n D (b 8 + nI (d + 1)) y9 := ⟨_, rfl⟩
  have hlo : ∀ k, k < 15 → k ≠ 8 → k ≠ 9 → x k = b k := fun k hk q8 q9 => by rw [hx, cE_lo hk, if_neg q8, if_neg q9]
  have hx8 : x 8 = nI (t + (d + 1)) := by rw [hx, cE_lo (by omega), if_pos rfl, h8, nI_add]
  have hr : ∀ f, f < 10 → x (34 + 10 * j + f) = cR b j d f := fun f hf => by rw [hx, cE_r hn hj hf, ← ed]
  have r1 : x (34 + 10 * j + 1) = nI z := (hr 1 (by omega)).trans b1
  have r2 : x (34 + 10 * j + 2) = nI st := (hr 2 (by omega)).trans b2
  have r4 : x (34 + 10 * j + 4) = nI g := (hr 4 (by omega)).trans b3
  have r6 : x (34 + 10 * j + 6) = b (34 + 10 * j + 6) := hr 6 (by omega)
  have r3 : x (34 + 10 * j + 3) = nI (l + G - (l + G - (20 + 20 * z))) := by
    rw [hr 3 (by omega)]
    show b (34 + 10 * j + 3) + (b (34 + 10 * j + 4) * nI d - kBe b j (nI d) (b (34 + 10 * j + 3))) = _
    rw [eB0, b3, b4, pk_mul, ← eG, pk_sub (by omega), nI_add, show l + (G - (l + G - (20 + 20 * z))) = l + G - (l + G - (20 + 20 * z)) by omega]
  have r5 : st ≠ 5 → x (34 + 10 * j + 5) = nI (v - d) := fun q => by
    rw [hr 5 (by omega)]
    show (if b (34 + 10 * j + 2) = nI 5 then b (34 + 10 * j + 5) else mx0 (b (34 + 10 * j + 5) - nI d)) = _
    rw [b2, b5, if_neg (fun w => q ((nI_eqI (by omega) (by omega)).mp w)), mx0_N (by omega) (by omega)]
  obtain ⟨y, eDo, hy⟩ := sDo_y (x := x) (j := j) hc a2 r2 r5 (by omega)
  dsimp only at hy
  rw [hlo 0 (by omega) (by omega) (by omega), hlo 2 (by omega) (by omega) (by omega), hlo 3 (by omega) (by omega) (by omega), r1, r6, hx8] at hy
  obtain ⟨f, ef⟩ : ∃ f, f = (if st = 5 then nI 0 else (if b (34 + 10 * j + 6) ≠ -6 ∧ nI (t + (d + 1)) ≤ b (34 + 10 * j + 6) then nI 0 else b 2) + (if v - d = 0 then b 3 else nI 0)) := ⟨_, rfl⟩
  rw [← ef] at hy
  have eFf : kFi b j (nI (d + 1)) = kFi b j (nI d) + f := by
    rw [eF1, ef]
    by_cases q : st = 5
    · rw [if_pos q, if_pos q]
      exact (Int32.add_zero _).symm
    · rw [if_neg q, if_neg q, Int32.add_assoc]
      congr 1
      have e1 : (if d + 1 ≤ P then nI 0 else b 2) = (if b (34 + 10 * j + 6) ≠ -6 ∧ nI (t + (d + 1)) ≤ b (34 + 10 * j + 6) then nI 0 else b 2) := by
        by_cases q1 : d + 1 ≤ P
        · rw [if_pos q1, if_pos ((b8 (d + 1) (by omega) (by omega)).mpr q1)]
        · rw [if_neg q1, if_neg (fun w => q1 ((b8 (d + 1) (by omega) (by omega)).mp w))]
      have e2 : (if v ≤ d then b 3 else nI 0) = (if v - d = 0 then b 3 else nI 0) := by
        by_cases q1 : v ≤ d
        · rw [if_pos q1, if_pos (by omega)]
        · rw [if_neg q1, if_neg (by omega)]
      rw [e1, e2]
  have eHf : kHi b j (nI (d + 1)) = kHi b j (nI d) + b 0 * (nI 1 + nI z) := by rw [kHi_s, b1]
  have e4 : ∀ p q r s : Int32, p + q + (r + s) = p + r + (q + s) := fun p q r s => by
    rw [Int32.add_assoc p q, Int32.add_assoc p r, ← Int32.add_assoc q r, Int32.add_comm q r, Int32.add_assoc r q]
  have eHF : kHi b j (nI (d + 1)) + kFi b j (nI (d + 1)) = kHi b j (nI d) + kFi b j (nI d) + (b 0 * (nI 1 + nI z) + f) := by
    rw [eHf, eFf, e4]
  obtain ⟨y9a, yc, yf, y5, yn⟩ := hy
  have eL : l + G - (l + G - (20 + 20 * z)) + g - (20 + 20 * z) = (l + (G + g) - (20 + 20 * z)) - (l + G - (20 + 20 * z)) := by omega
  have hL := sLd_y (y := y) (j := j) a1 a3 (l := l + G - (l + G - (20 + 20 * z))) (by omega) ((yn _ (by omega) (by omega) (by omega) (by omega)).trans r1) ((yn _ (by omega) (by omega) (by omega) (by omega)).trans r4) ((yn _ (by omega) (by omega) (by omega) (by omega)).trans r3) (by omega)
  obtain ⟨l3, l7, lb⟩ := hL
  have eK : kBe b j (nI (d + 1)) (b (34 + 10 * j + 3)) = kBe b j (nI d) (b (34 + 10 * j + 3)) + nI (l + G - (l + G - (20 + 20 * z)) + g - (20 + 20 * z)) := by
    rw [eB0, eB1, nI_add, eL, show l + G - (20 + 20 * z) + (l + (G + g) - (20 + 20 * z) - (l + G - (20 + 20 * z))) = l + (G + g) - (20 + 20 * z) by omega]
  have uH := cH_up (b := b) (D := D) (d := d + 1) hj (x := b 0 * (nI 1 + nI z) + f) (by rw [← ed]; exact eHF)
  have uF := cF_up (b := b) (D := D) (d := d + 1) hj (x := f) (by rw [← ed]; exact eFf)
  have uB := cB_up (b := b) (D := D) (d := d + 1) hj (by rw [← ed]; exact eK)
  rw [← hx, eDo]
  have dn : ∀ k, k ≠ 34 + 10 * j + 3 → k ≠ 34 + 10 * j + 7 → k ≠ 134 → k ≠ 34 + 10 * j + 9 → k ≠ 15 + 3 * c → k ≠ 15 + 3 * c + 2 → k ≠ 34 + 10 * j + 5 → sLd y j k = x k := fun k q1 q2 q3 q4 q5 q6 q7 => by rw [sLd_ne q1 q2 q3, yn k q4 q5 q6 q7]
  funext i
  rcases zcase hn i with q | ⟨c2, hc2, rfl⟩ | ⟨c2, hc2, rfl⟩ | ⟨c2, hc2, rfl⟩ | rfl | ⟨j2, f2, hj2, hf, rfl⟩ | q
  · rw [dn i (by omega) (by omega) (by omega) (by omega) (by omega) (by omega) (by omega), hx, cE_lo q, cE_lo q]
  · rw [cE_h hc2, uH c2, hcN]
    by_cases q : c = c2
    · subst q
      rw [if_pos rfl, sLd_ne (by omega) (by omega) (by omega), yc, hx, cE_h hc, Int32.add_assoc]
    · rw [if_neg q, dn _ (by omega) (by omega) (by omega) (by omega) (by omega) (by omega) (by omega), hx, cE_h hc2]
  · rw [cE_t hc2, dn _ (by omega) (by omega) (by omega) (by omega) (by omega) (by omega) (by omega), hx, cE_t hc2]
  · rw [cE_f hc2, uF c2, hcN]
    by_cases q : c = c2
    · subst q
      rw [if_pos rfl, sLd_ne (by omega) (by omega) (by omega), yf, hx, cE_f hc, Int32.add_assoc]
    · rw [if_neg q, dn _ (by omega) (by omega) (by omega) (by omega) (by omega) (by omega) (by omega), hx, cE_f hc2]
  · rw [cE_b, uB, lb, yn 134 (by omega) (by omega) (by omega) (by omega), hx, cE_b, Int32.add_assoc]
  · rw [cE_r hn hj2 hf]
    by_cases q : j2 = j
    · subst q
      rw [up_s]
      unfold cR
      by_cases q3 : f2 = 3
      · rw [if_pos q3, q3, l3, eB1, b3, b4, pk_mul, hgd1, ← eG, pk_sub (by omega), nI_add, show l + (G + g - (l + (G + g) - (20 + 20 * z))) = l + G - (l + G - (20 + 20 * z)) + g - (l + G - (l + G - (20 + 20 * z)) + g - (20 + 20 * z)) by omega]
      · rw [if_neg q3]
        by_cases q7 : f2 = 7
        · rw [if_pos q7, q7, l7, yn _ (by omega) (by omega) (by omega) (by omega), hr 7 (by omega), eK, ← Int32.add_assoc]
          rfl
        · rw [if_neg q7]
          by_cases q5 : f2 = 5
          · rw [if_pos q5, q5, sLd_ne (by omega) (by omega) (by omega), y5, b2, b5]
            by_cases qs : st = 5
            · rw [if_pos qs, if_pos (by rw [qs]), hr 5 (by omega)]
              show (if b (34 + 10 * j2 + 2) = nI 5 then b (34 + 10 * j2 + 5) else mx0 (b (34 + 10 * j2 + 5) - nI d)) = _
              rw [b2, if_pos (by rw [qs]), b5]
            · rw [if_neg qs, if_neg (fun w => qs ((nI_eqI (by omega) (by omega)).mp w)), mx0_N (by omega) (by omega), show v - d - 1 = v - (d + 1) by omega]
          · rw [if_neg q5]
            by_cases q9 : f2 = 9
            · rw [if_pos q9, q9, sLd_ne (by omega) (by omega) (by omega), y9a, hr 9 (by omega), eHF]
              exact Int32.add_assoc (b (34 + 10 * j2 + 9)) (kHi b j2 (nI d) + kFi b j2 (nI d)) (b 0 * (nI 1 + nI z) + f)
            · rw [if_neg q9, dn _ (by omega) (by omega) (by omega) (by omega) (by omega) (by omega) (by omega), hr f2 hf]
              unfold cR
              rw [if_neg q3, if_neg q7, if_neg q5, if_neg q9]
    · rw [up_n q, dn _ (by omega) (by omega) (by omega) (by omega) (by omega) (by omega) (by omega), hx, cE_r hn hj2 hf]
  · rw [cE_o q, dn _ (by omega) (by omega) (by omega) (by omega) (by omega) (by omega) (by omega), hx, cE_o q]

