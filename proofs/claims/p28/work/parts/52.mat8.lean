/-! the class lets days pass by for a skip -/
theorem kAg_3 {s : Nat → Int32} {n : Nat} {d : Int32} : kAg s n d (34 + 10 * n + 3) = s (34 + 10 * n + 3) + (s (34 + 10 * n + 4) * d - kBe s n d (s (34 + 10 * n + 3))) := by
  unfold kAg
  split
  · rw [pk_un (by omega), pk_us]
  · rw [pk_un (by omega), pk_un (by omega), pk_us]
theorem kAg_7 {s : Nat → Int32} {n : Nat} {d : Int32} : kAg s n d (34 + 10 * n + 7) = s (34 + 10 * n + 7) + kBe s n d (s (34 + 10 * n + 3)) := by
  unfold kAg
  split
  · rw [pk_us, pk_un (by omega)]
  · rw [pk_un (by omega), pk_us, pk_un (by omega)]
theorem kAg_5 {s : Nat → Int32} {n : Nat} {d : Int32} : kAg s n d (34 + 10 * n + 5) = if s (34 + 10 * n + 2) = nI 5 then s (34 + 10 * n + 5) else mx0 (s (34 + 10 * n + 5) - d) := by
  unfold kAg
  rw [pk_un (show 34 + 10 * n + 2 ≠ 34 + 10 * n + 7 by omega), pk_un (show 34 + 10 * n + 2 ≠ 34 + 10 * n + 3 by omega)]
  by_cases q : s (34 + 10 * n + 2) = nI 5
  · rw [if_pos q, if_pos q, pk_un (by omega), pk_un (by omega)]
  · rw [if_neg q, if_neg q, pk_us, pk_un (by omega), pk_un (by omega)]
theorem sCh_c {s : Nat → Int32} {n c : Nat} {x : Int32} (hc : c < 6) : sCh s n c x (15 + 3 * c + 0) = s (15 + 3 * c + 0) + x := by
  unfold sCh
  rw [pk_us, pk_un (by omega)]
theorem sCh_9 {s : Nat → Int32} {n c : Nat} {x : Int32} (hc : c < 6) : sCh s n c x (34 + 10 * n + 9) = s (34 + 10 * n + 9) + x := by
  unfold sCh
  rw [pk_un (by omega), pk_us]
theorem cE_lo8 {b : Nat → Int32} {n : Nat} {D : Nat → Nat} {k : Nat} (hk : k < 15) : cE b n D (b 8) (b 9) k = b k := by
  rw [cE_lo hk]
  by_cases q8 : k = 8
  · rw [if_pos q8, q8]
  · rw [if_neg q8]
    by_cases q9 : k = 9
    · rw [if_pos q9, q9]
    · rw [if_neg q9]
theorem z0a (x : Int32) : x = nI 0 + nI 0 + x := by
  show x = 0 + 0 + x
  rw [Int32.zero_add, Int32.zero_add]
theorem z0b (x : Int32) : x = nI 0 + x := by
  show x = 0 + x
  rw [Int32.zero_add]
theorem kPd_cE {b : Nat → Int32} {n t : Nat} {D : Nat → Nat} (hw : sWF b n) (hN : zNs b n t) {j : Nat} (hj : j < n) (hD : D j = 0) {c : Nat} (hc : c < 6) (hcu : b (34 + 10 * j + 0) = nI c) {d : Nat} (hd : d ≤ 1000) : kPd (cE b n D (b 8) (b 9)) j c (nI d) = cE b n (up D j d) (b 8) (b 9) := by
  have hn := hw.1
  obtain ⟨z, st, g, l, v, P, hz⟩ := hN.2 j hj
  obtain ⟨x, hx⟩ : ∃ x, x = cE b n D (b 8) (b 9) := ⟨_, rfl⟩
  have hlo : ∀ k, k < 15 → x k = b k := fun k hk => by rw [hx]; exact cE_lo8 hk
  have hrow : ∀ f, f < 10 → x (34 + 10 * j + f) = b (34 + 10 * j + f) := fun f hf => by rw [hx, cE_r hn hj hf, hD]; exact cR_0 hz hN.1 f
  have eH : kHi x j (nI d) = kHi b j (nI d) := by
    unfold kHi
    rw [hlo 0 (by omega), hrow 1 (by omega)]
  have eF : kFi x j (nI d) = kFi b j (nI d) := by
    unfold kFi kDf kDd kPa
    rw [hlo 2 (by omega), hlo 3 (by omega), hlo 8 (by omega), hrow 2 (by omega), hrow 5 (by omega), hrow 6 (by omega)]
  have hcN := cuN_eq hc hcu
  have uH := cH_up (b := b) (D := D) (d := d) hj (x := kHi b j (nI d) + kFi b j (nI d)) (by rw [hD, kHi_0, kFi_0 hz hN.1]; exact z0a _)
  have uF := cF_up (b := b) (D := D) (d := d) hj (x := kFi b j (nI d)) (by rw [hD, kFi_0 hz hN.1]; exact z0b _)
  have e0 : kBe b j (nI 0) (b (34 + 10 * j + 3)) = nI 0 := by
    rw [kBe_NN hz (by omega)]
    obtain ⟨a1, a2, a3, a4, -⟩ := hz
    rw [show l + g * 0 - (20 + 20 * z) = 0 by omega]
  have uB := cB_up (b := b) (D := D) (d := d) hj (x := kBe b j (nI d) (b (34 + 10 * j + 3))) (by rw [hD, e0]; exact z0b _)
  rw [← hx]
  obtain ⟨s2, hs2⟩ : ∃ s2, s2 = upd (sCh x j c (kHi x j (nI d) + kFi x j (nI d))) (15 + 3 * c + 2) (sCh x j c (kHi x j (nI d) + kFi x j (nI d)) (15 + 3 * c + 2) + kFi x j (nI d)) := ⟨_, rfl⟩
  have s2n : ∀ k, k ≠ 34 + 10 * j + 9 → k ≠ 15 + 3 * c → k ≠ 15 + 3 * c + 2 → s2 k = x k := fun k h1 h2 h3 => by rw [hs2, pk_un h3, sCh_ne h1 h2]
  have eB : kBe s2 j (nI d) (s2 (34 + 10 * j + 3)) = kBe b j (nI d) (b (34 + 10 * j + 3)) := by
    unfold kBe kHo
    rw [s2n (34 + 10 * j + 3) (by omega) (by omega) (by omega), s2n (34 + 10 * j + 4) (by omega) (by omega) (by omega), s2n (34 + 10 * j + 1) (by omega) (by omega) (by omega), hrow 3 (by omega), hrow 4 (by omega), hrow 1 (by omega)]
  have hP : kPd x j c (nI d) = upd (kAg s2 j (nI d)) 134 (s2 134 + kBe s2 j (nI d) (s2 (34 + 10 * j + 3))) := by
    rw [hs2]
    rfl
  funext i
  rcases zcase hn i with q | ⟨c2, hc2, rfl⟩ | ⟨c2, hc2, rfl⟩ | ⟨c2, hc2, rfl⟩ | rfl | ⟨j2, f, hj2, hf, rfl⟩ | q
  · rw [kPd_ne (by omega) (by omega) (by omega) (by omega) (by omega) (by omega) (by omega), hlo i q, cE_lo8 q]
  · rw [cE_h hc2, uH c2, hcN]
    by_cases q : c = c2
    · subst q
      rw [if_pos rfl, hP, pk_un (by omega), kAg_ne (by omega) (by omega) (by omega), hs2, pk_un (by omega), sCh_c hc, hx, cE_h hc, ← hx, eH, eF, Int32.add_assoc]
    · rw [if_neg q, kPd_ne (by omega) (by omega) (by omega) (by omega) (by omega) (by omega) (by omega), hx, cE_h hc2]
  · rw [cE_t hc2, kPd_ne (by omega) (by omega) (by omega) (by omega) (by omega) (by omega) (by omega), hx, cE_t hc2]
  · rw [cE_f hc2, uF c2, hcN]
    by_cases q : c = c2
    · subst q
      rw [if_pos rfl, hP, pk_un (by omega), kAg_ne (by omega) (by omega) (by omega), hs2, pk_us, sCh_ne (by omega) (by omega), hx, cE_f hc, ← hx, eF, Int32.add_assoc]
    · rw [if_neg q, kPd_ne (by omega) (by omega) (by omega) (by omega) (by omega) (by omega) (by omega), hx, cE_f hc2]
  · rw [cE_b, uB, hP, pk_us, eB, s2n 134 (by omega) (by omega) (by omega), hx, cE_b, Int32.add_assoc]
  · rw [cE_r hn hj2 hf]
    by_cases q : j2 = j
    · subst q
      rw [up_s]
      unfold cR
      by_cases q3 : f = 3
      · rw [if_pos q3, q3, hP, pk_un (by omega), kAg_3, eB, s2n (34 + 10 * j2 + 3) (by omega) (by omega) (by omega), s2n (34 + 10 * j2 + 4) (by omega) (by omega) (by omega), hrow 3 (by omega), hrow 4 (by omega)]
      · rw [if_neg q3]
        by_cases q7 : f = 7
        · rw [if_pos q7, q7, hP, pk_un (by omega), kAg_7, eB, s2n (34 + 10 * j2 + 7) (by omega) (by omega) (by omega), hrow 7 (by omega)]
        · rw [if_neg q7]
          by_cases q5 : f = 5
          · rw [if_pos q5, q5, hP, pk_un (by omega), kAg_5, s2n (34 + 10 * j2 + 5) (by omega) (by omega) (by omega), s2n (34 + 10 * j2 + 2) (by omega) (by omega) (by omega), hrow 5 (by omega), hrow 2 (by omega)]
          · rw [if_neg q5]
            by_cases q9 : f = 9
            · rw [if_pos q9, q9, hP, pk_un (by omega), kAg_ne (by omega) (by omega) (by omega), hs2, pk_un (by omega), sCh_9 hc, hrow 9 (by omega), eH, eF]
            · rw [if_neg q9, kPd_ne (by omega) (by omega) (by omega) (by omega) (by omega) (by omega) (by omega), hrow f hf]
    · rw [up_n q, kPd_ne (by omega) (by omega) (by omega) (by omega) (by omega) (by omega) (by omega), hx, cE_r hn hj2 hf]
  · rw [cE_o q, kPd_ne (by omega) (by omega) (by omega) (by omega) (by omega) (by omega) (by omega), hx, cE_o q]

