/-! days pass by: both the same -/
theorem cE_upd {b : Nat → Int32} {n : Nat} {D : Nat → Nat} {y8 y9 u8 u9 : Int32} : upd (upd (cE b n D y8 y9) 8 u8) 9 u9 = cE b n D u8 u9 := by
  funext i
  rw [upd_if, upd_if]
  by_cases q9 : i = 9
  · rw [if_pos q9, q9, cE_lo (by omega), if_neg (by omega), if_pos rfl]
  · rw [if_neg q9]
    by_cases q8 : i = 8
    · rw [if_pos q8, q8, cE_lo (by omega), if_pos rfl]
    · rw [if_neg q8]
      unfold cE
      by_cases q : i < 15
      · rw [if_pos q, if_pos q, if_neg q8, if_neg q8, if_neg q9, if_neg q9]
      · rw [if_neg q, if_neg q]
theorem cE_cong {b : Nat → Int32} {n : Nat} (hn : n ≤ 10) {D E : Nat → Nat} {y8 y9 : Int32} (h : ∀ j, j < n → D j = E j) : cE b n D y8 y9 = cE b n E y8 y9 := by
  have eH : ∀ c, cH b n D c = cH b n E c := fun c => zlp_cong (N := n) n 0 _ (by omega) (fun j y _ hj => by dsimp only; rw [h j (by omega)])
  have eF : ∀ c, cF b n D c = cF b n E c := fun c => zlp_cong (N := n) n 0 _ (by omega) (fun j y _ hj => by dsimp only; rw [h j (by omega)])
  have eB : cB b n D = cB b n E := zlp_cong (N := n) n 0 _ (by omega) (fun j y _ hj => by dsimp only; rw [h j (by omega)])
  funext i
  rcases zcase hn i with q | ⟨c, hc, rfl⟩ | ⟨c, hc, rfl⟩ | ⟨c, hc, rfl⟩ | rfl | ⟨j, f, hj, hf, rfl⟩ | q
  · rw [cE_lo q, cE_lo q]
  · rw [cE_h hc, cE_h hc, eH]
  · rw [cE_t hc, cE_t hc]
  · rw [cE_f hc, cE_f hc, eF]
  · rw [cE_b, cE_b, eB]
  · rw [cE_r hn hj hf, cE_r hn hj hf, h j hj]
  · rw [cE_o q, cE_o q]
theorem cE_cu {b : Nat → Int32} {n : Nat} (hn : n ≤ 10) {D : Nat → Nat} {y8 y9 : Int32} {j : Nat} (hj : j < n) : cE b n D y8 y9 (34 + 10 * j + 0) = b (34 + 10 * j + 0) := by
  rw [cE_r hn hj (by omega)]
  rfl
theorem sDo_cE2 {b : Nat → Int32} {n t : Nat} {D : Nat → Nat} {y9 : Int32} (hw : sWF b n) (hN : zNs b n t) (ht : t ≤ 9999) {j d : Nat} (hj : j < n) {c : Nat} (hc : c < 6) (hcu : b (34 + 10 * j + 0) = nI c) (hD : D j = d) (hd : d + 1 ≤ 1000) : sDo (cE b n D (b 8 + nI (d + 1)) y9) j c = cE b n (up D j (d + 1)) (b 8 + nI (d + 1)) y9 := by
  subst hD
  exact sDo_cE hw hN ht hj hc hcu hd
theorem sDay_E {b : Nat → Int32} {n t d : Nat} {y : Int32} (hw : sWF b n) (hN : zNs b n t) (ht : t ≤ 9999) (hd : d + 1 ≤ 1000) : sDay (cE b n (fun _ => d) (b 8 + nI d) y) n = cE b n (fun _ => d + 1) (b 8 + nI (d + 1)) (nI 0) := by
  have hn := hw.1
  have h0 : upd (upd (cE b n (fun _ => d) (b 8 + nI d) y) 8 (cE b n (fun _ => d) (b 8 + nI d) y 8 + nI 1)) 9 (nI 0) = cE b n (fun i => if i < 0 then d + 1 else d) (b 8 + nI (d + 1)) (nI 0) := by
    rw [cE_upd, cE_lo (show (8 : Nat) < 15 by omega), if_pos rfl, Int32.add_assoc, nI_add]
    exact congrArg (fun D => cE b n D (b 8 + nI (d + 1)) (nI 0)) (funext fun i => (if_neg (by omega)).symm)
  have := zlp_inv (f := fun j x => sDo x j (cuN x j)) (fun k x => x = cE b n (fun i => if i < k then d + 1 else d) (b 8 + nI (d + 1)) (nI 0)) n 0 (upd (upd (cE b n (fun _ => d) (b 8 + nI d) y) 8 (cE b n (fun _ => d) (b 8 + nI d) y 8 + nI 1)) 9 (nI 0)) h0 (fun k x _ hk hx => by
    have hk : k < n := by omega
    obtain ⟨c, hc, hcu⟩ := hw.2.2 k hk
    have hcN : cuN x k = c := cuN_eq hc (by rw [hx, cE_cu hn hk]; exact hcu)
    show sDo x k (cuN x k) = _
    rw [hcN, hx, sDo_cE2 (D := fun i => if i < k then d + 1 else d) (d := d) hw hN ht hk hc hcu (if_neg (by omega)) hd]
    refine congrArg (fun D => cE b n D (b 8 + nI (d + 1)) (nI 0)) (funext fun i => ?_)
    unfold up
    by_cases q : i = k
    · rw [if_pos q, if_pos (by omega)]
    · rw [if_neg q]
      dsimp only
      by_cases q2 : i < k
      · rw [if_pos q2, if_pos (by omega)]
      · rw [if_neg q2, if_neg (by omega)])
  rw [Nat.zero_add] at this
  unfold sDay
  rw [this]
  exact cE_cong hn (fun j hj => if_pos hj)
theorem sPs_E {b : Nat → Int32} {n t : Nat} (hw : sWF b n) (hN : zNs b n t) (ht : t ≤ 9999) (d : Nat) (hd : d ≤ 1000) : sPs b n d = cE b n (fun _ => d) (b 8 + nI d) (if d = 0 then b 9 else nI 0) := by
  have := zlp_inv (f := fun _ x => sDay x n) (fun k x => x = cE b n (fun _ => k) (b 8 + nI k) (if k = 0 then b 9 else nI 0)) d 0 b (by
    rw [if_pos rfl, show b 8 + nI 0 = b 8 from Int32.add_zero _]
    exact (cE_0 hw.1 hN).symm) (fun k x _ hk hx => by
    show sDay x n = _
    rw [hx, sDay_E hw hN ht (by omega), if_neg (by omega)])
  rw [Nat.zero_add] at this
  exact this
theorem sSum_cE {b : Nat → Int32} {n : Nat} {D : Nat → Nat} {y8 y9 u8 u9 : Int32} : sSum (cE b n D y8 y9) 0 = sSum (cE b n D u8 u9) 0 := zlp_cong (N := 6) 6 0 _ (by omega) (fun j y _ hj => by rw [cE_h (by omega), cE_h (by omega)])
theorem zNs_of {s : Nat → Int32} {n B : Nat} (h : zIv s n B) : ∃ t, t ≤ 9999 ∧ zNs s n t := by
  obtain ⟨hw, hB, h7, h9, h6, ⟨t, ht, h8⟩, hs⟩ := h
  exact ⟨t, ht, h8, fun j hj => zNm_of (hs j hj) hB ht⟩
theorem kPas_eq {s : Nat → Int32} {n B : Nat} (h : zIv s n B) (v : Int32) : kPas s n v = sPas s n v := by
  obtain ⟨t, ht, hN⟩ := zNs_of h
  have hw := h.1
  unfold kPas sPas
  by_cases q : nI 1 ≤ v ∧ v ≤ nI 99
  · rw [if_pos q, if_pos q]
    obtain ⟨d, hd, rfl⟩ := zrng (x := v) (b := 99) (by omega) ⟨Int32.le_trans (by decide) q.1, q.2⟩
    have hd1 : d ≠ 0 := fun z => by rw [z] at q; exact absurd q.1 (by decide)
    rw [nI_clamp (by omega)]
    obtain ⟨e1, e2⟩ := kDy_E hw hN (d := d) (by omega)
    have eP := sPs_E hw hN ht d (by omega)
    have eC := cE_cong (b := s) hw.1 (D := fun i => if i < n then d else 0) (E := fun _ => d) (y8 := s 8) (y9 := s 9) (fun j hj => if_pos hj)
    rw [eC] at e1 e2
    rw [e1, e2, eP, if_neg hd1, cE_upd, cE_lo (show (8 : Nat) < 15 by omega), if_pos rfl, sSum_cE (u8 := s 8 + nI d) (u9 := nI 0)]
  · rw [if_neg q, if_neg q]

