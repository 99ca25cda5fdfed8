/-! the sums are kept by days -/
/-- hire and fines of a skip in d days, in Nats -/
theorem kHF_N {b : Nat → Int32} {j t z st g l v P d : Nat} (h : zNm b j t z st g l v P) (h8 : b 8 = nI t) (hs : ∀ k, k < 6 → ∃ v, v ≤ 90 ∧ b k = nI v) (hd : d ≤ 99) : ∃ hv fv, hv ≤ 35640 ∧ fv ≤ 17820 ∧ kHi b j (nI d) = nI hv ∧ kFi b j (nI d) = nI fv := by
  obtain ⟨a0, q0, e0⟩ := hs 0 (by omega)
  obtain ⟨a2, q2, e2⟩ := hs 2 (by omega)
  obtain ⟨a3, q3, e3⟩ := hs 3 (by omega)
  have hdf := kDf_N h (show d ≤ 1000 by omega)
  have hdd := kDd_N h (show d ≤ 1000 by omega)
  obtain ⟨a1, -, -, -, -, b1, -⟩ := h
  have m0 : a0 * (1 + z) * d ≤ 90 * 4 * 99 := Nat.mul_le_mul (Nat.mul_le_mul q0 (by omega)) hd
  refine ⟨a0 * (1 + z) * d, a2 * (if st = 5 then 0 else d - P) + a3 * (if st = 5 then 0 else d - v), m0, ?_, ?_, ?_⟩
  rotate_left 2
  · unfold kFi
    rw [h8, hdf, hdd, e2, e3]
    have e : (if st = 5 then nI 0 else nI (d - P)) = nI (if st = 5 then 0 else d - P) := by split <;> rfl
    have e4 : (if st = 5 then nI 0 else nI (d - v)) = nI (if st = 5 then 0 else d - v) := by split <;> rfl
    rw [e, e4, pk_mul, pk_mul, nI_add]
  · have m2 : a2 * (if st = 5 then 0 else d - P) ≤ 90 * 99 := Nat.mul_le_mul q2 (by split <;> omega)
    have m3 : a3 * (if st = 5 then 0 else d - v) ≤ 90 * 99 := Nat.mul_le_mul q3 (by split <;> omega)
    omega
  · unfold kHi
    rw [e0, b1, nI_add, pk_mul, pk_mul]
def gH (s : Nat → Int32) (d j : Nat) : Nat := tn (kHi s j (nI d) + kFi s j (nI d))
def gF (s : Nat → Int32) (d j : Nat) : Nat := tn (kFi s j (nI d))
def gB (s : Nat → Int32) (d j : Nat) : Nat := tn (kBe s j (nI d) (s (34 + 10 * j + 3)))
theorem gHF {s : Nat → Int32} {n B B0 j d : Nat} (hI : zIv s n B0) (h : zJ s n B) (hj : j < n) (hd : d ≤ 99) : kHi s j (nI d) + kFi s j (nI d) = nI (gH s d j) ∧ kFi s j (nI d) = nI (gF s d j) ∧ gF s d j ≤ gH s d j ∧ gH s d j ≤ 53460 := by
  obtain ⟨t, ht, h8, hn⟩ := zNs_of hI
  obtain ⟨z, st, g, l, v, P, hz⟩ := hn j hj
  obtain ⟨hv, fv, q1, q2, e1, e2⟩ := kHF_N hz h8 h.1 hd
  unfold gH gF
  rw [e1, e2, nI_add, tn_N (by omega), tn_N (by omega)]
  exact ⟨rfl, rfl, by omega, by omega⟩
theorem gBe {s : Nat → Int32} {n B0 j d : Nat} (hI : zIv s n B0) (hj : j < n) (hd : d ≤ 99) : kBe s j (nI d) (s (34 + 10 * j + 3)) = nI (gB s d j) ∧ gB s d j ≤ 3100 := by
  obtain ⟨t, ht, h8, hn⟩ := zNs_of hI
  obtain ⟨z, st, g, l, v, P, hz⟩ := hn j hj
  have e := kBe_NN hz (show d ≤ 1000 by omega)
  obtain ⟨a1, a2, a3, a4, a5, -⟩ := hz
  have m : g * d ≤ 30 * 99 := Nat.mul_le_mul a3 hd
  unfold gB
  rw [e, tn_N (by omega)]
  exact ⟨rfl, by omega⟩
theorem cH_N {s : Nat → Int32} {n B B0 d : Nat} (hI : zIv s n B0) (h : zJ s n B) (hd : d ≤ 99) (c : Nat) : cH s n (fun _ => d) c = nI (qS n (fun j => if cuN s j = c then gH s d j else 0)) := zS_I (fun j hj => by
  dsimp only
  split
  · exact (gHF hI h hj hd).1
  · rfl)
theorem cF_N {s : Nat → Int32} {n B B0 d : Nat} (hI : zIv s n B0) (h : zJ s n B) (hd : d ≤ 99) (c : Nat) : cF s n (fun _ => d) c = nI (qS n (fun j => if cuN s j = c then gF s d j else 0)) := zS_I (fun j hj => by
  dsimp only
  split
  · exact (gHF hI h hj hd).2.1
  · rfl)
theorem cB_N {s : Nat → Int32} {n B0 d : Nat} (hI : zIv s n B0) (hd : d ≤ 99) : cB s n (fun _ => d) = nI (qS n (gB s d)) := zS_I (fun j hj => (gBe hI hj hd).1)
theorem cH_le {s : Nat → Int32} {n B B0 d c : Nat} (hI : zIv s n B0) (h : zJ s n B) (hd : d ≤ 99) : qS n (fun j => if cuN s j = c then gH s d j else 0) ≤ 534600 := by
  have h1 : qS n (fun j => if cuN s j = c then gH s d j else 0) ≤ n * 53460 := qS_bd (fun j hj => by
    split
    · exact (gHF hI h hj hd).2.2.2
    · omega)
  have := hI.1.1
  omega
theorem cF_le {s : Nat → Int32} {n B B0 d c : Nat} (hI : zIv s n B0) (h : zJ s n B) (hd : d ≤ 99) : qS n (fun j => if cuN s j = c then gF s d j else 0) ≤ qS n (fun j => if cuN s j = c then gH s d j else 0) := qS_le (fun j hj => by
    split
    · exact (gHF hI h hj hd).2.2.1
    · omega)
theorem cB_le {s : Nat → Int32} {n B0 d : Nat} (hI : zIv s n B0) (hd : d ≤ 99) : qS n (gB s d) ≤ 31000 := by
  have h1 : qS n (gB s d) ≤ n * 3100 := qS_bd (fun j hj => (gBe hI hj hd).2)
  have := hI.1.1
  omega
theorem cuN_lt {s : Nat → Int32} {n j : Nat} (hw : sWF s n) (hj : j < n) : cuN s j < 6 := by
  obtain ⟨c, hc, e⟩ := hw.2.2 j hj
  rw [cuN_eq hc e]
  exact hc
theorem cH_all {s : Nat → Int32} {n d : Nat} (hw : sWF s n) : qS 6 (fun c => qS n (fun j => if cuN s j = c then gH s d j else 0)) = qS n (gH s d) := qS_grp (fun j hj => cuN_lt hw hj)
theorem cE_J {s : Nat → Int32} {n B B0 d t : Nat} {y9 : Int32} (hI : zIv s n B0) (h : zJ s n B) (hd : d ≤ 99) (h8 : s 8 = nI t) (ht : t ≤ 9999) (hB : B + 600000 ≤ 2 ^ 28) : zJ (cE s n (fun _ => d) (s 8 + nI d) y9) n (B + 600000) := by
  have hw := hI.1
  have hn := hw.1
  have eH := cH_N hI h hd
  have eF := cF_N hI h hd
  have eB := cB_N hI hd
  have lB := cB_le hI hd
  have lo : ∀ k, k < 15 → k ≠ 8 → k ≠ 9 → cE s n (fun _ => d) (s 8 + nI d) y9 k = s k := fun k hk q8 q9 => by rw [cE_lo hk, if_neg q8, if_neg q9]
  have l8 : cE s n (fun _ => d) (s 8 + nI d) y9 8 = nI (t + d) := by rw [cE_lo (by omega), if_pos rfl, h8, nI_add]
  have sk : ∀ j, j < n → ∀ f, f < 10 → cE s n (fun _ => d) (s 8 + nI d) y9 (34 + 10 * j + f) = cR s j d f := fun j hj f hf => cE_r hn hj hf
  have s2 : ∀ j, cR s j d 2 = s (34 + 10 * j + 2) := fun j => rfl
  have s8 : ∀ j, cR s j d 8 = s (34 + 10 * j + 8) := fun j => rfl
  have s7 : ∀ j, j < n → cR s j d 7 = s (34 + 10 * j + 7) + nI (gB s d j) := fun j hj => by
    show s (34 + 10 * j + 7) + kBe s j (nI d) (s (34 + 10 * j + 3)) = _
    rw [(gBe hI hj hd).1]
  have s9 : ∀ j, j < n → cR s j d 9 = s (34 + 10 * j + 9) + nI (gH s d j) := fun j hj => by
    show s (34 + 10 * j + 9) + (kHi s j (nI d) + kFi s j (nI d)) = _
    rw [(gHF hI h hj hd).1]
  have lH := fun c => cH_le (c := c) hI h hd
  have lF := fun c => cF_le (c := c) hI h hd
  have hall := cH_all (s := s) (n := n) (d := d) hw
  obtain ⟨h1, h2, h3, ⟨b0, hb0, e0⟩, h5, h6, h7, h9⟩ := id h
  have t9 : ∀ j, j < n → tn (cR s j d 9) = tn (s (34 + 10 * j + 9)) + gH s d j := fun j hj => by
    obtain ⟨b, p, x, r1, r2, r3, r4, r5, r6, r7⟩ := h5 j hj
    have := (gHF hI h hj hd).2.2.2
    rw [s9 j hj, r7, nI_add, tn_N (by omega), tn_N (by omega)]
  have t7 : ∀ j, j < n → tn (cR s j d 7) = tn (s (34 + 10 * j + 7)) + gB s d j := fun j hj => by
    obtain ⟨b, p, x, r1, r2, r3, r4, r5, r6, r7⟩ := h5 j hj
    have := (gBe hI hj hd).2
    rw [s7 j hj, r5, nI_add, tn_N (by omega), tn_N (by omega)]
  refine ⟨fun k hk => by rw [lo k (by omega) (by omega) (by omega)]; exact h1 k hk, fun k hk => by rw [lo _ (by omega) (by omega) (by omega)]; exact h2 k hk, fun c hc => ?_, ⟨b0 + qS n (gB s d), by omega, by rw [cE_b, e0, eB, nI_add]⟩, fun j hj => ?_, ?_, ?_, fun st hst => ?_⟩
  · obtain ⟨C, T, F, q1, q2, q3, q4, q5, q6⟩ := h3 c hc
    have := lH c
    have := lF c
    exact ⟨C + _, T, F + _, Nat.add_le_add q1 (lF c), by omega, by omega, by rw [cE_h hc, eH, q4, nI_add], by rw [cE_t hc, q5], by rw [cE_f hc, eF, q6, nI_add]⟩
  · obtain ⟨b, p, x, r1, r2, r3, r4, r5, r6, r7⟩ := h5 j hj
    have g1 := (gBe hI hj hd).2
    have g2 := (gHF hI h hj hd).2.2.2
    rw [h8] at r4
    have r8 := (nI_leI (by omega) (by omega)).mp r4
    exact ⟨b + gB s d j, p, x + gH s d j, by omega, by omega, r3, by rw [l8]; exact (nI_leI (by omega) (by omega)).mpr (by omega), by rw [sk j hj 7 (by omega), s7 j hj, r5, nI_add], by rw [sk j hj 8 (by omega), s8, r6], by rw [sk j hj 9 (by omega), s9 j hj, r7, nI_add]⟩
  · rw [qS_cong (g := fun j => tn (s (34 + 10 * j + 9)) + gH s d j) (fun j hj => by rw [sk j hj 9 (by omega), t9 j hj]), qS_add n (fun j => tn (s (34 + 10 * j + 9))) (gH s d), qS_cong (f := fun c => tn (cE s n (fun _ => d) (s 8 + nI d) y9 (15 + 3 * c + 0))) (g := fun c => tn (s (15 + 3 * c + 0)) + qS n (fun j => if cuN s j = c then gH s d j else 0)) (fun c hc => by
      obtain ⟨C, T, F, q1, q2, q3, q4, q5, q6⟩ := h3 c hc
      have := lH c
      rw [cE_h hc, eH, q4, nI_add, tn_N (by omega), tn_N (by omega)]), qS_add 6 (fun c => tn (s (15 + 3 * c + 0))) (fun c => qS n (fun j => if cuN s j = c then gH s d j else 0)), hall]
    omega
  · rw [qS_cong (g := fun j => tn (s (34 + 10 * j + 7)) + gB s d j) (fun j hj => by rw [sk j hj 7 (by omega), t7 j hj]), qS_add n (fun j => tn (s (34 + 10 * j + 7))) (gB s d), cE_b, e0, eB, nI_add, tn_N (by omega)]
    rw [e0, tn_N (by omega)] at h7
    omega
  · rw [qS_cong (g := fun j => if s (34 + 10 * j + 2) = nI st then 1 else 0) (fun j hj => by rw [sk j hj 2 (by omega), s2])]
    exact h9 st hst
theorem sPas_J {s : Nat → Int32} {n B B0 : Nat} {v : Int32} (hI : zIv s n B0) (h : zJ s n B) (hB : B + 600000 ≤ 2 ^ 28) : zJ (sPas s n v).2 n (B + 600000) := by
  have h0 := zJ_mono (show B ≤ B + 600000 by omega) h
  unfold sPas
  by_cases q : nI 1 ≤ v ∧ v ≤ nI 99
  · rw [if_pos q]
    by_cases q2 : s 8 + v ≤ nI 9999
    · rw [if_pos q2]
      obtain ⟨d, hd, rfl⟩ := zrng (x := v) (b := 99) (by omega) ⟨Int32.le_trans (by decide) q.1, q.2⟩
      obtain ⟨t, ht, hN⟩ := zNs_of hI
      rw [nI_clamp (by omega)]
      dsimp only
      rw [sPs_E hI.1 hN ht d (by omega)]
      exact cE_J hI h hd hN.1 ht hB
    · rw [if_neg q2]; exact h0
  · rw [if_neg q]; exact h0
