/-! a row's numbers, in Nats; readings of o in few words -/
def fld (s : Nat → Int32) (j f : Nat) : Nat := tn (s (34 + 10 * j + f))
theorem skN {s : Nat → Int32} {n B0 B j : Nat} (hI : zIv s n B0) (hJ : zJ s n B) (hB : B ≤ 2 ^ 28) (hj : j < n) : (fld s j 0 < 6 ∧ fld s j 1 ≤ 3 ∧ fld s j 2 ≤ 5 ∧ fld s j 3 ≤ 20 + 20 * fld s j 1 ∧ fld s j 4 ≤ 30 ∧ fld s j 5 ≤ 30 ∧ fld s j 7 ≤ B ∧ fld s j 8 ≤ tn (s 8) ∧ fld s j 9 ≤ 6 * B) ∧ ∀ f, f < 10 → f ≠ 6 → s (34 + 10 * j + f) = nI (fld s j f) := by
  obtain ⟨c, hc, e0⟩ := hI.1.2.2 j hj
  obtain ⟨z, st, g, l, v, a1, a2, a3, a4, a5, b1, b2, b3, b4, b5, b6⟩ := hI.2.2.2.2.2.2 j hj
  obtain ⟨b, p, x, r1, r2, r3, r4, r5, r6, r7⟩ := hJ.2.2.2.2.1 j hj
  obtain ⟨d, hd, e8⟩ := hI.2.2.2.2.2.1
  have k0 : fld s j 0 = c := by unfold fld; rw [e0, tn_N (by omega)]
  have k1 : fld s j 1 = z := by unfold fld; rw [b1, tn_N (by omega)]
  have k2 : fld s j 2 = st := by unfold fld; rw [b2, tn_N (by omega)]
  have k3 : fld s j 3 = l := by unfold fld; rw [b4, tn_N (by omega)]
  have k4 : fld s j 4 = g := by unfold fld; rw [b3, tn_N (by omega)]
  have k5 : fld s j 5 = v := by unfold fld; rw [b5, tn_N (by omega)]
  have k7 : fld s j 7 = b := by unfold fld; rw [r5, tn_N (by omega)]
  have k8 : fld s j 8 = p := by unfold fld; rw [r6, tn_N (by omega)]
  have k9 : fld s j 9 = x := by unfold fld; rw [r7, tn_N (by omega)]
  rw [e8] at r4
  have r8 := (nI_leI (by omega) (by omega)).mp r4
  refine ⟨⟨by rw [k0]; exact hc, by rw [k1]; exact a1, by rw [k2]; exact a2, by rw [k3, k1]; exact a4, by rw [k4]; exact a3, by rw [k5]; exact a5, by rw [k7]; exact r1, by rw [k8, e8, tn_N (by omega)]; exact r8, by rw [k9]; exact r2⟩, fun f hf h6 => ?_⟩
  rcases (show f = 0 ∨ f = 1 ∨ f = 2 ∨ f = 3 ∨ f = 4 ∨ f = 5 ∨ f = 7 ∨ f = 8 ∨ f = 9 by omega) with rfl | rfl | rfl | rfl | rfl | rfl | rfl | rfl | rfl
  · rw [k0]; exact e0
  · rw [k1]; exact b1
  · rw [k2]; exact b2
  · rw [k3]; exact b4
  · rw [k4]; exact b3
  · rw [k5]; exact b5
  · rw [k7]; exact r5
  · rw [k8]; exact r6
  · rw [k9]; exact r7
theorem dyN {s : Nat → Int32} {n B0 : Nat} (hI : zIv s n B0) : tn (s 8) ≤ 9999 ∧ s 8 = nI (tn (s 8)) := by
  obtain ⟨d, hd, e8⟩ := hI.2.2.2.2.2.1
  rw [e8, tn_N (by omega)]
  exact ⟨hd, rfl⟩
theorem seN {s : Nat → Int32} {n B0 B k : Nat} (hI : zIv s n B0) (hJ : zJ s n B) (hk : k < 8) : tn (s k) ≤ 90 ∧ s k = nI (tn (s k)) := by
  obtain ⟨v, hv, e⟩ := set_N hI hJ hk
  rw [e, tn_N (by omega)]
  exact ⟨hv, rfl⟩
theorem cuN3 {s : Nat → Int32} {n B k : Nat} (hJ : zJ s n B) (hB : B ≤ 2 ^ 28) (hk : k < 6) : (tn (s (15 + 3 * k + 2)) ≤ tn (s (15 + 3 * k + 0)) ∧ tn (s (15 + 3 * k + 0)) ≤ B ∧ tn (s (15 + 3 * k + 1)) ≤ B) ∧ s (15 + 3 * k + 0) = nI (tn (s (15 + 3 * k + 0))) ∧ s (15 + 3 * k + 1) = nI (tn (s (15 + 3 * k + 1))) ∧ s (15 + 3 * k + 2) = nI (tn (s (15 + 3 * k + 2))) := by
  obtain ⟨C, T, F, q1, q2, q3, e0, e1, e2⟩ := hJ.2.2.1 k hk
  rw [e0, e1, e2, tn_N (by omega), tn_N (by omega), tn_N (by omega)]
  exact ⟨⟨q1, q2, q3⟩, rfl, rfl, rfl⟩
theorem kin5 {k m : Nat} (hk : k ≤ m) (hm : m < 2 ^ 31) : nI 0 ≤ nI k ∧ nI k ≤ nI m := ⟨(nI_leI (by omega) (by omega)).mpr (by omega), (nI_leI (by omega) (by omega)).mpr hk⟩
theorem kCus_0 (s : Nat → Int32) (n : Nat) {k : Nat} (hk : k < 6) : kCus s n (nI k) (nI 0) = s (15 + 3 * k + 0) := by
  unfold kCus
  rw [if_pos (kin5 (m := 5) (by omega) (by omega)), if_pos rfl, nI_clamp (by omega)]
theorem kCus_1 (s : Nat → Int32) (n : Nat) {k : Nat} (hk : k < 6) : kCus s n (nI k) (nI 1) = nI (kCc s n (nI k)) := by
  unfold kCus
  rw [if_pos (kin5 (m := 5) (by omega) (by omega)), if_neg (by decide), if_pos rfl]
theorem kCus_2 (s : Nat → Int32) (n : Nat) {k : Nat} (hk : k < 6) : kCus s n (nI k) (nI 2) = s (15 + 3 * k + 1) := by
  unfold kCus
  rw [if_pos (kin5 (m := 5) (by omega) (by omega)), if_neg (by decide), if_neg (by decide), if_pos rfl, nI_clamp (by omega)]
theorem kCus_3 (s : Nat → Int32) (n : Nat) {k : Nat} (hk : k < 6) : kCus s n (nI k) (nI 3) = s (15 + 3 * k + 2) := by
  unfold kCus
  rw [if_pos (kin5 (m := 5) (by omega) (by omega)), if_neg (by decide), if_neg (by decide), if_neg (by decide), if_pos rfl, nI_clamp (by omega)]
theorem kStr_0 (s : Nat → Int32) (n : Nat) {k : Nat} (hk : k < 5) : kStr s n (nI k) (nI 0) = s (10 + k) := by
  unfold kStr
  rw [if_pos (kin5 (m := 4) (by omega) (by omega)), if_pos rfl, nI_clamp (by omega)]
theorem kStr_1 (s : Nat → Int32) (n : Nat) {k : Nat} (hk : k < 5) : kStr s n (nI k) (nI 1) = nI (kCs s n (nI k)) := by
  unfold kStr
  rw [if_pos (kin5 (m := 4) (by omega) (by omega)), if_neg (by decide), if_pos rfl]
theorem kStr_2 (s : Nat → Int32) (n : Nat) {k : Nat} (hk : k < 5) : kStr s n (nI k) (nI 2) = nI (kCn s n (nI k)) := by
  unfold kStr
  rw [if_pos (kin5 (m := 4) (by omega) (by omega)), if_neg (by decide), if_neg (by decide), if_pos rfl]
theorem kTe_0 (s : Nat → Int32) (j : Nat) (t : Int32) : kTe s j (nI 0) t = s (34 + 10 * j + 0) := by
  unfold kTe
  rw [if_pos rfl]
theorem kTe_1 (s : Nat → Int32) (j : Nat) (t : Int32) : kTe s j (nI 1) t = s (34 + 10 * j + 1) := by
  unfold kTe
  rw [if_neg (by decide), if_pos rfl]
theorem kTe_2 (s : Nat → Int32) (j : Nat) (t : Int32) : kTe s j (nI 2) t = s (34 + 10 * j + 2) := by
  unfold kTe
  rw [if_neg (by decide), if_neg (by decide), if_pos rfl]
theorem kTe_3 (s : Nat → Int32) (j : Nat) (t : Int32) : kTe s j (nI 3) t = s (34 + 10 * j + 3) := by
  unfold kTe
  rw [if_neg (by decide), if_neg (by decide), if_neg (by decide), if_pos rfl]
theorem kTe_4 (s : Nat → Int32) (j : Nat) (t : Int32) : kTe s j (nI 4) t = kHo s j := by
  unfold kTe
  rw [if_neg (by decide), if_neg (by decide), if_neg (by decide), if_neg (by decide), if_pos rfl]
theorem kTe_5 (s : Nat → Int32) (j : Nat) (t : Int32) : kTe s j (nI 5) t = s (34 + 10 * j + 4) := by
  unfold kTe
  rw [if_neg (by decide), if_neg (by decide), if_neg (by decide), if_neg (by decide), if_neg (by decide), if_pos rfl]
theorem kTe_6 (s : Nat → Int32) (j : Nat) (t : Int32) : kTe s j (nI 6) t = s (34 + 10 * j + 5) := by
  unfold kTe
  rw [if_neg (by decide), if_neg (by decide), if_neg (by decide), if_neg (by decide), if_neg (by decide), if_neg (by decide), if_pos rfl]
theorem kTe_7 (s : Nat → Int32) (j : Nat) (t : Int32) : kTe s j (nI 7) t = s (34 + 10 * j + 6) := by
  unfold kTe
  rw [if_neg (by decide), if_neg (by decide), if_neg (by decide), if_neg (by decide), if_neg (by decide), if_neg (by decide), if_neg (by decide), if_pos rfl]
theorem kTe_8 (s : Nat → Int32) (j : Nat) (t : Int32) : kTe s j (nI 8) t = s (34 + 10 * j + 7) := by
  unfold kTe
  rw [if_neg (by decide), if_neg (by decide), if_neg (by decide), if_neg (by decide), if_neg (by decide), if_neg (by decide), if_neg (by decide), if_neg (by decide), if_pos rfl]
theorem kTe_9 (s : Nat → Int32) (j : Nat) (t : Int32) : kTe s j (nI 9) t = t - s (34 + 10 * j + 8) := by
  unfold kTe
  rw [if_neg (by decide), if_neg (by decide), if_neg (by decide), if_neg (by decide), if_neg (by decide), if_neg (by decide), if_neg (by decide), if_neg (by decide), if_neg (by decide), if_pos rfl]
theorem kTe_10 (s : Nat → Int32) (j : Nat) (t : Int32) : kTe s j (nI 10) t = s (34 + 10 * j + 9) := by
  unfold kTe
  rw [if_neg (by decide), if_neg (by decide), if_neg (by decide), if_neg (by decide), if_neg (by decide), if_neg (by decide), if_neg (by decide), if_neg (by decide), if_neg (by decide), if_neg (by decide), if_pos rfl]
theorem r_cu0 {h : zhp} {S : Nat → Nat → Int32} {P PI : Nat → Nat → Nat} {o c : Nat} (hC : CJ h S P PI o c) {n B0 B : Nat} (hI : zIv (S 0) n B0) (hJ : zJ (S 0) n B) (hB : B ≤ 2 ^ 28) {k : Nat} (hk : k < 6) : MM iX5_customer [.ref 4, .int (nI k), .int (nI 0)] h (zfi (nI (tn (S 0 (15 + 3 * k + 0)))) h) := by
  have k := c_X5_customer hC.1 hI.1 (nI k) (nI 0)
  rw [kCus_0 _ _ hk, (cuN3 hJ hB hk).2.1] at k
  exact k
theorem r_cu1 {h : zhp} {S : Nat → Nat → Int32} {P PI : Nat → Nat → Nat} {o c : Nat} (hC : CJ h S P PI o c) {n B0 B : Nat} (hI : zIv (S 0) n B0) (hJ : zJ (S 0) n B) (hB : B ≤ 2 ^ 28) {k : Nat} (hk : k < 6) : MM iX5_customer [.ref 4, .int (nI k), .int (nI 1)] h (zfi (nI (kCc (S 0) n (nI k))) h) := by
  have k := c_X5_customer hC.1 hI.1 (nI k) (nI 1)
  rw [kCus_1 _ _ hk] at k
  exact k
theorem r_cu2 {h : zhp} {S : Nat → Nat → Int32} {P PI : Nat → Nat → Nat} {o c : Nat} (hC : CJ h S P PI o c) {n B0 B : Nat} (hI : zIv (S 0) n B0) (hJ : zJ (S 0) n B) (hB : B ≤ 2 ^ 28) {k : Nat} (hk : k < 6) : MM iX5_customer [.ref 4, .int (nI k), .int (nI 2)] h (zfi (nI (tn (S 0 (15 + 3 * k + 1)))) h) := by
  have k := c_X5_customer hC.1 hI.1 (nI k) (nI 2)
  rw [kCus_2 _ _ hk, (cuN3 hJ hB hk).2.2.1] at k
  exact k
theorem r_cu3 {h : zhp} {S : Nat → Nat → Int32} {P PI : Nat → Nat → Nat} {o c : Nat} (hC : CJ h S P PI o c) {n B0 B : Nat} (hI : zIv (S 0) n B0) (hJ : zJ (S 0) n B) (hB : B ≤ 2 ^ 28) {k : Nat} (hk : k < 6) : MM iX5_customer [.ref 4, .int (nI k), .int (nI 3)] h (zfi (nI (tn (S 0 (15 + 3 * k + 2)))) h) := by
  have k := c_X5_customer hC.1 hI.1 (nI k) (nI 3)
  rw [kCus_3 _ _ hk, (cuN3 hJ hB hk).2.2.2] at k
  exact k
theorem r_st1 {h : zhp} {S : Nat → Nat → Int32} {P PI : Nat → Nat → Nat} {o c : Nat} (hC : CJ h S P PI o c) {n B0 B : Nat} (hI : zIv (S 0) n B0) (hJ : zJ (S 0) n B) (hB : B ≤ 2 ^ 28) {k : Nat} (hk : k < 5) : MM iX5_street [.ref 4, .int (nI k), .int (nI 1)] h (zfi (nI (kCs (S 0) n (nI k))) h) := by
  have k := c_X5_street hC.1 hI.1 (nI k) (nI 1)
  rw [kStr_1 _ _ hk] at k
  exact k
theorem r_st2 {h : zhp} {S : Nat → Nat → Int32} {P PI : Nat → Nat → Nat} {o c : Nat} (hC : CJ h S P PI o c) {n B0 B : Nat} (hI : zIv (S 0) n B0) (hJ : zJ (S 0) n B) (hB : B ≤ 2 ^ 28) {k : Nat} (hk : k < 5) : MM iX5_street [.ref 4, .int (nI k), .int (nI 2)] h (zfi (nI (kCn (S 0) n (nI k))) h) := by
  have k := c_X5_street hC.1 hI.1 (nI k) (nI 2)
  rw [kStr_2 _ _ hk] at k
  exact k
theorem r_sk0 {h : zhp} {S : Nat → Nat → Int32} {P PI : Nat → Nat → Nat} {o c : Nat} (hC : CJ h S P PI o c) {n B0 B : Nat} (hI : zIv (S 0) n B0) (hJ : zJ (S 0) n B) (hB : B ≤ 2 ^ 28) {j : Nat} (hj : j < n) : MM iX5_skip [.ref 4, .int (nI j), .int (nI 0)] h (zfi (nI (fld (S 0) j 0)) h) := by
  have k := c_X5_skip_y hC.1 hI.1 j hj (nI 0)
  rw [kTe_0, (skN hI hJ hB hj).2 0 (by omega) (by omega)] at k
  exact k
theorem r_sk1 {h : zhp} {S : Nat → Nat → Int32} {P PI : Nat → Nat → Nat} {o c : Nat} (hC : CJ h S P PI o c) {n B0 B : Nat} (hI : zIv (S 0) n B0) (hJ : zJ (S 0) n B) (hB : B ≤ 2 ^ 28) {j : Nat} (hj : j < n) : MM iX5_skip [.ref 4, .int (nI j), .int (nI 1)] h (zfi (nI (fld (S 0) j 1)) h) := by
  have k := c_X5_skip_y hC.1 hI.1 j hj (nI 1)
  rw [kTe_1, (skN hI hJ hB hj).2 1 (by omega) (by omega)] at k
  exact k
theorem r_sk2 {h : zhp} {S : Nat → Nat → Int32} {P PI : Nat → Nat → Nat} {o c : Nat} (hC : CJ h S P PI o c) {n B0 B : Nat} (hI : zIv (S 0) n B0) (hJ : zJ (S 0) n B) (hB : B ≤ 2 ^ 28) {j : Nat} (hj : j < n) : MM iX5_skip [.ref 4, .int (nI j), .int (nI 2)] h (zfi (nI (fld (S 0) j 2)) h) := by
  have k := c_X5_skip_y hC.1 hI.1 j hj (nI 2)
  rw [kTe_2, (skN hI hJ hB hj).2 2 (by omega) (by omega)] at k
  exact k
theorem r_sk3 {h : zhp} {S : Nat → Nat → Int32} {P PI : Nat → Nat → Nat} {o c : Nat} (hC : CJ h S P PI o c) {n B0 B : Nat} (hI : zIv (S 0) n B0) (hJ : zJ (S 0) n B) (hB : B ≤ 2 ^ 28) {j : Nat} (hj : j < n) : MM iX5_skip [.ref 4, .int (nI j), .int (nI 3)] h (zfi (nI (fld (S 0) j 3)) h) := by
  have k := c_X5_skip_y hC.1 hI.1 j hj (nI 3)
  rw [kTe_3, (skN hI hJ hB hj).2 3 (by omega) (by omega)] at k
  exact k
theorem r_sk4 {h : zhp} {S : Nat → Nat → Int32} {P PI : Nat → Nat → Nat} {o c : Nat} (hC : CJ h S P PI o c) {n B0 B : Nat} (hI : zIv (S 0) n B0) (hJ : zJ (S 0) n B) (hB : B ≤ 2 ^ 28) {j : Nat} (hj : j < n) : MM iX5_skip [.ref 4, .int (nI j), .int (nI 4)] h (zfi (nI (20 + 20 * fld (S 0) j 1)) h) := by
  have k := c_X5_skip_y hC.1 hI.1 j hj (nI 4)
  rw [kTe_4, show kHo (S 0) j = nI (20 + 20 * fld (S 0) j 1) from by unfold kHo; rw [(skN hI hJ hB hj).2 1 (by omega) (by omega), pk_mul, nI_add]] at k
  exact k
theorem r_sk5 {h : zhp} {S : Nat → Nat → Int32} {P PI : Nat → Nat → Nat} {o c : Nat} (hC : CJ h S P PI o c) {n B0 B : Nat} (hI : zIv (S 0) n B0) (hJ : zJ (S 0) n B) (hB : B ≤ 2 ^ 28) {j : Nat} (hj : j < n) : MM iX5_skip [.ref 4, .int (nI j), .int (nI 5)] h (zfi (nI (fld (S 0) j 4)) h) := by
  have k := c_X5_skip_y hC.1 hI.1 j hj (nI 5)
  rw [kTe_5, (skN hI hJ hB hj).2 4 (by omega) (by omega)] at k
  exact k
theorem r_sk6 {h : zhp} {S : Nat → Nat → Int32} {P PI : Nat → Nat → Nat} {o c : Nat} (hC : CJ h S P PI o c) {n B0 B : Nat} (hI : zIv (S 0) n B0) (hJ : zJ (S 0) n B) (hB : B ≤ 2 ^ 28) {j : Nat} (hj : j < n) : MM iX5_skip [.ref 4, .int (nI j), .int (nI 6)] h (zfi (nI (fld (S 0) j 5)) h) := by
  have k := c_X5_skip_y hC.1 hI.1 j hj (nI 6)
  rw [kTe_6, (skN hI hJ hB hj).2 5 (by omega) (by omega)] at k
  exact k
theorem r_sk7 {h : zhp} {S : Nat → Nat → Int32} {P PI : Nat → Nat → Nat} {o c : Nat} (hC : CJ h S P PI o c) {n B0 B : Nat} (hI : zIv (S 0) n B0) (hJ : zJ (S 0) n B) (hB : B ≤ 2 ^ 28) {j : Nat} (hj : j < n) : MM iX5_skip [.ref 4, .int (nI j), .int (nI 7)] h (zfi (S 0 (34 + 10 * j + 6)) h) := by
  have k := c_X5_skip_y hC.1 hI.1 j hj (nI 7)
  rw [kTe_7] at k
  exact k
theorem r_sk8 {h : zhp} {S : Nat → Nat → Int32} {P PI : Nat → Nat → Nat} {o c : Nat} (hC : CJ h S P PI o c) {n B0 B : Nat} (hI : zIv (S 0) n B0) (hJ : zJ (S 0) n B) (hB : B ≤ 2 ^ 28) {j : Nat} (hj : j < n) : MM iX5_skip [.ref 4, .int (nI j), .int (nI 8)] h (zfi (nI (fld (S 0) j 7)) h) := by
  have k := c_X5_skip_y hC.1 hI.1 j hj (nI 8)
  rw [kTe_8, (skN hI hJ hB hj).2 7 (by omega) (by omega)] at k
  exact k
theorem r_sk9 {h : zhp} {S : Nat → Nat → Int32} {P PI : Nat → Nat → Nat} {o c : Nat} (hC : CJ h S P PI o c) {n B0 B : Nat} (hI : zIv (S 0) n B0) (hJ : zJ (S 0) n B) (hB : B ≤ 2 ^ 28) {j : Nat} (hj : j < n) : MM iX5_skip [.ref 4, .int (nI j), .int (nI 9)] h (zfi (nI (tn (S 0 8) - fld (S 0) j 8)) h) := by
  have k := c_X5_skip_y hC.1 hI.1 j hj (nI 9)
  rw [kTe_9, (dyN hI).2, (skN hI hJ hB hj).2 8 (by omega) (by omega), pk_sub (skN hI hJ hB hj).1.2.2.2.2.2.2.2.1] at k
  exact k
theorem r_sk10 {h : zhp} {S : Nat → Nat → Int32} {P PI : Nat → Nat → Nat} {o c : Nat} (hC : CJ h S P PI o c) {n B0 B : Nat} (hI : zIv (S 0) n B0) (hJ : zJ (S 0) n B) (hB : B ≤ 2 ^ 28) {j : Nat} (hj : j < n) : MM iX5_skip [.ref 4, .int (nI j), .int (nI 10)] h (zfi (nI (fld (S 0) j 9)) h) := by
  have k := c_X5_skip_y hC.1 hI.1 j hj (nI 10)
  rw [kTe_10, (skN hI hJ hB hj).2 9 (by omega) (by omega)] at k
  exact k
/-- the dearest skip -/
theorem kDe_fold {X : Nat → Nat} {s : Nat → Int32} {n : Nat} (hX : ∀ j, j < n → s (34 + 10 * j + 9) = nI (X j) ∧ X j < 2 ^ 31) : ∀ (r k x : Nat), x ≤ k → k + 1 + r ≤ n → (∀ i, i ≤ k → X i ≤ X x) → zlp (fun k x => if s (34 + 10 * x + 9) < s (34 + 10 * (k + 1) + 9) then k + 1 else x) r k x ≤ k + r ∧ ∀ i, i ≤ k + r → X i ≤ X (zlp (fun k x => if s (34 + 10 * x + 9) < s (34 + 10 * (k + 1) + 9) then k + 1 else x) r k x)
  | 0, k, x, hx, hk, h => ⟨hx, h⟩
  | r + 1, k, x, hx, hk, h => by
    show zlp _ r (k + 1) (if s (34 + 10 * x + 9) < s (34 + 10 * (k + 1) + 9) then k + 1 else x) ≤ _ ∧ ∀ i, i ≤ _ → X i ≤ X (zlp _ r (k + 1) (if s (34 + 10 * x + 9) < s (34 + 10 * (k + 1) + 9) then k + 1 else x))
    obtain ⟨e1, l1⟩ := hX x (by omega)
    obtain ⟨e2, l2⟩ := hX (k + 1) (by omega)
    rw [e1, e2, show k + (r + 1) = k + 1 + r by omega]
    by_cases q : nI (X x) < nI (X (k + 1))
    · rw [if_pos q]
      have q := (nI_ltI l1 l2).mp q
      refine kDe_fold hX r (k + 1) (k + 1) (Nat.le_refl _) (by omega) (fun i hi => ?_)
      rcases Nat.lt_or_ge k i with y | y
      · rw [show i = k + 1 by omega]; exact Nat.le_refl _
      · have := h i y; omega
    · rw [if_neg q]
      have q : ¬ X x < X (k + 1) := fun y => q ((nI_ltI l1 l2).mpr y)
      refine kDe_fold hX r (k + 1) x (by omega) (by omega) (fun i hi => ?_)
      rcases Nat.lt_or_ge k i with y | y
      · rw [show i = k + 1 by omega]; omega
      · exact h i y
theorem kDe_max {s : Nat → Int32} {n B0 B : Nat} (hI : zIv s n B0) (hJ : zJ s n B) (hB : B ≤ 2 ^ 28) (h0 : n ≠ 0) : kDe s n < n ∧ ∀ i, i < n → fld s i 9 ≤ fld s (kDe s n) 9 := by
  have k := kDe_fold (X := fun j => fld s j 9) (s := s) (n := n) (fun j hj => ⟨(skN hI hJ hB hj).2 9 (by omega) (by omega), by have := (skN hI hJ hB hj).1.2.2.2.2.2.2.2.2; omega⟩) (n - 1) 0 0 (Nat.le_refl _) (by omega) (fun i hi => by rw [show i = 0 by omega]; exact Nat.le_refl _)
  refine ⟨?_, fun i hi => k.2 i (by omega)⟩
  have := k.1
  show zlp _ (n - 1) 0 0 < n
  omega
theorem r_de {h : zhp} {S : Nat → Nat → Int32} {P PI : Nat → Nat → Nat} {o c : Nat} (hC : CJ h S P PI o c) {n B0 B : Nat} (hI : zIv (S 0) n B0) (hJ : zJ (S 0) n B) (hB : B ≤ 2 ^ 28) (h0 : n ≠ 0) : MM iX5_dearest [.ref 4] h (zfi (nI (kDe (S 0) n)) h) := by
  have k := c_X5_dearest hC.1 hI.1
  rw [if_neg (show ¬ S 0 33 = 0 from fun z => h0 (by rw [hI.1.2.1] at z; exact znz z (by have := hI.1.1; omega)))] at k
  exact k
theorem r_de0 {h : zhp} {S : Nat → Nat → Int32} {P PI : Nat → Nat → Nat} {o c : Nat} (hC : CJ h S P PI o c) {n B0 B : Nat} (hI : zIv (S 0) n B0) (hJ : zJ (S 0) n B) (hB : B ≤ 2 ^ 28) (h0 : n = 0) : MM iX5_dearest [.ref 4] h (zfi (-6) h) := by
  have k := c_X5_dearest hC.1 hI.1
  rw [if_pos (show S 0 33 = 0 from by rw [hI.1.2.1, h0]; rfl)] at k
  exact k
/-! the sums that areSums makes -/
theorem sum_cu {s : Nat → Int32} {n : Nat} (hw : sWF s n) : qS 6 (fun k => kCc s n (nI k)) = n := by
  have e : ∀ k, k < 6 → kCc s n (nI k) = qS n (fun j => if cuN s j = k then 1 else 0) := fun k hk => by
    rw [kCc_q]
    refine qS_cong (fun j hj => ?_)
    obtain ⟨c, hc, e0⟩ := hw.2.2 j hj
    rw [cuN_eq hc e0, e0]
    by_cases q : c = k
    · rw [if_pos q, if_pos (nIE q)]
    · rw [if_neg q, if_neg (fun z => q ((nI_eqI (by omega) (by omega)).mp z))]
  rw [qS_cong e, qS_grp (g := fun _ => 1) (fun j hj => cuN_lt hw hj)]
  have : ∀ m : Nat, qS m (fun _ => 1) = m := fun m => by
    induction m with
    | zero => rfl
    | succ m ih => show qS m (fun _ => 1) + 1 = m + 1; rw [ih]
  exact this n
theorem sum_st {s : Nat → Int32} {n B0 B : Nat} (hI : zIv s n B0) (hJ : zJ s n B) (hB : B ≤ 2 ^ 28) : qS 5 (fun k => kCs s n (nI k)) + qS n (fun j => if fld s j 2 = 5 then 1 else 0) = n := by
  have e : ∀ k, k < 6 → kCs s n (nI k) = qS n (fun j => if fld s j 2 = k then 1 else 0) := fun k hk => by
    rw [kCs_q]
    refine qS_cong (fun j hj => ?_)
    obtain ⟨⟨-, -, h2, -⟩, h⟩ := skN hI hJ hB hj
    rw [h 2 (by omega) (by omega)]
    by_cases q : fld s j 2 = k
    · rw [if_pos q, if_pos (nIE q)]
    · rw [if_neg q, if_neg (fun z => q ((nI_eqI (by omega) (by omega)).mp z))]
  have k1 := qS_grp (m := 6) (u := fun j => fld s j 2) (n := n) (g := fun _ => 1) (fun j hj => by have := (skN hI hJ hB hj).1.2.2.1; show fld s j 2 < 6; omega)
  have k2 : qS n (fun _ => 1) = n := by
    have : ∀ m : Nat, qS m (fun _ => 1) = m := fun m => by
      induction m with
      | zero => rfl
      | succ m ih => show qS m (fun _ => 1) + 1 = m + 1; rw [ih]
    exact this n
  have k3 : qS 6 (fun c => qS n (fun j => if fld s j 2 = c then 1 else 0)) = qS 5 (fun c => qS n (fun j => if fld s j 2 = c then 1 else 0)) + qS n (fun j => if fld s j 2 = 5 then 1 else 0) := rfl
  rw [qS_cong (f := fun k => kCs s n (nI k)) (g := fun k => qS n (fun j => if fld s j 2 = k then 1 else 0)) (fun k hk => e k (by omega)), ← k3, k1, k2]
theorem sum_fu {s : Nat → Int32} {n B0 B : Nat} (hI : zIv s n B0) (hJ : zJ s n B) (hB : B ≤ 2 ^ 28) : kCf s n = qS n (fun j => if fld s j 3 = 20 + 20 * fld s j 1 then 1 else 0) := by
  rw [kCf_q]
  refine qS_cong (fun j hj => ?_)
  obtain ⟨⟨-, h1, -, h3, -⟩, h⟩ := skN hI hJ hB hj
  unfold kHo
  rw [h 1 (by omega) (by omega), h 3 (by omega) (by omega), pk_mul, nI_add]
  by_cases q : fld s j 3 = 20 + 20 * fld s j 1
  · rw [if_pos q, if_pos ((nI_leI (by omega) (by omega)).mpr (by omega))]
  · rw [if_neg q, if_neg (fun z => by have := (nI_leI (by omega) (by omega)).mp z; omega)]
theorem sum_lo {s : Nat → Int32} {n B0 B : Nat} (hI : zIv s n B0) (hJ : zJ s n B) (hB : B ≤ 2 ^ 28) : kLo s n = nI (qS n (fun j => fld s j 3)) := qS_I (fun j hj => (skN hI hJ hB hj).2 3 (by omega) (by omega))
theorem sum_w {s : Nat → Int32} {n B w : Nat} (hJ : zJ s n B) (hB : B ≤ 2 ^ 28) (hw : w < 3) : sSum s w = nI (qS 6 (fun k => tn (s (15 + 3 * k + w)))) := qS_I (fun k hk => by
  obtain ⟨-, e0, e1, e2⟩ := cuN3 hJ hB hk
  rcases (show w = 0 ∨ w = 1 ∨ w = 2 by omega) with rfl | rfl | rfl
  · exact e0
  · exact e1
  · exact e2)
theorem kTl_N {s : Nat → Int32} {n B0 : Nat} (hI : zIv s n B0) : ∃ v, v ≤ tn (s 7) ∧ kTl s = nI v := by
  obtain ⟨a, ha, e7⟩ := hI.2.2.1
  obtain ⟨b, hb, e9⟩ := hI.2.2.2.1
  unfold kTl
  rw [e7, e9, mx0_N (by omega) (by omega), tn_N (by omega)]
  exact ⟨a - b, by omega, rfl⟩
theorem kCn_le (s : Nat → Int32) (n : Nat) (v : Int32) : kCn s n v ≤ kCs s n v := by
  rw [kCn_q, kCs_q]
  refine qS_le (fun j hj => ?_)
  by_cases q : s (34 + 10 * j + 2) = v
  · rw [if_pos q]
    split <;> omega
  · rw [if_neg q, if_neg (fun z => q z.1)]
    exact Nat.le_refl _
theorem kCs_le {s : Nat → Int32} {n B k : Nat} (hJ : zJ s n B) (hk : k < 5) : kCs s n (nI k) ≤ 4 := by
  rw [kCs_q]
  exact hJ.2.2.2.2.2.2.2 k hk
