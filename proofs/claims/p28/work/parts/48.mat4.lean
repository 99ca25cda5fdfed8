/-! a skip less; what is told -/
theorem sSw_WF2 {s : Nat → Int32} {n : Nat} {v : Int32} (h : sWF s n) : (sSw s v).2 33 = nI n := (sSw_WF h).2.1
theorem sTk_at {s : Nat → Int32} {n j : Nat} (h : sWF s n) (hj : j < n) (hq : ¬ (sSw s (nI j)).1 < 0) (k : Nat) (hk : k < 34 + 10 * (n - 1) ∨ k = 134) : (sTk s (nI j)).2 k = if k = 33 then nI (n - 1) else if 34 + 10 * j ≤ k ∧ k < 124 then (sSw s (nI j)).2 (k + 10) else (sSw s (nI j)).2 k := by
  have hn := h.1
  unfold sTk
  rw [if_neg hq]
  dsimp only
  rw [nI_clamp (show j < 2 ^ 31 by omega), upd_if, zlp_shift (by omega), zlp_shift (by omega)]
  by_cases q : k = 33
  · rw [if_pos q, if_pos q, if_neg (by omega), sSw_WF2 h, pk_sub (by omega)]
  · rw [if_neg q, if_neg q]
    by_cases q2 : 34 + 10 * j ≤ k ∧ k < 124
    · rw [if_pos (by omega), if_pos q2]
    · rw [if_neg (by omega), if_neg q2]
theorem sTk_nS {s : Nat → Int32} {n j : Nat} (h : sWF s n) (hj : j < n) (hq : ¬ (sSw s (nI j)).1 < 0) : nS (sTk s (nI j)).2 = n - 1 := by
  have hn := h.1
  unfold nS
  rw [sTk_at h hj hq 33 (by omega), if_pos rfl]
  exact nI_clamp (by omega)
theorem kTk_sim {s : Nat → Int32} {n B : Nat} (h : zIv s n B) (v : Int32) : (kTk s n v).1 = (sTk s v).1 ∧ sim (nS (sTk s v).2) (kTk s n v).2 (sTk s v).2 := by
  have hw := h.1
  have hn := hw.1
  by_cases q : (sSw s v).1 < 0
  · unfold kTk sTk
    rw [kSw_eq h, if_pos q, if_pos q]
    exact ⟨rfl, sim_refl _ _⟩
  · obtain ⟨j, hj, rfl⟩ := zskip hw.1 hw.2.1 (sSw_nn hw q)
    rw [sTk_nS hw hj q]
    refine ⟨?_, fun k hk => ?_⟩
    · unfold kTk sTk
      rw [kSw_eq h, if_neg q, if_neg q]
    · rw [sTk_at hw hj q k hk]
      unfold kTk
      rw [kSw_eq h, if_neg q]
      dsimp only
      rw [nI_clamp (show j < 2 ^ 31 by omega), sSw_WF2 hw, pk_sub (show 1 ≤ n by omega)]
      unfold kRo
      by_cases q1 : 34 ≤ k ∧ k < 134
      · rw [if_pos q1, if_neg (by omega), pk_un (by omega)]
        unfold kSg
        by_cases q2 : (k - 34) / 10 < j
        · rw [if_pos q2, if_neg (by omega), show 34 + 10 * ((k - 34) / 10) + (k - 34) % 10 = k by omega]
        · rw [if_neg q2, if_pos (by omega), if_pos (by omega), show 34 + 10 * ((k - 34) / 10 + 1) + (k - 34) % 10 = k + 10 by omega]
      · rw [if_neg q1, upd_if]
        by_cases q2 : k = 33
        · rw [if_pos q2, if_pos q2]
        · rw [if_neg q2, if_neg q2, if_neg (by omega)]
theorem sim_Tk {n : Nat} {a b : Nat → Int32} (h : sim n a b) (hw : sWF b n) (v : Int32) : (sTk a v).1 = (sTk b v).1 ∧ sim (nS (sTk b v).2) (sTk a v).2 (sTk b v).2 := by
  have hn := hw.1
  have hwa := sim_WF h hw
  obtain ⟨e1, e2⟩ := sim_Sw h hw v
  by_cases q : (sSw b v).1 < 0
  · unfold sTk
    rw [e1, if_pos q, if_pos q]
    exact ⟨e1, by rw [sWF_nS (sSw_WF hw)]; exact e2⟩
  · obtain ⟨j, hj, rfl⟩ := zskip hw.1 hw.2.1 (sSw_nn hw q)
    have qa : ¬ (sSw a (nI j)).1 < 0 := by rw [e1]; exact q
    rw [sTk_nS hw hj q]
    refine ⟨?_, fun k hk => ?_⟩
    · unfold sTk
      rw [if_neg qa, if_neg q]
      exact e1
    · rw [sTk_at hw hj q k hk, sTk_at hwa hj qa k hk]
      split
      · rfl
      · split
        · exact e2 _ (by omega)
        · exact e2 _ (by omega)
/-! readings: a is the class's row, b the reference's -/
theorem rd_Te {n : Nat} {a b : Nat → Int32} (h : sim n a b) (hw : sWF b n) {j : Nat} (hj : j < n) (w : Int32) : kTe a j w (a 8) = sSk b (nI j) w := by
  have hn := hw.1
  unfold kTe sSk kHo
  rw [if_pos (zin_to hw.1 hw.2.1 hj), nI_clamp (by omega), h 8 (by omega), h (34 + 10 * j + 0) (by omega), h (34 + 10 * j + 1) (by omega), h (34 + 10 * j + 2) (by omega), h (34 + 10 * j + 3) (by omega), h (34 + 10 * j + 4) (by omega), h (34 + 10 * j + 5) (by omega), h (34 + 10 * j + 6) (by omega), h (34 + 10 * j + 7) (by omega), h (34 + 10 * j + 8) (by omega), h (34 + 10 * j + 9) (by omega)]
theorem rd_Str {n B : Nat} {a b : Nat → Int32} (h : sim n a b) (hb : zIv b n B) (v w : Int32) : kStr a n v w = sStr b n v w := by
  obtain ⟨hw, -, -, -, -, ⟨t, ht, h8⟩, -⟩ := hb
  unfold kStr sStr
  by_cases q : nI 0 ≤ v ∧ v ≤ nI 4
  · rw [if_pos q, if_pos q, kCs_eq, kCn_eq (t := t) (by omega) ((h 8 (by omega)).trans h8), sim_cSt h, sim_cNp h]
    obtain ⟨k, hk, rfl⟩ := zrng (by omega) q
    rw [nI_clamp (by omega), h _ (by omega)]
  · rw [if_neg q, if_neg q]
theorem rd_Cus {n : Nat} {a b : Nat → Int32} (h : sim n a b) (v w : Int32) : kCus a n v w = sCus b n v w := by
  unfold kCus sCus
  by_cases q : nI 0 ≤ v ∧ v ≤ nI 5
  · rw [if_pos q, if_pos q, kCc_eq, sim_cCu h]
    obtain ⟨k, hk, rfl⟩ := zrng (by omega) q
    rw [nI_clamp (by omega), h (15 + 3 * k + 0) (by omega), h (15 + 3 * k + 1) (by omega), h (15 + 3 * k + 2) (by omega)]
  · rw [if_neg q, if_neg q]
theorem zIv_sim {n B : Nat} {a b : Nat → Int32} (h : sim n a b) (hb : zIv b n B) : zIv a n B := by
  obtain ⟨hw, hB, h7, h9, h6, h8, hs⟩ := hb
  have hn := hw.1
  refine ⟨sim_WF h hw, hB, by rw [h 7 (by omega)]; exact h7, by rw [h 9 (by omega)]; exact h9, by rw [h 6 (by omega)]; exact h6, by rw [h 8 (by omega)]; exact h8, fun j hj => ?_⟩
  unfold zSk
  rw [h (34 + 10 * j + 1) (by omega), h (34 + 10 * j + 2) (by omega), h (34 + 10 * j + 3) (by omega), h (34 + 10 * j + 4) (by omega), h (34 + 10 * j + 5) (by omega), h (34 + 10 * j + 6) (by omega)]
  exact hs j hj
theorem rd_Num {n B : Nat} {F a b : Nat → Int32} (h : sim n a b) (hb : zIv b n B) {m c : Nat} (hF7 : F 7 = nI m) (hF3 : F 3 = nI c) (v : Int32) : (if v = nI 17 then nI m else if v = nI 18 then nI c else kNum a n v) = sCou F b n v := by
  have ha := zIv_sim h hb
  unfold kNum sCou
  rw [kTl_eq ha.2.2.1 ha.2.2.2.1, sim_Tl h, kLo_eq, kCf_eq ha.2.2.2.2.2.2, sim_Lds h, sim_Lds h, sim_Sum h (by omega), sim_Sum h (by omega), sim_Sum h (by omega), h 8 (by omega), h 33 (by omega), h 134 (by omega), hF7, hF3]
  by_cases q17 : v = nI 17
  · subst q17
    rw [if_pos rfl, if_neg (by decide), if_neg (by decide), if_neg (by decide), if_neg (by decide), if_neg (by decide), if_neg (by decide), if_neg (by decide), if_neg (by decide), if_neg (by decide), if_neg (by decide), if_pos rfl]
  · rw [if_neg q17]
    by_cases q18 : v = nI 18
    · subst q18
      rw [if_pos rfl, if_neg (by decide), if_neg (by decide), if_neg (by decide), if_neg (by decide), if_neg (by decide), if_neg (by decide), if_neg (by decide), if_neg (by decide), if_neg (by decide), if_neg (by decide), if_neg (by decide), if_pos rfl]
    · rw [if_neg q18, if_neg q17, if_neg q18]
      by_cases q : nI 0 ≤ v ∧ v ≤ nI 7
      · rw [if_pos q, if_pos q]
        obtain ⟨k, hk, rfl⟩ := zrng (by omega) q
        rw [nI_clamp (by omega)]
        exact h _ (by omega)
      · rw [if_neg q, if_neg q]
theorem nI_eqI {a b : Nat} (ha : a < 2 ^ 31) (hb : b < 2 ^ 31) : nI a = nI b ↔ a = b := ⟨fun y => by
  have := congrArg Int32.toInt y
  rw [nI_toInt ha, nI_toInt hb] at this
  omega, fun y => by rw [y]⟩
theorem rd_Uf {n B : Nat} {a b : Nat → Int32} (h : sim n a b) (hb : zIv b n B) {j : Nat} (hj : j < n) : kUf a j = sUf b (nI j) := by
  have hw := hb.1
  have hn := hw.1
  obtain ⟨z, st, g, l, vv, a1, a2, a3, a4, a5, b1, b2, b3, b4, b5, b6⟩ := hb.2.2.2.2.2.2 j hj
  unfold kUf sUf kHo sHo
  rw [if_pos (zin_to hw.1 hw.2.1 hj), nI_clamp (by omega), h (34 + 10 * j + 1) (by omega), h (34 + 10 * j + 3) (by omega), h (34 + 10 * j + 4) (by omega), b1, b4, pk_mul, nI_add]
  by_cases q : l = 20 + 20 * z
  · rw [if_pos ((nI_leI (by omega) (by omega)).mpr (by omega)), if_pos (by rw [q, pk_sub (Nat.le_refl _), Nat.sub_self]; rfl)]
  · rw [if_neg (fun y => by have := (nI_leI (by omega) (by omega)).mp y; omega), if_neg (show ¬ (nI (20 + 20 * z) - nI l = 0) from fun y => by rw [pk_sub (by omega)] at y; have := znz y (by omega); omega)]
theorem pa_6 {t : Nat} (ht : t < 2 ^ 30) {x : Int32} : (if nI t < (-6 : Int32) then x else nI 0) = nI 0 := by
  rw [if_neg]
  intro y
  have h2 : (-6 : Int32).toInt = -6 := by decide
  rw [Int32.lt_iff_toInt_lt, nI_toInt (show t < 2 ^ 31 by omega)] at y
  omega
theorem pa_N {d t : Nat} (hd : d < 2 ^ 31) (ht : t < 2 ^ 31) : (if nI t < nI d then nI d - nI t else nI 0) = nI (d - t) := by
  by_cases q : t < d
  · rw [if_pos ((nI_ltI ht hd).mpr q), pk_sub (by omega)]
  · rw [if_neg (fun y => q ((nI_ltI ht hd).mp y)), show d - t = 0 by omega]
theorem rd_Un {n B : Nat} {a b : Nat → Int32} (h : sim n a b) (hb : zIv b n B) {j : Nat} (hj : j < n) : kUn a j (a 8) = sUn b (nI j) := by
  have hw := hb.1
  have hn := hw.1
  have hB := hb.2.1
  obtain ⟨t, ht, h8⟩ := hb.2.2.2.2.2.1
  obtain ⟨z, st, g, l, vv, a1, a2, a3, a4, a5, b1, b2, b3, b4, b5, b6⟩ := hb.2.2.2.2.2.2 j hj
  unfold kUn sUn kPa
  rw [if_pos (zin_to hw.1 hw.2.1 hj), nI_clamp (by omega), h (34 + 10 * j + 2) (by omega), h (34 + 10 * j + 5) (by omega), h (34 + 10 * j + 6) (by omega), h 8 (by omega), b2, b5, h8]
  by_cases q2 : nI st = nI 5
  · rw [if_pos q2, if_neg (fun y => (z5 st a2).mp y q2)]
  · rw [if_neg q2, if_pos ((z5 st a2).mpr q2)]
    dsimp only
    have hP : ∃ P, P < 2 ^ 30 + 1 ∧ (if nI t < b (34 + 10 * j + 6) then b (34 + 10 * j + 6) - nI t else nI 0) = nI P ∧ (if b (34 + 10 * j + 6) ≠ -6 ∧ nI t ≤ b (34 + 10 * j + 6) then b (34 + 10 * j + 6) - nI t + nI 1 else nI 1) = nI (P + 1) := by
      rcases b6 with e | ⟨d, hd, e⟩
      · refine ⟨0, by omega, ?_, ?_⟩
        · rw [e, pa_6 (by omega)]
        · rw [if_neg (fun y => y.1 e)]
      · rw [e]
        refine ⟨d - t, by omega, pa_N (by omega) (by omega), ?_⟩
        by_cases q3 : t ≤ d
        · rw [if_pos ⟨zm6 (by omega), (nI_leI (by omega) (by omega)).mpr q3⟩, pk_sub q3, nI_add]
        · rw [if_neg (fun y => q3 ((nI_leI (by omega) (by omega)).mp y.2)), show d - t = 0 by omega]
    obtain ⟨P, hP, e1, e2⟩ := hP
    rw [e1, e2, nI_add]
    by_cases q3 : vv < P
    · rw [if_pos ((nI_ltI (by omega) (by omega)).mpr q3), if_pos ((nI_leI (by omega) (by omega)).mpr (by omega)), nI_add, Nat.add_comm]
    · rw [if_neg (fun y => q3 ((nI_ltI (by omega) (by omega)).mp y)), nI_add]
      by_cases q4 : vv = P
      · rw [if_pos ((nI_leI (by omega) (by omega)).mpr (by omega)), q4, Nat.add_comm]
      · rw [if_neg (fun y => by have := (nI_leI (by omega) (by omega)).mp y; omega), Nat.add_comm]

