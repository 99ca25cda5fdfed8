/-! a skip more, a skip less -/
theorem upd_if (f : Nat → Int32) (i : Nat) (v : Int32) (k : Nat) : upd f i v k = if k = i then v else f k := by
  by_cases q : k = i
  · subst q; rw [pk_us, if_pos rfl]
  · rw [pk_un q, if_neg q]
theorem zlp_c {b : Nat} {v : Int32} : ∀ (r k : Nat) (x : Nat → Int32) (i : Nat), zlp (fun w x => upd x (b + w) v) r k x i = if b + k ≤ i ∧ i < b + k + r then v else x i
  | 0, k, x, i => by rw [if_neg (by omega)]; rfl
  | r + 1, k, x, i => by
    show zlp (fun w x => upd x (b + w) v) r (k + 1) (upd x (b + k) v) i = _
    rw [zlp_c r (k + 1), upd_if]
    repeat' split
    all_goals first | rfl | omega
/-- the row of a new skip, before its trip -/
def nSk (s : Nat → Int32) (n c : Nat) (z st g : Int32) : Nat → Int32 := fun k =>
  if k = 33 then s 33 + nI 1 else if k = 34 + 10 * n + 0 then nI c else if k = 34 + 10 * n + 1 then z else if k = 34 + 10 * n + 2 then st else if k = 34 + 10 * n + 4 then g else if k = 34 + 10 * n + 5 then s 6 else if k = 34 + 10 * n + 6 then -6 else if k = 34 + 10 * n + 8 then s 8 else if 34 + 10 * n ≤ k ∧ k < 34 + 10 * n + 10 then nI 0 else s k
theorem kPu_n {s : Nat → Int32} {n c : Nat} {z st g : Int32} : kPu s n c z st g = sCh (upd (nSk s n c z st g) 9 (s 9 + nI 1)) n c (s 5) := by
  have e : ∀ k, (upd (upd (upd (kBg s n (nI c) z st g) (34 + 10 * n + 5) (kBg s n (nI c) z st g 6)) (34 + 10 * n + 8) (upd (kBg s n (nI c) z st g) (34 + 10 * n + 5) (kBg s n (nI c) z st g 6) 8)) 33 ((upd (upd (kBg s n (nI c) z st g) (34 + 10 * n + 5) (kBg s n (nI c) z st g 6)) (34 + 10 * n + 8) (upd (kBg s n (nI c) z st g) (34 + 10 * n + 5) (kBg s n (nI c) z st g 6) 8)) 33 + nI 1)) k = nSk s n c z st g k := fun k => by
    have l : ∀ i, i < 34 → kBg s n (nI c) z st g i = s i := fun i hi => by
      unfold kBg
      rw [pk_un (by omega), pk_un (by omega), pk_un (by omega), pk_un (by omega), pk_un (by omega), pk_un (by omega), pk_un (by omega), pk_un (by omega)]
    rw [l 6 (by omega), pk_un (show (8 : Nat) ≠ 34 + 10 * n + 5 by omega), l 8 (by omega), pk_un (show (33 : Nat) ≠ 34 + 10 * n + 8 by omega), pk_un (show (33 : Nat) ≠ 34 + 10 * n + 5 by omega), l 33 (by omega)]
    unfold kBg nSk
    simp only [upd_if]
    repeat' split
    all_goals first | rfl | omega
  unfold kPu kMt
  dsimp only
  rw [funext e]
  have e9 : nSk s n c z st g 9 = s 9 := by
    unfold nSk
    rw [if_neg (by omega), if_neg (by omega), if_neg (by omega), if_neg (by omega), if_neg (by omega), if_neg (by omega), if_neg (by omega), if_neg (by omega), if_neg (by omega)]
  have e5 : nSk s n c z st g 5 = s 5 := by
    unfold nSk
    rw [if_neg (by omega), if_neg (by omega), if_neg (by omega), if_neg (by omega), if_neg (by omega), if_neg (by omega), if_neg (by omega), if_neg (by omega), if_neg (by omega)]
  rw [e9, pk_un (show (5 : Nat) ≠ 9 by omega), e5]
theorem sPu_n {s : Nat → Int32} {n c : Nat} {z st g : Int32} : sPu s n c z st g = sCh (upd (nSk s n c z st g) 9 (s 9 + nI 1)) n c (s 5) := by
  obtain ⟨s2, h2⟩ : ∃ s2, s2 = zlp (fun w x => upd x (34 + 10 * n + w) (nI 0)) 10 0 (upd s 33 (s 33 + nI 1)) := ⟨_, rfl⟩
  have e2 : ∀ k, s2 k = if 34 + 10 * n ≤ k ∧ k < 34 + 10 * n + 10 then nI 0 else if k = 33 then s 33 + nI 1 else s k := fun k => by
    rw [h2, zlp_c, upd_if]
    rfl
  unfold sPu
  dsimp only
  rw [← h2]
  obtain ⟨s6, h6⟩ : ∃ s6, s6 = upd (upd (upd (upd s2 (34 + 10 * n + 0) (nI c)) (34 + 10 * n + 1) z) (34 + 10 * n + 2) st) (34 + 10 * n + 4) g := ⟨_, rfl⟩
  rw [← h6]
  have l6 : ∀ i, i < 33 → s6 i = s i := fun i hi => by
    rw [h6, pk_un (by omega), pk_un (by omega), pk_un (by omega), pk_un (by omega), e2, if_neg (by omega), if_neg (by omega)]
  rw [l6 6 (by omega)]
  have e : upd (upd (upd s6 (34 + 10 * n + 5) (s 6)) (34 + 10 * n + 6) (-6)) (34 + 10 * n + 8) (upd (upd s6 (34 + 10 * n + 5) (s 6)) (34 + 10 * n + 6) (-6) 8) = nSk s n c z st g := by
    funext k
    rw [pk_un (show (8 : Nat) ≠ 34 + 10 * n + 6 by omega), pk_un (show (8 : Nat) ≠ 34 + 10 * n + 5 by omega), l6 8 (by omega), h6]
    unfold nSk
    simp only [upd_if, e2]
    repeat' split
    all_goals first | rfl | omega
  rw [e]
  have e9 : nSk s n c z st g 9 = s 9 := by
    unfold nSk
    rw [if_neg (by omega), if_neg (by omega), if_neg (by omega), if_neg (by omega), if_neg (by omega), if_neg (by omega), if_neg (by omega), if_neg (by omega), if_neg (by omega)]
  have e5 : nSk s n c z st g 5 = s 5 := by
    unfold nSk
    rw [if_neg (by omega), if_neg (by omega), if_neg (by omega), if_neg (by omega), if_neg (by omega), if_neg (by omega), if_neg (by omega), if_neg (by omega), if_neg (by omega)]
  rw [e9, pk_un (show (5 : Nat) ≠ 9 by omega), e5]
theorem sim_Pu {n : Nat} {a b : Nat → Int32} (h : sim n a b) {c : Nat} (hc : c < 6) {z st g : Int32} : sim (n + 1) (sPu a n c z st g) (sPu b n c z st g) := by
  rw [sPu_n, sPu_n]
  have h1 : sim (n + 1) (nSk a n c z st g) (nSk b n c z st g) := fun k hk => by
    unfold nSk
    rw [h 33 (by omega), h 6 (by omega), h 8 (by omega)]
    by_cases q : k < 34 + 10 * n ∨ k = 134
    · rw [h k q]
    · repeat' split
      all_goals first | rfl | omega
  exact sim_ch (sim_upd h1 (by rw [h 9 (by omega)])) (by omega) hc (h 5 (by omega))
theorem kPuts_eq {s : Nat → Int32} {n B : Nat} (h : zIv s n B) (cu z st g : Int32) : kPuts s n cu z st g = sPuts s n cu z st g := by
  obtain ⟨hw, -, h7, h9, -⟩ := h
  have hn := hw.1
  unfold kPuts sPuts
  by_cases q1 : (nI 0 ≤ cu ∧ cu ≤ nI 5) ∧ (nI 0 ≤ st ∧ st ≤ nI 5)
  · rw [if_pos q1, if_pos q1]
    by_cases q2 : (nI 0 ≤ z ∧ z ≤ nI 3) ∧ (nI 0 ≤ g ∧ g ≤ nI 30)
    · rw [if_pos q2, if_pos q2, kTl_eq h7 h9, kCs_eq]
      by_cases q3 : (st = nI 5 ∨ sCntSt s n st < s (10 + st.toNatClampNeg)) ∧ ¬ sTl s = 0
      · rw [if_pos q3, if_pos q3, hw.2.1]
        by_cases q4 : n = 10
        · rw [q4, if_neg (by decide), if_pos rfl]
        · rw [if_pos ((nI_ltI (by omega) (by omega)).mpr (by omega)), if_neg (fun y => q4 (by
            have := congrArg Int32.toInt y
            rw [nI_toInt (by omega), nI_toInt (by omega)] at this
            omega)), kPu_n, sPu_n]
      · rw [if_neg q3, if_neg q3]
    · rw [if_neg q2, if_neg q2]
  · rw [if_neg q1, if_neg q1]
theorem sim_Puts {n : Nat} {a b : Nat → Int32} (h : sim n a b) (hw : sWF b n) (cu z st g : Int32) : (sPuts a n cu z st g).1 = (sPuts b n cu z st g).1 ∧ sim (nS (sPuts b n cu z st g).2) (sPuts a n cu z st g).2 (sPuts b n cu z st g).2 := by
  have hn := hw.1
  unfold sPuts
  by_cases q1 : (nI 0 ≤ cu ∧ cu ≤ nI 5) ∧ (nI 0 ≤ st ∧ st ≤ nI 5)
  · rw [if_pos q1, if_pos q1]
    by_cases q2 : (nI 0 ≤ z ∧ z ≤ nI 3) ∧ (nI 0 ≤ g ∧ g ≤ nI 30)
    · rw [if_pos q2, if_pos q2, sim_Tl h, sim_cSt h, h 33 (by omega)]
      obtain ⟨stn, hst, est⟩ := zrng (x := st) (b := 5) (by omega) q1.2
      rw [h (10 + st.toNatClampNeg) (by rw [est, nI_clamp (by omega)]; omega)]
      by_cases q3 : (st = nI 5 ∨ sCntSt b n st < b (10 + st.toNatClampNeg)) ∧ ¬ sTl b = 0
      · rw [if_pos q3, if_pos q3]
        by_cases q4 : b 33 = nI 10
        · rw [if_pos q4, if_pos q4]; exact ⟨rfl, by rw [sWF_nS hw]; exact h⟩
        · rw [if_neg q4, if_neg q4]
          obtain ⟨c, hc, rfl⟩ := zrng (x := cu) (b := 5) (by omega) q1.1
          rw [nI_clamp (by omega)]
          refine ⟨rfl, ?_⟩
          have e33 : nS (sPu b n c z st g) = n + 1 := by
            unfold nS
            rw [sPu_33 (by omega), hw.2.1, nI_add]
            exact nI_clamp (by omega)
          rw [e33]
          exact sim_Pu h (by omega)
      · rw [if_neg q3, if_neg q3]; exact ⟨rfl, by rw [sWF_nS hw]; exact h⟩
    · rw [if_neg q2, if_neg q2]; exact ⟨rfl, by rw [sWF_nS hw]; exact h⟩
  · rw [if_neg q1, if_neg q1]; exact ⟨rfl, by rw [sWF_nS hw]; exact h⟩

