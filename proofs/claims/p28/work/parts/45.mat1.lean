/-! two rows that agree as far as skips stand; the class's small formulas are the reference's -/
def sim (n : Nat) (a b : Nat → Int32) : Prop := ∀ k, k < 34 + 10 * n ∨ k = 134 → a k = b k
theorem sim_refl (n : Nat) (a : Nat → Int32) : sim n a a := fun _ _ => rfl
theorem sim_upd {n : Nat} {a b : Nat → Int32} (h : sim n a b) {i : Nat} {v w : Int32} (e : v = w) : sim n (upd a i v) (upd b i w) := fun k hk => by
  by_cases q : k = i
  · subst q; rw [pk_us, pk_us, e]
  · rw [pk_un q, pk_un q, h k hk]
theorem sim_mono {n m : Nat} {a b : Nat → Int32} (h : sim n a b) (hm : m ≤ n) : sim m a b := fun k hk => h k (by omega)
theorem sim_WF {n : Nat} {a b : Nat → Int32} (h : sim n a b) (hw : sWF b n) : sWF a n := hw.of (h 33 (by omega)) (fun j hj => h _ (by omega))
theorem sim_ch {n : Nat} {a b : Nat → Int32} (h : sim n a b) {j c : Nat} (hj : j < n) (hc : c < 6) {x y : Int32} (e : x = y) : sim n (sCh a j c x) (sCh b j c y) := by
  unfold sCh
  have h1 : sim n (upd a (34 + 10 * j + 9) (a (34 + 10 * j + 9) + x)) (upd b (34 + 10 * j + 9) (b (34 + 10 * j + 9) + y)) := sim_upd h (by rw [h _ (by omega), e])
  exact sim_upd h1 (by rw [h1 _ (by omega), e])
theorem zsubI {a b : Nat} (ha : a < 2 ^ 31) (hb : b < 2 ^ 31) : (nI a - nI b).toInt = (a : Int) - (b : Int) := by
  rw [Int32.toInt_sub, nI_toInt ha, nI_toInt hb, Int.bmod_def]
  split <;> omega
theorem mx0_N {a b : Nat} (ha : a < 2 ^ 31) (hb : b < 2 ^ 31) : mx0 (nI a - nI b) = nI (a - b) := by
  unfold mx0
  have h := zsubI ha hb
  have h0 : (nI 0).toInt = 0 := by decide
  by_cases q : b < a
  · rw [if_pos (by rw [Int32.lt_iff_toInt_lt, h, h0]; omega), pk_sub (by omega)]
  · rw [if_neg (by rw [Int32.lt_iff_toInt_lt, h, h0]; omega), show a - b = 0 by omega]
/-- one skip's numbers are in range -/
def zSk (s : Nat → Int32) (j B : Nat) : Prop := ∃ z st g l v, z ≤ 3 ∧ st ≤ 5 ∧ g ≤ 30 ∧ l ≤ 20 + 20 * z ∧ v ≤ 30 ∧ s (34 + 10 * j + 1) = nI z ∧ s (34 + 10 * j + 2) = nI st ∧ s (34 + 10 * j + 4) = nI g ∧ s (34 + 10 * j + 3) = nI l ∧ s (34 + 10 * j + 5) = nI v ∧ (s (34 + 10 * j + 6) = -6 ∨ ∃ d, d ≤ B ∧ s (34 + 10 * j + 6) = nI d)
/-- a row's numbers are in range -/
def zIv (s : Nat → Int32) (n B : Nat) : Prop := sWF s n ∧ B ≤ 2 ^ 30 ∧ (∃ v, v ≤ 9 ∧ s 7 = nI v) ∧ (∃ v, v ≤ 9 ∧ s 9 = nI v) ∧ (∃ v, v ≤ 30 ∧ s 6 = nI v) ∧ (∃ d, d ≤ 9999 ∧ s 8 = nI d) ∧ ∀ j, j < n → zSk s j B
theorem kTl_eq {s : Nat → Int32} (h7 : ∃ v, v ≤ 9 ∧ s 7 = nI v) (h9 : ∃ v, v ≤ 9 ∧ s 9 = nI v) : kTl s = sTl s := by
  obtain ⟨a, ha, e7⟩ := h7
  obtain ⟨b, hb, e9⟩ := h9
  unfold kTl sTl
  rw [e7, e9, mx0_N (by omega) (by omega)]
  by_cases q : a ≤ b
  · rw [if_pos ((nI_leI (by omega) (by omega)).mpr q), show a - b = 0 by omega]
  · rw [if_neg (fun z => q ((nI_leI (by omega) (by omega)).mp z)), pk_sub (by omega)]
theorem sCh_2 {s : Nat → Int32} {j c : Nat} {x y : Int32} (hc : c < 6) : sCh (sCh s j c x) j c y = sCh s j c (x + y) := by
  funext k
  unfold sCh
  by_cases h1 : k = 15 + 3 * c + 0
  · subst h1
    rw [pk_us, pk_us, pk_un (by omega), pk_us, pk_un (by omega), pk_un (by omega), Int32.add_assoc]
  · rw [pk_un h1, pk_un h1]
    by_cases h2 : k = 34 + 10 * j + 9
    · subst h2
      rw [pk_us, pk_us, pk_un (by omega), pk_us, Int32.add_assoc]
    · rw [pk_un h2, pk_un h2, pk_un h1, pk_un h2]
/-- a trip and a tip: one charge, or two -/
theorem kTi_eq {s : Nat → Int32} {j c : Nat} (hj : j < 10) (hc : c < 6) : kTp (kMt s j c) j c = sTi s j c := by
  have e4 : kMt s j c 4 = s 4 := kMt_ne (by omega) (by omega) (by omega)
  have e3 : kMt s j c (34 + 10 * j + 3) = s (34 + 10 * j + 3) := kMt_ne (by omega) (by omega) (by omega)
  have e : sCh (kMt s j c) j c (kMt s j c 4 * kMt s j c (34 + 10 * j + 3)) = sCh (upd s 9 (s 9 + nI 1)) j c (upd s 9 (s 9 + nI 1) 5 + upd s 9 (s 9 + nI 1) 4 * s (34 + 10 * j + 3)) := by
    rw [e4, e3]
    show sCh (sCh (upd s 9 (s 9 + nI 1)) j c (upd s 9 (s 9 + nI 1) 5)) j c (s 4 * s (34 + 10 * j + 3)) = _
    rw [sCh_2 hc, pk_un (show (4 : Nat) ≠ 9 by omega)]
  unfold kTp sTi
  dsimp only
  rw [e, e3]
theorem kSw_eq {s : Nat → Int32} {n B : Nat} (h : zIv s n B) (v : Int32) : kSw s v = sSw s v := by
  obtain ⟨hw, -, h7, h9, -⟩ := h
  unfold kSw sSw
  by_cases q : nI 0 ≤ v ∧ v ≤ s 33 - nI 1
  · rw [if_pos q, if_pos q]
    unfold kSwj
    rw [kTl_eq h7 h9]
    by_cases q2 : sTl s = 0
    · rw [if_pos q2, if_pos q2]
    · rw [if_neg q2, if_neg q2]
      obtain ⟨j, hj, rfl⟩ := zskip hw.1 hw.2.1 q
      have hn := hw.1
      obtain ⟨c, hc, hcu⟩ := hw.2.2 j hj
      rw [nI_clamp (by omega), cuN_eq hc hcu, kTi_eq (by omega) hc, kMt_ne (by omega) (by omega) (by omega)]
  · rw [if_neg q, if_neg q]
theorem z5 : ∀ st, st ≤ 5 → (nI st < nI 5 ↔ ¬ nI st = nI 5) := by decide
theorem zm6 {d : Nat} (hd : d < 2 ^ 31) : ¬ nI d = -6 := fun z => by
  have h1 := congrArg Int32.toInt z
  rw [nI_toInt hd] at h1
  have h2 : (-6 : Int32).toInt = -6 := by decide
  omega
theorem zm6l {d : Nat} (hd : d < 2 ^ 31) : ¬ nI d ≤ -6 := fun z => by
  have h1 := Int32.le_iff_toInt_le.mp z
  rw [nI_toInt hd] at h1
  have h2 : (-6 : Int32).toInt = -6 := by decide
  omega
/-- a permit's test: with none, no day is a day of it -/
theorem zperm {x : Int32} {t : Nat} (ht : t < 2 ^ 31) : (x ≠ -6 ∧ nI t ≤ x) ↔ nI t ≤ x := ⟨fun z => z.2, fun z => ⟨fun q => by rw [q] at z; exact zm6l ht z, z⟩⟩
theorem kPe_eq {s : Nat → Int32} {n B : Nat} (h : zIv s n B) (v d : Int32) : kPe s v d = sPe s v d := by
  obtain ⟨hw, -, -, -, -, ⟨t, ht, h8⟩, hsk⟩ := h
  unfold kPe sPe
  by_cases q : nI 0 ≤ v ∧ v ≤ s 33 - nI 1
  · rw [if_pos q, if_pos q]
    obtain ⟨j, hj, rfl⟩ := zskip hw.1 hw.2.1 q
    have hn := hw.1
    obtain ⟨c, hc, hcu⟩ := hw.2.2 j hj
    rw [nI_clamp (by omega), cuN_eq hc hcu]
    obtain ⟨z, st, g, l, vv, a1, a2, a3, a4, a5, b1, b2, b3, b4, b5, b6⟩ := hsk j hj
    unfold kPej
    by_cases q1 : nI 1 ≤ d ∧ d ≤ nI 99
    · rw [if_pos q1, if_pos q1, b2]
      by_cases q2 : nI st = nI 5
      · rw [if_pos q2, if_neg (fun z => (z5 st a2).mp z q2)]
      · rw [if_neg q2, if_pos ((z5 st a2).mpr q2)]
        have e : (if s 8 ≤ s (34 + 10 * j + 6) then s (34 + 10 * j + 6) else s 8 - nI 1) = (if s (34 + 10 * j + 6) ≠ -6 ∧ s 8 ≤ s (34 + 10 * j + 6) then s (34 + 10 * j + 6) else s 8 - nI 1) := by
          rw [h8]
          by_cases q3 : nI t ≤ s (34 + 10 * j + 6)
          · rw [if_pos q3, if_pos ((zperm (by omega)).mpr q3)]
          · rw [if_neg q3, if_neg (fun z => q3 z.2)]
        dsimp only
        rw [e, sCh_ne (by omega) (by omega), pk_us]
    · rw [if_neg q1, if_neg q1]
  · rw [if_neg q, if_neg q]

