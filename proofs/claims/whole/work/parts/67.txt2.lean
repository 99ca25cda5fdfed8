/-! a text: the class's signs and the reference's -/
theorem zlp_set {b : Nat} {g : Nat → Int32} : ∀ (r k : Nat) (x : Nat → Int32) (i : Nat), zlp (fun w x => upd x (b + w) (g w)) r k x i = if b + k ≤ i ∧ i < b + k + r then g (i - b) else x i
  | 0, k, x, i => by rw [if_neg (by omega)]; rfl
  | r + 1, k, x, i => by
    show zlp (fun w x => upd x (b + w) (g w)) r (k + 1) (upd x (b + k) (g k)) i = _
    rw [zlp_set r (k + 1) _ i]
    by_cases q : b + (k + 1) ≤ i ∧ i < b + (k + 1) + r
    · rw [if_pos q, if_pos (by omega)]
    · rw [if_neg q]
      by_cases e : i = b + k
      · subst e
        rw [pk_us, if_pos (by omega), Nat.add_sub_cancel_left]
      · rw [pk_un e, if_neg (by omega)]
theorem zb_0 (b : BitVec 32) : b = 0#32 ↔ ∀ i, i < 32 → b.getLsbD i = false := ⟨fun h i _ => by rw [h]; simp, fun h => BitVec.eq_of_getLsbD_eq (fun i hi => by rw [h i hi]; simp)⟩
theorem zb64_0 (b : BitVec 64) : b = 0#64 ↔ ∀ i, i < 64 → b.getLsbD i = false := ⟨fun h i _ => by rw [h]; simp, fun h => BitVec.eq_of_getLsbD_eq (fun i hi => by rw [h i hi]; simp)⟩
theorem uSh_b (y : Int64) (k : Nat) (hk : k < 8) : uSh y k = 0 ↔ ∀ i, 8 * k ≤ i → i < 64 → y.toBitVec.getLsbD i = false := by
  have e : (uSh y k).toBitVec = y.toBitVec >>> (8 * k) := by
    unfold uSh
    rw [zsh1 k hk]
    have h5 : 8 * k % 64 = 8 * k := by omega
    have h3 := zsh3 k hk
    simp
    rw [h5]
  rw [← Int64.toBitVec_inj, e]
  show y.toBitVec >>> (8 * k) = 0#64 ↔ _
  rw [zb64_0]
  constructor
  · intro h i h1 h2
    have := h (i - 8 * k) (by omega)
    rw [BitVec.getLsbD_ushiftRight, show 8 * k + (i - 8 * k) = i by omega] at this
    exact this
  · intro h i hi
    rw [BitVec.getLsbD_ushiftRight]
    by_cases q : 8 * k + i < 64
    · exact h _ (by omega) q
    · exact BitVec.getLsbD_of_ge _ _ (by omega)
theorem uCd_b (y : Int64) (k : Nat) (hk : k < 8) : uCd y k = 0 ↔ ∀ i, 8 * k ≤ i → i < 8 * k + 8 → y.toBitVec.getLsbD i = false := by
  have e : (uCd y k).toBitVec = BitVec.signExtend 32 (y.toBitVec >>> (8 * k)) &&& 255#32 := by
    unfold uCd
    rw [zsh1 k hk]
    have h4 : (nI 255).toBitVec = 255#32 := by decide
    have h5 : 8 * k % 64 = 8 * k := by omega
    simp only [Int32.toBitVec_and, h4]
    simp
    rw [h5]
  rw [← Int32.toBitVec_inj, e]
  show _ = 0#32 ↔ _
  rw [zb_0]
  have hb : ∀ i, i < 32 → (BitVec.signExtend 32 (y.toBitVec >>> (8 * k)) &&& 255#32).getLsbD i = (y.toBitVec.getLsbD (8 * k + i) && decide (i < 8)) := fun i hi => by
    rw [BitVec.getLsbD_and, z255 i hi, BitVec.getLsbD_signExtend, if_pos (by omega), BitVec.getLsbD_ushiftRight]
    simp [hi]
  constructor
  · intro h i h1 h2
    have := h (i - 8 * k) (by omega)
    rw [hb _ (by omega), show 8 * k + (i - 8 * k) = i by omega, decide_eq_true (show i - 8 * k < 8 by omega), Bool.and_true] at this
    exact this
  · intro h i hi
    rw [hb i hi]
    by_cases q : i < 8
    · rw [h _ (by omega) (by omega)]; rfl
    · rw [decide_eq_false q, Bool.and_false]
/-- nothing more comes, where and only where all signs from there on are 0 -/
theorem uSh_uCd (y : Int64) (k : Nat) (hk : k < 8) : uSh y k = 0 ↔ ∀ j, k ≤ j → j < 8 → uCd y j = 0 := by
  rw [uSh_b y k hk]
  constructor
  · intro h j h1 h2
    exact (uCd_b y j h2).mpr (fun i h3 h4 => h i (by omega) (by omega))
  · intro h i h1 h2
    exact (uCd_b y (i / 8) (by omega)).mp (h (i / 8) (by omega) (by omega)) i (by omega) (by omega)
theorem y255 (y : Int64) : lg_cmp (y &&& 255) 0 = 0 ↔ uCd y 0 = 0 := by
  rw [lg_cmp_eq, uCd_b y 0 (by omega), ← Int64.toBitVec_inj]
  show y.toBitVec &&& 255#64 = 0#64 ↔ _
  rw [zb64_0]
  have z : ∀ i, i < 64 → (255#64).getLsbD i = decide (i < 8) := by decide
  constructor
  · intro h i h1 h2
    have := h i (by omega)
    rw [BitVec.getLsbD_and, z i (by omega), decide_eq_true (show i < 8 by omega), Bool.and_true] at this
    exact this
  · intro h i hi
    rw [BitVec.getLsbD_and, z i hi]
    by_cases q : i < 8
    · rw [h i (by omega) (by omega)]; rfl
    · rw [decide_eq_false q, Bool.and_false]
theorem wSt_1 {y : Int64} : ∀ (r k : Nat) (m : Nat × Bool × Bool), m.2.2 = true → (zlp (wSt y) r k m).2.2 = true
  | 0, _, _, h => h
  | r + 1, k, m, h => wSt_1 r (k + 1) (wSt y k m) (by
    show (m.2.2 || _) = true
    rw [h]; rfl)
theorem wSt_2 {y : Int64} : ∀ (r k m : Nat) (w : Bool), (∀ j, k ≤ j → j < k + r → rCd y j = 0) → zlp (wSt y) r k (m, true, w) = (m, true, w)
  | 0, _, _, _, _ => rfl
  | r + 1, k, m, w, h => by
    show zlp (wSt y) r (k + 1) (wSt y k (m, true, w)) = _
    have e : wSt y k (m, true, w) = (m, true, w) := by
      unfold wSt
      simp [h k (Nat.le_refl _) (by omega)]
    rw [e]
    exact wSt_2 r (k + 1) m w (fun j h1 h2 => h j (by omega) (by omega))
theorem wSt_3 {y : Int64} : ∀ (r k m : Nat) (w : Bool), (∃ j, k ≤ j ∧ j < k + r ∧ ¬ rCd y j = 0) → (zlp (wSt y) r k (m, true, w)).2.2 = true
  | 0, k, m, w, h => by
    obtain ⟨j, h1, h2, h3⟩ := h
    omega
  | r + 1, k, m, w, h => by
    obtain ⟨j, h1, h2, h3⟩ := h
    show (zlp (wSt y) r (k + 1) (wSt y k (m, true, w))).2.2 = true
    by_cases q : rCd y k = 0
    · have e : wSt y k (m, true, w) = (m, true, w) := by
        unfold wSt
        simp [q]
      rw [e]
      refine wSt_3 r (k + 1) m w ⟨j, ?_, by omega, h3⟩
      rcases Nat.lt_or_ge k j with z | z
      · omega
      · exact absurd (show rCd y j = 0 by rw [show j = k by omega]; exact q) h3
    · exact wSt_1 r (k + 1) _ (by unfold wSt; simp [q])
theorem uSi_wSt {y : Int64} : ∀ (r k : Nat), k + r = 8 → (k ≠ 0 ∨ ¬ uSh y 0 = 0) → (uSi y r k ≠ 0 → ∃ b, zlp (wSt y) r k (k, false, false) = (uSi y r k, b, false)) ∧ (uSi y r k = 0 → (zlp (wSt y) r k (k, false, false)).2.2 = true)
  | 0, k, hk, _ => ⟨fun _ => ⟨false, by show (k, false, false) = (8, false, false); rw [show k = 8 by omega]⟩, fun h => by
    have h : 8 = 0 := h
    omega⟩
  | r + 1, k, hk, h0 => by
    have hc := uCd_eq y k (by omega)
    have hz := uSh_uCd y k (by omega)
    have hstep : zlp (wSt y) (r + 1) k (k, false, false) = zlp (wSt y) r (k + 1) (wSt y k (k, false, false)) := rfl
    rw [hstep]
    unfold uSi
    by_cases q : uSh y k = 0
    · rw [if_pos ((lg_cmp_eq _ _).mpr q)]
      have hk0 : k ≠ 0 := by
        rcases h0 with z | z
        · exact z
        · intro e; subst e; exact z q
      have hall := hz.mp q
      have e : wSt y k (k, false, false) = (k, true, false) := by
        unfold wSt
        simp [← hc, hall k (Nat.le_refl _) (by omega)]
      rw [e, wSt_2 r (k + 1) k false (fun j h1 h2 => by rw [← uCd_eq y j (by omega)]; exact hall j (by omega) (by omega))]
      exact ⟨fun _ => ⟨true, rfl⟩, fun z => absurd z hk0⟩
    · rw [if_neg (fun z => q ((lg_cmp_eq _ _).mp z))]
      by_cases q2 : nI 33 ≤ uCd y k ∧ uCd y k ≤ nI 126
      · rw [if_pos q2]
        have hne : ¬ rCd y k = 0 := by
          rw [← hc]
          intro z
          rw [z] at q2
          exact absurd q2.1 (by decide)
        have e : wSt y k (k, false, false) = (k + 1, false, false) := by
          have q3 : nI 33 ≤ rCd y k ∧ rCd y k ≤ nI 126 := by rw [← hc]; exact q2
          unfold wSt
          simp [hne, q3]
        rw [e]
        exact uSi_wSt r (k + 1) (by omega) (Or.inl (by omega))
      · rw [if_neg q2]
        refine ⟨fun z => absurd rfl z, fun _ => ?_⟩
        by_cases q3 : rCd y k = 0
        · have e : wSt y k (k, false, false) = (k, true, false) := by
            unfold wSt
            simp [q3]
          rw [e]
          apply wSt_3
          apply Classical.byContradiction
          intro hno
          refine q (hz.mpr (fun j h1 h2 => ?_))
          rw [uCd_eq y j h2]
          rcases Nat.lt_or_ge k j with z | z
          · exact Classical.byContradiction (fun w => hno ⟨j, by omega, by omega, w⟩)
          · rw [show j = k by omega]; exact q3
        · apply wSt_1
          have q4 : ¬ (nI 33 ≤ rCd y k ∧ rCd y k ≤ nI 126) := by rw [← hc]; exact q2
          unfold wSt
          simp only [decide_eq_false q3, Bool.false_or, Bool.or_false, if_neg (show ¬ (false = true) by decide), decide_eq_false q4, Bool.not_false]
theorem uSi_w0 {y : Int64} (h : uSi y 8 0 = 0) : (wRs y).2.2 = true := by
  unfold wRs
  by_cases q : lg_cmp (y &&& 255) 0 = 0
  · exact wSt_1 8 0 _ (decide_eq_true q)
  · rw [decide_eq_false q]
    exact (uSi_wSt 8 0 rfl (Or.inr (fun z => q ((y255 y).mpr ((uSh_uCd y 0 (by omega)).mp z 0 (by omega) (by omega)))))).2 h
theorem uSi_wn {y : Int64} (h : ¬ uSi y 8 0 = 0) : (wRs y).2.2 = false ∧ (wRs y).1 = uSi y 8 0 := by
  have q : ¬ lg_cmp (y &&& 255) 0 = 0 := fun z => h (by
    have z2 := (y255 y).mp z
    unfold uSi
    by_cases q : lg_cmp (uSh y 0) 0 = 0
    · rw [if_pos q]
    · rw [if_neg q, if_neg (fun w => by rw [z2] at w; exact absurd w.1 (by decide))])
  unfold wRs
  rw [decide_eq_false q]
  obtain ⟨b, e⟩ := (uSi_wSt 8 0 rfl (Or.inr (fun z => q ((y255 y).mpr ((uSh_uCd y 0 (by omega)).mp z 0 (by omega) (by omega)))))).1 h
  rw [e]
  exact ⟨rfl, rfl⟩
/-- what both answer -/
theorem sWr_uPp {y : Int64} {h : zhp} {F p : Nat → Int32} {m : Nat} : (sWr y F p m).1 = (uPp h y m).1 := by
  unfold sWr uPp
  by_cases q : uSi y 8 0 = 0
  · rw [if_pos (uSi_w0 q), if_pos q]
  · obtain ⟨e1, e2⟩ := uSi_wn q
    rw [if_neg (by rw [e1]; decide), if_neg q, e2]
    split <;> rfl
