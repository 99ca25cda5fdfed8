/-! THE REFERENCE'S PICTURE: its object is cell 181 (F: its own ints), its rows are cells 182 (s), 183 (aside), 184 (history), 185 (slots), 186 (pad) -/
def zfi (e : Int32) (h0 : zhp) : Option Value → zhp → Prop := fun r h' => r = some (.int e) ∧ h' = h0
def zfn (h0 : zhp) : Option Value → zhp → Prop := fun r h' => r = none ∧ h' = h0
/-- a truth as an int -/
abbrev zb (P : Prop) [Decidable P] : Int32 := if P then nI 1 else nI 0
theorem zb_ne {P : Prop} [Decidable P] : ¬ zb P = 0 ↔ P := by
  unfold zb
  by_cases h : P
  · rw [if_pos h]; exact ⟨fun _ => h, fun _ => by decide⟩
  · rw [if_neg h]; exact ⟨fun q => absurd rfl q, fun q => absurd q h⟩
section
variable {i j : zmi} {pc : Nat} {L : List (Option Value)} {st stk : List Value} {h h0 : zhp} {cc sc : Nat} {Q : Option Value → zhp → Prop} {av : List Value} {F s a t l p : Nat → Int32}
theorem tt_eq {x y : Int32} (e : x = y) (k : TT i pc L (.int y :: st) h cc sc Q) : TT i pc L (.int x :: st) h cc sc Q := by
  rw [e]; exact k
theorem tt_hp {h1 : zhp} (e : h = h1) (k : TT i pc L st h1 cc sc Q) : TT i pc L st h cc sc Q := by
  rw [e]; exact k
theorem tt_iaddN {a b : Nat} (d : decode (mC i) pc = .ok (.iadd, 1)) (k : TT i (pc + 1) L (.int (nI (a + b)) :: st) h cc sc Q) : TT i pc L (.int (nI b) :: .int (nI a) :: st) h cc sc Q := tt_iadd d (tt_eq (nI_add a b) k)
theorem tt_imulN {a b : Nat} (d : decode (mC i) pc = .ok (.imul, 1)) (k : TT i (pc + 1) L (.int (nI (a * b)) :: st) h cc sc Q) : TT i pc L (.int (nI b) :: .int (nI a) :: st) h cc sc Q := tt_imul d (tt_eq (pk_mul a b) k)
theorem tt_isubN {a b : Nat} (d : decode (mC i) pc = .ok (.isub, 1)) (hab : b ≤ a) (k : TT i (pc + 1) L (.int (nI (a - b)) :: st) h cc sc Q) : TT i pc L (.int (nI b) :: .int (nI a) :: st) h cc sc Q := tt_isub d (tt_eq (pk_sub hab) k)
theorem tt_icmp_geN {a b : Nat} {off : Int} {tgt : Nat} (d : decode (mC i) pc = .ok (.if_icmp .ge off, 3)) (ht : (pc : Int) + off = (tgt : Int)) (ha : a < 2 ^ 31) (hb : b < 2 ^ 31) (kt : b ≤ a → TT i tgt L st h cc sc Q) (kf : a < b → TT i (pc + 3) L st h cc sc Q) : TT i pc L (.int (nI b) :: .int (nI a) :: st) h cc sc Q :=
  tt_icmp_ge d ht (fun z => kt ((nI_leI hb ha).mp z)) (fun z => kf (Nat.lt_of_not_le (fun q => z ((nI_leI hb ha).mpr q))))
theorem tt_icmp_gtN {a b : Nat} {off : Int} {tgt : Nat} (d : decode (mC i) pc = .ok (.if_icmp .gt off, 3)) (ht : (pc : Int) + off = (tgt : Int)) (ha : a < 2 ^ 31) (hb : b < 2 ^ 31) (kt : b < a → TT i tgt L st h cc sc Q) (kf : a ≤ b → TT i (pc + 3) L st h cc sc Q) : TT i pc L (.int (nI b) :: .int (nI a) :: st) h cc sc Q :=
  tt_icmp_gt d ht (fun z => kt ((nI_ltI hb ha).mp z)) (fun z => kf (Nat.le_of_not_lt (fun q => z ((nI_ltI hb ha).mpr q))))
theorem tt_icmp_ltN {a b : Nat} {off : Int} {tgt : Nat} (d : decode (mC i) pc = .ok (.if_icmp .lt off, 3)) (ht : (pc : Int) + off = (tgt : Int)) (ha : a < 2 ^ 31) (hb : b < 2 ^ 31) (kt : a < b → TT i tgt L st h cc sc Q) (kf : b ≤ a → TT i (pc + 3) L st h cc sc Q) : TT i pc L (.int (nI b) :: .int (nI a) :: st) h cc sc Q :=
  tt_icmp_lt d ht (fun z => kt ((nI_ltI ha hb).mp z)) (fun z => kf (Nat.le_of_not_lt (fun q => z ((nI_ltI ha hb).mpr q))))
theorem tt_icmp_leN {a b : Nat} {off : Int} {tgt : Nat} (d : decode (mC i) pc = .ok (.if_icmp .le off, 3)) (ht : (pc : Int) + off = (tgt : Int)) (ha : a < 2 ^ 31) (hb : b < 2 ^ 31) (kt : a ≤ b → TT i tgt L st h cc sc Q) (kf : b < a → TT i (pc + 3) L st h cc sc Q) : TT i pc L (.int (nI b) :: .int (nI a) :: st) h cc sc Q :=
  tt_icmp_le d ht (fun z => kt ((nI_leI ha hb).mp z)) (fun z => kf (Nat.lt_of_not_le (fun q => z ((nI_leI ha hb).mpr q))))
theorem tt_if_neB {P : Prop} [Decidable P] {off : Int} {tgt : Nat} (d : decode (mC i) pc = .ok (.ifCond .ne off, 3)) (ht : (pc : Int) + off = (tgt : Int)) (kt : P → TT i tgt L st h cc sc Q) (kf : ¬ P → TT i (pc + 3) L st h cc sc Q) : TT i pc L (.int (zb P) :: st) h cc sc Q :=
  tt_if_ne d ht (fun z => kt (zb_ne.mp z)) (fun z => kf (fun q => zb_ne.mpr q z))
theorem tt_if_eqB {P : Prop} [Decidable P] {off : Int} {tgt : Nat} (d : decode (mC i) pc = .ok (.ifCond .eq off, 3)) (ht : (pc : Int) + off = (tgt : Int)) (kt : ¬ P → TT i tgt L st h cc sc Q) (kf : P → TT i (pc + 3) L st h cc sc Q) : TT i pc L (.int (zb P) :: st) h cc sc Q :=
  tt_if_eq d ht (fun z => kt (fun q => zb_ne.mpr q z)) (fun z => kf (zb_ne.mp z))
theorem tt_iincN {k a : Nat} {L1 : List (Option Value)} (d : decode (mC i) pc = .ok (.iinc k 1, 3)) (hx : L[k]? = some (some (.int (nI a)))) (hL : L.set k (some (.int (nI (a + 1)))) = L1) (hn : k < mL i) (hk : zok L k = true) (kt : TT i (pc + 3) L1 st h cc sc Q) : TT i pc L st h cc sc Q := tt_iinc d hx (nI_1 a) hL hn hk kt
/-! calls of methods that answer by a formula and make nothing -/
theorem tt_fVi {b ci idx n : Nat} {e : Int32} (hM : MM j (.ref b :: av) h (zfi e h0)) (d : decode (mC i) pc = .ok (.invokevirtual idx, 3)) (hw : zMV (mY i).cls idx j n) (hst : stk = av.reverse ++ .ref b :: st) (hn : av.length = n) (ht : zT h b = ci) (hc7 : ci < 7) (hcl : (zC ci).1 = (mY j).cls) (hh : mH j < mH i ∧ mL j + 19 + 36 * mH j ≤ 36 * mH i) (h0m : mA j = 0 ∧ mS j = 0) (hc : cc ≤ mA i) (hs : sc ≤ mS i) (h8 : (st.map fun v => v.category).sum ≤ 8)
    (k : TT i (pc + 3) L (.int e :: st) h0 cc sc Q) : TT i pc L stk h cc sc Q := by
  refine tt_callV hM d hw hst hn ht hc7 hcl hh (by rw [h0m.1]; exact hc) (by rw [h0m.2]; exact hs) h8 (fun r h1 q => ?_)
  obtain ⟨rfl, rfl⟩ := q
  rw [h0m.1, h0m.2]
  exact k
theorem tt_fVv {b ci idx n : Nat} (hM : MM j (.ref b :: av) h (zfn h0)) (d : decode (mC i) pc = .ok (.invokevirtual idx, 3)) (hw : zMV (mY i).cls idx j n) (hst : stk = av.reverse ++ .ref b :: st) (hn : av.length = n) (ht : zT h b = ci) (hc7 : ci < 7) (hcl : (zC ci).1 = (mY j).cls) (hh : mH j < mH i ∧ mL j + 19 + 36 * mH j ≤ 36 * mH i) (h0m : mA j = 0 ∧ mS j = 0) (hc : cc ≤ mA i) (hs : sc ≤ mS i) (h8 : (st.map fun v => v.category).sum ≤ 8)
    (k : TT i (pc + 3) L st h0 cc sc Q) : TT i pc L stk h cc sc Q := by
  refine tt_callV hM d hw hst hn ht hc7 hcl hh (by rw [h0m.1]; exact hc) (by rw [h0m.2]; exact hs) h8 (fun r h1 q => ?_)
  obtain ⟨rfl, rfl⟩ := q
  rw [h0m.1, h0m.2]
  exact k
theorem tt_fSi {idx n : Nat} {e : Int32} (hM : MM j av h (zfi e h0)) (d : decode (mC i) pc = .ok (.invokestatic idx, 3)) (hw : zMS (mY i).cls idx j n) (hst : stk = av.reverse ++ st) (hn : av.length = n) (hh : mH j < mH i ∧ mL j + 19 + 36 * mH j ≤ 36 * mH i) (h0m : mA j = 0 ∧ mS j = 0) (hc : cc ≤ mA i) (hs : sc ≤ mS i) (h8 : (st.map fun v => v.category).sum ≤ 8)
    (k : TT i (pc + 3) L (.int e :: st) h0 cc sc Q) : TT i pc L stk h cc sc Q := by
  refine tt_callS hM d hw hst hn hh (by rw [h0m.1]; exact hc) (by rw [h0m.2]; exact hs) h8 (fun r h1 q => ?_)
  obtain ⟨rfl, rfl⟩ := q
  rw [h0m.1, h0m.2]
  exact k
/-! the reference's fields and rows -/
end
/-! loops over an index, and joins behind a condition -/
def zlp {α : Type} (f : Nat → α → α) : Nat → Nat → α → α
  | 0, _, x => x
  | r + 1, k, x => zlp f r (k + 1) (f k x)
theorem zlp_inv {α : Type} {f : Nat → α → α} (I : Nat → α → Prop) : ∀ (r k : Nat) (x : α), I k x → (∀ j y, k ≤ j → j < k + r → I j y → I (j + 1) (f j y)) → I (k + r) (zlp f r k x)
  | 0, k, x, h, _ => h
  | r + 1, k, x, h, hs => by
    have := zlp_inv I r (k + 1) (f k x) (hs k x (Nat.le_refl _) (by omega) h) (fun j y h1 h2 => hs j y (by omega) (by omega))
    rw [show k + (r + 1) = k + 1 + r by omega]
    exact this
section
variable {i j : zmi} {pc : Nat} {L : List (Option Value)} {st stk : List Value} {h h0 : zhp} {cc sc : Nat} {Q : Option Value → zhp → Prop} {av : List Value}
theorem tt_loop {α : Type} (f : Nat → α → α) (N : Nat) (I : Nat → α → Prop) (Lf : Nat → α → List (Option Value)) (hf : Nat → α → zhp) (x0 : α) (h0 : I 0 x0) (hI : ∀ k x, k < N → I k x → I (k + 1) (f k x))
    (ex : I N (zlp f N 0 x0) → TT i pc (Lf N (zlp f N 0 x0)) st (hf N (zlp f N 0 x0)) cc sc Q)
    (bd : ∀ k x, k < N → I k x → TT i pc (Lf (k + 1) (f k x)) st (hf (k + 1) (f k x)) cc sc Q → TT i pc (Lf k x) st (hf k x) cc sc Q) : TT i pc (Lf 0 x0) st (hf 0 x0) cc sc Q := by
  have key : ∀ (r k : Nat) (x : α), k + r = N → I k x → zlp f r k x = zlp f N 0 x0 → TT i pc (Lf k x) st (hf k x) cc sc Q := by
    intro r
    induction r with
    | zero =>
      intro k x hk hx he
      have hk : k = N := hk
      subst hk
      have he : x = zlp f k 0 x0 := he
      rw [he] at hx ⊢
      exact ex hx
    | succ r ih =>
      intro k x hk hx he
      exact bd k x (by omega) hx (ih (k + 1) (f k x) (by omega) (hI k x (by omega) hx) he)
  exact key N 0 x0 (by omega) h0 rfl
theorem tt_c1 {tgt : Nat} {x : Int32} {v : Value} (k : TT i tgt L (.int x :: st) h cc sc Q) (b : (∀ y, y = x → TT i tgt L (.int y :: st) h cc sc Q) → TT i pc L (v :: st) h cc sc Q) : TT i pc L (v :: st) h cc sc Q := b (fun y e => by rw [e]; exact k)
theorem tt_c2 {tgt : Nat} {x : Int32} {v w : Value} (k : TT i tgt L (.int x :: st) h cc sc Q) (b : (∀ y, y = x → TT i tgt L (.int y :: st) h cc sc Q) → TT i pc L (v :: w :: st) h cc sc Q) : TT i pc L (v :: w :: st) h cc sc Q := b (fun y e => by rw [e]; exact k)
end
theorem ztab {x : Int32} {lo hi : Nat} (hh : hi < 2 ^ 31) (h : ∀ k, lo ≤ k → k ≤ hi → ¬ x = nI k) : x.toInt < ((lo : Nat) : Int) ∨ ((hi : Nat) : Int) < x.toInt := by
  rcases Int.lt_or_le x.toInt (lo : Int) with q | q
  · exact Or.inl q
  · rcases Int.lt_or_le (hi : Int) x.toInt with q2 | q2
    · exact Or.inr q2
    · refine absurd ?_ (h x.toInt.toNat (by omega) (by omega))
      apply Int32.toInt_inj.mp
      rw [nI_toInt (by omega)]
      omega

