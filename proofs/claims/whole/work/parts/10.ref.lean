/-! THE REFERENCE'S PICTURE: its object is cell 181 (F: its own ints), its rows are cells 182 (s), 183 (aside), 184 (history), 185 (slots), 186 (pad) -/
def zm (h : zhp) (F s a t l p : Nat → Int32) : zhp := (h.1, h.2.1, h.2.2.1, fun x j => if x = 181 then F j else if x = 182 then s j else if x = 183 then a j else if x = 184 then t j else if x = 185 then l j else if x = 186 then p j else h.2.2.2.1 x j, h.2.2.2.2)
/-- the lengths of its rows -/
def zml (c : Nat) : Nat := match c with
  | 1 => 135
  | 2 => 135
  | 3 => 810
  | 4 => 270
  | _ => 60
def zMo (h : zhp) : Prop := zT h 181 = 6 ∧ zR h 181 0 = some 182 ∧ zR h 181 1 = some 183 ∧ zR h 181 2 = some 184 ∧ zR h 181 4 = some 185 ∧ zR h 181 6 = some 186 ∧ ∀ c, 1 ≤ c → c < 6 → zT h (181 + c) = 7 ∧ zL h (181 + c) = zml c
def zfi (e : Int32) (h0 : zhp) : Option Value → zhp → Prop := fun r h' => r = some (.int e) ∧ h' = h0
def zfn (h0 : zhp) : Option Value → zhp → Prop := fun r h' => r = none ∧ h' = h0
/-- a truth as an int -/
abbrev zb (P : Prop) [Decidable P] : Int32 := if P then nI 1 else nI 0
theorem zb_ne {P : Prop} [Decidable P] : ¬ zb P = 0 ↔ P := by
  unfold zb
  by_cases h : P
  · rw [if_pos h]; exact ⟨fun _ => h, fun _ => by decide⟩
  · rw [if_neg h]; exact ⟨fun q => absurd rfl q, fun q => absurd q h⟩
section
variable {i j : zmi} {pc : Nat} {L : List (Option Value)} {st stk : List Value} {h h0 : zhp} {cc sc : Nat} {Q : Option Value → zhp → Prop} {av : List Value} {F s a t l p : Nat → Int32}
theorem tt_eq {x y : Int32} (e : x = y) (k : TT i pc L (.int y :: st) h cc sc Q) : TT i pc L (.int x :: st) h cc sc Q := by
  rw [e]; exact k
theorem tt_hp {h1 : zhp} (e : h = h1) (k : TT i pc L st h1 cc sc Q) : TT i pc L st h cc sc Q := by
  rw [e]; exact k
theorem tt_iaddN {a b : Nat} (d : decode (mC i) pc = .ok (.iadd, 1)) (k : TT i (pc + 1) L (.int (nI (a + b)) :: st) h cc sc Q) : TT i pc L (.int (nI b) :: .int (nI a) :: st) h cc sc Q := tt_iadd d (tt_eq (nI_add a b) k)
theorem tt_imulN {a b : Nat} (d : decode (mC i) pc = .ok (.imul, 1)) (k : TT i (pc + 1) L (.int (nI (a * b)) :: st) h cc sc Q) : TT i pc L (.int (nI b) :: .int (nI a) :: st) h cc sc Q := tt_imul d (tt_eq (pk_mul a b) k)
theorem tt_isubN {a b : Nat} (d : decode (mC i) pc = .ok (.isub, 1)) (hab : b ≤ a) (k : TT i (pc + 1) L (.int (nI (a - b)) :: st) h cc sc Q) : TT i pc L (.int (nI b) :: .int (nI a) :: st) h cc sc Q := tt_isub d (tt_eq (pk_sub hab) k)
theorem tt_icmp_geN {a b : Nat} {off : Int} {tgt : Nat} (d : decode (mC i) pc = .ok (.if_icmp .ge off, 3)) (ht : (pc : Int) + off = (tgt : Int)) (ha : a < 2 ^ 31) (hb : b < 2 ^ 31) (kt : b ≤ a → TT i tgt L st h cc sc Q) (kf : a < b → TT i (pc + 3) L st h cc sc Q) : TT i pc L (.int (nI b) :: .int (nI a) :: st) h cc sc Q :=
  tt_icmp_ge d ht (fun z => kt ((nI_leI hb ha).mp z)) (fun z => kf (Nat.lt_of_not_le (fun q => z ((nI_leI hb ha).mpr q))))
theorem tt_icmp_gtN {a b : Nat} {off : Int} {tgt : Nat} (d : decode (mC i) pc = .ok (.if_icmp .gt off, 3)) (ht : (pc : Int) + off = (tgt : Int)) (ha : a < 2 ^ 31) (hb : b < 2 ^ 31) (kt : b < a → TT i tgt L st h cc sc Q) (kf : a ≤ b → TT i (pc + 3) L st h cc sc Q) : TT i pc L (.int (nI b) :: .int (nI a) :: st) h cc sc Q :=
  tt_icmp_gt d ht (fun z => kt ((nI_ltI hb ha).mp z)) (fun z => kf (Nat.le_of_not_lt (fun q => z ((nI_ltI hb ha).mpr q))))
theorem tt_icmp_ltN {a b : Nat} {off : Int} {tgt : Nat} (d : decode (mC i) pc = .ok (.if_icmp .lt off, 3)) (ht : (pc : Int) + off = (tgt : Int)) (ha : a < 2 ^ 31) (hb : b < 2 ^ 31) (kt : a < b → TT i tgt L st h cc sc Q) (kf : b ≤ a → TT i (pc + 3) L st h cc sc Q) : TT i pc L (.int (nI b) :: .int (nI a) :: st) h cc sc Q :=
  tt_icmp_lt d ht (fun z => kt ((nI_ltI ha hb).mp z)) (fun z => kf (Nat.le_of_not_lt (fun q => z ((nI_ltI ha hb).mpr q))))
theorem tt_icmp_leN {a b : Nat} {off : Int} {tgt : Nat} (d : decode (mC i) pc = .ok (.if_icmp .le off, 3)) (ht : (pc : Int) + off = (tgt : Int)) (ha : a < 2 ^ 31) (hb : b < 2 ^ 31) (kt : a ≤ b → TT i tgt L st h cc sc Q) (kf : b < a → TT i (pc + 3) L st h cc sc Q) : TT i pc L (.int (nI b) :: .int (nI a) :: st) h cc sc Q :=
  tt_icmp_le d ht (fun z => kt ((nI_leI ha hb).mp z)) (fun z => kf (Nat.lt_of_not_le (fun q => z ((nI_leI ha hb).mpr q))))
theorem tt_if_neB {P : Prop} [Decidable P] {off : Int} {tgt : Nat} (d : decode (mC i) pc = .ok (.ifCond .ne off, 3)) (ht : (pc : Int) + off = (tgt : Int)) (kt : P → TT i tgt L st h cc sc Q) (kf : ¬ P → TT i (pc + 3) L st h cc sc Q) : TT i pc L (.int (zb P) :: st) h cc sc Q :=
  tt_if_ne d ht (fun z => kt (zb_ne.mp z)) (fun z => kf (fun q => zb_ne.mpr q z))
theorem tt_if_eqB {P : Prop} [Decidable P] {off : Int} {tgt : Nat} (d : decode (mC i) pc = .ok (.ifCond .eq off, 3)) (ht : (pc : Int) + off = (tgt : Int)) (kt : ¬ P → TT i tgt L st h cc sc Q) (kf : P → TT i (pc + 3) L st h cc sc Q) : TT i pc L (.int (zb P) :: st) h cc sc Q :=
  tt_if_eq d ht (fun z => kt (fun q => zb_ne.mpr q z)) (fun z => kf (zb_ne.mp z))
theorem tt_iincN {k a : Nat} {L1 : List (Option Value)} (d : decode (mC i) pc = .ok (.iinc k 1, 3)) (hx : L[k]? = some (some (.int (nI a)))) (hL : L.set k (some (.int (nI (a + 1)))) = L1) (hn : k < mL i) (hk : zok L k = true) (kt : TT i (pc + 3) L1 st h cc sc Q) : TT i pc L st h cc sc Q := tt_iinc d hx (nI_1 a) hL hn hk kt
/-! calls of methods that answer by a formula and make nothing -/
theorem tt_fVi {b ci idx n : Nat} {e : Int32} (hM : MM j (.ref b :: av) h (zfi e h0)) (d : decode (mC i) pc = .ok (.invokevirtual idx, 3)) (hw : zMV (mY i).cls idx j n) (hst : stk = av.reverse ++ .ref b :: st) (hn : av.length = n) (ht : zT h b = ci) (hc7 : ci < 7) (hcl : (zC ci).1 = (mY j).cls) (hh : mH j < mH i ∧ mL j ≤ 17) (h0m : mA j = 0 ∧ mS j = 0) (hc : cc ≤ mA i) (hs : sc ≤ mS i) (h8 : (st.map fun v => v.category).sum ≤ 8)
    (k : TT i (pc + 3) L (.int e :: st) h0 cc sc Q) : TT i pc L stk h cc sc Q := by
  refine tt_callV hM d hw hst hn ht hc7 hcl hh (by rw [h0m.1]; exact hc) (by rw [h0m.2]; exact hs) h8 (fun r h1 q => ?_)
  obtain ⟨rfl, rfl⟩ := q
  rw [h0m.1, h0m.2]
  exact k
theorem tt_fVv {b ci idx n : Nat} (hM : MM j (.ref b :: av) h (zfn h0)) (d : decode (mC i) pc = .ok (.invokevirtual idx, 3)) (hw : zMV (mY i).cls idx j n) (hst : stk = av.reverse ++ .ref b :: st) (hn : av.length = n) (ht : zT h b = ci) (hc7 : ci < 7) (hcl : (zC ci).1 = (mY j).cls) (hh : mH j < mH i ∧ mL j ≤ 17) (h0m : mA j = 0 ∧ mS j = 0) (hc : cc ≤ mA i) (hs : sc ≤ mS i) (h8 : (st.map fun v => v.category).sum ≤ 8)
    (k : TT i (pc + 3) L st h0 cc sc Q) : TT i pc L stk h cc sc Q := by
  refine tt_callV hM d hw hst hn ht hc7 hcl hh (by rw [h0m.1]; exact hc) (by rw [h0m.2]; exact hs) h8 (fun r h1 q => ?_)
  obtain ⟨rfl, rfl⟩ := q
  rw [h0m.1, h0m.2]
  exact k
theorem tt_fSi {idx n : Nat} {e : Int32} (hM : MM j av h (zfi e h0)) (d : decode (mC i) pc = .ok (.invokestatic idx, 3)) (hw : zMS (mY i).cls idx j n) (hst : stk = av.reverse ++ st) (hn : av.length = n) (hh : mH j < mH i ∧ mL j ≤ 17) (h0m : mA j = 0 ∧ mS j = 0) (hc : cc ≤ mA i) (hs : sc ≤ mS i) (h8 : (st.map fun v => v.category).sum ≤ 8)
    (k : TT i (pc + 3) L (.int e :: st) h0 cc sc Q) : TT i pc L stk h cc sc Q := by
  refine tt_callS hM d hw hst hn hh (by rw [h0m.1]; exact hc) (by rw [h0m.2]; exact hs) h8 (fun r h1 q => ?_)
  obtain ⟨rfl, rfl⟩ := q
  rw [h0m.1, h0m.2]
  exact k
/-! the reference's fields and rows -/
theorem tt_mA {fk b idx : Nat} (d : decode (mC i) pc = .ok (.getfield idx, 3)) (f : zFL (mY i).cls idx 6 fk) (hr : zisR (zty 6 fk) = true) (hM : zMo h) (hb : zR h 181 fk = some b) (kt : TT i (pc + 3) L (.ref b :: st) (zm h F s a t l p) cc sc Q) : TT i pc L (.ref 181 :: st) (zm h F s a t l p) cc sc Q := tt_getR d f hr hM.1 hb kt
theorem tt_mI {fk idx : Nat} (d : decode (mC i) pc = .ok (.getfield idx, 3)) (f : zFL (mY i).cls idx 6 fk) (hr : zisR (zty 6 fk) = false) (hM : zMo h) (kt : TT i (pc + 3) L (.int (F fk) :: st) (zm h F s a t l p) cc sc Q) : TT i pc L (.ref 181 :: st) (zm h F s a t l p) cc sc Q := tt_getI d f hr hM.1 kt
theorem zm_sF (h : zhp) (F s a t l p : Nat → Int32) (k : Nat) (v : Int32) : zsI (zm h F s a t l p) 181 k v = (zm h (upd F k v) s a t l p) := by
  unfold zsI zm
  congr 4
  funext x j
  show (if x = 181 ∧ j = k then v else if x = 181 then F j else if x = 182 then s j else if x = 183 then a j else if x = 184 then t j else if x = 185 then l j else if x = 186 then p j else h.2.2.2.1 x j) = _
  by_cases hx : x = 181
  · subst hx
    by_cases hj : j = k
    · subst hj; simp [upd]
    · simp [upd, hj]
  · rw [if_neg (fun q => hx q.1)]
    simp [hx]
theorem zm_ss (h : zhp) (F s a t l p : Nat → Int32) (k : Nat) (v : Int32) : zsI (zm h F s a t l p) 182 k v = (zm h F (upd s k v) a t l p) := by
  unfold zsI zm
  congr 4
  funext x j
  show (if x = 182 ∧ j = k then v else if x = 181 then F j else if x = 182 then s j else if x = 183 then a j else if x = 184 then t j else if x = 185 then l j else if x = 186 then p j else h.2.2.2.1 x j) = _
  by_cases hx : x = 182
  · subst hx
    by_cases hj : j = k
    · subst hj; simp [upd]
    · simp [upd, hj]
  · rw [if_neg (fun q => hx q.1)]
    simp [hx]
theorem zm_sa (h : zhp) (F s a t l p : Nat → Int32) (k : Nat) (v : Int32) : zsI (zm h F s a t l p) 183 k v = (zm h F s (upd a k v) t l p) := by
  unfold zsI zm
  congr 4
  funext x j
  show (if x = 183 ∧ j = k then v else if x = 181 then F j else if x = 182 then s j else if x = 183 then a j else if x = 184 then t j else if x = 185 then l j else if x = 186 then p j else h.2.2.2.1 x j) = _
  by_cases hx : x = 183
  · subst hx
    by_cases hj : j = k
    · subst hj; simp [upd]
    · simp [upd, hj]
  · rw [if_neg (fun q => hx q.1)]
    simp [hx]
theorem zm_st (h : zhp) (F s a t l p : Nat → Int32) (k : Nat) (v : Int32) : zsI (zm h F s a t l p) 184 k v = (zm h F s a (upd t k v) l p) := by
  unfold zsI zm
  congr 4
  funext x j
  show (if x = 184 ∧ j = k then v else if x = 181 then F j else if x = 182 then s j else if x = 183 then a j else if x = 184 then t j else if x = 185 then l j else if x = 186 then p j else h.2.2.2.1 x j) = _
  by_cases hx : x = 184
  · subst hx
    by_cases hj : j = k
    · subst hj; simp [upd]
    · simp [upd, hj]
  · rw [if_neg (fun q => hx q.1)]
    simp [hx]
theorem zm_sl (h : zhp) (F s a t l p : Nat → Int32) (k : Nat) (v : Int32) : zsI (zm h F s a t l p) 185 k v = (zm h F s a t (upd l k v) p) := by
  unfold zsI zm
  congr 4
  funext x j
  show (if x = 185 ∧ j = k then v else if x = 181 then F j else if x = 182 then s j else if x = 183 then a j else if x = 184 then t j else if x = 185 then l j else if x = 186 then p j else h.2.2.2.1 x j) = _
  by_cases hx : x = 185
  · subst hx
    by_cases hj : j = k
    · subst hj; simp [upd]
    · simp [upd, hj]
  · rw [if_neg (fun q => hx q.1)]
    simp [hx]
theorem zm_sp (h : zhp) (F s a t l p : Nat → Int32) (k : Nat) (v : Int32) : zsI (zm h F s a t l p) 186 k v = (zm h F s a t l (upd p k v)) := by
  unfold zsI zm
  congr 4
  funext x j
  show (if x = 186 ∧ j = k then v else if x = 181 then F j else if x = 182 then s j else if x = 183 then a j else if x = 184 then t j else if x = 185 then l j else if x = 186 then p j else h.2.2.2.1 x j) = _
  by_cases hx : x = 186
  · subst hx
    by_cases hj : j = k
    · subst hj; simp [upd]
    · simp [upd, hj]
  · rw [if_neg (fun q => hx q.1)]
    simp [hx]
theorem tt_mp {k idx : Nat} {v : Int32} (d : decode (mC i) pc = .ok (.putfield idx, 3)) (f : zFL (mY i).cls idx 6 k) (hr : zty 6 k = .int) (hfin : (TX6 k).2.2.2 = false) (hM : zMo h) (kt : TT i (pc + 3) L st (zm h (upd F k v) s a t l p) cc sc Q) : TT i pc L (.int v :: .ref 181 :: st) (zm h F s a t l p) cc sc Q := tt_putI d f (by rw [hr]; rfl) (by rw [hr]; rfl) (by rw [hr]; rfl) hfin hM.1 (by
  rw [zm_sF]; exact kt)
theorem tt_mpZ {k idx : Nat} {v : Int32} (d : decode (mC i) pc = .ok (.putfield idx, 3)) (f : zFL (mY i).cls idx 6 k) (hr : zty 6 k = .boolean) (hv : v = 0 ∨ v = 1) (hfin : (TX6 k).2.2.2 = false) (hM : zMo h) (kt : TT i (pc + 3) L st (zm h (upd F k v) s a t l p) cc sc Q) : TT i pc L (.int v :: .ref 181 :: st) (zm h F s a t l p) cc sc Q := tt_putI d f (by rw [hr]; rfl) (by rw [hr]; rcases hv with rfl | rfl <;> rfl) (by rw [hr]; rcases hv with rfl | rfl <;> rfl) hfin hM.1 (by
  rw [zm_sF]; exact kt)
theorem tt_ld1 {k : Nat} (d : decode (mC i) pc = .ok (.iaload, 1)) (hM : zMo h) (hk : k < 135) (kt : TT i (pc + 1) L (.int (s k) :: st) (zm h F s a t l p) cc sc Q) : TT i pc L (.int (nI k) :: .ref 182 :: st) (zm h F s a t l p) cc sc Q := by
  obtain ⟨h2, h3⟩ := hM.2.2.2.2.2.2 1 (by omega) (by omega)
  have h3 : zL h 182 = 135 := h3
  refine tt_iald d h2 (vp_in_nI (by show k < zL h 182; omega) (by show zL h 182 < _; omega)) ?_
  rw [nI_clamp (by omega)]
  exact kt
theorem tt_st1 {k : Nat} {v : Int32} (d : decode (mC i) pc = .ok (.iastore, 1)) (hM : zMo h) (hk : k < 135) (kt : TT i (pc + 1) L st (zm h F (upd s k v) a t l p) cc sc Q) : TT i pc L (.int v :: .int (nI k) :: .ref 182 :: st) (zm h F s a t l p) cc sc Q := by
  obtain ⟨h2, h3⟩ := hM.2.2.2.2.2.2 1 (by omega) (by omega)
  have h3 : zL h 182 = 135 := h3
  refine tt_iast d h2 (by omega) (vp_in_nI (by show k < zL h 182; omega) (by show zL h 182 < _; omega)) ?_
  rw [nI_clamp (by omega), zm_ss]
  exact kt
theorem tt_ld2 {k : Nat} (d : decode (mC i) pc = .ok (.iaload, 1)) (hM : zMo h) (hk : k < 135) (kt : TT i (pc + 1) L (.int (a k) :: st) (zm h F s a t l p) cc sc Q) : TT i pc L (.int (nI k) :: .ref 183 :: st) (zm h F s a t l p) cc sc Q := by
  obtain ⟨h2, h3⟩ := hM.2.2.2.2.2.2 2 (by omega) (by omega)
  have h3 : zL h 183 = 135 := h3
  refine tt_iald d h2 (vp_in_nI (by show k < zL h 183; omega) (by show zL h 183 < _; omega)) ?_
  rw [nI_clamp (by omega)]
  exact kt
theorem tt_st2 {k : Nat} {v : Int32} (d : decode (mC i) pc = .ok (.iastore, 1)) (hM : zMo h) (hk : k < 135) (kt : TT i (pc + 1) L st (zm h F s (upd a k v) t l p) cc sc Q) : TT i pc L (.int v :: .int (nI k) :: .ref 183 :: st) (zm h F s a t l p) cc sc Q := by
  obtain ⟨h2, h3⟩ := hM.2.2.2.2.2.2 2 (by omega) (by omega)
  have h3 : zL h 183 = 135 := h3
  refine tt_iast d h2 (by omega) (vp_in_nI (by show k < zL h 183; omega) (by show zL h 183 < _; omega)) ?_
  rw [nI_clamp (by omega), zm_sa]
  exact kt
theorem tt_ld3 {k : Nat} (d : decode (mC i) pc = .ok (.iaload, 1)) (hM : zMo h) (hk : k < 810) (kt : TT i (pc + 1) L (.int (t k) :: st) (zm h F s a t l p) cc sc Q) : TT i pc L (.int (nI k) :: .ref 184 :: st) (zm h F s a t l p) cc sc Q := by
  obtain ⟨h2, h3⟩ := hM.2.2.2.2.2.2 3 (by omega) (by omega)
  have h3 : zL h 184 = 810 := h3
  refine tt_iald d h2 (vp_in_nI (by show k < zL h 184; omega) (by show zL h 184 < _; omega)) ?_
  rw [nI_clamp (by omega)]
  exact kt
theorem tt_st3 {k : Nat} {v : Int32} (d : decode (mC i) pc = .ok (.iastore, 1)) (hM : zMo h) (hk : k < 810) (kt : TT i (pc + 1) L st (zm h F s a (upd t k v) l p) cc sc Q) : TT i pc L (.int v :: .int (nI k) :: .ref 184 :: st) (zm h F s a t l p) cc sc Q := by
  obtain ⟨h2, h3⟩ := hM.2.2.2.2.2.2 3 (by omega) (by omega)
  have h3 : zL h 184 = 810 := h3
  refine tt_iast d h2 (by omega) (vp_in_nI (by show k < zL h 184; omega) (by show zL h 184 < _; omega)) ?_
  rw [nI_clamp (by omega), zm_st]
  exact kt
theorem tt_ld4 {k : Nat} (d : decode (mC i) pc = .ok (.iaload, 1)) (hM : zMo h) (hk : k < 270) (kt : TT i (pc + 1) L (.int (l k) :: st) (zm h F s a t l p) cc sc Q) : TT i pc L (.int (nI k) :: .ref 185 :: st) (zm h F s a t l p) cc sc Q := by
  obtain ⟨h2, h3⟩ := hM.2.2.2.2.2.2 4 (by omega) (by omega)
  have h3 : zL h 185 = 270 := h3
  refine tt_iald d h2 (vp_in_nI (by show k < zL h 185; omega) (by show zL h 185 < _; omega)) ?_
  rw [nI_clamp (by omega)]
  exact kt
theorem tt_st4 {k : Nat} {v : Int32} (d : decode (mC i) pc = .ok (.iastore, 1)) (hM : zMo h) (hk : k < 270) (kt : TT i (pc + 1) L st (zm h F s a t (upd l k v) p) cc sc Q) : TT i pc L (.int v :: .int (nI k) :: .ref 185 :: st) (zm h F s a t l p) cc sc Q := by
  obtain ⟨h2, h3⟩ := hM.2.2.2.2.2.2 4 (by omega) (by omega)
  have h3 : zL h 185 = 270 := h3
  refine tt_iast d h2 (by omega) (vp_in_nI (by show k < zL h 185; omega) (by show zL h 185 < _; omega)) ?_
  rw [nI_clamp (by omega), zm_sl]
  exact kt
theorem tt_ld5 {k : Nat} (d : decode (mC i) pc = .ok (.iaload, 1)) (hM : zMo h) (hk : k < 60) (kt : TT i (pc + 1) L (.int (p k) :: st) (zm h F s a t l p) cc sc Q) : TT i pc L (.int (nI k) :: .ref 186 :: st) (zm h F s a t l p) cc sc Q := by
  obtain ⟨h2, h3⟩ := hM.2.2.2.2.2.2 5 (by omega) (by omega)
  have h3 : zL h 186 = 60 := h3
  refine tt_iald d h2 (vp_in_nI (by show k < zL h 186; omega) (by show zL h 186 < _; omega)) ?_
  rw [nI_clamp (by omega)]
  exact kt
theorem tt_st5 {k : Nat} {v : Int32} (d : decode (mC i) pc = .ok (.iastore, 1)) (hM : zMo h) (hk : k < 60) (kt : TT i (pc + 1) L st (zm h F s a t l (upd p k v)) cc sc Q) : TT i pc L (.int v :: .int (nI k) :: .ref 186 :: st) (zm h F s a t l p) cc sc Q := by
  obtain ⟨h2, h3⟩ := hM.2.2.2.2.2.2 5 (by omega) (by omega)
  have h3 : zL h 186 = 60 := h3
  refine tt_iast d h2 (by omega) (vp_in_nI (by show k < zL h 186; omega) (by show zL h 186 < _; omega)) ?_
  rw [nI_clamp (by omega), zm_sp]
  exact kt
end
theorem zb_nar {P : Prop} [Decidable P] : narrow .boolean (.int (zb P)) = .int (zb P) := by
  unfold zb
  split <;> rfl
/-! loops over an index, and joins behind a condition -/
def zlp {α : Type} (f : Nat → α → α) : Nat → Nat → α → α
  | 0, _, x => x
  | r + 1, k, x => zlp f r (k + 1) (f k x)
theorem zlp_inv {α : Type} {f : Nat → α → α} (I : Nat → α → Prop) : ∀ (r k : Nat) (x : α), I k x → (∀ j y, k ≤ j → j < k + r → I j y → I (j + 1) (f j y)) → I (k + r) (zlp f r k x)
  | 0, k, x, h, _ => h
  | r + 1, k, x, h, hs => by
    have := zlp_inv I r (k + 1) (f k x) (hs k x (Nat.le_refl _) (by omega) h) (fun j y h1 h2 => hs j y (by omega) (by omega))
    rw [show k + (r + 1) = k + 1 + r by omega]
    exact this
section
variable {i j : zmi} {pc : Nat} {L : List (Option Value)} {st stk : List Value} {h h0 : zhp} {cc sc : Nat} {Q : Option Value → zhp → Prop} {av : List Value}
theorem tt_loop {α : Type} (f : Nat → α → α) (N : Nat) (I : Nat → α → Prop) (Lf : Nat → α → List (Option Value)) (hf : Nat → α → zhp) (x0 : α) (h0 : I 0 x0) (hI : ∀ k x, k < N → I k x → I (k + 1) (f k x))
    (ex : I N (zlp f N 0 x0) → TT i pc (Lf N (zlp f N 0 x0)) st (hf N (zlp f N 0 x0)) cc sc Q)
    (bd : ∀ k x, k < N → I k x → TT i pc (Lf (k + 1) (f k x)) st (hf (k + 1) (f k x)) cc sc Q → TT i pc (Lf k x) st (hf k x) cc sc Q) : TT i pc (Lf 0 x0) st (hf 0 x0) cc sc Q := by
  have key : ∀ (r k : Nat) (x : α), k + r = N → I k x → zlp f r k x = zlp f N 0 x0 → TT i pc (Lf k x) st (hf k x) cc sc Q := by
    intro r
    induction r with
    | zero =>
      intro k x hk hx he
      have hk : k = N := hk
      subst hk
      have he : x = zlp f k 0 x0 := he
      rw [he] at hx ⊢
      exact ex hx
    | succ r ih =>
      intro k x hk hx he
      exact bd k x (by omega) hx (ih (k + 1) (f k x) (by omega) (hI k x (by omega) hx) he)
  exact key N 0 x0 (by omega) h0 rfl
theorem tt_c0 {tgt : Nat} {x : Int32} (k : TT i tgt L (.int x :: st) h cc sc Q) (b : (∀ y, y = x → TT i tgt L (.int y :: st) h cc sc Q) → TT i pc L st h cc sc Q) : TT i pc L st h cc sc Q := b (fun y e => by rw [e]; exact k)
theorem tt_c1 {tgt : Nat} {x : Int32} {v : Value} (k : TT i tgt L (.int x :: st) h cc sc Q) (b : (∀ y, y = x → TT i tgt L (.int y :: st) h cc sc Q) → TT i pc L (v :: st) h cc sc Q) : TT i pc L (v :: st) h cc sc Q := b (fun y e => by rw [e]; exact k)
theorem tt_c2 {tgt : Nat} {x : Int32} {v w : Value} (k : TT i tgt L (.int x :: st) h cc sc Q) (b : (∀ y, y = x → TT i tgt L (.int y :: st) h cc sc Q) → TT i pc L (v :: w :: st) h cc sc Q) : TT i pc L (v :: w :: st) h cc sc Q := b (fun y e => by rw [e]; exact k)
end
theorem ztab {x : Int32} {lo hi : Nat} (hh : hi < 2 ^ 31) (h : ∀ k, lo ≤ k → k ≤ hi → ¬ x = nI k) : x.toInt < ((lo : Nat) : Int) ∨ ((hi : Nat) : Int) < x.toInt := by
  rcases Int.lt_or_le x.toInt (lo : Int) with q | q
  · exact Or.inl q
  · rcases Int.lt_or_le (hi : Int) x.toInt with q2 | q2
    · exact Or.inr q2
    · refine absurd ?_ (h x.toInt.toNat (by omega) (by omega))
      apply Int32.toInt_inj.mp
      rw [nI_toInt (by omega)]
      omega
