/-! the reference: the rows behind a change stand as they should; does -/
def nS (s : Nat → Int32) : Nat := (s 33).toNatClampNeg
theorem sWF_nS {s : Nat → Int32} {n : Nat} (h : sWF s n) : nS s = n := by
  show (s 33).toNatClampNeg = n
  rw [h.2.1]
  exact nI_clamp (by have := h.1; omega)
theorem zlp_updc {b : Nat} {v : Int32} : ∀ (r k : Nat) (x : Nat → Int32) (i : Nat), (i < b + k ∨ b + k + r ≤ i) → zlp (fun w x => upd x (b + w) v) r k x i = x i
  | 0, _, _, _, _ => rfl
  | r + 1, k, x, i, h => by
    show zlp (fun w x => upd x (b + w) v) r (k + 1) (upd x (b + k) v) i = x i
    rw [zlp_updc r (k + 1) _ i (by omega), pk_un (by omega)]
/-- a shift by d places down: what stands behind it -/
theorem zlp_shift {b d : Nat} (hd : 0 < d) : ∀ (r k : Nat) (x : Nat → Int32) (i : Nat), zlp (fun w x => upd x (b + w) (x (b + w + d))) r k x i = if b + k ≤ i ∧ i < b + k + r then x (i + d) else x i
  | 0, k, x, i => by
    rw [if_neg (by omega)]
    rfl
  | r + 1, k, x, i => by
    show zlp (fun w x => upd x (b + w) (x (b + w + d))) r (k + 1) (upd x (b + k) (x (b + k + d))) i = _
    rw [zlp_shift hd r (k + 1)]
    by_cases h1 : i = b + k
    · subst h1
      rw [if_neg (by omega), pk_us, if_pos (by omega)]
    · by_cases h2 : b + k ≤ i ∧ i < b + k + (r + 1)
      · rw [if_pos (by omega), if_pos h2, pk_un (by omega)]
      · rw [if_neg (by omega), if_neg h2, pk_un h1]
theorem sTi_ne {s : Nat → Int32} {n c k : Nat} (h1 : k ≠ 9) (h2 : k ≠ 34 + 10 * n + 9) (h3 : k ≠ 15 + 3 * c) (h4 : k ≠ 15 + 3 * c + 1) (h5 : k ≠ 34 + 10 * n + 3) : sTi s n c k = s k := by
  unfold sTi
  rw [pk_un h5, pk_un h4, sCh_ne h2 h3, pk_un h1]
theorem sWF.of {s s' : Nat → Int32} {n : Nat} (h : sWF s n) (h1 : s' 33 = s 33) (h2 : ∀ j, j < n → s' (34 + 10 * j + 0) = s (34 + 10 * j + 0)) : sWF s' n := by
  refine ⟨h.1, h1.trans h.2.1, fun j hj => ?_⟩
  obtain ⟨c, g1, g2⟩ := h.2.2 j hj
  exact ⟨c, g1, (h2 j hj).trans g2⟩
theorem sSw_WF {s : Nat → Int32} {n : Nat} {v : Int32} (h : sWF s n) : sWF (sSw s v).2 n := by
  unfold sSw
  by_cases q : nI 0 ≤ v ∧ v ≤ s 33 - nI 1
  · rw [if_pos q]
    by_cases q2 : sTl s = 0
    · rw [if_pos q2]; exact h
    · rw [if_neg q2]
      obtain ⟨j, hj, rfl⟩ := zskip h.1 h.2.1 q
      have hn := h.1
      obtain ⟨c, hc, hcu⟩ := h.2.2 j hj
      show sWF (sTi s (nI j).toNatClampNeg (cuN s (nI j).toNatClampNeg)) n
      rw [nI_clamp (by omega), cuN_eq hc hcu]
      exact h.of (sTi_ne (by omega) (by omega) (by omega) (by omega) (by omega)) (fun i hi => sTi_ne (by omega) (by omega) (by omega) (by omega) (by omega))
  · rw [if_neg q]; exact h
theorem sPu_in {s : Nat → Int32} {n c : Nat} {z st g : Int32} (hc : c < 6) {k : Nat} (h1 : k ≠ 33) (h2 : k ≠ 9) (h3 : k < 34 + 10 * n ∨ 34 + 10 * n + 10 ≤ k) (h4 : k ≠ 15 + 3 * c) : sPu s n c z st g k = s k := by
  unfold sPu
  rw [sCh_ne (by omega) h4, pk_un h2, pk_un (by omega), pk_un (by omega), pk_un (by omega), pk_un (by omega), pk_un (by omega), pk_un (by omega), pk_un (by omega), zlp_updc (b := 34 + 10 * n) 10 0 _ k (by omega), pk_un h1]
theorem sPu_33 {s : Nat → Int32} {n c : Nat} {z st g : Int32} (hc : c < 6) : sPu s n c z st g 33 = s 33 + nI 1 := by
  unfold sPu
  rw [sCh_ne (by omega) (by omega), pk_un (by omega), pk_un (by omega), pk_un (by omega), pk_un (by omega), pk_un (by omega), pk_un (by omega), pk_un (by omega), pk_un (by omega), zlp_updc (b := 34 + 10 * n) 10 0 _ 33 (by omega), pk_us]
theorem sPu_cu {s : Nat → Int32} {n c : Nat} {z st g : Int32} (hc : c < 6) : sPu s n c z st g (34 + 10 * n + 0) = nI c := by
  unfold sPu
  rw [sCh_ne (by omega) (by omega), pk_un (by omega), pk_un (by omega), pk_un (by omega), pk_un (by omega), pk_un (by omega), pk_un (by omega), pk_un (by omega), pk_us]
