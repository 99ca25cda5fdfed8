/-! rows that agree: what the reference does with them agrees -/
theorem sim_Tl {n : Nat} {a b : Nat → Int32} (h : sim n a b) : sTl a = sTl b := by
  unfold sTl
  rw [h 7 (by omega), h 9 (by omega)]
theorem zadd2 {x y u v : Int32} (e1 : x = y) (e2 : u = v) : x + u = y + v := by rw [e1, e2]
theorem sim_Ti {n : Nat} {a b : Nat → Int32} (h : sim n a b) {j c : Nat} (hj : j < n) (hc : c < 6) : sim n (sTi a j c) (sTi b j c) := by
  unfold sTi
  have h1 : sim n (upd a 9 (a 9 + nI 1)) (upd b 9 (b 9 + nI 1)) := sim_upd h (by rw [h 9 (by omega)])
  have h2 := sim_ch h1 hj hc (show upd a 9 (a 9 + nI 1) 5 + upd a 9 (a 9 + nI 1) 4 * a (34 + 10 * j + 3) = upd b 9 (b 9 + nI 1) 5 + upd b 9 (b 9 + nI 1) 4 * b (34 + 10 * j + 3) by rw [h1 5 (by omega), h1 4 (by omega), h _ (by omega)])
  have h3 := sim_upd h2 (i := 15 + 3 * c + 1) (zadd2 (h2 (15 + 3 * c + 1) (by omega)) (h (34 + 10 * j + 3) (by omega)))
  exact sim_upd h3 rfl
theorem sim_Sw {n : Nat} {a b : Nat → Int32} (h : sim n a b) (hw : sWF b n) (v : Int32) : (sSw a v).1 = (sSw b v).1 ∧ sim n (sSw a v).2 (sSw b v).2 := by
  unfold sSw
  rw [h 33 (by omega), sim_Tl h]
  by_cases q : nI 0 ≤ v ∧ v ≤ b 33 - nI 1
  · rw [if_pos q, if_pos q]
    by_cases q2 : sTl b = 0
    · rw [if_pos q2, if_pos q2]; exact ⟨rfl, h⟩
    · rw [if_neg q2, if_neg q2]
      obtain ⟨j, hj, rfl⟩ := zskip hw.1 hw.2.1 q
      have hn := hw.1
      obtain ⟨c, hc, hcu⟩ := hw.2.2 j hj
      rw [nI_clamp (by omega), cuN_eq hc hcu, cuN_eq hc ((h _ (by omega)).trans hcu)]
      exact ⟨h _ (by omega), sim_Ti h hj hc⟩
  · rw [if_neg q, if_neg q]; exact ⟨rfl, h⟩
theorem sim_Pe {n : Nat} {a b : Nat → Int32} (h : sim n a b) (hw : sWF b n) (v d : Int32) : (sPe a v d).1 = (sPe b v d).1 ∧ sim n (sPe a v d).2 (sPe b v d).2 := by
  unfold sPe
  rw [h 33 (by omega)]
  by_cases q : nI 0 ≤ v ∧ v ≤ b 33 - nI 1
  · rw [if_pos q, if_pos q]
    obtain ⟨j, hj, rfl⟩ := zskip hw.1 hw.2.1 q
    have hn := hw.1
    obtain ⟨c, hc, hcu⟩ := hw.2.2 j hj
    rw [nI_clamp (by omega), cuN_eq hc hcu, cuN_eq hc ((h _ (by omega)).trans hcu), h (34 + 10 * j + 2) (by omega), h (34 + 10 * j + 6) (by omega), h 8 (by omega)]
    split
    · split
      · have h1 := sim_upd h (i := 34 + 10 * j + 6) (v := (if b (34 + 10 * j + 6) ≠ -6 ∧ b 8 ≤ b (34 + 10 * j + 6) then b (34 + 10 * j + 6) else b 8 - nI 1) + d) rfl
        exact ⟨rfl, sim_ch h1 hj hc (by rw [h1 1 (by omega)])⟩
      · exact ⟨rfl, h⟩
    · exact ⟨rfl, h⟩
  · rw [if_neg q, if_neg q]; exact ⟨rfl, h⟩
theorem sim_Oi {n : Nat} {a b : Nat → Int32} (h : sim n a b) (hw : sWF b n) (v : Int32) : (sOi a v).1 = (sOi b v).1 ∧ sim n (sOi a v).2 (sOi b v).2 := by
  unfold sOi
  rw [h 33 (by omega)]
  by_cases q : nI 0 ≤ v ∧ v ≤ b 33 - nI 1
  · rw [if_pos q, if_pos q]
    obtain ⟨j, hj, rfl⟩ := zskip hw.1 hw.2.1 q
    have hn := hw.1
    rw [nI_clamp (by omega)]
    exact ⟨h _ (by omega), sim_upd h (h 6 (by omega))⟩
  · rw [if_neg q, if_neg q]; exact ⟨rfl, h⟩
theorem sim_Gro {n : Nat} {a b : Nat → Int32} (h : sim n a b) (hw : sWF b n) (v w : Int32) : (sGro a v w).1 = (sGro b v w).1 ∧ sim n (sGro a v w).2 (sGro b v w).2 := by
  unfold sGro
  rw [h 33 (by omega)]
  by_cases q : nI 0 ≤ v ∧ v ≤ b 33 - nI 1
  · rw [if_pos q, if_pos q]
    obtain ⟨j, hj, rfl⟩ := zskip hw.1 hw.2.1 q
    have hn := hw.1
    rw [nI_clamp (by omega)]
    split
    · exact ⟨h _ (by omega), sim_upd h rfl⟩
    · exact ⟨rfl, h⟩
  · rw [if_neg q, if_neg q]; exact ⟨rfl, h⟩
theorem sim_Set {n : Nat} {a b : Nat → Int32} (h : sim n a b) (v w : Int32) : (sSet a v w).1 = (sSet b v w).1 ∧ sim n (sSet a v w).2 (sSet b v w).2 := by
  unfold sSet
  by_cases q : nI 0 ≤ v ∧ v ≤ nI 7
  · rw [if_pos q, if_pos q]
    obtain ⟨j, hj, rfl⟩ := zrng (by omega) q
    rw [nI_clamp (by omega)]
    by_cases q2 : (if nI j = nI 6 then nI 1 else nI 0) ≤ w ∧ w ≤ sMost (nI j)
    · rw [if_pos q2, if_pos q2]
      exact ⟨h _ (by omega), sim_upd h rfl⟩
    · rw [if_neg q2, if_neg q2]
      exact ⟨rfl, h⟩
  · rw [if_neg q, if_neg q]; exact ⟨rfl, h⟩
theorem sim_Places {n : Nat} {a b : Nat → Int32} (h : sim n a b) (v w : Int32) : (sPlaces a v w).1 = (sPlaces b v w).1 ∧ sim n (sPlaces a v w).2 (sPlaces b v w).2 := by
  unfold sPlaces
  by_cases q : nI 0 ≤ v ∧ v ≤ nI 4
  · rw [if_pos q, if_pos q]
    obtain ⟨j, hj, rfl⟩ := zrng (by omega) q
    rw [nI_clamp (by omega)]
    split
    · exact ⟨h _ (by omega), sim_upd h rfl⟩
    · exact ⟨rfl, h⟩
  · rw [if_neg q, if_neg q]; exact ⟨rfl, h⟩
/-- folds that agree -/
theorem zlp_cong {α : Type} {f g : Nat → α → α} {N : Nat} : ∀ (r k : Nat) (x : α), k + r = N → (∀ j y, k ≤ j → j < N → f j y = g j y) → zlp f r k x = zlp g r k x
  | 0, _, _, _, _ => rfl
  | r + 1, k, x, hk, h => by
    show zlp f r (k + 1) (f k x) = zlp g r (k + 1) (g k x)
    rw [h k x (Nat.le_refl _) (by omega)]
    exact zlp_cong r (k + 1) _ (by omega) (fun j y h1 h2 => h j y (by omega) h2)
theorem zlp_rel {α β : Type} {f : Nat → α → α} {g : Nat → β → β} (P : α → β → Prop) {N : Nat} (hs : ∀ j x y, j < N → P x y → P (f j x) (g j y)) : ∀ (r k : Nat) (x : α) (y : β), k + r = N → P x y → P (zlp f r k x) (zlp g r k y)
  | 0, _, _, _, _, h => h
  | r + 1, k, x, y, hk, h => zlp_rel P hs r (k + 1) _ _ (by omega) (hs k x y (by omega) h)
theorem sim_cSt {n : Nat} {a b : Nat → Int32} (h : sim n a b) (v : Int32) : sCntSt a n v = sCntSt b n v := zlp_cong (N := n) n 0 _ (by omega) (fun j y _ hj => by rw [h _ (by omega)])
theorem sim_cCu {n : Nat} {a b : Nat → Int32} (h : sim n a b) (v : Int32) : sCntCu a n v = sCntCu b n v := zlp_cong (N := n) n 0 _ (by omega) (fun j y _ hj => by rw [h _ (by omega)])
theorem sim_cNp {n : Nat} {a b : Nat → Int32} (h : sim n a b) (v : Int32) : sCntNp a n v = sCntNp b n v := zlp_cong (N := n) n 0 _ (by omega) (fun j y _ hj => by rw [h _ (by omega), h (34 + 10 * j + 6) (by omega), h 8 (by omega)])
theorem sim_Lds {n : Nat} {a b : Nat → Int32} (h : sim n a b) (v : Int32) : sLds a n v = sLds b n v := zlp_cong (N := n) n 0 _ (by omega) (fun j y _ hj => by rw [h (34 + 10 * j + 3) (by omega), h (34 + 10 * j + 1) (by omega)])
theorem sim_Sum {n : Nat} {a b : Nat → Int32} (h : sim n a b) {w : Nat} (hw : w < 3) : sSum a w = sSum b w := zlp_cong (N := 6) 6 0 _ (by omega) (fun j y _ hj => by rw [h _ (by omega)])
/-- counting with a Nat is counting with an int -/
theorem zcnt {P : Nat → Prop} [∀ j, Decidable (P j)] : ∀ (r k x : Nat), nI (zlp (fun j x => if P j then x + 1 else x) r k x) = zlp (fun j (x : Int32) => x + (if P j then nI 1 else nI 0)) r k (nI x)
  | 0, _, _ => rfl
  | r + 1, k, x => by
    show nI (zlp _ r (k + 1) (if P k then x + 1 else x)) = zlp _ r (k + 1) (nI x + (if P k then nI 1 else nI 0))
    rw [zcnt r (k + 1)]
    congr 1
    by_cases q : P k
    · rw [if_pos q, if_pos q, nI_add]
    · rw [if_neg q, if_neg q, nI_add, Nat.add_zero]
theorem kCs_eq (s : Nat → Int32) (n : Nat) (v : Int32) : nI (kCs s n v) = sCntSt s n v := zcnt (P := fun j => s (34 + 10 * j + 2) = v) n 0 0
theorem kCc_eq (s : Nat → Int32) (n : Nat) (v : Int32) : nI (kCc s n v) = sCntCu s n v := zcnt (P := fun j => s (34 + 10 * j + 0) = v) n 0 0
theorem kCn_eq {s : Nat → Int32} {n t : Nat} (ht : t < 2 ^ 31) (h8 : s 8 = nI t) (v : Int32) : nI (kCn s n v) = sCntNp s n v := by
  refine (zcnt (P := fun j => s (34 + 10 * j + 2) = v ∧ ¬ s 8 ≤ s (34 + 10 * j + 6)) n 0 0).trans ?_
  refine zlp_cong (N := n) n 0 _ (by omega) (fun j y _ hj => ?_)
  congr 1
  rw [h8]
  by_cases q : nI t ≤ s (34 + 10 * j + 6)
  · rw [if_neg (fun z => z.2 q), if_neg (fun z => z.2 ((zperm ht).mpr q))]
  · by_cases q2 : s (34 + 10 * j + 2) = v
    · rw [if_pos ⟨q2, q⟩, if_pos ⟨q2, fun z => q z.2⟩]
    · rw [if_neg (fun z => q2 z.1), if_neg (fun z => q2 z.1)]
theorem kLo_eq (s : Nat → Int32) (n : Nat) : kLo s n = sLds s n (nI 0) := zlp_cong (N := n) n 0 _ (by omega) (fun j y _ hj => by rw [if_pos (show nI 0 = 0 from rfl)])
theorem kCf_eq {s : Nat → Int32} {n B : Nat} (h : ∀ j, j < n → zSk s j B) : nI (kCf s n) = sLds s n (nI 1) := by
  refine (zcnt (P := fun j => kHo s j ≤ s (34 + 10 * j + 3)) n 0 0).trans ?_
  refine zlp_cong (N := n) n 0 _ (by omega) (fun j y _ hj => ?_)
  congr 1
  obtain ⟨z, st, g, l, vv, a1, a2, a3, a4, a5, b1, b2, b3, b4, b5, b6⟩ := h j hj
  unfold kHo
  rw [b1, b4, pk_mul, nI_add, if_neg (show ¬ nI 1 = 0 by decide)]
  by_cases q : l = 20 + 20 * z
  · rw [if_pos ((nI_leI (by omega) (by omega)).mpr (by omega)), if_pos (by rw [q])]
  · rw [if_neg (fun y => by have := (nI_leI (by omega) (by omega)).mp y; omega), if_neg (fun y => q (by
      have := congrArg Int32.toInt y
      rw [nI_toInt (by omega), nI_toInt (by omega)] at this
      omega))]

