/-! dearest, bestSwap -/
theorem rd_De1 {n : Nat} {a b : Nat → Int32} (h : sim n a b) : ∀ (r k x : Nat), x ≤ k → k + 1 + r ≤ n → n ≤ 10 → nI (zlp (fun k x => if a (34 + 10 * x + 9) < a (34 + 10 * (k + 1) + 9) then k + 1 else x) r k x) = zlp (fun k (x : Int32) => if x = -6 ∨ b (34 + 10 * x.toNatClampNeg + 9) < b (34 + 10 * k + 9) then nI k else x) r (k + 1) (nI x)
  | 0, _, _, _, _, _ => rfl
  | r + 1, k, x, hx, hk, hn => by
    show nI (zlp _ r (k + 1) (if a (34 + 10 * x + 9) < a (34 + 10 * (k + 1) + 9) then k + 1 else x)) = zlp _ r (k + 1 + 1) (if nI x = -6 ∨ b (34 + 10 * (nI x).toNatClampNeg + 9) < b (34 + 10 * (k + 1) + 9) then nI (k + 1) else nI x)
    rw [nI_clamp (by omega), h (34 + 10 * x + 9) (by omega), h (34 + 10 * (k + 1) + 9) (by omega)]
    by_cases q : b (34 + 10 * x + 9) < b (34 + 10 * (k + 1) + 9)
    · rw [if_pos q, if_pos (Or.inr q)]
      exact rd_De1 h r (k + 1) (k + 1) (by omega) (by omega) hn
    · rw [if_neg q, if_neg (fun z => z.elim (zm6 (by omega)) q)]
      exact rd_De1 h r (k + 1) x (by omega) (by omega) hn
theorem rd_De {n : Nat} {a b : Nat → Int32} (h : sim n a b) (hw : sWF b n) : (if a 33 = 0 then (-6 : Int32) else nI (kDe a n)) = zlp (fun k (x : Int32) => if x = -6 ∨ b (34 + 10 * x.toNatClampNeg + 9) < b (34 + 10 * k + 9) then nI k else x) n 0 (-6) := by
  have hn := hw.1
  rw [h 33 (by omega), hw.2.1]
  cases n with
  | zero => rfl
  | succ m =>
    rw [if_neg (fun z => by have := znz z (by omega); omega)]
    have e := rd_De1 h m 0 0 (Nat.le_refl _) (by omega) hn
    show nI (zlp _ m 0 0) = zlp _ m (0 + 1) (if (-6 : Int32) = -6 ∨ _ then nI 0 else -6)
    rw [if_pos (Or.inl rfl)]
    exact e
theorem kBe_N {n B : Nat} {a b : Nat → Int32} (h : sim n a b) (hb : zIv b n B) {j l d : Nat} (hj : j < n) (hl : l ≤ 100) (hd : d ≤ 200) : kBe a j (nI d) (nI l) = sWf b j (nI l) (nI d) ∧ ∃ x, x ≤ 10000 ∧ sWf b j (nI l) (nI d) = nI x := by
  have hn := hb.1.1
  obtain ⟨z, st, g, ll, vv, a1, a2, a3, a4, a5, b1, b2, b3, b4, b5, b6⟩ := hb.2.2.2.2.2.2 j hj
  have hg : g * d ≤ 30 * 200 := Nat.mul_le_mul a3 hd
  unfold kBe sWf kHo sHo
  rw [h (34 + 10 * j + 4) (by omega), h (34 + 10 * j + 1) (by omega), b1, b3, pk_mul, pk_mul, nI_add, nI_add, mx0_N (by omega) (by omega)]
  by_cases q : l + g * d ≤ 20 + 20 * z
  · rw [if_pos ((nI_leI (by omega) (by omega)).mpr q), show l + g * d - (20 + 20 * z) = 0 by omega]
    exact ⟨rfl, 0, by omega, rfl⟩
  · rw [if_neg (fun y => q ((nI_leI (by omega) (by omega)).mp y)), pk_sub (by omega)]
    exact ⟨rfl, _, by omega, rfl⟩
theorem kBs_eq {n B : Nat} {a b : Nat → Int32} (h : sim n a b) (hb : zIv b n B) {j d v : Nat} (hj : j < n) (hd : d ≤ 60) (hv : v ≤ d) : kBs a j (nI v) (nI d) = sBi b j (nI d) (nI v) := by
  have hn := hb.1.1
  obtain ⟨z, st, g, ll, vv, a1, a2, a3, a4, a5, b1, b2, b3, b4, b5, b6⟩ := hb.2.2.2.2.2.2 j hj
  unfold kBs sBi
  rw [h (34 + 10 * j + 3) (by omega), b4, pk_sub hv, (kBe_N h hb hj (l := ll) (d := v) (by omega) (by omega)).1, (kBe_N h hb hj (l := 0) (d := d - v) (by omega) (by omega)).1]
theorem kBd_eq {n B : Nat} {a b : Nat → Int32} (h : sim n a b) (hb : zIv b n B) {j d : Nat} (hj : j < n) (hd : d ≤ 60) : ∀ (r k x : Nat), x ≤ k → k + r = d → ∃ y, y ≤ d ∧ zlp (fun k x => if kBs a j (nI x) (nI d) < kBs a j (nI (k + 1)) (nI d) then x else k + 1) r k x = y ∧ zlp (sBf b j (nI d)) r (k + 1) (nI x, sBi b j (nI d) (nI x)) = (nI y, sBi b j (nI d) (nI y))
  | 0, k, x, hx, hk => ⟨x, by omega, rfl, rfl⟩
  | r + 1, k, x, hx, hk => by
    show ∃ y, y ≤ d ∧ zlp _ r (k + 1) (if kBs a j (nI x) (nI d) < kBs a j (nI (k + 1)) (nI d) then x else k + 1) = y ∧ zlp _ r (k + 1 + 1) (sBf b j (nI d) (k + 1) (nI x, sBi b j (nI d) (nI x))) = (nI y, sBi b j (nI d) (nI y))
    rw [kBs_eq h hb hj hd (show x ≤ d by omega), kBs_eq h hb hj hd (show k + 1 ≤ d by omega)]
    have hk0 : ¬ nI (k + 1) = 0 := fun z => by have := znz z (by omega); omega
    by_cases q : sBi b j (nI d) (nI x) < sBi b j (nI d) (nI (k + 1))
    · rw [if_pos q]
      have e : sBf b j (nI d) (k + 1) (nI x, sBi b j (nI d) (nI x)) = (nI x, sBi b j (nI d) (nI x)) := by
        unfold sBf
        dsimp only
        rw [if_neg (fun z => z.elim hk0 (fun y => absurd q (Int32.not_lt.mpr y))), if_neg (fun z => z.elim hk0 (fun y => absurd q (Int32.not_lt.mpr y)))]
      rw [e]
      exact kBd_eq h hb hj hd r (k + 1) x (by omega) (by omega)
    · rw [if_neg q]
      have e : sBf b j (nI d) (k + 1) (nI x, sBi b j (nI d) (nI x)) = (nI (k + 1), sBi b j (nI d) (nI (k + 1))) := by
        unfold sBf
        dsimp only
        rw [if_pos (Or.inr (Int32.not_lt.mp q)), if_pos (Or.inr (Int32.not_lt.mp q))]
      rw [e]
      exact kBd_eq h hb hj hd r (k + 1) (k + 1) (Nat.le_refl _) (by omega)
theorem rd_Bw {n B : Nat} {a b : Nat → Int32} (h : sim n a b) (hb : zIv b n B) {j : Nat} (hj : j < n) (d w : Int32) : kBw a j d w = sBs b (nI j) d w := by
  have hn := hb.1.1
  unfold kBw sBs
  rw [if_pos (zin_to hb.1.1 hb.1.2.1 hj), nI_clamp (show j < 2 ^ 31 by omega)]
  by_cases q : (nI 1 ≤ d ∧ d ≤ nI 60) ∧ (nI 0 ≤ w ∧ w ≤ nI 1)
  · rw [if_pos q, if_pos q]
    obtain ⟨dn, hd, rfl⟩ := zrng (x := d) (b := 60) (by omega) ⟨Int32.le_trans (by decide) q.1.1, q.1.2⟩
    rw [nI_clamp (by omega)]
    obtain ⟨y, hy, e1, e2⟩ := kBd_eq h hb hj hd dn 0 0 (Nat.le_refl _) (by omega)
    have e0 : sBf b j (nI dn) 0 (nI 0, nI 0) = (nI 0, sBi b j (nI dn) (nI 0)) := by
      unfold sBf
      dsimp only
      have z0 : nI 0 = 0 ∨ sBi b j (nI dn) (nI 0) ≤ nI 0 := Or.inl rfl
      rw [if_pos z0, if_pos z0]
    have e3 : zlp (sBf b j (nI dn)) (dn + 1) 0 (nI 0, nI 0) = (nI y, sBi b j (nI dn) (nI y)) := by
      show zlp _ dn (0 + 1) (sBf b j (nI dn) 0 (nI 0, nI 0)) = _
      rw [e0]
      exact e2
    have e4 : kBd a j dn = y := e1
    rw [e3, e4, kBs_eq h hb hj hd hy]
  · rw [if_neg q, if_neg q]

