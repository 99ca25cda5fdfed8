/-! rows that agree, days that pass by; cost -/
section
variable {n : Nat} {a b : Nat → Int32}
theorem sim_Hi (h : sim n a b) {j : Nat} (hj : j < n) (d : Int32) : kHi a j d = kHi b j d := by
  unfold kHi
  rw [h 0 (by omega), h (34 + 10 * j + 1) (by omega)]
theorem sim_Fi (h : sim n a b) {j : Nat} (hj : j < n) (d : Int32) : kFi a j d = kFi b j d := by
  unfold kFi kDf kDd kPa
  rw [h 2 (by omega), h 3 (by omega), h 8 (by omega), h (34 + 10 * j + 2) (by omega), h (34 + 10 * j + 5) (by omega), h (34 + 10 * j + 6) (by omega)]
theorem sim_Be (h : sim n a b) {j : Nat} (hj : j < n) (d l : Int32) : kBe a j d l = kBe b j d l := by
  unfold kBe kHo
  rw [h (34 + 10 * j + 1) (by omega), h (34 + 10 * j + 4) (by omega)]
theorem sim_cu (h : sim n a b) {j : Nat} (hj : j < n) : cuN a j = cuN b j := by
  unfold cuN
  rw [h _ (by omega)]
theorem sim_cH (h : sim n a b) (D : Nat → Nat) (c : Nat) : cH a n D c = cH b n D c := zlp_cong (N := n) n 0 _ (by omega) (fun j y _ hj => by dsimp only; rw [sim_cu h hj, sim_Hi h hj, sim_Fi h hj])
theorem sim_cF (h : sim n a b) (D : Nat → Nat) (c : Nat) : cF a n D c = cF b n D c := zlp_cong (N := n) n 0 _ (by omega) (fun j y _ hj => by dsimp only; rw [sim_cu h hj, sim_Fi h hj])
theorem sim_cB (h : sim n a b) (D : Nat → Nat) : cB a n D = cB b n D := zlp_cong (N := n) n 0 _ (by omega) (fun j y _ hj => by dsimp only; rw [sim_Be h hj, h (34 + 10 * j + 3) (by omega)])
theorem sim_cE (hn : n ≤ 10) (h : sim n a b) (D : Nat → Nat) {y8 y9 u8 u9 : Int32} (e8 : y8 = u8) (e9 : y9 = u9) : sim n (cE a n D y8 y9) (cE b n D u8 u9) := fun k hk => by
  rcases zcase hn k with q | ⟨c, hc, rfl⟩ | ⟨c, hc, rfl⟩ | ⟨c, hc, rfl⟩ | rfl | ⟨j, f, hj, hf, rfl⟩ | q
  · rw [cE_lo q, cE_lo q, e8, e9, h k hk]
  · rw [cE_h hc, cE_h hc, sim_cH h, h _ hk]
  · rw [cE_t hc, cE_t hc, h _ hk]
  · rw [cE_f hc, cE_f hc, sim_cF h, h _ hk]
  · rw [cE_b, cE_b, sim_cB h, h _ hk]
  · rw [cE_r hn hj hf, cE_r hn hj hf]
    unfold cR
    rw [sim_Hi h hj, sim_Fi h hj, h (34 + 10 * j + 3) (by omega), h (34 + 10 * j + 4) (by omega), sim_Be h hj, h (34 + 10 * j + 7) (by omega), h (34 + 10 * j + 2) (by omega), h (34 + 10 * j + 5) (by omega), h (34 + 10 * j + 9) (by omega), h (34 + 10 * j + f) (by omega)]
  · rw [cE_o q, cE_o q, h _ hk]
theorem sim_Ps {B : Nat} (h : sim n a b) (hb : zIv b n B) {d : Nat} (hd : d ≤ 1000) : sim n (sPs a n d) (sPs b n d) := by
  have ha := zIv_sim h hb
  obtain ⟨t, ht, hN⟩ := zNs_of hb
  obtain ⟨t2, ht2, hN2⟩ := zNs_of ha
  rw [sPs_E ha.1 hN2 ht2 d hd, sPs_E hb.1 hN ht d hd]
  exact sim_cE hb.1.1 h _ (by rw [h 8 (by omega)]) (by rw [h 9 (by omega)])
theorem sim_Pas {B : Nat} (h : sim n a b) (hb : zIv b n B) (v : Int32) : (sPas a n v).1 = (sPas b n v).1 ∧ sim n (sPas a n v).2 (sPas b n v).2 := by
  unfold sPas
  by_cases q : nI 1 ≤ v ∧ v ≤ nI 99
  · rw [if_pos q, if_pos q, h 8 (by omega)]
    obtain ⟨d, hd, rfl⟩ := zrng (x := v) (b := 99) (by omega) ⟨Int32.le_trans (by decide) q.1, q.2⟩
    rw [nI_clamp (by omega)]
    have hs := sim_Ps h hb (d := d) (by omega)
    by_cases q2 : b 8 + nI d ≤ nI 9999
    · rw [if_pos q2, if_pos q2]
      exact ⟨by rw [sim_Sum hs (by omega), sim_Sum h (by omega)], hs⟩
    · rw [if_neg q2, if_neg q2]; exact ⟨rfl, h⟩
  · rw [if_neg q, if_neg q]; exact ⟨rfl, h⟩
end
theorem cpA_at (s a : Nat → Int32) {i : Nat} (hi : i < 135) : cpA s a i = s i := by
  have : ∀ (r k : Nat) (x : Nat → Int32), zlp (fun k x => upd x k (s k)) r k x i = if k ≤ i ∧ i < k + r then s i else x i := by
    intro r
    induction r with
    | zero => intro k x; rw [if_neg (by omega)]; rfl
    | succ r ih =>
      intro k x
      show zlp (fun k x => upd x k (s k)) r (k + 1) (upd x k (s k)) i = _
      rw [ih, upd_if]
      by_cases q : i = k
      · rw [if_neg (by omega), if_pos q, if_pos (by omega), q]
      · rw [if_neg q]
        by_cases q2 : k + 1 ≤ i ∧ i < k + 1 + r
        · rw [if_pos q2, if_pos (by omega)]
        · rw [if_neg q2, if_neg (by omega)]
  unfold cpA
  rw [this, if_pos (by omega)]
theorem kCo_cH {s : Nat → Int32} {n : Nat} (hw : sWF s n) {c d : Nat} (hc : c < 6) : kCo s n (nI c) (nI d) = cH s n (fun _ => d) c := zlp_cong (N := n) n 0 _ (by omega) (fun j y _ hj => by
  obtain ⟨c2, hc2, hcu⟩ := hw.2.2 j hj
  dsimp only
  rw [cuN_eq hc2 hcu, hcu]
  by_cases q : c2 = c
  · rw [if_pos (by rw [q]), if_pos q]
  · rw [if_neg (fun w => q ((nI_eqI (by omega) (by omega)).mp w)), if_neg q]
    exact (Int32.add_zero y).symm)
/-- cost -/
theorem rd_Co {n B : Nat} {a b z : Nat → Int32} (h : sim n a b) (hb : zIv b n B) (v w : Int32) : (if nI 0 ≤ v ∧ v ≤ nI 5 then (if nI 0 ≤ w ∧ w ≤ nI 200 then kCo a n v w else -2) else -1) = sCo b z n v w := by
  obtain ⟨t, ht, hN⟩ := zNs_of hb
  unfold sCo
  by_cases q : nI 0 ≤ v ∧ v ≤ nI 5
  · rw [if_pos q, if_pos q]
    by_cases q2 : nI 0 ≤ w ∧ w ≤ nI 200
    · rw [if_pos q2, if_pos q2]
      obtain ⟨c, hc, rfl⟩ := zrng (x := v) (b := 5) (by omega) q
      obtain ⟨d, hd, rfl⟩ := zrng (x := w) (b := 200) (by omega) q2
      rw [nI_clamp (show c < 2 ^ 31 by omega), nI_clamp (show d < 2 ^ 31 by omega), kCo_cH (sim_WF h hb.1) (by omega), sim_cH h, sPs_E hb.1 hN ht d (by omega), cE_h (by omega), cpA_at _ _ (by omega), Int32.add_comm, Int32.add_sub_cancel]
    · rw [if_neg q2, if_neg q2]
  · rw [if_neg q, if_neg q]

