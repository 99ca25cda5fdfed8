/-! the class lets days pass by -/
theorem sSum_up {x y : Nat → Int32} {c : Nat} {v : Int32} (hc : c < 6) (h1 : ∀ i, i < 6 → i ≠ c → y (15 + 3 * i + 0) = x (15 + 3 * i + 0)) (h2 : y (15 + 3 * c + 0) = x (15 + 3 * c + 0) + v) : sSum y 0 = sSum x 0 + v := by
  have e : ∀ s : Nat → Int32, sSum s 0 = zS 6 (fun c => if c < 6 then s (15 + 3 * c + 0) else nI 0) := fun s => zlp_cong (N := 6) 6 0 _ (by omega) (fun j y _ hj => by dsimp only; rw [if_pos hj])
  rw [e, e]
  refine zS_upd hc (fun i hi => ?_) ?_
  · by_cases q : i < 6
    · rw [if_pos q, if_pos q, h1 i q hi]
    · rw [if_neg q, if_neg q]
  · rw [if_pos hc, if_pos hc, h2]
theorem kPd_c {s : Nat → Int32} {j c : Nat} {d : Int32} (hc : c < 6) : kPd s j c d (15 + 3 * c + 0) = s (15 + 3 * c + 0) + (kHi s j d + kFi s j d) := by
  unfold kPd
  rw [pk_un (by omega), kAg_ne (by omega) (by omega) (by omega), pk_un (by omega), sCh_c hc]
theorem sSum_kPd {s : Nat → Int32} {j c : Nat} {d : Int32} (hc : c < 6) : sSum (kPd s j c d) 0 = sSum s 0 + (kHi s j d + kFi s j d) := sSum_up hc (fun i hi hne => kPd_ne (by omega) (by omega) (by omega) (by omega) (by omega) (by omega) (by omega)) (kPd_c hc)
theorem zsa (x y v : Int32) : x - y + v = x + v - y := by
  rw [Int32.sub_eq_add_neg, Int32.sub_eq_add_neg, Int32.add_assoc, Int32.add_comm (-y) v, Int32.add_assoc]
theorem kDy_E {b : Nat → Int32} {n t d : Nat} (hw : sWF b n) (hN : zNs b n t) (hd : d ≤ 1000) : (kDy b n (nI d)).2 = cE b n (fun i => if i < n then d else 0) (b 8) (b 9) ∧ (kDy b n (nI d)).1 = sSum (cE b n (fun i => if i < n then d else 0) (b 8) (b 9)) 0 - sSum b 0 := by
  have hn := hw.1
  have h0 : cE b n (fun i => if i < 0 then d else 0) (b 8) (b 9) = b := by
    rw [show (fun i : Nat => if i < 0 then d else 0) = (fun _ => 0) from funext fun i => if_neg (by omega)]
    exact cE_0 hn hN
  have := zlp_inv (f := fun j (x : Int32 × (Nat → Int32)) => (x.1 + (kHi x.2 j (nI d) + kFi x.2 j (nI d)), kPd x.2 j (cuN x.2 j) (nI d))) (fun k x => x.2 = cE b n (fun i => if i < k then d else 0) (b 8) (b 9) ∧ x.1 = sSum x.2 0 - sSum b 0) n 0 (nI 0, b) ⟨h0.symm, (Int32.sub_self (sSum b 0)).symm⟩ (fun k x _ hk hx => by
    obtain ⟨e1, e2⟩ := hx
    have hk : k < n := by omega
    obtain ⟨c, hc, hcu⟩ := hw.2.2 k hk
    obtain ⟨z, st, g, l, v, P, hz⟩ := hN.2 k hk
    have hxc : x.2 (34 + 10 * k + 0) = nI c := by
      rw [e1, cE_r hn hk (by omega), if_neg (by omega), cR_0 hz hN.1]
      exact hcu
    have hcN := cuN_eq hc hxc
    refine ⟨?_, ?_⟩
    · show kPd x.2 k (cuN x.2 k) (nI d) = _
      rw [hcN, e1, kPd_cE hw hN hk (if_neg (by omega)) hc hcu hd]
      congr 1
      funext i
      unfold up
      by_cases q : i = k
      · rw [if_pos q, if_pos (by omega)]
      · rw [if_neg q]
        dsimp only
        by_cases q2 : i < k
        · rw [if_pos q2, if_pos (by omega)]
        · rw [if_neg q2, if_neg (by omega)]
    · show x.1 + (kHi x.2 k (nI d) + kFi x.2 k (nI d)) = sSum (kPd x.2 k (cuN x.2 k) (nI d)) 0 - sSum b 0
      rw [hcN, sSum_kPd hc, e2, zsa])
  rw [Nat.zero_add] at this
  obtain ⟨e1, e2⟩ := this
  exact ⟨e1, by rw [← e1]; exact e2⟩

