/-! the class: a skip is taken; what a town tells -/
theorem kGap {h : zhp} {b : Nat} {s : Nat → Int32} {j n : Nat} {p pi x : Nat → Nat} (hj : j < n) (hn : n ≤ 10) (hp : zPm p pi) (hx : ∀ i, x i = if j ≤ i ∧ i < j + (n - 1 - j) then p (i + 1) else p i) : zt h b s (fun i => if i = n - 1 then p j else x i) pi = zt h b (kRo s j n) (fun i => p (kSg j n i)) (fun q => kSi j n (pi q)) := by
  rw [← zt_ro hj hn hp]
  congr 1
  funext i
  unfold kSg
  by_cases q : i = n - 1
  · rw [if_pos q, if_neg (by omega), if_neg (by omega), if_pos (by omega)]
  · rw [if_neg q, hx]
    by_cases q1 : i < j
    · rw [if_neg (by omega), if_pos q1]
    · rw [if_neg q1]
      by_cases q2 : i + 1 < n
      · rw [if_pos (by omega), if_pos q2]
      · rw [if_neg (by omega), if_neg q2, if_neg (by omega)]
theorem kMt_ne {s : Nat → Int32} {n c k : Nat} (h1 : k ≠ 9) (h2 : k ≠ 34 + 10 * n + 9) (h3 : k ≠ 15 + 3 * c) : kMt s n c k = s k := by
  unfold kMt
  rw [sCh_ne h2 h3, pk_un h1]
theorem kTp_ne {s : Nat → Int32} {n c k : Nat} (h1 : k ≠ 34 + 10 * n + 3) (h2 : k ≠ 34 + 10 * n + 9) (h3 : k ≠ 15 + 3 * c) (h4 : k ≠ 15 + 3 * c + 1) : kTp s n c k = s k := by
  unfold kTp
  rw [pk_un h1, pk_un h4, sCh_ne h2 h3]
theorem kSw_WF {s : Nat → Int32} {n : Nat} {v : Int32} (h : sWF s n) : sWF (kSw s v).2 n := by
  unfold kSw
  by_cases q : nI 0 ≤ v ∧ v ≤ s 33 - nI 1
  · rw [if_pos q]
    unfold kSwj
    split
    · exact h
    · obtain ⟨j, hj, rfl⟩ := zskip h.1 h.2.1 q
      have hn := h.1
      obtain ⟨c, hc, hcu⟩ := h.2.2 j hj
      rw [nI_clamp (by omega), cuN_eq hc hcu]
      exact h.of ((kTp_ne (by omega) (by omega) (by omega) (by omega)).trans (kMt_ne (by omega) (by omega) (by omega))) (fun i hi => (kTp_ne (by omega) (by omega) (by omega) (by omega)).trans (kMt_ne (by omega) (by omega) (by omega)))
  · rw [if_neg q]; exact h
theorem kSw_nn {s : Nat → Int32} {v : Int32} (h : ¬ (kSw s v).1 < 0) : nI 0 ≤ v ∧ v ≤ s 33 - nI 1 := by
  unfold kSw at h
  by_cases q : nI 0 ≤ v ∧ v ≤ s 33 - nI 1
  · exact q
  · rw [if_neg q] at h
    exact absurd (show (-1 : Int32) < 0 by decide) h
def kTk (s : Nat → Int32) (n : Nat) (v : Int32) : Int32 × (Nat → Int32) := if (kSw s v).1 < 0 then kSw s v else ((kSw s v).1, kRo (upd (kSw s v).2 33 ((kSw s v).2 33 - nI 1)) v.toNatClampNeg n)
/-- answers e, and the town's rows are those of s1; where its skips lie may have changed -/
def zfp (e : Int32) (h : zhp) (b : Nat) (s1 : Nat → Int32) : Option Value → zhp → Prop := fun r h1 => r = some (.int e) ∧ ∃ p1 pi1, zPm p1 pi1 ∧ h1 = zt h b s1 p1 pi1
def kStr (s : Nat → Int32) (n : Nat) (v w : Int32) : Int32 := if nI 0 ≤ v ∧ v ≤ nI 4 then (if w = nI 0 then s (10 + v.toNatClampNeg) else if w = nI 1 then nI (kCs s n v) else if w = nI 2 then nI (kCn s n v) else -2) else -1
def kCus (s : Nat → Int32) (n : Nat) (v w : Int32) : Int32 := if nI 0 ≤ v ∧ v ≤ nI 5 then (if w = nI 0 then s (15 + 3 * v.toNatClampNeg + 0) else if w = nI 1 then nI (kCc s n v) else if w = nI 2 then s (15 + 3 * v.toNatClampNeg + 1) else if w = nI 3 then s (15 + 3 * v.toNatClampNeg + 2) else -2) else -1
def kNum (s : Nat → Int32) (n : Nat) (v : Int32) : Int32 := if nI 0 ≤ v ∧ v ≤ nI 7 then s v.toNatClampNeg else if v = nI 8 then s 8 else if v = nI 9 then s 33 else if v = nI 10 then kTl s else if v = nI 11 then sSum s 0 else if v = nI 12 then sSum s 1 else if v = nI 13 then s 134 else if v = nI 14 then sSum s 2 else if v = nI 15 then kLo s n else if v = nI 16 then nI (kCf s n) else -2
theorem kGs {j k : Nat} {p x : Nat → Nat} (hx : ∀ i, x i = if j ≤ i ∧ i < j + k then p (i + 1) else p i) (i : Nat) : (if i = j + k then x (j + k + 1) else x i) = if j ≤ i ∧ i < j + (k + 1) then p (i + 1) else p i := by
  by_cases q : i = j + k
  · rw [if_pos q, hx, if_neg (by omega), if_pos (by omega), q]
  · rw [if_neg q, hx]
    by_cases q1 : j ≤ i ∧ i < j + k
    · rw [if_pos q1, if_pos (by omega)]
    · rw [if_neg q1, if_neg (by omega)]
set_option maxRecDepth 100000 in
set_option maxHeartbeats 4000000 in
theorem c_X4_closeGap {h : zhp} {b : Nat} (hS : zTS h b) (s : Nat → Int32) {p pi : Nat → Nat} (hp : zPm p pi) (n : Nat) (hw : sWF s n) (j : Nat) (hj : j < n) : MM iX4_closeGap [.ref b, .int (nI j)] (zt h b s p pi) (zfn (zt h b (kRo (upd s 33 (s 33 - nI 1)) j n) (fun i => p (kSg j n i)) (fun q => kSi j n (pi q)))) := by
  have hn10 := hw.1
  refine MM_of (by decide +kernel) (Nat.le_of_ble_eq_true rfl) ?_
  refine tt_aload_n dX4_closeGap_0 rfl ?_
  refine tt_tA (c := 6) dX4_closeGap_1 fX4_37 rfl hS (by decide) rfl ?_
  refine tt_iload_n dX4_closeGap_4 rfl ?_
  refine tt_tsk dX4_closeGap_5 hS (by omega) ?_
  refine tt_astore_n dX4_closeGap_6 rfl (Nat.le_of_ble_eq_true rfl) rfl ?_
  refine tt_aload_n dX4_closeGap_7 rfl ?_
  refine tt_dup dX4_closeGap_8 rfl ?_
  refine tt_tI dX4_closeGap_9 fX4_48 rfl hS rfl ?_
  refine tt_iconst (nI 1) dX4_closeGap_12 rfl ?_
  refine tt_isub dX4_closeGap_13 ?_
  refine tt_tp dX4_closeGap_14 fX4_48 rfl rfl hS hp rfl ?_
  refine tt_iload_n dX4_closeGap_17 rfl ?_
  refine tt_istore_n dX4_closeGap_18 rfl (Nat.le_of_ble_eq_true rfl) rfl ?_
  refine tt_loop (fun k (x : Nat → Nat) => fun i => if i = j + k then x (j + k + 1) else x i) (n - 1 - j) (fun k x => (∀ i, i < 10 → x i < 10) ∧ ∀ i, x i = if j ≤ i ∧ i < j + k then p (i + 1) else p i) (fun k x => [some (.ref b), some (.int (nI j)), some (.ref (b + (7 + p j))), some (.int (nI (j + k)))]) (fun _ x => zt h b (upd s 33 (s 33 - nI 1)) x pi) p ⟨fun i hi => (hp i hi).1, fun i => by rw [if_neg (by omega)]⟩ (fun k x hk hx => ⟨fun i hi => by dsimp only; split; exact hx.1 _ (by omega); exact hx.1 _ hi, fun i => kGs hx.2 i⟩) (fun hx => ?_) (fun k x hk hI ih => ?_)
  · refine tt_iload_n dX4_closeGap_19 rfl ?_
    refine tt_aload_n dX4_closeGap_20 rfl ?_
    refine tt_tI dX4_closeGap_21 fX4_48 rfl hS rfl ?_
    refine tt_eq (y := nI (n - 1)) (show upd s 33 (s 33 - nI 1) 33 = _ by rw [pk_us, hw.2.1, pk_sub (by omega)]) ?_
    refine tt_icmp_geN (tgt := 47) dX4_closeGap_24 (by decide) (by omega) (by omega) (fun c_24 => ?_) (fun c_24 => ?_)
    · refine tt_aload_n dX4_closeGap_47 rfl ?_
      refine tt_tA (c := 6) dX4_closeGap_48 fX4_37 rfl hS (by decide) rfl ?_
      refine tt_aload_n dX4_closeGap_51 rfl ?_
      refine tt_tI dX4_closeGap_52 fX4_48 rfl hS rfl ?_
      refine tt_eq (y := nI (n - 1)) (show upd s 33 (s 33 - nI 1) 33 = _ by rw [pk_us, hw.2.1, pk_sub (by omega)]) ?_
      refine tt_aload_n dX4_closeGap_55 rfl ?_
      refine tt_ts6 dX4_closeGap_56 hS (by omega) (hp j (by omega)).1 ?_
      exact tt_return dX4_closeGap_57 rfl (Nat.zero_le _) (Nat.zero_le _) ⟨rfl, kGap hj hn10 hp hx.2⟩
    · exact absurd c_24 (by omega)
  · refine tt_iload_n dX4_closeGap_19 rfl ?_
    refine tt_aload_n dX4_closeGap_20 rfl ?_
    refine tt_tI dX4_closeGap_21 fX4_48 rfl hS rfl ?_
    refine tt_eq (y := nI (n - 1)) (show upd s 33 (s 33 - nI 1) 33 = _ by rw [pk_us, hw.2.1, pk_sub (by omega)]) ?_
    refine tt_icmp_geN (tgt := 47) dX4_closeGap_24 (by decide) (by omega) (by omega) (fun c_24 => ?_) (fun c_24 => ?_)
    · exact absurd c_24 (by omega)
    · refine tt_aload_n dX4_closeGap_27 rfl ?_
      refine tt_tA (c := 6) dX4_closeGap_28 fX4_37 rfl hS (by decide) rfl ?_
      refine tt_iload_n dX4_closeGap_31 rfl ?_
      refine tt_aload_n dX4_closeGap_32 rfl ?_
      refine tt_tA (c := 6) dX4_closeGap_33 fX4_37 rfl hS (by decide) rfl ?_
      refine tt_iload_n dX4_closeGap_36 rfl ?_
      refine tt_iconst (nI 1) dX4_closeGap_37 rfl ?_
      refine tt_iaddN dX4_closeGap_38 ?_
      refine tt_tsk dX4_closeGap_39 hS (by omega) ?_
      refine tt_ts6 dX4_closeGap_40 hS (by omega) (hI.1 _ (by omega)) ?_
      refine tt_iincN dX4_closeGap_41 rfl rfl (Nat.le_of_ble_eq_true rfl) rfl ?_
      refine tt_goto (tgt := 19) dX4_closeGap_44 (by decide) ?_
      exact ih
set_option maxRecDepth 100000 in
set_option maxHeartbeats 4000000 in
theorem c_X4_takeSkip {h : zhp} {b : Nat} (hS : zTS h b) (s : Nat → Int32) {p pi : Nat → Nat} (hp : zPm p pi) (n : Nat) (hw : sWF s n) (v : Int32) : MM iX4_takeSkip [.ref b, .int v] (zt h b s p pi) (zfp (kTk s n v).1 h b (kTk s n v).2) := by
  have hn10 := hw.1
  refine MM_of (by decide +kernel) (Nat.le_of_ble_eq_true rfl) ?_
  refine tt_aload_n dX4_takeSkip_0 rfl ?_
  refine tt_iload_n dX4_takeSkip_1 rfl ?_
  refine tt_fVi (c_X4_swapSkip hS _ hp _ hw _) dX4_takeSkip_2 vX4_104 rfl rfl (zTS_tw hS) (by decide) rfl (by decide) ⟨rfl, rfl⟩ (Nat.zero_le _) (Nat.zero_le _) (Nat.le_of_ble_eq_true rfl) ?_
  refine tt_istore_n dX4_takeSkip_5 rfl (Nat.le_of_ble_eq_true rfl) rfl ?_
  refine tt_iload_n dX4_takeSkip_6 rfl ?_
  refine tt_if_lt (tgt := 15) dX4_takeSkip_7 (by decide) (fun c_7 => ?_) (fun c_7 => ?_)
  · refine tt_iload_n dX4_takeSkip_15 rfl ?_
    exact tt_ireturn dX4_takeSkip_16 rfl rfl (Nat.zero_le _) (Nat.zero_le _) (by
  first
  | exact ⟨by unfold kTk; rw [if_pos c_7], p, pi, hp, by unfold kTk; rw [if_pos c_7]⟩
  | exact ⟨by unfold kTk; rw [if_neg c_7b], _, _, kSg_pm hj hn10 hp, by unfold kTk; rw [if_neg c_7b, nI_clamp (by omega)]⟩)
  · have c_7b := c_7
    obtain ⟨j, hj, rfl⟩ := zskip hw.1 hw.2.1 (kSw_nn c_7)
    refine tt_aload_n dX4_takeSkip_10 rfl ?_
    refine tt_iload_n dX4_takeSkip_11 rfl ?_
    refine tt_fVv (c_X4_closeGap hS _ hp _ (kSw_WF hw) _ hj) dX4_takeSkip_12 vX4_108 rfl rfl (zTS_tw hS) (by decide) rfl (by decide) ⟨rfl, rfl⟩ (Nat.zero_le _) (Nat.zero_le _) (Nat.le_of_ble_eq_true rfl) ?_
    refine tt_iload_n dX4_takeSkip_15 rfl ?_
    exact tt_ireturn dX4_takeSkip_16 rfl rfl (Nat.zero_le _) (Nat.zero_le _) (by
  first
  | exact ⟨by unfold kTk; rw [if_pos c_7], p, pi, hp, by unfold kTk; rw [if_pos c_7]⟩
  | exact ⟨by unfold kTk; rw [if_neg c_7b], _, _, kSg_pm hj hn10 hp, by unfold kTk; rw [if_neg c_7b, nI_clamp (by omega)]⟩)
set_option maxRecDepth 100000 in
set_option maxHeartbeats 4000000 in
theorem c_X4_tellStreet {h : zhp} {b : Nat} (hS : zTS h b) (s : Nat → Int32) {p pi : Nat → Nat} (hp : zPm p pi) (n : Nat) (hw : sWF s n) (v w : Int32) : MM iX4_tellStreet [.ref b, .int v, .int w] (zt h b s p pi) (zfi (kStr s n v w) (zt h b s p pi)) := by
  refine MM_of (by decide +kernel) (Nat.le_of_ble_eq_true rfl) ?_
  refine tt_iload_n dX4_tellStreet_0 rfl ?_
  refine tt_iconst (nI 0) dX4_tellStreet_1 rfl ?_
  refine tt_iconst (nI 4) dX4_tellStreet_2 rfl ?_
  refine tt_fSNi (c_X5_isWithin _ _ _ _) dX4_tellStreet_3 sX4_65 rfl rfl (by decide) ⟨rfl, rfl⟩ (Nat.zero_le _) (Nat.zero_le _) (Nat.le_of_ble_eq_true rfl) ?_
  refine tt_if_neB (tgt := 11) dX4_tellStreet_6 (by decide) (fun c_6 => ?_) (fun c_6 => ?_)
  · have c_6b := c_6
    obtain ⟨k, hk, rfl⟩ := zrng (x := v) (b := 4) (by omega) c_6
    refine tt_iload_n dX4_tellStreet_11 rfl ?_
    by_cases q_0 : w = nI 0
    · subst q_0
      refine tt_tableIn (off := 28) (tgt := 40) dX4_tellStreet_12 (by decide) (by decide) rfl (by decide) ?_
      refine tt_aload_n dX4_tellStreet_40 rfl ?_
      refine tt_tA (c := 2) dX4_tellStreet_41 fX4_23 rfl hS (by decide) rfl ?_
      refine tt_iload_n dX4_tellStreet_44 rfl ?_
      refine tt_tl2 dX4_tellStreet_45 hS (by omega) ?_
      exact tt_ireturn dX4_tellStreet_46 rfl rfl (Nat.zero_le _) (Nat.zero_le _) (by unfold kStr; rw [if_pos c_6b]; first | (rw [nI_clamp (by omega)]; exact ⟨rfl, rfl⟩) | exact ⟨rfl, rfl⟩)
    by_cases q_1 : w = nI 1
    · subst q_1
      refine tt_tableIn (off := 35) (tgt := 47) dX4_tellStreet_12 (by decide) (by decide) rfl (by decide) ?_
      refine tt_aload_n dX4_tellStreet_47 rfl ?_
      refine tt_iload_n dX4_tellStreet_48 rfl ?_
      refine tt_fVi (c_X4_skipsIn hS _ hp _ hw _) dX4_tellStreet_49 vX4_155 rfl rfl (zTS_tw hS) (by decide) rfl (by decide) ⟨rfl, rfl⟩ (Nat.zero_le _) (Nat.zero_le _) (Nat.le_of_ble_eq_true rfl) ?_
      exact tt_ireturn dX4_tellStreet_52 rfl rfl (Nat.zero_le _) (Nat.zero_le _) (by unfold kStr; rw [if_pos c_6b]; first | (rw [nI_clamp (by omega)]; exact ⟨rfl, rfl⟩) | exact ⟨rfl, rfl⟩)
    by_cases q_2 : w = nI 2
    · subst q_2
      refine tt_tableIn (off := 41) (tgt := 53) dX4_tellStreet_12 (by decide) (by decide) rfl (by decide) ?_
      refine tt_aload_n dX4_tellStreet_53 rfl ?_
      refine tt_iload_n dX4_tellStreet_54 rfl ?_
      refine tt_fVi (c_X4_skipsWithoutPermitIn hS _ hp _ hw _) dX4_tellStreet_55 vX4_200 rfl rfl (zTS_tw hS) (by decide) rfl (by decide) ⟨rfl, rfl⟩ (Nat.zero_le _) (Nat.zero_le _) (Nat.le_of_ble_eq_true rfl) ?_
      exact tt_ireturn dX4_tellStreet_58 rfl rfl (Nat.zero_le _) (Nat.zero_le _) (by unfold kStr; rw [if_pos c_6b]; first | (rw [nI_clamp (by omega)]; exact ⟨rfl, rfl⟩) | exact ⟨rfl, rfl⟩)
    have qo : ∀ k, 0 ≤ k → k ≤ 2 → ¬ w = nI k := by
      intro k h1 h2
      rcases (show k = 0 ∨ k = 1 ∨ k = 2 by omega) with rfl | rfl | rfl <;> assumption
    refine tt_tableOut (tgt := 59) dX4_tellStreet_12 (ztab (lo := 0) (hi := 2) (by omega) qo) (by decide) ?_
    refine tt_bipush (-2) dX4_tellStreet_59 rfl ?_
    exact tt_ireturn dX4_tellStreet_61 rfl rfl (Nat.zero_le _) (Nat.zero_le _) (by unfold kStr; rw [if_pos c_6b, if_neg q_0, if_neg q_1, if_neg q_2]; exact ⟨rfl, rfl⟩)
  · refine tt_iconst (-1) dX4_tellStreet_9 rfl ?_
    exact tt_ireturn dX4_tellStreet_10 rfl rfl (Nat.zero_le _) (Nat.zero_le _) (by unfold kStr; rw [if_neg c_6]; exact ⟨rfl, rfl⟩)
set_option maxRecDepth 100000 in
set_option maxHeartbeats 4000000 in
theorem c_X4_tellCustomer {h : zhp} {b : Nat} (hS : zTS h b) (s : Nat → Int32) {p pi : Nat → Nat} (hp : zPm p pi) (n : Nat) (hw : sWF s n) (v w : Int32) : MM iX4_tellCustomer [.ref b, .int v, .int w] (zt h b s p pi) (zfi (kCus s n v w) (zt h b s p pi)) := by
  refine MM_of (by decide +kernel) (Nat.le_of_ble_eq_true rfl) ?_
  refine tt_iload_n dX4_tellCustomer_0 rfl ?_
  refine tt_iconst (nI 0) dX4_tellCustomer_1 rfl ?_
  refine tt_iconst (nI 5) dX4_tellCustomer_2 rfl ?_
  refine tt_fSNi (c_X5_isWithin _ _ _ _) dX4_tellCustomer_3 sX4_65 rfl rfl (by decide) ⟨rfl, rfl⟩ (Nat.zero_le _) (Nat.zero_le _) (Nat.le_of_ble_eq_true rfl) ?_
  refine tt_if_neB (tgt := 11) dX4_tellCustomer_6 (by decide) (fun c_6 => ?_) (fun c_6 => ?_)
  · have c_6b := c_6
    obtain ⟨k, hk, rfl⟩ := zrng (x := v) (b := 5) (by omega) c_6
    refine tt_iload_n dX4_tellCustomer_11 rfl ?_
    by_cases q_0 : w = nI 0
    · subst q_0
      refine tt_tableIn (off := 32) (tgt := 44) dX4_tellCustomer_12 (by decide) (by decide) rfl (by decide) ?_
      refine tt_aload_n dX4_tellCustomer_44 rfl ?_
      refine tt_tA (c := 3) dX4_tellCustomer_45 fX4_26 rfl hS (by decide) rfl ?_
      refine tt_iload_n dX4_tellCustomer_48 rfl ?_
      refine tt_tl3 dX4_tellCustomer_49 hS (by omega) ?_
      exact tt_ireturn dX4_tellCustomer_50 rfl rfl (Nat.zero_le _) (Nat.zero_le _) (by unfold kCus; rw [if_pos c_6b]; first | (rw [nI_clamp (by omega)]; exact ⟨rfl, rfl⟩) | exact ⟨rfl, rfl⟩)
    by_cases q_1 : w = nI 1
    · subst q_1
      refine tt_tableIn (off := 39) (tgt := 51) dX4_tellCustomer_12 (by decide) (by decide) rfl (by decide) ?_
      refine tt_aload_n dX4_tellCustomer_51 rfl ?_
      refine tt_iload_n dX4_tellCustomer_52 rfl ?_
      refine tt_fVi (c_X4_skipsOf hS _ hp _ hw _) dX4_tellCustomer_53 vX4_203 rfl rfl (zTS_tw hS) (by decide) rfl (by decide) ⟨rfl, rfl⟩ (Nat.zero_le _) (Nat.zero_le _) (Nat.le_of_ble_eq_true rfl) ?_
      exact tt_ireturn dX4_tellCustomer_56 rfl rfl (Nat.zero_le _) (Nat.zero_le _) (by unfold kCus; rw [if_pos c_6b]; first | (rw [nI_clamp (by omega)]; exact ⟨rfl, rfl⟩) | exact ⟨rfl, rfl⟩)
    by_cases q_2 : w = nI 2
    · subst q_2
      refine tt_tableIn (off := 45) (tgt := 57) dX4_tellCustomer_12 (by decide) (by decide) rfl (by decide) ?_
      refine tt_aload_n dX4_tellCustomer_57 rfl ?_
      refine tt_tA (c := 4) dX4_tellCustomer_58 fX4_29 rfl hS (by decide) rfl ?_
      refine tt_iload_n dX4_tellCustomer_61 rfl ?_
      refine tt_tl4 dX4_tellCustomer_62 hS (by omega) ?_
      exact tt_ireturn dX4_tellCustomer_63 rfl rfl (Nat.zero_le _) (Nat.zero_le _) (by unfold kCus; rw [if_pos c_6b]; first | (rw [nI_clamp (by omega)]; exact ⟨rfl, rfl⟩) | exact ⟨rfl, rfl⟩)
    by_cases q_3 : w = nI 3
    · subst q_3
      refine tt_tableIn (off := 52) (tgt := 64) dX4_tellCustomer_12 (by decide) (by decide) rfl (by decide) ?_
      refine tt_aload_n dX4_tellCustomer_64 rfl ?_
      refine tt_tA (c := 5) dX4_tellCustomer_65 fX4_32 rfl hS (by decide) rfl ?_
      refine tt_iload_n dX4_tellCustomer_68 rfl ?_
      refine tt_tl5 dX4_tellCustomer_69 hS (by omega) ?_
      exact tt_ireturn dX4_tellCustomer_70 rfl rfl (Nat.zero_le _) (Nat.zero_le _) (by unfold kCus; rw [if_pos c_6b]; first | (rw [nI_clamp (by omega)]; exact ⟨rfl, rfl⟩) | exact ⟨rfl, rfl⟩)
    have qo : ∀ k, 0 ≤ k → k ≤ 3 → ¬ w = nI k := by
      intro k h1 h2
      rcases (show k = 0 ∨ k = 1 ∨ k = 2 ∨ k = 3 by omega) with rfl | rfl | rfl | rfl <;> assumption
    refine tt_tableOut (tgt := 71) dX4_tellCustomer_12 (ztab (lo := 0) (hi := 3) (by omega) qo) (by decide) ?_
    refine tt_bipush (-2) dX4_tellCustomer_71 rfl ?_
    exact tt_ireturn dX4_tellCustomer_73 rfl rfl (Nat.zero_le _) (Nat.zero_le _) (by unfold kCus; rw [if_pos c_6b, if_neg q_0, if_neg q_1, if_neg q_2, if_neg q_3]; exact ⟨rfl, rfl⟩)
  · refine tt_iconst (-1) dX4_tellCustomer_9 rfl ?_
    exact tt_ireturn dX4_tellCustomer_10 rfl rfl (Nat.zero_le _) (Nat.zero_le _) (by unfold kCus; rw [if_neg c_6]; exact ⟨rfl, rfl⟩)
set_option maxRecDepth 100000 in
set_option maxHeartbeats 4000000 in
theorem c_X4_tellNumber {h : zhp} {b : Nat} (hS : zTS h b) (s : Nat → Int32) {p pi : Nat → Nat} (hp : zPm p pi) (n : Nat) (hw : sWF s n) (v : Int32) : MM iX4_tellNumber [.ref b, .int v] (zt h b s p pi) (zfi (kNum s n v) (zt h b s p pi)) := by
  refine MM_of (by decide +kernel) (Nat.le_of_ble_eq_true rfl) ?_
  refine tt_iload_n dX4_tellNumber_0 rfl ?_
  refine tt_iconst (nI 0) dX4_tellNumber_1 rfl ?_
  refine tt_bipush (nI 7) dX4_tellNumber_2 rfl ?_
  refine tt_fSNi (c_X5_isWithin _ _ _ _) dX4_tellNumber_4 sX4_65 rfl rfl (by decide) ⟨rfl, rfl⟩ (Nat.zero_le _) (Nat.zero_le _) (Nat.le_of_ble_eq_true rfl) ?_
  refine tt_if_eqB (tgt := 17) dX4_tellNumber_7 (by decide) (fun c_7 => ?_) (fun c_7 => ?_)
  · refine tt_iload_n dX4_tellNumber_17 rfl ?_
    by_cases q_8 : v = nI 8
    · subst q_8
      refine tt_tableIn (off := 50) (tgt := 68) dX4_tellNumber_18 (by decide) (by decide) rfl (by decide) ?_
      refine tt_aload_n dX4_tellNumber_68 rfl ?_
      refine tt_tI dX4_tellNumber_69 fX4_56 rfl hS rfl ?_
      exact tt_ireturn dX4_tellNumber_72 rfl rfl (Nat.zero_le _) (Nat.zero_le _) (by unfold kNum; rw [if_neg c_7]; exact ⟨rfl, rfl⟩)
    by_cases q_9 : v = nI 9
    · subst q_9
      refine tt_tableIn (off := 55) (tgt := 73) dX4_tellNumber_18 (by decide) (by decide) rfl (by decide) ?_
      refine tt_aload_n dX4_tellNumber_73 rfl ?_
      refine tt_tI dX4_tellNumber_74 fX4_48 rfl hS rfl ?_
      exact tt_ireturn dX4_tellNumber_77 rfl rfl (Nat.zero_le _) (Nat.zero_le _) (by unfold kNum; rw [if_neg c_7]; exact ⟨rfl, rfl⟩)
    by_cases q_10 : v = nI 10
    · subst q_10
      refine tt_tableIn (off := 60) (tgt := 78) dX4_tellNumber_18 (by decide) (by decide) rfl (by decide) ?_
      refine tt_aload_n dX4_tellNumber_78 rfl ?_
      refine tt_fVi (c_X4_tripsLeft hS _ hp) dX4_tellNumber_79 vX4_79 rfl rfl (zTS_tw hS) (by decide) rfl (by decide) ⟨rfl, rfl⟩ (Nat.zero_le _) (Nat.zero_le _) (Nat.le_of_ble_eq_true rfl) ?_
      exact tt_ireturn dX4_tellNumber_82 rfl rfl (Nat.zero_le _) (Nat.zero_le _) (by unfold kNum; rw [if_neg c_7]; exact ⟨rfl, rfl⟩)
    by_cases q_11 : v = nI 11
    · subst q_11
      refine tt_tableIn (off := 65) (tgt := 83) dX4_tellNumber_18 (by decide) (by decide) rfl (by decide) ?_
      refine tt_aload_n dX4_tellNumber_83 rfl ?_
      refine tt_tA (c := 3) dX4_tellNumber_84 fX4_26 rfl hS (by decide) rfl ?_
      refine tt_fSNi (c_X5_sumOf3 hS _ hp) dX4_tellNumber_87 sX4_206 rfl rfl (by decide) ⟨rfl, rfl⟩ (Nat.zero_le _) (Nat.zero_le _) (Nat.le_of_ble_eq_true rfl) ?_
      exact tt_ireturn dX4_tellNumber_90 rfl rfl (Nat.zero_le _) (Nat.zero_le _) (by unfold kNum; rw [if_neg c_7]; exact ⟨rfl, rfl⟩)
    by_cases q_12 : v = nI 12
    · subst q_12
      refine tt_tableIn (off := 73) (tgt := 91) dX4_tellNumber_18 (by decide) (by decide) rfl (by decide) ?_
      refine tt_aload_n dX4_tellNumber_91 rfl ?_
      refine tt_tA (c := 4) dX4_tellNumber_92 fX4_29 rfl hS (by decide) rfl ?_
      refine tt_fSNi (c_X5_sumOf4 hS _ hp) dX4_tellNumber_95 sX4_206 rfl rfl (by decide) ⟨rfl, rfl⟩ (Nat.zero_le _) (Nat.zero_le _) (Nat.le_of_ble_eq_true rfl) ?_
      exact tt_ireturn dX4_tellNumber_98 rfl rfl (Nat.zero_le _) (Nat.zero_le _) (by unfold kNum; rw [if_neg c_7]; exact ⟨rfl, rfl⟩)
    by_cases q_13 : v = nI 13
    · subst q_13
      refine tt_tableIn (off := 81) (tgt := 99) dX4_tellNumber_18 (by decide) (by decide) rfl (by decide) ?_
      refine tt_aload_n dX4_tellNumber_99 rfl ?_
      refine tt_tI dX4_tellNumber_100 fX4_62 rfl hS rfl ?_
      exact tt_ireturn dX4_tellNumber_103 rfl rfl (Nat.zero_le _) (Nat.zero_le _) (by unfold kNum; rw [if_neg c_7]; exact ⟨rfl, rfl⟩)
    by_cases q_14 : v = nI 14
    · subst q_14
      refine tt_tableIn (off := 86) (tgt := 104) dX4_tellNumber_18 (by decide) (by decide) rfl (by decide) ?_
      refine tt_aload_n dX4_tellNumber_104 rfl ?_
      refine tt_tA (c := 5) dX4_tellNumber_105 fX4_32 rfl hS (by decide) rfl ?_
      refine tt_fSNi (c_X5_sumOf5 hS _ hp) dX4_tellNumber_108 sX4_206 rfl rfl (by decide) ⟨rfl, rfl⟩ (Nat.zero_le _) (Nat.zero_le _) (Nat.le_of_ble_eq_true rfl) ?_
      exact tt_ireturn dX4_tellNumber_111 rfl rfl (Nat.zero_le _) (Nat.zero_le _) (by unfold kNum; rw [if_neg c_7]; exact ⟨rfl, rfl⟩)
    by_cases q_15 : v = nI 15
    · subst q_15
      refine tt_tableIn (off := 94) (tgt := 112) dX4_tellNumber_18 (by decide) (by decide) rfl (by decide) ?_
      refine tt_aload_n dX4_tellNumber_112 rfl ?_
      refine tt_fVi (c_X4_sumOfLoads hS _ hp _ hw) dX4_tellNumber_113 vX4_210 rfl rfl (zTS_tw hS) (by decide) rfl (by decide) ⟨rfl, rfl⟩ (Nat.zero_le _) (Nat.zero_le _) (Nat.le_of_ble_eq_true rfl) ?_
      exact tt_ireturn dX4_tellNumber_116 rfl rfl (Nat.zero_le _) (Nat.zero_le _) (by unfold kNum; rw [if_neg c_7]; exact ⟨rfl, rfl⟩)
    by_cases q_16 : v = nI 16
    · subst q_16
      refine tt_tableIn (off := 99) (tgt := 117) dX4_tellNumber_18 (by decide) (by decide) rfl (by decide) ?_
      refine tt_aload_n dX4_tellNumber_117 rfl ?_
      refine tt_fVi (c_X4_fullSkips hS _ hp _ hw) dX4_tellNumber_118 vX4_213 rfl rfl (zTS_tw hS) (by decide) rfl (by decide) ⟨rfl, rfl⟩ (Nat.zero_le _) (Nat.zero_le _) (Nat.le_of_ble_eq_true rfl) ?_
      exact tt_ireturn dX4_tellNumber_121 rfl rfl (Nat.zero_le _) (Nat.zero_le _) (by unfold kNum; rw [if_neg c_7]; exact ⟨rfl, rfl⟩)
    have qo : ∀ k, 8 ≤ k → k ≤ 16 → ¬ v = nI k := by
      intro k h1 h2
      rcases (show k = 8 ∨ k = 9 ∨ k = 10 ∨ k = 11 ∨ k = 12 ∨ k = 13 ∨ k = 14 ∨ k = 15 ∨ k = 16 by omega) with rfl | rfl | rfl | rfl | rfl | rfl | rfl | rfl | rfl <;> assumption
    refine tt_tableOut (tgt := 122) dX4_tellNumber_18 (ztab (lo := 8) (hi := 16) (by omega) qo) (by decide) ?_
    refine tt_bipush (-2) dX4_tellNumber_122 rfl ?_
    exact tt_ireturn dX4_tellNumber_124 rfl rfl (Nat.zero_le _) (Nat.zero_le _) (by unfold kNum; rw [if_neg c_7, if_neg q_8, if_neg q_9, if_neg q_10, if_neg q_11, if_neg q_12, if_neg q_13, if_neg q_14, if_neg q_15, if_neg q_16]; exact ⟨rfl, rfl⟩)
  · have c_7b := c_7
    obtain ⟨k, hk, rfl⟩ := zrng (x := v) (b := 7) (by omega) c_7
    refine tt_aload_n dX4_tellNumber_10 rfl ?_
    refine tt_tA (c := 1) dX4_tellNumber_11 fX4_18 rfl hS (by decide) rfl ?_
    refine tt_iload_n dX4_tellNumber_14 rfl ?_
    refine tt_tl1 dX4_tellNumber_15 hS (by omega) ?_
    exact tt_ireturn dX4_tellNumber_16 rfl rfl (Nat.zero_le _) (Nat.zero_le _) (by unfold kNum; rw [if_pos c_7b, nI_clamp (by omega)]; exact ⟨rfl, rfl⟩)

