/-! the reference, its small readings -/
set_option maxRecDepth 100000 in
set_option maxHeartbeats 4000000 in
theorem c_X6_in (v lo hi : Int32) (h : zhp) : MM iX6_in [.int v, .int lo, .int hi] h (zfi (zb (lo ≤ v ∧ v ≤ hi)) h) := by
  refine MM_of (by decide +kernel) (Nat.le_of_ble_eq_true rfl) ?_
  refine tt_iload_n dX6_in_0 rfl ?_
  refine tt_iload_n dX6_in_1 rfl ?_
  refine tt_icmp_lt (tgt := 14) dX6_in_2 (by decide) (fun c_2 => ?_) (fun c_2 => ?_)
  · refine tt_iconst (nI 0) dX6_in_14 rfl ?_
    exact tt_ireturn dX6_in_15 rfl rfl (Nat.zero_le _) (Nat.zero_le _) ⟨by simp only [zb, Int32.lt_iff_toInt_lt, Int32.le_iff_toInt_le] at *; (split <;> first | rfl | (exfalso; omega) | (exfalso; simp_all; done) | (exfalso; simp_all; omega)), rfl⟩
  · refine tt_iload_n dX6_in_5 rfl ?_
    refine tt_iload_n dX6_in_6 rfl ?_
    refine tt_icmp_gt (tgt := 14) dX6_in_7 (by decide) (fun c_7 => ?_) (fun c_7 => ?_)
    · refine tt_iconst (nI 0) dX6_in_14 rfl ?_
      exact tt_ireturn dX6_in_15 rfl rfl (Nat.zero_le _) (Nat.zero_le _) ⟨by simp only [zb, Int32.lt_iff_toInt_lt, Int32.le_iff_toInt_le] at *; (split <;> first | rfl | (exfalso; omega) | (exfalso; simp_all; done) | (exfalso; simp_all; omega)), rfl⟩
    · refine tt_iconst (nI 1) dX6_in_10 rfl ?_
      refine tt_goto (tgt := 15) dX6_in_11 (by decide) ?_
      exact tt_ireturn dX6_in_15 rfl rfl (Nat.zero_le _) (Nat.zero_le _) ⟨by simp only [zb, Int32.lt_iff_toInt_lt, Int32.le_iff_toInt_le] at *; (split <;> first | rfl | (exfalso; omega) | (exfalso; simp_all; done) | (exfalso; simp_all; omega)), rfl⟩
set_option maxRecDepth 100000 in
set_option maxHeartbeats 4000000 in
theorem c_X6_isCustomer (v : Int32) (h : zhp) : MM iX6_isCustomer [.int v] h (zfi (zb (nI 0 ≤ v ∧ v ≤ nI 5)) h) := by
  refine MM_of (by decide +kernel) (Nat.le_of_ble_eq_true rfl) ?_
  refine tt_iload_n dX6_isCustomer_0 rfl ?_
  refine tt_iconst (nI 0) dX6_isCustomer_1 rfl ?_
  refine tt_iconst (nI 5) dX6_isCustomer_2 rfl ?_
  refine tt_fSi (c_X6_in _ _ _ _) dX6_isCustomer_3 sX6_25 rfl rfl (by decide) ⟨rfl, rfl⟩ (Nat.zero_le _) (Nat.zero_le _) (Nat.le_of_ble_eq_true rfl) ?_
  exact tt_ireturn dX6_isCustomer_6 rfl zb_nar (Nat.zero_le _) (Nat.zero_le _) ⟨rfl, rfl⟩
set_option maxRecDepth 100000 in
set_option maxHeartbeats 4000000 in
theorem c_X6_isStreet (v : Int32) (h : zhp) : MM iX6_isStreet [.int v] h (zfi (zb (nI 0 ≤ v ∧ v ≤ nI 4)) h) := by
  refine MM_of (by decide +kernel) (Nat.le_of_ble_eq_true rfl) ?_
  refine tt_iload_n dX6_isStreet_0 rfl ?_
  refine tt_iconst (nI 0) dX6_isStreet_1 rfl ?_
  refine tt_iconst (nI 4) dX6_isStreet_2 rfl ?_
  refine tt_fSi (c_X6_in _ _ _ _) dX6_isStreet_3 sX6_25 rfl rfl (by decide) ⟨rfl, rfl⟩ (Nat.zero_le _) (Nat.zero_le _) (Nat.le_of_ble_eq_true rfl) ?_
  exact tt_ireturn dX6_isStreet_6 rfl zb_nar (Nat.zero_le _) (Nat.zero_le _) ⟨rfl, rfl⟩
set_option maxRecDepth 100000 in
set_option maxHeartbeats 4000000 in
theorem c_X6_isSkip {h : zhp} (hM : zMo h) (F s a t l p : Nat → Int32) (v : Int32) : MM iX6_isSkip [.ref 181, .int v] (zm h F s a t l p) (zfi (zb (nI 0 ≤ v ∧ v ≤ s 33 - nI 1)) (zm h F s a t l p)) := by
  refine MM_of (by decide +kernel) (Nat.le_of_ble_eq_true rfl) ?_
  refine tt_iload_n dX6_isSkip_0 rfl ?_
  refine tt_iconst (nI 0) dX6_isSkip_1 rfl ?_
  refine tt_aload_n dX6_isSkip_2 rfl ?_
  refine tt_mA (b := 182) dX6_isSkip_3 fX6_7 rfl hM hM.2.1 ?_
  refine tt_bipush (nI 33) dX6_isSkip_6 rfl ?_
  refine tt_ld1 dX6_isSkip_8 hM (by omega) ?_
  refine tt_iconst (nI 1) dX6_isSkip_9 rfl ?_
  refine tt_isub dX6_isSkip_10 ?_
  refine tt_fSi (c_X6_in _ _ _ _) dX6_isSkip_11 sX6_25 rfl rfl (by decide) ⟨rfl, rfl⟩ (Nat.zero_le _) (Nat.zero_le _) (Nat.le_of_ble_eq_true rfl) ?_
  exact tt_ireturn dX6_isSkip_14 rfl zb_nar (Nat.zero_le _) (Nat.zero_le _) ⟨rfl, rfl⟩
set_option maxRecDepth 100000 in
set_option maxHeartbeats 4000000 in
theorem c_X6_ofCustomer (n w : Nat) (h : zhp) : MM iX6_ofCustomer [.int (nI n), .int (nI w)] h (zfi (nI (15 + 3 * n + w)) h) := by
  refine MM_of (by decide +kernel) (Nat.le_of_ble_eq_true rfl) ?_
  refine tt_bipush (nI 15) dX6_ofCustomer_0 rfl ?_
  refine tt_iconst (nI 3) dX6_ofCustomer_2 rfl ?_
  refine tt_iload_n dX6_ofCustomer_3 rfl ?_
  refine tt_imulN dX6_ofCustomer_4 ?_
  refine tt_iaddN dX6_ofCustomer_5 ?_
  refine tt_iload_n dX6_ofCustomer_6 rfl ?_
  refine tt_iaddN dX6_ofCustomer_7 ?_
  exact tt_ireturn dX6_ofCustomer_8 rfl rfl (Nat.zero_le _) (Nat.zero_le _) ⟨rfl, rfl⟩
set_option maxRecDepth 100000 in
set_option maxHeartbeats 4000000 in
theorem c_X6_of (n w : Nat) (h : zhp) : MM iX6_of [.int (nI n), .int (nI w)] h (zfi (nI (34 + 10 * n + w)) h) := by
  refine MM_of (by decide +kernel) (Nat.le_of_ble_eq_true rfl) ?_
  refine tt_bipush (nI 34) dX6_of_0 rfl ?_
  refine tt_bipush (nI 10) dX6_of_2 rfl ?_
  refine tt_iload_n dX6_of_4 rfl ?_
  refine tt_imulN dX6_of_5 ?_
  refine tt_iaddN dX6_of_6 ?_
  refine tt_iload_n dX6_of_7 rfl ?_
  refine tt_iaddN dX6_of_8 ?_
  exact tt_ireturn dX6_of_9 rfl rfl (Nat.zero_le _) (Nat.zero_le _) ⟨rfl, rfl⟩
set_option maxRecDepth 100000 in
set_option maxHeartbeats 4000000 in
theorem c_X6_holds {h : zhp} (hM : zMo h) (F s a t l p : Nat → Int32) (n : Nat) (hn : n < 10) : MM iX6_holds [.ref 181, .int (nI n)] (zm h F s a t l p) (zfi (nI 20 + nI 20 * s (34 + 10 * n + 1)) (zm h F s a t l p)) := by
  refine MM_of (by decide +kernel) (Nat.le_of_ble_eq_true rfl) ?_
  refine tt_bipush (nI 20) dX6_holds_0 rfl ?_
  refine tt_bipush (nI 20) dX6_holds_2 rfl ?_
  refine tt_aload_n dX6_holds_4 rfl ?_
  refine tt_mA (b := 182) dX6_holds_5 fX6_7 rfl hM hM.2.1 ?_
  refine tt_iload_n dX6_holds_8 rfl ?_
  refine tt_iconst (nI 1) dX6_holds_9 rfl ?_
  refine tt_fSi (c_X6_of _ _ _) dX6_holds_10 sX6_29 rfl rfl (by decide) ⟨rfl, rfl⟩ (Nat.zero_le _) (Nat.zero_le _) (Nat.le_of_ble_eq_true rfl) ?_
  refine tt_ld1 dX6_holds_13 hM (by omega) ?_
  refine tt_imul dX6_holds_14 ?_
  refine tt_iadd dX6_holds_15 ?_
  exact tt_ireturn dX6_holds_16 rfl rfl (Nat.zero_le _) (Nat.zero_le _) ⟨rfl, rfl⟩
set_option maxRecDepth 100000 in
set_option maxHeartbeats 4000000 in
theorem c_X6_tripsLeft {h : zhp} (hM : zMo h) (F s a t l p : Nat → Int32) : MM iX6_tripsLeft [.ref 181] (zm h F s a t l p) (zfi (if s 7 ≤ s 9 then nI 0 else s 7 - s 9) (zm h F s a t l p)) := by
  refine MM_of (by decide +kernel) (Nat.le_of_ble_eq_true rfl) ?_
  refine tt_aload_n dX6_tripsLeft_0 rfl ?_
  refine tt_mA (b := 182) dX6_tripsLeft_1 fX6_7 rfl hM hM.2.1 ?_
  refine tt_bipush (nI 7) dX6_tripsLeft_4 rfl ?_
  refine tt_ld1 dX6_tripsLeft_6 hM (by omega) ?_
  refine tt_aload_n dX6_tripsLeft_7 rfl ?_
  refine tt_mA (b := 182) dX6_tripsLeft_8 fX6_7 rfl hM hM.2.1 ?_
  refine tt_bipush (nI 9) dX6_tripsLeft_11 rfl ?_
  refine tt_ld1 dX6_tripsLeft_13 hM (by omega) ?_
  refine tt_icmp_le (tgt := 35) dX6_tripsLeft_14 (by decide) (fun c_14 => ?_) (fun c_14 => ?_)
  · refine tt_iconst (nI 0) dX6_tripsLeft_35 rfl ?_
    exact tt_ireturn dX6_tripsLeft_36 rfl rfl (Nat.zero_le _) (Nat.zero_le _) ⟨by simp only [*, if_true, if_false], rfl⟩
  · refine tt_aload_n dX6_tripsLeft_17 rfl ?_
    refine tt_mA (b := 182) dX6_tripsLeft_18 fX6_7 rfl hM hM.2.1 ?_
    refine tt_bipush (nI 7) dX6_tripsLeft_21 rfl ?_
    refine tt_ld1 dX6_tripsLeft_23 hM (by omega) ?_
    refine tt_aload_n dX6_tripsLeft_24 rfl ?_
    refine tt_mA (b := 182) dX6_tripsLeft_25 fX6_7 rfl hM hM.2.1 ?_
    refine tt_bipush (nI 9) dX6_tripsLeft_28 rfl ?_
    refine tt_ld1 dX6_tripsLeft_30 hM (by omega) ?_
    refine tt_isub dX6_tripsLeft_31 ?_
    refine tt_goto (tgt := 36) dX6_tripsLeft_32 (by decide) ?_
    exact tt_ireturn dX6_tripsLeft_36 rfl rfl (Nat.zero_le _) (Nat.zero_le _) ⟨by simp only [*, if_true, if_false], rfl⟩
set_option maxRecDepth 100000 in
set_option maxHeartbeats 4000000 in
theorem c_X6_isInStreet {h : zhp} (hM : zMo h) (F s a t l p : Nat → Int32) (n : Nat) (hn : n < 10) : MM iX6_isInStreet [.ref 181, .int (nI n)] (zm h F s a t l p) (zfi (zb (s (34 + 10 * n + 2) < nI 5)) (zm h F s a t l p)) := by
  refine MM_of (by decide +kernel) (Nat.le_of_ble_eq_true rfl) ?_
  refine tt_aload_n dX6_isInStreet_0 rfl ?_
  refine tt_mA (b := 182) dX6_isInStreet_1 fX6_7 rfl hM hM.2.1 ?_
  refine tt_iload_n dX6_isInStreet_4 rfl ?_
  refine tt_iconst (nI 2) dX6_isInStreet_5 rfl ?_
  refine tt_fSi (c_X6_of _ _ _) dX6_isInStreet_6 sX6_29 rfl rfl (by decide) ⟨rfl, rfl⟩ (Nat.zero_le _) (Nat.zero_le _) (Nat.le_of_ble_eq_true rfl) ?_
  refine tt_ld1 dX6_isInStreet_9 hM (by omega) ?_
  refine tt_iconst (nI 5) dX6_isInStreet_10 rfl ?_
  refine tt_icmp_ge (tgt := 18) dX6_isInStreet_11 (by decide) (fun c_11 => ?_) (fun c_11 => ?_)
  · refine tt_iconst (nI 0) dX6_isInStreet_18 rfl ?_
    exact tt_ireturn dX6_isInStreet_19 rfl rfl (Nat.zero_le _) (Nat.zero_le _) ⟨by simp only [zb, Int32.lt_iff_toInt_lt, Int32.le_iff_toInt_le] at *; (split <;> first | rfl | (exfalso; omega) | (exfalso; simp_all; done) | (exfalso; simp_all; omega)), rfl⟩
  · refine tt_iconst (nI 1) dX6_isInStreet_14 rfl ?_
    refine tt_goto (tgt := 19) dX6_isInStreet_15 (by decide) ?_
    exact tt_ireturn dX6_isInStreet_19 rfl rfl (Nat.zero_le _) (Nat.zero_le _) ⟨by simp only [zb, Int32.lt_iff_toInt_lt, Int32.le_iff_toInt_le] at *; (split <;> first | rfl | (exfalso; omega) | (exfalso; simp_all; done) | (exfalso; simp_all; omega)), rfl⟩
set_option maxRecDepth 100000 in
set_option maxHeartbeats 4000000 in
theorem c_X6_isPermitted {h : zhp} (hM : zMo h) (F s a t l p : Nat → Int32) (n : Nat) (hn : n < 10) : MM iX6_isPermitted [.ref 181, .int (nI n)] (zm h F s a t l p) (zfi (zb (s (34 + 10 * n + 6) ≠ -6 ∧ s 8 ≤ s (34 + 10 * n + 6))) (zm h F s a t l p)) := by
  refine MM_of (by decide +kernel) (Nat.le_of_ble_eq_true rfl) ?_
  refine tt_aload_n dX6_isPermitted_0 rfl ?_
  refine tt_mA (b := 182) dX6_isPermitted_1 fX6_7 rfl hM hM.2.1 ?_
  refine tt_iload_n dX6_isPermitted_4 rfl ?_
  refine tt_bipush (nI 6) dX6_isPermitted_5 rfl ?_
  refine tt_fSi (c_X6_of _ _ _) dX6_isPermitted_7 sX6_29 rfl rfl (by decide) ⟨rfl, rfl⟩ (Nat.zero_le _) (Nat.zero_le _) (Nat.le_of_ble_eq_true rfl) ?_
  refine tt_ld1 dX6_isPermitted_10 hM (by omega) ?_
  refine tt_bipush (-6) dX6_isPermitted_11 rfl ?_
  refine tt_icmp_eq (tgt := 41) dX6_isPermitted_13 (by decide) (fun c_13 => ?_) (fun c_13 => ?_)
  · refine tt_iconst (nI 0) dX6_isPermitted_41 rfl ?_
    exact tt_ireturn dX6_isPermitted_42 rfl rfl (Nat.zero_le _) (Nat.zero_le _) ⟨by simp only [zb, Int32.lt_iff_toInt_lt, Int32.le_iff_toInt_le] at *; (split <;> first | rfl | (exfalso; omega) | (exfalso; simp_all; done) | (exfalso; simp_all; omega)), rfl⟩
  · refine tt_aload_n dX6_isPermitted_16 rfl ?_
    refine tt_mA (b := 182) dX6_isPermitted_17 fX6_7 rfl hM hM.2.1 ?_
    refine tt_iload_n dX6_isPermitted_20 rfl ?_
    refine tt_bipush (nI 6) dX6_isPermitted_21 rfl ?_
    refine tt_fSi (c_X6_of _ _ _) dX6_isPermitted_23 sX6_29 rfl rfl (by decide) ⟨rfl, rfl⟩ (Nat.zero_le _) (Nat.zero_le _) (Nat.le_of_ble_eq_true rfl) ?_
    refine tt_ld1 dX6_isPermitted_26 hM (by omega) ?_
    refine tt_aload_n dX6_isPermitted_27 rfl ?_
    refine tt_mA (b := 182) dX6_isPermitted_28 fX6_7 rfl hM hM.2.1 ?_
    refine tt_bipush (nI 8) dX6_isPermitted_31 rfl ?_
    refine tt_ld1 dX6_isPermitted_33 hM (by omega) ?_
    refine tt_icmp_lt (tgt := 41) dX6_isPermitted_34 (by decide) (fun c_34 => ?_) (fun c_34 => ?_)
    · refine tt_iconst (nI 0) dX6_isPermitted_41 rfl ?_
      exact tt_ireturn dX6_isPermitted_42 rfl rfl (Nat.zero_le _) (Nat.zero_le _) ⟨by simp only [zb, Int32.lt_iff_toInt_lt, Int32.le_iff_toInt_le] at *; (split <;> first | rfl | (exfalso; omega) | (exfalso; simp_all; done) | (exfalso; simp_all; omega)), rfl⟩
    · refine tt_iconst (nI 1) dX6_isPermitted_37 rfl ?_
      refine tt_goto (tgt := 42) dX6_isPermitted_38 (by decide) ?_
      exact tt_ireturn dX6_isPermitted_42 rfl rfl (Nat.zero_le _) (Nat.zero_le _) ⟨by simp only [zb, Int32.lt_iff_toInt_lt, Int32.le_iff_toInt_le] at *; (split <;> first | rfl | (exfalso; omega) | (exfalso; simp_all; done) | (exfalso; simp_all; omega)), rfl⟩
set_option maxRecDepth 100000 in
set_option maxHeartbeats 4000000 in
theorem c_X6_least (v : Int32) (h : zhp) : MM iX6_least [.int v] h (zfi (if v = nI 6 then nI 1 else nI 0) h) := by
  refine MM_of (by decide +kernel) (Nat.le_of_ble_eq_true rfl) ?_
  refine tt_iload_n dX6_least_0 rfl ?_
  refine tt_bipush (nI 6) dX6_least_1 rfl ?_
  refine tt_icmp_ne (tgt := 10) dX6_least_3 (by decide) (fun c_3 => ?_) (fun c_3 => ?_)
  · refine tt_iconst (nI 0) dX6_least_10 rfl ?_
    exact tt_ireturn dX6_least_11 rfl rfl (Nat.zero_le _) (Nat.zero_le _) ⟨by simp only [*, if_true, if_false], rfl⟩
  · refine tt_iconst (nI 1) dX6_least_6 rfl ?_
    refine tt_goto (tgt := 11) dX6_least_7 (by decide) ?_
    exact tt_ireturn dX6_least_11 rfl rfl (Nat.zero_le _) (Nat.zero_le _) ⟨by simp only [*, if_true, if_false], rfl⟩
