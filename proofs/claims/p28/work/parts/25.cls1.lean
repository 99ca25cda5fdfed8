/-! the class: a skip -/
section
variable {i j : zmi} {pc : Nat} {L : List (Option Value)} {st stk : List Value} {h h0 : zhp} {cc sc : Nat} {Q : Option Value → zhp → Prop} {av : List Value}
theorem tt_fSNi {idx n : Nat} {e : Int32} (hM : MM j av h (zfi e h0)) (d : decode (mC i) pc = .ok (.invokestatic idx, 3)) (hw : zMNS (mY i).cls idx j n) (hst : stk = av.reverse ++ st) (hn : av.length = n) (hh : mH j < mH i ∧ mL j + 19 + 36 * mH j ≤ 36 * mH i) (h0m : mA j = 0 ∧ mS j = 0) (hc : cc ≤ mA i) (hs : sc ≤ mS i) (h8 : (st.map fun v => v.category).sum ≤ 8)
    (k : TT i (pc + 3) L (.int e :: st) h0 cc sc Q) : TT i pc L stk h cc sc Q := by
  refine tt_callSN hM d hw hst hn hh (by rw [h0m.1]; exact hc) (by rw [h0m.2]; exact hs) h8 (fun r h1 q => ?_)
  obtain ⟨rfl, rfl⟩ := q
  rw [h0m.1, h0m.2]
  exact k
end
theorem zTS_sk {h : zhp} {b : Nat} {s : Nat → Int32} {p pi : Nat → Nat} (hS : zTS h b) (hp : zPm p pi) {n : Nat} (hn : n < 10) : zT (zt h b s p pi) (b + (7 + p n)) = 3 := hS.2.2.2.2.2 (p n) (hp n hn).1
theorem zTS_tw {h : zhp} {b : Nat} {s : Nat → Int32} {p pi : Nat → Nat} (hS : zTS h b) : zT (zt h b s p pi) b = 4 := hS.2.1
/-- at least nothing -/
def mx0 (x : Int32) : Int32 := if nI 0 < x then x else nI 0
def kHo (s : Nat → Int32) (n : Nat) : Int32 := nI 20 + nI 20 * s (34 + 10 * n + 1)
def kPa (s : Nat → Int32) (n : Nat) (d : Int32) : Int32 := if d < s (34 + 10 * n + 6) then s (34 + 10 * n + 6) - d else nI 0
def kDf (s : Nat → Int32) (n : Nat) (d t : Int32) : Int32 := if s (34 + 10 * n + 2) = nI 5 then nI 0 else mx0 (d - kPa s n t)
def kDd (s : Nat → Int32) (n : Nat) (d : Int32) : Int32 := if s (34 + 10 * n + 2) = nI 5 then nI 0 else mx0 (d - s (34 + 10 * n + 5))
def kBe (s : Nat → Int32) (n : Nat) (d l : Int32) : Int32 := mx0 (l + s (34 + 10 * n + 4) * d - kHo s n)
def kBs (s : Nat → Int32) (n : Nat) (v d : Int32) : Int32 := kBe s n v (s (34 + 10 * n + 3)) + kBe s n (d - v) (nI 0)
def kBd (s : Nat → Int32) (n d : Nat) : Nat := zlp (fun k x => if kBs s n (nI x) (nI d) < kBs s n (nI (k + 1)) (nI d) then x else k + 1) d 0 0
def kUf (s : Nat → Int32) (n : Nat) : Int32 := if kHo s n ≤ s (34 + 10 * n + 3) then nI 0 else if s (34 + 10 * n + 4) = 0 then -6 else (kHo s n - s (34 + 10 * n + 3) + s (34 + 10 * n + 4) - nI 1) / s (34 + 10 * n + 4)
def kUn (s : Nat → Int32) (n : Nat) (t : Int32) : Int32 := if s (34 + 10 * n + 2) = nI 5 then -6 else nI 1 + (if s (34 + 10 * n + 5) < kPa s n t then s (34 + 10 * n + 5) else kPa s n t)
/-- the skip is d days older -/
def kAg (s : Nat → Int32) (n : Nat) (d : Int32) : Nat → Int32 :=
  let f := kBe s n d (s (34 + 10 * n + 3))
  let s1 := upd s (34 + 10 * n + 3) (s (34 + 10 * n + 3) + (s (34 + 10 * n + 4) * d - f))
  let s2 := upd s1 (34 + 10 * n + 7) (s1 (34 + 10 * n + 7) + f)
  if s2 (34 + 10 * n + 2) = nI 5 then s2 else upd s2 (34 + 10 * n + 5) (mx0 (s2 (34 + 10 * n + 5) - d))
def kBg (s : Nat → Int32) (n : Nat) (c z st g : Int32) : Nat → Int32 := upd (upd (upd (upd (upd (upd (upd (upd s (34 + 10 * n + 0) c) (34 + 10 * n + 1) z) (34 + 10 * n + 2) st) (34 + 10 * n + 4) g) (34 + 10 * n + 3) (nI 0)) (34 + 10 * n + 6) (-6)) (34 + 10 * n + 7) (nI 0)) (34 + 10 * n + 9) (nI 0)
set_option maxRecDepth 100000 in
set_option maxHeartbeats 4000000 in
theorem c_X5_isWithin (v lo hi : Int32) (h : zhp) : MM iX5_isWithin [.int v, .int lo, .int hi] h (zfi (zb (lo ≤ v ∧ v ≤ hi)) h) := by
  refine MM_of (by decide +kernel) (Nat.le_of_ble_eq_true rfl) ?_
  refine tt_iload_n dX5_isWithin_0 rfl ?_
  refine tt_iload_n dX5_isWithin_1 rfl ?_
  refine tt_icmp_lt (tgt := 14) dX5_isWithin_2 (by decide) (fun c_2 => ?_) (fun c_2 => ?_)
  · refine tt_iconst (nI 0) dX5_isWithin_14 rfl ?_
    exact tt_ireturn dX5_isWithin_15 rfl rfl (Nat.zero_le _) (Nat.zero_le _) ⟨by simp only [zb, Int32.lt_iff_toInt_lt, Int32.le_iff_toInt_le] at *; (split <;> first | rfl | (exfalso; omega) | (exfalso; simp_all; done) | (exfalso; simp_all; omega)), rfl⟩
  · refine tt_iload_n dX5_isWithin_5 rfl ?_
    refine tt_iload_n dX5_isWithin_6 rfl ?_
    refine tt_icmp_gt (tgt := 14) dX5_isWithin_7 (by decide) (fun c_7 => ?_) (fun c_7 => ?_)
    · refine tt_iconst (nI 0) dX5_isWithin_14 rfl ?_
      exact tt_ireturn dX5_isWithin_15 rfl rfl (Nat.zero_le _) (Nat.zero_le _) ⟨by simp only [zb, Int32.lt_iff_toInt_lt, Int32.le_iff_toInt_le] at *; (split <;> first | rfl | (exfalso; omega) | (exfalso; simp_all; done) | (exfalso; simp_all; omega)), rfl⟩
    · refine tt_iconst (nI 1) dX5_isWithin_10 rfl ?_
      refine tt_goto (tgt := 15) dX5_isWithin_11 (by decide) ?_
      exact tt_ireturn dX5_isWithin_15 rfl rfl (Nat.zero_le _) (Nat.zero_le _) ⟨by simp only [zb, Int32.lt_iff_toInt_lt, Int32.le_iff_toInt_le] at *; (split <;> first | rfl | (exfalso; omega) | (exfalso; simp_all; done) | (exfalso; simp_all; omega)), rfl⟩
set_option maxRecDepth 100000 in
set_option maxHeartbeats 4000000 in
theorem c_X3_holds {h : zhp} {b : Nat} (hS : zTS h b) (s : Nat → Int32) {p pi : Nat → Nat} (hp : zPm p pi) (n : Nat) (hn : n < 10) : MM iX3_holds [.ref (b + (7 + p n))] (zt h b s p pi) (zfi (kHo s n) (zt h b s p pi)) := by
  refine MM_of (by decide +kernel) (Nat.le_of_ble_eq_true rfl) ?_
  refine tt_bipush (nI 20) dX3_holds_0 rfl ?_
  refine tt_bipush (nI 20) dX3_holds_2 rfl ?_
  refine tt_aload_n dX3_holds_4 rfl ?_
  refine tt_sI dX3_holds_5 fX3_15 rfl hS hp (by omega) (by decide) ?_
  refine tt_imul dX3_holds_8 ?_
  refine tt_iadd dX3_holds_9 ?_
  exact tt_ireturn dX3_holds_10 rfl rfl (Nat.zero_le _) (Nat.zero_le _) ⟨rfl, rfl⟩
set_option maxRecDepth 100000 in
set_option maxHeartbeats 4000000 in
theorem c_X3_isFull {h : zhp} {b : Nat} (hS : zTS h b) (s : Nat → Int32) {p pi : Nat → Nat} (hp : zPm p pi) (n : Nat) (hn : n < 10) : MM iX3_isFull [.ref (b + (7 + p n))] (zt h b s p pi) (zfi (zb (kHo s n ≤ s (34 + 10 * n + 3))) (zt h b s p pi)) := by
  refine MM_of (by decide +kernel) (Nat.le_of_ble_eq_true rfl) ?_
  refine tt_aload_n dX3_isFull_0 rfl ?_
  refine tt_sI dX3_isFull_1 fX3_24 rfl hS hp (by omega) (by decide) ?_
  refine tt_aload_n dX3_isFull_4 rfl ?_
  refine tt_fVi (c_X3_holds hS _ hp _ (by omega)) dX3_isFull_5 vX3_42 rfl rfl (zTS_sk hS hp (by omega)) (by decide) rfl (by decide) ⟨rfl, rfl⟩ (Nat.zero_le _) (Nat.zero_le _) (Nat.le_of_ble_eq_true rfl) ?_
  refine tt_icmp_lt (tgt := 15) dX3_isFull_8 (by decide) (fun c_8 => ?_) (fun c_8 => ?_)
  · refine tt_iconst (nI 0) dX3_isFull_15 rfl ?_
    exact tt_ireturn dX3_isFull_16 rfl rfl (Nat.zero_le _) (Nat.zero_le _) ⟨by simp only [zb, Int32.lt_iff_toInt_lt, Int32.le_iff_toInt_le] at *; (split <;> first | rfl | (exfalso; omega) | (exfalso; simp_all; done) | (exfalso; simp_all; omega)), rfl⟩
  · refine tt_iconst (nI 1) dX3_isFull_11 rfl ?_
    refine tt_goto (tgt := 16) dX3_isFull_12 (by decide) ?_
    exact tt_ireturn dX3_isFull_16 rfl rfl (Nat.zero_le _) (Nat.zero_le _) ⟨by simp only [zb, Int32.lt_iff_toInt_lt, Int32.le_iff_toInt_le] at *; (split <;> first | rfl | (exfalso; omega) | (exfalso; simp_all; done) | (exfalso; simp_all; omega)), rfl⟩
theorem zb_t {P : Prop} [Decidable P] (h : P) : zb P = nI 1 := if_pos h
theorem zb_f {P : Prop} [Decidable P] (h : ¬ P) : zb P = nI 0 := if_neg h
set_option maxRecDepth 100000 in
set_option maxHeartbeats 4000000 in
theorem c_X3_isOnDrive {h : zhp} {b : Nat} (hS : zTS h b) (s : Nat → Int32) {p pi : Nat → Nat} (hp : zPm p pi) (n : Nat) (hn : n < 10) : MM iX3_isOnDrive [.ref (b + (7 + p n))] (zt h b s p pi) (zfi (zb (s (34 + 10 * n + 2) = nI 5)) (zt h b s p pi)) := by
  refine MM_of (by decide +kernel) (Nat.le_of_ble_eq_true rfl) ?_
  refine tt_aload_n dX3_isOnDrive_0 rfl ?_
  refine tt_sI dX3_isOnDrive_1 fX3_18 rfl hS hp (by omega) (by decide) ?_
  refine tt_iconst (nI 5) dX3_isOnDrive_4 rfl ?_
  refine tt_icmp_ne (tgt := 12) dX3_isOnDrive_5 (by decide) (fun c_5 => ?_) (fun c_5 => ?_)
  · refine tt_iconst (nI 0) dX3_isOnDrive_12 rfl ?_
    exact tt_ireturn dX3_isOnDrive_13 rfl rfl (Nat.zero_le _) (Nat.zero_le _) ⟨by first | rw [zb_t (by assumption)] | rw [zb_f (by assumption)], rfl⟩
  · refine tt_iconst (nI 1) dX3_isOnDrive_8 rfl ?_
    refine tt_goto (tgt := 13) dX3_isOnDrive_9 (by decide) ?_
    exact tt_ireturn dX3_isOnDrive_13 rfl rfl (Nat.zero_le _) (Nat.zero_le _) ⟨by first | rw [zb_t (by assumption)] | rw [zb_f (by assumption)], rfl⟩
set_option maxRecDepth 100000 in
set_option maxHeartbeats 4000000 in
theorem c_X3_hasPermitFor {h : zhp} {b : Nat} (hS : zTS h b) (s : Nat → Int32) {p pi : Nat → Nat} (hp : zPm p pi) (n : Nat) (hn : n < 10) (d : Int32) : MM iX3_hasPermitFor [.ref (b + (7 + p n)), .int d] (zt h b s p pi) (zfi (zb (d ≤ s (34 + 10 * n + 6))) (zt h b s p pi)) := by
  refine MM_of (by decide +kernel) (Nat.le_of_ble_eq_true rfl) ?_
  refine tt_aload_n dX3_hasPermitFor_0 rfl ?_
  refine tt_sI dX3_hasPermitFor_1 fX3_27 rfl hS hp (by omega) (by decide) ?_
  refine tt_iload_n dX3_hasPermitFor_4 rfl ?_
  refine tt_icmp_lt (tgt := 12) dX3_hasPermitFor_5 (by decide) (fun c_5 => ?_) (fun c_5 => ?_)
  · refine tt_iconst (nI 0) dX3_hasPermitFor_12 rfl ?_
    exact tt_ireturn dX3_hasPermitFor_13 rfl rfl (Nat.zero_le _) (Nat.zero_le _) ⟨by simp only [zb, Int32.lt_iff_toInt_lt, Int32.le_iff_toInt_le] at *; (split <;> first | rfl | (exfalso; omega) | (exfalso; simp_all; done) | (exfalso; simp_all; omega)), rfl⟩
  · refine tt_iconst (nI 1) dX3_hasPermitFor_8 rfl ?_
    refine tt_goto (tgt := 13) dX3_hasPermitFor_9 (by decide) ?_
    exact tt_ireturn dX3_hasPermitFor_13 rfl rfl (Nat.zero_le _) (Nat.zero_le _) ⟨by simp only [zb, Int32.lt_iff_toInt_lt, Int32.le_iff_toInt_le] at *; (split <;> first | rfl | (exfalso; omega) | (exfalso; simp_all; done) | (exfalso; simp_all; omega)), rfl⟩
set_option maxRecDepth 100000 in
set_option maxHeartbeats 4000000 in
theorem c_X3_permitDaysAhead {h : zhp} {b : Nat} (hS : zTS h b) (s : Nat → Int32) {p pi : Nat → Nat} (hp : zPm p pi) (n : Nat) (hn : n < 10) (d : Int32) : MM iX3_permitDaysAhead [.ref (b + (7 + p n)), .int d] (zt h b s p pi) (zfi (kPa s n d) (zt h b s p pi)) := by
  refine MM_of (by decide +kernel) (Nat.le_of_ble_eq_true rfl) ?_
  refine tt_aload_n dX3_permitDaysAhead_0 rfl ?_
  refine tt_sI dX3_permitDaysAhead_1 fX3_27 rfl hS hp (by omega) (by decide) ?_
  refine tt_iload_n dX3_permitDaysAhead_4 rfl ?_
  refine tt_icmp_le (tgt := 17) dX3_permitDaysAhead_5 (by decide) (fun c_5 => ?_) (fun c_5 => ?_)
  · refine tt_iconst (nI 0) dX3_permitDaysAhead_17 rfl ?_
    exact tt_ireturn dX3_permitDaysAhead_18 rfl rfl (Nat.zero_le _) (Nat.zero_le _) ⟨congrArg (fun z => some (Value.int z)) (by first | exact (if_pos c_5).symm | exact (if_neg c_5).symm | exact (if_pos (Int32.not_le.mp c_5)).symm | exact (if_neg (Int32.not_lt.mpr c_5)).symm), rfl⟩
  · refine tt_aload_n dX3_permitDaysAhead_8 rfl ?_
    refine tt_sI dX3_permitDaysAhead_9 fX3_27 rfl hS hp (by omega) (by decide) ?_
    refine tt_iload_n dX3_permitDaysAhead_12 rfl ?_
    refine tt_isub dX3_permitDaysAhead_13 ?_
    refine tt_goto (tgt := 18) dX3_permitDaysAhead_14 (by decide) ?_
    exact tt_ireturn dX3_permitDaysAhead_18 rfl rfl (Nat.zero_le _) (Nat.zero_le _) ⟨congrArg (fun z => some (Value.int z)) (by first | exact (if_pos c_5).symm | exact (if_neg c_5).symm | exact (if_pos (Int32.not_le.mp c_5)).symm | exact (if_neg (Int32.not_lt.mpr c_5)).symm), rfl⟩
set_option maxRecDepth 100000 in
set_option maxHeartbeats 4000000 in
theorem c_X3_daysFined {h : zhp} {b : Nat} (hS : zTS h b) (s : Nat → Int32) {p pi : Nat → Nat} (hp : zPm p pi) (n : Nat) (hn : n < 10) (d : Int32) (t : Int32) : MM iX3_daysFined [.ref (b + (7 + p n)), .int d, .int t] (zt h b s p pi) (zfi (kDf s n d t) (zt h b s p pi)) := by
  refine MM_of (by decide +kernel) (Nat.le_of_ble_eq_true rfl) ?_
  refine tt_aload_n dX3_daysFined_0 rfl ?_
  refine tt_fVi (c_X3_isOnDrive hS _ hp _ (by omega)) dX3_daysFined_1 vX3_46 rfl rfl (zTS_sk hS hp (by omega)) (by decide) rfl (by decide) ⟨rfl, rfl⟩ (Nat.zero_le _) (Nat.zero_le _) (Nat.le_of_ble_eq_true rfl) ?_
  refine tt_if_eqB (tgt := 11) dX3_daysFined_4 (by decide) (fun c_4 => ?_) (fun c_4 => ?_)
  · refine tt_iconst (nI 0) dX3_daysFined_11 rfl ?_
    refine tt_iload_n dX3_daysFined_12 rfl ?_
    refine tt_aload_n dX3_daysFined_13 rfl ?_
    refine tt_iload_n dX3_daysFined_14 rfl ?_
    refine tt_fVi (c_X3_permitDaysAhead hS _ hp _ (by omega) _) dX3_daysFined_15 vX3_50 rfl rfl (zTS_sk hS hp (by omega)) (by decide) rfl (by decide) ⟨rfl, rfl⟩ (Nat.zero_le _) (Nat.zero_le _) (Nat.le_of_ble_eq_true rfl) ?_
    refine tt_isub dX3_daysFined_18 ?_
    refine tt_max dX3_daysFined_19 jX3_54 jmax2 jmath3 jmax4 (by decide) (Nat.le_of_ble_eq_true rfl) (Nat.zero_le _) (Nat.zero_le _) ?_
    exact tt_ireturn dX3_daysFined_22 rfl rfl (Nat.zero_le _) (Nat.zero_le _) ⟨congrArg (fun z => some (Value.int z)) (by first | exact (if_pos c_4).symm | exact (if_neg c_4).symm), rfl⟩
  · refine tt_iconst (nI 0) dX3_daysFined_7 rfl ?_
    refine tt_goto (tgt := 22) dX3_daysFined_8 (by decide) ?_
    exact tt_ireturn dX3_daysFined_22 rfl rfl (Nat.zero_le _) (Nat.zero_le _) ⟨congrArg (fun z => some (Value.int z)) (by first | exact (if_pos c_4).symm | exact (if_neg c_4).symm), rfl⟩
set_option maxRecDepth 100000 in
set_option maxHeartbeats 4000000 in
theorem c_X3_daysDark {h : zhp} {b : Nat} (hS : zTS h b) (s : Nat → Int32) {p pi : Nat → Nat} (hp : zPm p pi) (n : Nat) (hn : n < 10) (d : Int32) : MM iX3_daysDark [.ref (b + (7 + p n)), .int d] (zt h b s p pi) (zfi (kDd s n d) (zt h b s p pi)) := by
  refine MM_of (by decide +kernel) (Nat.le_of_ble_eq_true rfl) ?_
  refine tt_aload_n dX3_daysDark_0 rfl ?_
  refine tt_fVi (c_X3_isOnDrive hS _ hp _ (by omega)) dX3_daysDark_1 vX3_46 rfl rfl (zTS_sk hS hp (by omega)) (by decide) rfl (by decide) ⟨rfl, rfl⟩ (Nat.zero_le _) (Nat.zero_le _) (Nat.le_of_ble_eq_true rfl) ?_
  refine tt_if_eqB (tgt := 11) dX3_daysDark_4 (by decide) (fun c_4 => ?_) (fun c_4 => ?_)
  · refine tt_iconst (nI 0) dX3_daysDark_11 rfl ?_
    refine tt_iload_n dX3_daysDark_12 rfl ?_
    refine tt_aload_n dX3_daysDark_13 rfl ?_
    refine tt_sI dX3_daysDark_14 fX3_36 rfl hS hp (by omega) (by decide) ?_
    refine tt_isub dX3_daysDark_17 ?_
    refine tt_max dX3_daysDark_18 jX3_54 jmax2 jmath3 jmax4 (by decide) (Nat.le_of_ble_eq_true rfl) (Nat.zero_le _) (Nat.zero_le _) ?_
    exact tt_ireturn dX3_daysDark_21 rfl rfl (Nat.zero_le _) (Nat.zero_le _) ⟨congrArg (fun z => some (Value.int z)) (by first | exact (if_pos c_4).symm | exact (if_neg c_4).symm), rfl⟩
  · refine tt_iconst (nI 0) dX3_daysDark_7 rfl ?_
    refine tt_goto (tgt := 21) dX3_daysDark_8 (by decide) ?_
    exact tt_ireturn dX3_daysDark_21 rfl rfl (Nat.zero_le _) (Nat.zero_le _) ⟨congrArg (fun z => some (Value.int z)) (by first | exact (if_pos c_4).symm | exact (if_neg c_4).symm), rfl⟩
set_option maxRecDepth 100000 in
set_option maxHeartbeats 4000000 in
theorem c_X3_besideIn {h : zhp} {b : Nat} (hS : zTS h b) (s : Nat → Int32) {p pi : Nat → Nat} (hp : zPm p pi) (n : Nat) (hn : n < 10) (d : Int32) (l : Int32) : MM iX3_besideIn [.ref (b + (7 + p n)), .int d, .int l] (zt h b s p pi) (zfi (kBe s n d l) (zt h b s p pi)) := by
  refine MM_of (by decide +kernel) (Nat.le_of_ble_eq_true rfl) ?_
  refine tt_iconst (nI 0) dX3_besideIn_0 rfl ?_
  refine tt_iload_n dX3_besideIn_1 rfl ?_
  refine tt_aload_n dX3_besideIn_2 rfl ?_
  refine tt_sI dX3_besideIn_3 fX3_21 rfl hS hp (by omega) (by decide) ?_
  refine tt_iload_n dX3_besideIn_6 rfl ?_
  refine tt_imul dX3_besideIn_7 ?_
  refine tt_iadd dX3_besideIn_8 ?_
  refine tt_aload_n dX3_besideIn_9 rfl ?_
  refine tt_fVi (c_X3_holds hS _ hp _ (by omega)) dX3_besideIn_10 vX3_42 rfl rfl (zTS_sk hS hp (by omega)) (by decide) rfl (by decide) ⟨rfl, rfl⟩ (Nat.zero_le _) (Nat.zero_le _) (Nat.le_of_ble_eq_true rfl) ?_
  refine tt_isub dX3_besideIn_13 ?_
  refine tt_max dX3_besideIn_14 jX3_54 jmax2 jmath3 jmax4 (by decide) (Nat.le_of_ble_eq_true rfl) (Nat.zero_le _) (Nat.zero_le _) ?_
  exact tt_ireturn dX3_besideIn_17 rfl rfl (Nat.zero_le _) (Nat.zero_le _) ⟨rfl, rfl⟩
set_option maxRecDepth 100000 in
set_option maxHeartbeats 4000000 in
theorem c_X3_besideWithSwap {h : zhp} {b : Nat} (hS : zTS h b) (s : Nat → Int32) {p pi : Nat → Nat} (hp : zPm p pi) (n : Nat) (hn : n < 10) (v : Int32) (d : Int32) : MM iX3_besideWithSwap [.ref (b + (7 + p n)), .int v, .int d] (zt h b s p pi) (zfi (kBs s n v d) (zt h b s p pi)) := by
  refine MM_of (by decide +kernel) (Nat.le_of_ble_eq_true rfl) ?_
  refine tt_aload_n dX3_besideWithSwap_0 rfl ?_
  refine tt_iload_n dX3_besideWithSwap_1 rfl ?_
  refine tt_aload_n dX3_besideWithSwap_2 rfl ?_
  refine tt_sI dX3_besideWithSwap_3 fX3_24 rfl hS hp (by omega) (by decide) ?_
  refine tt_fVi (c_X3_besideIn hS _ hp _ (by omega) _ _) dX3_besideWithSwap_6 vX3_60 rfl rfl (zTS_sk hS hp (by omega)) (by decide) rfl (by decide) ⟨rfl, rfl⟩ (Nat.zero_le _) (Nat.zero_le _) (Nat.le_of_ble_eq_true rfl) ?_
  refine tt_aload_n dX3_besideWithSwap_9 rfl ?_
  refine tt_iload_n dX3_besideWithSwap_10 rfl ?_
  refine tt_iload_n dX3_besideWithSwap_11 rfl ?_
  refine tt_isub dX3_besideWithSwap_12 ?_
  refine tt_iconst (nI 0) dX3_besideWithSwap_13 rfl ?_
  refine tt_fVi (c_X3_besideIn hS _ hp _ (by omega) _ _) dX3_besideWithSwap_14 vX3_60 rfl rfl (zTS_sk hS hp (by omega)) (by decide) rfl (by decide) ⟨rfl, rfl⟩ (Nat.zero_le _) (Nat.zero_le _) (Nat.le_of_ble_eq_true rfl) ?_
  refine tt_iadd dX3_besideWithSwap_17 ?_
  exact tt_ireturn dX3_besideWithSwap_18 rfl rfl (Nat.zero_le _) (Nat.zero_le _) ⟨rfl, rfl⟩
set_option maxRecDepth 100000 in
set_option maxHeartbeats 4000000 in
theorem c_X3_bestDayToSwap {h : zhp} {b : Nat} (hS : zTS h b) (s : Nat → Int32) {p pi : Nat → Nat} (hp : zPm p pi) (n : Nat) (hn : n < 10) (d : Nat) (hd : d ≤ 60) : MM iX3_bestDayToSwap [.ref (b + (7 + p n)), .int (nI d)] (zt h b s p pi) (zfi (nI (kBd s n d)) (zt h b s p pi)) := by
  refine MM_of (by decide +kernel) (Nat.le_of_ble_eq_true rfl) ?_
  refine tt_iconst (nI 0) dX3_bestDayToSwap_0 rfl ?_
  refine tt_istore_n dX3_bestDayToSwap_1 rfl (Nat.le_of_ble_eq_true rfl) rfl ?_
  refine tt_iconst (nI 1) dX3_bestDayToSwap_2 rfl ?_
  refine tt_istore_n dX3_bestDayToSwap_3 rfl (Nat.le_of_ble_eq_true rfl) rfl ?_
  refine tt_loop (fun k x => if kBs s n (nI x) (nI d) < kBs s n (nI (k + 1)) (nI d) then x else k + 1) d (fun _ _ => True) (fun k x => [some (.ref (b + (7 + p n))), some (.int (nI d)), some (.int (nI x)), some (.int (nI (k + 1)))]) (fun _ _ => (zt h b s p pi)) 0 trivial (fun _ _ _ _ => trivial) (fun hx => ?_) (fun k x hk hI ih => ?_)
  · refine tt_iload_n dX3_bestDayToSwap_4 rfl ?_
    refine tt_iload_n dX3_bestDayToSwap_5 rfl ?_
    refine tt_icmp_gtN (tgt := 32) dX3_bestDayToSwap_6 (by decide) (by omega) (by omega) (fun c_6 => ?_) (fun c_6 => ?_)
    · refine tt_iload_n dX3_bestDayToSwap_32 rfl ?_
      exact tt_ireturn dX3_bestDayToSwap_33 rfl rfl (Nat.zero_le _) (Nat.zero_le _) ⟨rfl, rfl⟩
    · exact absurd c_6 (by omega)
  · refine tt_iload_n dX3_bestDayToSwap_4 rfl ?_
    refine tt_iload_n dX3_bestDayToSwap_5 rfl ?_
    refine tt_icmp_gtN (tgt := 32) dX3_bestDayToSwap_6 (by decide) (by omega) (by omega) (fun c_6 => ?_) (fun c_6 => ?_)
    · exact absurd c_6 (by omega)
    · refine tt_aload_n dX3_bestDayToSwap_9 rfl ?_
      refine tt_iload_n dX3_bestDayToSwap_10 rfl ?_
      refine tt_iload_n dX3_bestDayToSwap_11 rfl ?_
      refine tt_fVi (c_X3_besideWithSwap hS _ hp _ (by omega) _ _) dX3_bestDayToSwap_12 vX3_63 rfl rfl (zTS_sk hS hp (by omega)) (by decide) rfl (by decide) ⟨rfl, rfl⟩ (Nat.zero_le _) (Nat.zero_le _) (Nat.le_of_ble_eq_true rfl) ?_
      refine tt_aload_n dX3_bestDayToSwap_15 rfl ?_
      refine tt_iload_n dX3_bestDayToSwap_16 rfl ?_
      refine tt_iload_n dX3_bestDayToSwap_17 rfl ?_
      refine tt_fVi (c_X3_besideWithSwap hS _ hp _ (by omega) _ _) dX3_bestDayToSwap_18 vX3_63 rfl rfl (zTS_sk hS hp (by omega)) (by decide) rfl (by decide) ⟨rfl, rfl⟩ (Nat.zero_le _) (Nat.zero_le _) (Nat.le_of_ble_eq_true rfl) ?_
      refine tt_icmp_gt (tgt := 26) dX3_bestDayToSwap_21 (by decide) (fun c_21 => ?_) (fun c_21 => ?_)
      · refine tt_iincN dX3_bestDayToSwap_26 rfl rfl (Nat.le_of_ble_eq_true rfl) rfl ?_
        refine tt_goto (tgt := 4) dX3_bestDayToSwap_29 (by decide) ?_
        first | (rw [if_pos c_21] at ih; exact ih) | (rw [if_neg c_21] at ih; exact ih)
      · refine tt_iload_n dX3_bestDayToSwap_24 rfl ?_
        refine tt_istore_n dX3_bestDayToSwap_25 rfl (Nat.le_of_ble_eq_true rfl) rfl ?_
        refine tt_iincN dX3_bestDayToSwap_26 rfl rfl (Nat.le_of_ble_eq_true rfl) rfl ?_
        refine tt_goto (tgt := 4) dX3_bestDayToSwap_29 (by decide) ?_
        first | (rw [if_pos c_21] at ih; exact ih) | (rw [if_neg c_21] at ih; exact ih)
set_option maxRecDepth 100000 in
set_option maxHeartbeats 4000000 in
theorem c_X3_age {h : zhp} {b : Nat} (hS : zTS h b) (s : Nat → Int32) {p pi : Nat → Nat} (hp : zPm p pi) (n : Nat) (hn : n < 10) (d : Int32) : MM iX3_age [.ref (b + (7 + p n)), .int d] (zt h b s p pi) (zfi (kBe s n d (s (34 + 10 * n + 3))) (zt h b (kAg s n d) p pi)) := by
  refine MM_of (by decide +kernel) (Nat.le_of_ble_eq_true rfl) ?_
  refine tt_aload_n dX3_age_0 rfl ?_
  refine tt_iload_n dX3_age_1 rfl ?_
  refine tt_aload_n dX3_age_2 rfl ?_
  refine tt_sI dX3_age_3 fX3_24 rfl hS hp (by omega) (by decide) ?_
  refine tt_fVi (c_X3_besideIn hS _ hp _ (by omega) _ _) dX3_age_6 vX3_60 rfl rfl (zTS_sk hS hp (by omega)) (by decide) rfl (by decide) ⟨rfl, rfl⟩ (Nat.zero_le _) (Nat.zero_le _) (Nat.le_of_ble_eq_true rfl) ?_
  refine tt_istore_n dX3_age_9 rfl (Nat.le_of_ble_eq_true rfl) rfl ?_
  refine tt_aload_n dX3_age_10 rfl ?_
  refine tt_dup dX3_age_11 rfl ?_
  refine tt_sI dX3_age_12 fX3_24 rfl hS hp (by omega) (by decide) ?_
  refine tt_aload_n dX3_age_15 rfl ?_
  refine tt_sI dX3_age_16 fX3_21 rfl hS hp (by omega) (by decide) ?_
  refine tt_iload_n dX3_age_19 rfl ?_
  refine tt_imul dX3_age_20 ?_
  refine tt_iload_n dX3_age_21 rfl ?_
  refine tt_isub dX3_age_22 ?_
  refine tt_iadd dX3_age_23 ?_
  refine tt_sp dX3_age_24 fX3_24 rfl rfl hS hp (by omega) (by decide) ?_
  refine tt_aload_n dX3_age_27 rfl ?_
  refine tt_dup dX3_age_28 rfl ?_
  refine tt_sI dX3_age_29 fX3_30 rfl hS hp (by omega) (by decide) ?_
  refine tt_iload_n dX3_age_32 rfl ?_
  refine tt_iadd dX3_age_33 ?_
  refine tt_sp dX3_age_34 fX3_30 rfl rfl hS hp (by omega) (by decide) ?_
  refine tt_aload_n dX3_age_37 rfl ?_
  refine tt_fVi (c_X3_isOnDrive hS _ hp _ (by omega)) dX3_age_38 vX3_46 rfl rfl (zTS_sk hS hp (by omega)) (by decide) rfl (by decide) ⟨rfl, rfl⟩ (Nat.zero_le _) (Nat.zero_le _) (Nat.le_of_ble_eq_true rfl) ?_
  refine tt_if_neB (tgt := 58) dX3_age_41 (by decide) (fun c_41 => ?_) (fun c_41 => ?_)
  · refine tt_iload_n dX3_age_58 rfl ?_
    exact tt_ireturn dX3_age_59 rfl rfl (Nat.zero_le _) (Nat.zero_le _) ⟨rfl, congrArg (fun z => zt h b z p pi) (by first | exact (if_pos c_41).symm | exact (if_neg c_41).symm)⟩
  · refine tt_aload_n dX3_age_44 rfl ?_
    refine tt_iconst (nI 0) dX3_age_45 rfl ?_
    refine tt_aload_n dX3_age_46 rfl ?_
    refine tt_sI dX3_age_47 fX3_36 rfl hS hp (by omega) (by decide) ?_
    refine tt_iload_n dX3_age_50 rfl ?_
    refine tt_isub dX3_age_51 ?_
    refine tt_max dX3_age_52 jX3_54 jmax2 jmath3 jmax4 (by decide) (Nat.le_of_ble_eq_true rfl) (Nat.zero_le _) (Nat.zero_le _) ?_
    refine tt_sp dX3_age_55 fX3_36 rfl rfl hS hp (by omega) (by decide) ?_
    refine tt_iload_n dX3_age_58 rfl ?_
    exact tt_ireturn dX3_age_59 rfl rfl (Nat.zero_le _) (Nat.zero_le _) ⟨rfl, congrArg (fun z => zt h b z p pi) (by first | exact (if_pos c_41).symm | exact (if_neg c_41).symm)⟩
set_option maxRecDepth 100000 in
set_option maxHeartbeats 4000000 in
theorem c_X3_daysUntilFull {h : zhp} {b : Nat} (hS : zTS h b) (s : Nat → Int32) {p pi : Nat → Nat} (hp : zPm p pi) (n : Nat) (hn : n < 10) : MM iX3_daysUntilFull [.ref (b + (7 + p n))] (zt h b s p pi) (zfi (kUf s n) (zt h b s p pi)) := by
  refine MM_of (by decide +kernel) (Nat.le_of_ble_eq_true rfl) ?_
  refine tt_aload_n dX3_daysUntilFull_0 rfl ?_
  refine tt_fVi (c_X3_isFull hS _ hp _ (by omega)) dX3_daysUntilFull_1 vX3_66 rfl rfl (zTS_sk hS hp (by omega)) (by decide) rfl (by decide) ⟨rfl, rfl⟩ (Nat.zero_le _) (Nat.zero_le _) (Nat.le_of_ble_eq_true rfl) ?_
  refine tt_if_eqB (tgt := 9) dX3_daysUntilFull_4 (by decide) (fun c_4 => ?_) (fun c_4 => ?_)
  · refine tt_aload_n dX3_daysUntilFull_9 rfl ?_
    refine tt_sI dX3_daysUntilFull_10 fX3_21 rfl hS hp (by omega) (by decide) ?_
    refine tt_if_ne (tgt := 19) dX3_daysUntilFull_13 (by decide) (fun c_13 => ?_) (fun c_13 => ?_)
    · refine tt_aload_n dX3_daysUntilFull_19 rfl ?_
      refine tt_fVi (c_X3_holds hS _ hp _ (by omega)) dX3_daysUntilFull_20 vX3_42 rfl rfl (zTS_sk hS hp (by omega)) (by decide) rfl (by decide) ⟨rfl, rfl⟩ (Nat.zero_le _) (Nat.zero_le _) (Nat.le_of_ble_eq_true rfl) ?_
      refine tt_aload_n dX3_daysUntilFull_23 rfl ?_
      refine tt_sI dX3_daysUntilFull_24 fX3_24 rfl hS hp (by omega) (by decide) ?_
      refine tt_isub dX3_daysUntilFull_27 ?_
      refine tt_aload_n dX3_daysUntilFull_28 rfl ?_
      refine tt_sI dX3_daysUntilFull_29 fX3_21 rfl hS hp (by omega) (by decide) ?_
      refine tt_iadd dX3_daysUntilFull_32 ?_
      refine tt_iconst (nI 1) dX3_daysUntilFull_33 rfl ?_
      refine tt_isub dX3_daysUntilFull_34 ?_
      refine tt_aload_n dX3_daysUntilFull_35 rfl ?_
      refine tt_sI dX3_daysUntilFull_36 fX3_21 rfl hS hp (by omega) (by decide) ?_
      refine tt_idiv dX3_daysUntilFull_39 c_13 ?_
      exact tt_ireturn dX3_daysUntilFull_40 rfl rfl (Nat.zero_le _) (Nat.zero_le _) ⟨by unfold kUf; first | rw [if_pos (by assumption)] | (rw [if_neg (by assumption), if_pos (by assumption)]) | (rw [if_neg (by assumption), if_neg (by assumption)]), rfl⟩
    · refine tt_bipush (-6) dX3_daysUntilFull_16 rfl ?_
      exact tt_ireturn dX3_daysUntilFull_18 rfl rfl (Nat.zero_le _) (Nat.zero_le _) ⟨by unfold kUf; first | rw [if_pos (by assumption)] | (rw [if_neg (by assumption), if_pos (by assumption)]) | (rw [if_neg (by assumption), if_neg (by assumption)]), rfl⟩
  · refine tt_iconst (nI 0) dX3_daysUntilFull_7 rfl ?_
    exact tt_ireturn dX3_daysUntilFull_8 rfl rfl (Nat.zero_le _) (Nat.zero_le _) ⟨by unfold kUf; first | rw [if_pos (by assumption)] | (rw [if_neg (by assumption), if_pos (by assumption)]) | (rw [if_neg (by assumption), if_neg (by assumption)]), rfl⟩
set_option maxRecDepth 100000 in
set_option maxHeartbeats 4000000 in
theorem c_X3_daysUntilFine {h : zhp} {b : Nat} (hS : zTS h b) (s : Nat → Int32) {p pi : Nat → Nat} (hp : zPm p pi) (n : Nat) (hn : n < 10) (t : Int32) : MM iX3_daysUntilFine [.ref (b + (7 + p n)), .int t] (zt h b s p pi) (zfi (kUn s n t) (zt h b s p pi)) := by
  refine MM_of (by decide +kernel) (Nat.le_of_ble_eq_true rfl) ?_
  refine tt_aload_n dX3_daysUntilFine_0 rfl ?_
  refine tt_fVi (c_X3_isOnDrive hS _ hp _ (by omega)) dX3_daysUntilFine_1 vX3_46 rfl rfl (zTS_sk hS hp (by omega)) (by decide) rfl (by decide) ⟨rfl, rfl⟩ (Nat.zero_le _) (Nat.zero_le _) (Nat.le_of_ble_eq_true rfl) ?_
  refine tt_if_eqB (tgt := 12) dX3_daysUntilFine_4 (by decide) (fun c_4 => ?_) (fun c_4 => ?_)
  · refine tt_iconst (nI 1) dX3_daysUntilFine_12 rfl ?_
    refine tt_aload_n dX3_daysUntilFine_13 rfl ?_
    refine tt_iload_n dX3_daysUntilFine_14 rfl ?_
    refine tt_fVi (c_X3_permitDaysAhead hS _ hp _ (by omega) _) dX3_daysUntilFine_15 vX3_50 rfl rfl (zTS_sk hS hp (by omega)) (by decide) rfl (by decide) ⟨rfl, rfl⟩ (Nat.zero_le _) (Nat.zero_le _) (Nat.le_of_ble_eq_true rfl) ?_
    refine tt_aload_n dX3_daysUntilFine_18 rfl ?_
    refine tt_sI dX3_daysUntilFine_19 fX3_36 rfl hS hp (by omega) (by decide) ?_
    refine tt_min dX3_daysUntilFine_22 jX3_69 jmin2 jmath3 jmin4 (by decide) (Nat.le_of_ble_eq_true rfl) (Nat.zero_le _) (Nat.zero_le _) ?_
    refine tt_iadd dX3_daysUntilFine_25 ?_
    exact tt_ireturn dX3_daysUntilFine_26 rfl rfl (Nat.zero_le _) (Nat.zero_le _) ⟨congrArg (fun z => some (Value.int z)) (by first | exact (if_pos c_4).symm | exact (if_neg c_4).symm), rfl⟩
  · refine tt_bipush (-6) dX3_daysUntilFine_7 rfl ?_
    refine tt_goto (tgt := 26) dX3_daysUntilFine_9 (by decide) ?_
    exact tt_ireturn dX3_daysUntilFine_26 rfl rfl (Nat.zero_le _) (Nat.zero_le _) ⟨congrArg (fun z => some (Value.int z)) (by first | exact (if_pos c_4).symm | exact (if_neg c_4).symm), rfl⟩
set_option maxRecDepth 100000 in
set_option maxHeartbeats 4000000 in
theorem c_X3_begin {h : zhp} {b : Nat} (hS : zTS h b) (s : Nat → Int32) {p pi : Nat → Nat} (hp : zPm p pi) (n : Nat) (hn : n < 10) (c : Int32) (z : Int32) (st : Int32) (g : Int32) : MM iX3_begin [.ref (b + (7 + p n)), .int c, .int z, .int st, .int g] (zt h b s p pi) (zfn (zt h b (kBg s n c z st g) p pi)) := by
  refine MM_of (by decide +kernel) (Nat.le_of_ble_eq_true rfl) ?_
  refine tt_aload_n dX3_begin_0 rfl ?_
  refine tt_iload_n dX3_begin_1 rfl ?_
  refine tt_sp dX3_begin_2 fX3_9 rfl rfl hS hp (by omega) (by decide) ?_
  refine tt_aload_n dX3_begin_5 rfl ?_
  refine tt_iload_n dX3_begin_6 rfl ?_
  refine tt_sp dX3_begin_7 fX3_15 rfl rfl hS hp (by omega) (by decide) ?_
  refine tt_aload_n dX3_begin_10 rfl ?_
  refine tt_iload_n dX3_begin_11 rfl ?_
  refine tt_sp dX3_begin_12 fX3_18 rfl rfl hS hp (by omega) (by decide) ?_
  refine tt_aload_n dX3_begin_15 rfl ?_
  refine tt_iload dX3_begin_16 rfl ?_
  refine tt_sp dX3_begin_18 fX3_21 rfl rfl hS hp (by omega) (by decide) ?_
  refine tt_aload_n dX3_begin_21 rfl ?_
  refine tt_iconst (nI 0) dX3_begin_22 rfl ?_
  refine tt_sp dX3_begin_23 fX3_24 rfl rfl hS hp (by omega) (by decide) ?_
  refine tt_aload_n dX3_begin_26 rfl ?_
  refine tt_bipush (-6) dX3_begin_27 rfl ?_
  refine tt_sp dX3_begin_29 fX3_27 rfl rfl hS hp (by omega) (by decide) ?_
  refine tt_aload_n dX3_begin_32 rfl ?_
  refine tt_iconst (nI 0) dX3_begin_33 rfl ?_
  refine tt_sp dX3_begin_34 fX3_30 rfl rfl hS hp (by omega) (by decide) ?_
  refine tt_aload_n dX3_begin_37 rfl ?_
  refine tt_iconst (nI 0) dX3_begin_38 rfl ?_
  refine tt_sp dX3_begin_39 fX3_33 rfl rfl hS hp (by omega) (by decide) ?_
  exact tt_return dX3_begin_42 rfl (Nat.zero_le _) (Nat.zero_le _) ⟨rfl, rfl⟩
/-- what a skip tells -/
def kTe (s : Nat → Int32) (n : Nat) (v t : Int32) : Int32 := if v = nI 0 then s (34 + 10 * n + 0) else if v = nI 1 then s (34 + 10 * n + 1) else if v = nI 2 then s (34 + 10 * n + 2) else if v = nI 3 then s (34 + 10 * n + 3) else if v = nI 4 then kHo s n else if v = nI 5 then s (34 + 10 * n + 4) else if v = nI 6 then s (34 + 10 * n + 5) else if v = nI 7 then s (34 + 10 * n + 6) else if v = nI 8 then s (34 + 10 * n + 7) else if v = nI 9 then t - s (34 + 10 * n + 8) else if v = nI 10 then s (34 + 10 * n + 9) else -2
set_option maxRecDepth 100000 in
set_option maxHeartbeats 4000000 in
theorem c_X3_tell {h : zhp} {b : Nat} (hS : zTS h b) (s : Nat → Int32) {p pi : Nat → Nat} (hp : zPm p pi) (n : Nat) (hn : n < 10) (v : Int32) (t : Int32) : MM iX3_tell [.ref (b + (7 + p n)), .int v, .int t] (zt h b s p pi) (zfi (kTe s n v t) (zt h b s p pi)) := by
  refine MM_of (by decide +kernel) (Nat.le_of_ble_eq_true rfl) ?_
  refine tt_iload_n dX3_tell_0 rfl ?_
  by_cases q_0 : v = nI 0
  · subst q_0
    refine tt_tableIn (off := 59) (tgt := 60) dX3_tell_1 (by decide) (by decide) rfl (by decide) ?_
    refine tt_aload_n dX3_tell_60 rfl ?_
    refine tt_sI dX3_tell_61 fX3_9 rfl hS hp (by omega) (by decide) ?_
    exact tt_ireturn dX3_tell_64 rfl rfl (Nat.zero_le _) (Nat.zero_le _) ⟨rfl, rfl⟩
  by_cases q_1 : v = nI 1
  · subst q_1
    refine tt_tableIn (off := 64) (tgt := 65) dX3_tell_1 (by decide) (by decide) rfl (by decide) ?_
    refine tt_aload_n dX3_tell_65 rfl ?_
    refine tt_sI dX3_tell_66 fX3_15 rfl hS hp (by omega) (by decide) ?_
    exact tt_ireturn dX3_tell_69 rfl rfl (Nat.zero_le _) (Nat.zero_le _) ⟨rfl, rfl⟩
  by_cases q_2 : v = nI 2
  · subst q_2
    refine tt_tableIn (off := 69) (tgt := 70) dX3_tell_1 (by decide) (by decide) rfl (by decide) ?_
    refine tt_aload_n dX3_tell_70 rfl ?_
    refine tt_sI dX3_tell_71 fX3_18 rfl hS hp (by omega) (by decide) ?_
    exact tt_ireturn dX3_tell_74 rfl rfl (Nat.zero_le _) (Nat.zero_le _) ⟨rfl, rfl⟩
  by_cases q_3 : v = nI 3
  · subst q_3
    refine tt_tableIn (off := 74) (tgt := 75) dX3_tell_1 (by decide) (by decide) rfl (by decide) ?_
    refine tt_aload_n dX3_tell_75 rfl ?_
    refine tt_sI dX3_tell_76 fX3_24 rfl hS hp (by omega) (by decide) ?_
    exact tt_ireturn dX3_tell_79 rfl rfl (Nat.zero_le _) (Nat.zero_le _) ⟨rfl, rfl⟩
  by_cases q_4 : v = nI 4
  · subst q_4
    refine tt_tableIn (off := 79) (tgt := 80) dX3_tell_1 (by decide) (by decide) rfl (by decide) ?_
    refine tt_aload_n dX3_tell_80 rfl ?_
    refine tt_fVi (c_X3_holds hS _ hp _ (by omega)) dX3_tell_81 vX3_42 rfl rfl (zTS_sk hS hp (by omega)) (by decide) rfl (by decide) ⟨rfl, rfl⟩ (Nat.zero_le _) (Nat.zero_le _) (Nat.le_of_ble_eq_true rfl) ?_
    exact tt_ireturn dX3_tell_84 rfl rfl (Nat.zero_le _) (Nat.zero_le _) ⟨rfl, rfl⟩
  by_cases q_5 : v = nI 5
  · subst q_5
    refine tt_tableIn (off := 84) (tgt := 85) dX3_tell_1 (by decide) (by decide) rfl (by decide) ?_
    refine tt_aload_n dX3_tell_85 rfl ?_
    refine tt_sI dX3_tell_86 fX3_21 rfl hS hp (by omega) (by decide) ?_
    exact tt_ireturn dX3_tell_89 rfl rfl (Nat.zero_le _) (Nat.zero_le _) ⟨rfl, rfl⟩
  by_cases q_6 : v = nI 6
  · subst q_6
    refine tt_tableIn (off := 89) (tgt := 90) dX3_tell_1 (by decide) (by decide) rfl (by decide) ?_
    refine tt_aload_n dX3_tell_90 rfl ?_
    refine tt_sI dX3_tell_91 fX3_36 rfl hS hp (by omega) (by decide) ?_
    exact tt_ireturn dX3_tell_94 rfl rfl (Nat.zero_le _) (Nat.zero_le _) ⟨rfl, rfl⟩
  by_cases q_7 : v = nI 7
  · subst q_7
    refine tt_tableIn (off := 94) (tgt := 95) dX3_tell_1 (by decide) (by decide) rfl (by decide) ?_
    refine tt_aload_n dX3_tell_95 rfl ?_
    refine tt_sI dX3_tell_96 fX3_27 rfl hS hp (by omega) (by decide) ?_
    exact tt_ireturn dX3_tell_99 rfl rfl (Nat.zero_le _) (Nat.zero_le _) ⟨rfl, rfl⟩
  by_cases q_8 : v = nI 8
  · subst q_8
    refine tt_tableIn (off := 99) (tgt := 100) dX3_tell_1 (by decide) (by decide) rfl (by decide) ?_
    refine tt_aload_n dX3_tell_100 rfl ?_
    refine tt_sI dX3_tell_101 fX3_30 rfl hS hp (by omega) (by decide) ?_
    exact tt_ireturn dX3_tell_104 rfl rfl (Nat.zero_le _) (Nat.zero_le _) ⟨rfl, rfl⟩
  by_cases q_9 : v = nI 9
  · subst q_9
    refine tt_tableIn (off := 104) (tgt := 105) dX3_tell_1 (by decide) (by decide) rfl (by decide) ?_
    refine tt_iload_n dX3_tell_105 rfl ?_
    refine tt_aload_n dX3_tell_106 rfl ?_
    refine tt_sI dX3_tell_107 fX3_39 rfl hS hp (by omega) (by decide) ?_
    refine tt_isub dX3_tell_110 ?_
    exact tt_ireturn dX3_tell_111 rfl rfl (Nat.zero_le _) (Nat.zero_le _) ⟨rfl, rfl⟩
  by_cases q_10 : v = nI 10
  · subst q_10
    refine tt_tableIn (off := 111) (tgt := 112) dX3_tell_1 (by decide) (by decide) rfl (by decide) ?_
    refine tt_aload_n dX3_tell_112 rfl ?_
    refine tt_sI dX3_tell_113 fX3_33 rfl hS hp (by omega) (by decide) ?_
    exact tt_ireturn dX3_tell_116 rfl rfl (Nat.zero_le _) (Nat.zero_le _) ⟨rfl, rfl⟩
  have qo : ∀ k, 0 ≤ k → k ≤ 10 → ¬ v = nI k := by
    intro k h1 h2
    rcases (show k = 0 ∨ k = 1 ∨ k = 2 ∨ k = 3 ∨ k = 4 ∨ k = 5 ∨ k = 6 ∨ k = 7 ∨ k = 8 ∨ k = 9 ∨ k = 10 by omega) with rfl | rfl | rfl | rfl | rfl | rfl | rfl | rfl | rfl | rfl | rfl <;> assumption
  refine tt_tableOut (tgt := 117) dX3_tell_1 (ztab (lo := 0) (hi := 10) (by omega) qo) (by decide) ?_
  refine tt_bipush (-2) dX3_tell_117 rfl ?_
  exact tt_ireturn dX3_tell_119 rfl rfl (Nat.zero_le _) (Nat.zero_le _) ⟨by unfold kTe; rw [if_neg (by assumption), if_neg (by assumption), if_neg (by assumption), if_neg (by assumption), if_neg (by assumption), if_neg (by assumption), if_neg (by assumption), if_neg (by assumption), if_neg (by assumption), if_neg (by assumption), if_neg (by assumption)], rfl⟩

