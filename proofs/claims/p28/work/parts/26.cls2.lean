/-! the class: a town, its small methods -/
section
variable {i j : zmi} {pc : Nat} {L : List (Option Value)} {st stk : List Value} {h h0 : zhp} {cc sc : Nat} {Q : Option Value → zhp → Prop} {av : List Value}
def zfr (v : Value) (h0 : zhp) : Option Value → zhp → Prop := fun r h' => r = some v ∧ h' = h0
theorem tt_fVr {b ci idx n : Nat} {v : Value} (hM : MM j (.ref b :: av) h (zfr v h0)) (d : decode (mC i) pc = .ok (.invokevirtual idx, 3)) (hw : zMV (mY i).cls idx j n) (hst : stk = av.reverse ++ .ref b :: st) (hn : av.length = n) (ht : zT h b = ci) (hc7 : ci < 7) (hcl : (zC ci).1 = (mY j).cls) (hh : mH j < mH i ∧ mL j + 19 + 36 * mH j ≤ 36 * mH i) (h0m : mA j = 0 ∧ mS j = 0) (hc : cc ≤ mA i) (hs : sc ≤ mS i) (h8 : (st.map fun v => v.category).sum ≤ 8)
    (k : TT i (pc + 3) L (v :: st) h0 cc sc Q) : TT i pc L stk h cc sc Q := by
  refine tt_callV hM d hw hst hn ht hc7 hcl hh (by rw [h0m.1]; exact hc) (by rw [h0m.2]; exact hs) h8 (fun r h1 q => ?_)
  obtain ⟨rfl, rfl⟩ := q
  rw [h0m.1, h0m.2]
  exact k
end
theorem zin_of {v : Int32} {n : Nat} (hn : n ≤ 10) (h0 : ¬ v < 0) (h1 : ¬ nI n ≤ v) : ∃ j, j < n ∧ v = nI j := by
  obtain ⟨c, hc, rfl⟩ := zrng (x := v) (b := 10) (by omega) ⟨Int32.not_lt.mp h0, Int32.le_trans (Int32.le_of_lt (Int32.not_le.mp h1)) ((nI_leI (by omega) (by omega)).mpr hn)⟩
  exact ⟨c, Nat.lt_of_not_le (fun q => h1 ((nI_leI (by omega) (by omega)).mpr q)), rfl⟩
theorem zin_to {s : Nat → Int32} {n j : Nat} (hn : n ≤ 10) (h33 : s 33 = nI n) (hj : j < n) : nI 0 ≤ nI j ∧ nI j ≤ s 33 - nI 1 := by
  rw [h33, pk_sub (by omega)]
  exact ⟨(nI_leI (by omega) (by omega)).mpr (by omega), (nI_leI (by omega) (by omega)).mpr (by omega)⟩
theorem znn {j : Nat} (hj : j < 2 ^ 31) : ¬ nI j < 0 := fun q => absurd ((nI_ltI (b := 0) hj (by omega)).mp q) (by omega)
def kTl (s : Nat → Int32) : Int32 := mx0 (s 7 - s 9)
def kHi (s : Nat → Int32) (n : Nat) (d : Int32) : Int32 := s 0 * (nI 1 + s (34 + 10 * n + 1)) * d
def kFi (s : Nat → Int32) (n : Nat) (d : Int32) : Int32 := s 2 * kDf s n d (s 8) + s 3 * kDd s n d
def kMt (s : Nat → Int32) (n c : Nat) : Nat → Int32 := sCh (upd s 9 (s 9 + nI 1)) n c (upd s 9 (s 9 + nI 1) 5)
def kTp (s : Nat → Int32) (n c : Nat) : Nat → Int32 :=
  let s1 := sCh s n c (s 4 * s (34 + 10 * n + 3))
  let s2 := upd s1 (15 + 3 * c + 1) (s1 (15 + 3 * c + 1) + s (34 + 10 * n + 3))
  upd s2 (34 + 10 * n + 3) (nI 0)
def kPd (s : Nat → Int32) (n c : Nat) (d : Int32) : Nat → Int32 :=
  let s1 := sCh s n c (kHi s n d + kFi s n d)
  let s2 := upd s1 (15 + 3 * c + 2) (s1 (15 + 3 * c + 2) + kFi s n d)
  upd (kAg s2 n d) 134 (s2 134 + kBe s2 n d (s2 (34 + 10 * n + 3)))
def kCs (s : Nat → Int32) (n : Nat) (v : Int32) : Nat := zlp (fun j x => if s (34 + 10 * j + 2) = v then x + 1 else x) n 0 0
def kCc (s : Nat → Int32) (n : Nat) (v : Int32) : Nat := zlp (fun j x => if s (34 + 10 * j + 0) = v then x + 1 else x) n 0 0
def kCn (s : Nat → Int32) (n : Nat) (v : Int32) : Nat := zlp (fun j x => if s (34 + 10 * j + 2) = v ∧ ¬ s 8 ≤ s (34 + 10 * j + 6) then x + 1 else x) n 0 0
def kCf (s : Nat → Int32) (n : Nat) : Nat := zlp (fun j x => if kHo s j ≤ s (34 + 10 * j + 3) then x + 1 else x) n 0 0
def kLo (s : Nat → Int32) (n : Nat) : Int32 := zlp (fun j x => x + s (34 + 10 * j + 3)) n 0 (nI 0)
def kCo (s : Nat → Int32) (n : Nat) (v d : Int32) : Int32 := zlp (fun j x => if s (34 + 10 * j + 0) = v then x + (kHi s j d + kFi s j d) else x) n 0 (nI 0)
def kDe (s : Nat → Int32) (n : Nat) : Nat := zlp (fun k x => if s (34 + 10 * x + 9) < s (34 + 10 * (k + 1) + 9) then k + 1 else x) (n - 1) 0 0
set_option maxRecDepth 100000 in
set_option maxHeartbeats 4000000 in
theorem c_X4_charge {h : zhp} {b : Nat} (hS : zTS h b) (s : Nat → Int32) {p pi : Nat → Nat} (hp : zPm p pi) (n : Nat) (hn : n < 10) (c : Nat) (hc : c < 6) (hcu : s (34 + 10 * n + 0) = nI c) (x : Int32) : MM iX4_charge [.ref b, .ref (b + (7 + p n)), .int x] (zt h b s p pi) (zfn (zt h b (sCh s n c x) p pi)) := by
  refine MM_of (by decide +kernel) (Nat.le_of_ble_eq_true rfl) ?_
  refine tt_aload_n dX4_charge_0 rfl ?_
  refine tt_dup dX4_charge_1 rfl ?_
  refine tt_sI dX4_charge_2 fX4_166 rfl hS hp (by omega) (by decide) ?_
  refine tt_iload_n dX4_charge_5 rfl ?_
  refine tt_iadd dX4_charge_6 ?_
  refine tt_sp dX4_charge_7 fX4_166 rfl rfl hS hp (by omega) (by decide) ?_
  refine tt_aload_n dX4_charge_10 rfl ?_
  refine tt_tA (c := 3) dX4_charge_11 fX4_26 rfl hS (by decide) rfl ?_
  refine tt_aload_n dX4_charge_14 rfl ?_
  refine tt_sI dX4_charge_15 fX4_139 rfl hS hp (by omega) (by decide) ?_
  refine tt_eq (show _ = nI c by rw [pk_un (by omega)]; exact hcu) ?_
  refine tt_dup2 dX4_charge_18 rfl rfl ?_
  refine tt_tl3 dX4_charge_19 hS (by omega) ?_
  refine tt_iload_n dX4_charge_20 rfl ?_
  refine tt_iadd dX4_charge_21 ?_
  refine tt_ts3 dX4_charge_22 hS hp (by omega) ?_
  exact tt_return dX4_charge_23 rfl (Nat.zero_le _) (Nat.zero_le _) ⟨rfl, rfl⟩
set_option maxRecDepth 100000 in
set_option maxHeartbeats 4000000 in
theorem c_X4_makeTrip {h : zhp} {b : Nat} (hS : zTS h b) (s : Nat → Int32) {p pi : Nat → Nat} (hp : zPm p pi) (n : Nat) (hn : n < 10) (c : Nat) (hc : c < 6) (hcu : s (34 + 10 * n + 0) = nI c) : MM iX4_makeTrip [.ref b, .ref (b + (7 + p n))] (zt h b s p pi) (zfn (zt h b (kMt s n c) p pi)) := by
  refine MM_of (by decide +kernel) (Nat.le_of_ble_eq_true rfl) ?_
  refine tt_aload_n dX4_makeTrip_0 rfl ?_
  refine tt_dup dX4_makeTrip_1 rfl ?_
  refine tt_tI dX4_makeTrip_2 fX4_59 rfl hS rfl ?_
  refine tt_iconst (nI 1) dX4_makeTrip_5 rfl ?_
  refine tt_iadd dX4_makeTrip_6 ?_
  refine tt_tp dX4_makeTrip_7 fX4_59 rfl rfl hS hp rfl ?_
  refine tt_aload_n dX4_makeTrip_10 rfl ?_
  refine tt_aload_n dX4_makeTrip_11 rfl ?_
  refine tt_aload_n dX4_makeTrip_12 rfl ?_
  refine tt_tA (c := 1) dX4_makeTrip_13 fX4_18 rfl hS (by decide) rfl ?_
  refine tt_iconst (nI 5) dX4_makeTrip_16 rfl ?_
  refine tt_tl1 dX4_makeTrip_17 hS (by omega) ?_
  refine tt_fVv (c_X4_charge hS _ hp _ (by omega) _ hc (by rw [pk_un (by omega)]; exact hcu) _) dX4_makeTrip_18 vX4_122 rfl rfl (zTS_tw hS) (by decide) rfl (by decide) ⟨rfl, rfl⟩ (Nat.zero_le _) (Nat.zero_le _) (Nat.le_of_ble_eq_true rfl) ?_
  exact tt_return dX4_makeTrip_21 rfl (Nat.zero_le _) (Nat.zero_le _) ⟨rfl, rfl⟩
set_option maxRecDepth 100000 in
set_option maxHeartbeats 4000000 in
theorem c_X4_tipLoad {h : zhp} {b : Nat} (hS : zTS h b) (s : Nat → Int32) {p pi : Nat → Nat} (hp : zPm p pi) (n : Nat) (hn : n < 10) (c : Nat) (hc : c < 6) (hcu : s (34 + 10 * n + 0) = nI c) : MM iX4_tipLoad [.ref b, .ref (b + (7 + p n))] (zt h b s p pi) (zfi (s (34 + 10 * n + 3)) (zt h b (kTp s n c) p pi)) := by
  refine MM_of (by decide +kernel) (Nat.le_of_ble_eq_true rfl) ?_
  refine tt_aload_n dX4_tipLoad_0 rfl ?_
  refine tt_sI dX4_tipLoad_1 fX4_163 rfl hS hp (by omega) (by decide) ?_
  refine tt_istore_n dX4_tipLoad_4 rfl (Nat.le_of_ble_eq_true rfl) rfl ?_
  refine tt_aload_n dX4_tipLoad_5 rfl ?_
  refine tt_aload_n dX4_tipLoad_6 rfl ?_
  refine tt_aload_n dX4_tipLoad_7 rfl ?_
  refine tt_tA (c := 1) dX4_tipLoad_8 fX4_18 rfl hS (by decide) rfl ?_
  refine tt_iconst (nI 4) dX4_tipLoad_11 rfl ?_
  refine tt_tl1 dX4_tipLoad_12 hS (by omega) ?_
  refine tt_iload_n dX4_tipLoad_13 rfl ?_
  refine tt_imul dX4_tipLoad_14 ?_
  refine tt_fVv (c_X4_charge hS _ hp _ (by omega) _ hc (hcu) _) dX4_tipLoad_15 vX4_122 rfl rfl (zTS_tw hS) (by decide) rfl (by decide) ⟨rfl, rfl⟩ (Nat.zero_le _) (Nat.zero_le _) (Nat.le_of_ble_eq_true rfl) ?_
  refine tt_aload_n dX4_tipLoad_18 rfl ?_
  refine tt_tA (c := 4) dX4_tipLoad_19 fX4_29 rfl hS (by decide) rfl ?_
  refine tt_aload_n dX4_tipLoad_22 rfl ?_
  refine tt_sI dX4_tipLoad_23 fX4_139 rfl hS hp (by omega) (by decide) ?_
  refine tt_eq (show _ = nI c by rw [sCh_ne (by omega) (by omega)]; exact hcu) ?_
  refine tt_dup2 dX4_tipLoad_26 rfl rfl ?_
  refine tt_tl4 dX4_tipLoad_27 hS (by omega) ?_
  refine tt_iload_n dX4_tipLoad_28 rfl ?_
  refine tt_iadd dX4_tipLoad_29 ?_
  refine tt_ts4 dX4_tipLoad_30 hS hp (by omega) ?_
  refine tt_aload_n dX4_tipLoad_31 rfl ?_
  refine tt_iconst (nI 0) dX4_tipLoad_32 rfl ?_
  refine tt_sp dX4_tipLoad_33 fX4_163 rfl rfl hS hp (by omega) (by decide) ?_
  refine tt_iload_n dX4_tipLoad_36 rfl ?_
  exact tt_ireturn dX4_tipLoad_37 rfl rfl (Nat.zero_le _) (Nat.zero_le _) ⟨rfl, rfl⟩
set_option maxRecDepth 100000 in
set_option maxHeartbeats 4000000 in
theorem c_X4_hireIn {h : zhp} {b : Nat} (hS : zTS h b) (s : Nat → Int32) {p pi : Nat → Nat} (hp : zPm p pi) (n : Nat) (hn : n < 10) (d : Int32) : MM iX4_hireIn [.ref b, .ref (b + (7 + p n)), .int d] (zt h b s p pi) (zfi (kHi s n d) (zt h b s p pi)) := by
  refine MM_of (by decide +kernel) (Nat.le_of_ble_eq_true rfl) ?_
  refine tt_aload_n dX4_hireIn_0 rfl ?_
  refine tt_tA (c := 1) dX4_hireIn_1 fX4_18 rfl hS (by decide) rfl ?_
  refine tt_iconst (nI 0) dX4_hireIn_4 rfl ?_
  refine tt_tl1 dX4_hireIn_5 hS (by omega) ?_
  refine tt_iconst (nI 1) dX4_hireIn_6 rfl ?_
  refine tt_aload_n dX4_hireIn_7 rfl ?_
  refine tt_sI dX4_hireIn_8 fX4_145 rfl hS hp (by omega) (by decide) ?_
  refine tt_iadd dX4_hireIn_11 ?_
  refine tt_imul dX4_hireIn_12 ?_
  refine tt_iload_n dX4_hireIn_13 rfl ?_
  refine tt_imul dX4_hireIn_14 ?_
  exact tt_ireturn dX4_hireIn_15 rfl rfl (Nat.zero_le _) (Nat.zero_le _) ⟨rfl, rfl⟩
set_option maxRecDepth 100000 in
set_option maxHeartbeats 4000000 in
theorem c_X4_finesIn {h : zhp} {b : Nat} (hS : zTS h b) (s : Nat → Int32) {p pi : Nat → Nat} (hp : zPm p pi) (n : Nat) (hn : n < 10) (d : Int32) : MM iX4_finesIn [.ref b, .ref (b + (7 + p n)), .int d] (zt h b s p pi) (zfi (kFi s n d) (zt h b s p pi)) := by
  refine MM_of (by decide +kernel) (Nat.le_of_ble_eq_true rfl) ?_
  refine tt_aload_n dX4_finesIn_0 rfl ?_
  refine tt_tA (c := 1) dX4_finesIn_1 fX4_18 rfl hS (by decide) rfl ?_
  refine tt_iconst (nI 2) dX4_finesIn_4 rfl ?_
  refine tt_tl1 dX4_finesIn_5 hS (by omega) ?_
  refine tt_aload_n dX4_finesIn_6 rfl ?_
  refine tt_iload_n dX4_finesIn_7 rfl ?_
  refine tt_aload_n dX4_finesIn_8 rfl ?_
  refine tt_tI dX4_finesIn_9 fX4_56 rfl hS rfl ?_
  refine tt_fVi (c_X3_daysFined hS _ hp _ (by omega) _ _) dX4_finesIn_12 vX4_148 rfl rfl (zTS_sk hS hp (by omega)) (by decide) rfl (by decide) ⟨rfl, rfl⟩ (Nat.zero_le _) (Nat.zero_le _) (Nat.le_of_ble_eq_true rfl) ?_
  refine tt_imul dX4_finesIn_15 ?_
  refine tt_aload_n dX4_finesIn_16 rfl ?_
  refine tt_tA (c := 1) dX4_finesIn_17 fX4_18 rfl hS (by decide) rfl ?_
  refine tt_iconst (nI 3) dX4_finesIn_20 rfl ?_
  refine tt_tl1 dX4_finesIn_21 hS (by omega) ?_
  refine tt_aload_n dX4_finesIn_22 rfl ?_
  refine tt_iload_n dX4_finesIn_23 rfl ?_
  refine tt_fVi (c_X3_daysDark hS _ hp _ (by omega) _) dX4_finesIn_24 vX4_152 rfl rfl (zTS_sk hS hp (by omega)) (by decide) rfl (by decide) ⟨rfl, rfl⟩ (Nat.zero_le _) (Nat.zero_le _) (Nat.le_of_ble_eq_true rfl) ?_
  refine tt_imul dX4_finesIn_27 ?_
  refine tt_iadd dX4_finesIn_28 ?_
  exact tt_ireturn dX4_finesIn_29 rfl rfl (Nat.zero_le _) (Nat.zero_le _) ⟨rfl, rfl⟩
set_option maxRecDepth 100000 in
set_option maxHeartbeats 4000000 in
theorem c_X4_passDaysOf {h : zhp} {b : Nat} (hS : zTS h b) (s : Nat → Int32) {p pi : Nat → Nat} (hp : zPm p pi) (n : Nat) (hn : n < 10) (c : Nat) (hc : c < 6) (hcu : s (34 + 10 * n + 0) = nI c) (d : Int32) : MM iX4_passDaysOf [.ref b, .ref (b + (7 + p n)), .int d] (zt h b s p pi) (zfi (kHi s n d + kFi s n d) (zt h b (kPd s n c d) p pi)) := by
  refine MM_of (by decide +kernel) (Nat.le_of_ble_eq_true rfl) ?_
  refine tt_aload_n dX4_passDaysOf_0 rfl ?_
  refine tt_aload_n dX4_passDaysOf_1 rfl ?_
  refine tt_iload_n dX4_passDaysOf_2 rfl ?_
  refine tt_fVi (c_X4_finesIn hS _ hp _ (by omega) _) dX4_passDaysOf_3 vX4_133 rfl rfl (zTS_tw hS) (by decide) rfl (by decide) ⟨rfl, rfl⟩ (Nat.zero_le _) (Nat.zero_le _) (Nat.le_of_ble_eq_true rfl) ?_
  refine tt_istore_n dX4_passDaysOf_6 rfl (Nat.le_of_ble_eq_true rfl) rfl ?_
  refine tt_aload_n dX4_passDaysOf_7 rfl ?_
  refine tt_aload_n dX4_passDaysOf_8 rfl ?_
  refine tt_iload_n dX4_passDaysOf_9 rfl ?_
  refine tt_fVi (c_X4_hireIn hS _ hp _ (by omega) _) dX4_passDaysOf_10 vX4_136 rfl rfl (zTS_tw hS) (by decide) rfl (by decide) ⟨rfl, rfl⟩ (Nat.zero_le _) (Nat.zero_le _) (Nat.le_of_ble_eq_true rfl) ?_
  refine tt_iload_n dX4_passDaysOf_13 rfl ?_
  refine tt_iadd dX4_passDaysOf_14 ?_
  refine tt_istore dX4_passDaysOf_15 rfl (Nat.le_of_ble_eq_true rfl) rfl ?_
  refine tt_aload_n dX4_passDaysOf_17 rfl ?_
  refine tt_aload_n dX4_passDaysOf_18 rfl ?_
  refine tt_iload dX4_passDaysOf_19 rfl ?_
  refine tt_fVv (c_X4_charge hS _ hp _ (by omega) _ hc (hcu) _) dX4_passDaysOf_21 vX4_122 rfl rfl (zTS_tw hS) (by decide) rfl (by decide) ⟨rfl, rfl⟩ (Nat.zero_le _) (Nat.zero_le _) (Nat.le_of_ble_eq_true rfl) ?_
  refine tt_aload_n dX4_passDaysOf_24 rfl ?_
  refine tt_tA (c := 5) dX4_passDaysOf_25 fX4_32 rfl hS (by decide) rfl ?_
  refine tt_aload_n dX4_passDaysOf_28 rfl ?_
  refine tt_sI dX4_passDaysOf_29 fX4_139 rfl hS hp (by omega) (by decide) ?_
  refine tt_eq (show _ = nI c by rw [sCh_ne (by omega) (by omega)]; exact hcu) ?_
  refine tt_dup2 dX4_passDaysOf_32 rfl rfl ?_
  refine tt_tl5 dX4_passDaysOf_33 hS (by omega) ?_
  refine tt_iload_n dX4_passDaysOf_34 rfl ?_
  refine tt_iadd dX4_passDaysOf_35 ?_
  refine tt_ts5 dX4_passDaysOf_36 hS hp (by omega) ?_
  refine tt_aload_n dX4_passDaysOf_37 rfl ?_
  refine tt_dup dX4_passDaysOf_38 rfl ?_
  refine tt_tI dX4_passDaysOf_39 fX4_62 rfl hS rfl ?_
  refine tt_aload_n dX4_passDaysOf_42 rfl ?_
  refine tt_iload_n dX4_passDaysOf_43 rfl ?_
  refine tt_fVi (c_X3_age hS _ hp _ (by omega) _) dX4_passDaysOf_44 vX4_142 rfl rfl (zTS_sk hS hp (by omega)) (by decide) rfl (by decide) ⟨rfl, rfl⟩ (Nat.zero_le _) (Nat.zero_le _) (Nat.le_of_ble_eq_true rfl) ?_
  refine tt_iadd dX4_passDaysOf_47 ?_
  refine tt_tp dX4_passDaysOf_48 fX4_62 rfl rfl hS hp rfl ?_
  refine tt_iload dX4_passDaysOf_51 rfl ?_
  exact tt_ireturn dX4_passDaysOf_53 rfl rfl (Nat.zero_le _) (Nat.zero_le _) ⟨rfl, rfl⟩
set_option maxRecDepth 100000 in
set_option maxHeartbeats 4000000 in
theorem c_X4_tripsLeft {h : zhp} {b : Nat} (hS : zTS h b) (s : Nat → Int32) {p pi : Nat → Nat} (hp : zPm p pi) : MM iX4_tripsLeft [.ref b] (zt h b s p pi) (zfi (kTl s) (zt h b s p pi)) := by
  refine MM_of (by decide +kernel) (Nat.le_of_ble_eq_true rfl) ?_
  refine tt_iconst (nI 0) dX4_tripsLeft_0 rfl ?_
  refine tt_aload_n dX4_tripsLeft_1 rfl ?_
  refine tt_tA (c := 1) dX4_tripsLeft_2 fX4_18 rfl hS (by decide) rfl ?_
  refine tt_bipush (nI 7) dX4_tripsLeft_5 rfl ?_
  refine tt_tl1 dX4_tripsLeft_7 hS (by omega) ?_
  refine tt_aload_n dX4_tripsLeft_8 rfl ?_
  refine tt_tI dX4_tripsLeft_9 fX4_59 rfl hS rfl ?_
  refine tt_isub dX4_tripsLeft_12 ?_
  refine tt_max dX4_tripsLeft_13 jX4_158 jmax2 jmath3 jmax4 (by decide) (Nat.le_of_ble_eq_true rfl) (Nat.zero_le _) (Nat.zero_le _) ?_
  exact tt_ireturn dX4_tripsLeft_16 rfl rfl (Nat.zero_le _) (Nat.zero_le _) ⟨rfl, rfl⟩
set_option maxRecDepth 100000 in
set_option maxHeartbeats 4000000 in
theorem c_X4_skipsIn {h : zhp} {b : Nat} (hS : zTS h b) (s : Nat → Int32) {p pi : Nat → Nat} (hp : zPm p pi) (n : Nat) (hw : sWF s n) (v : Int32) : MM iX4_skipsIn [.ref b, .int v] (zt h b s p pi) (zfi (nI (kCs s n v)) (zt h b s p pi)) := by
  refine MM_of (by decide +kernel) (Nat.le_of_ble_eq_true rfl) ?_
  refine tt_iconst (nI 0) dX4_skipsIn_0 rfl ?_
  refine tt_istore_n dX4_skipsIn_1 rfl (Nat.le_of_ble_eq_true rfl) rfl ?_
  refine tt_iconst (nI 0) dX4_skipsIn_2 rfl ?_
  refine tt_istore_n dX4_skipsIn_3 rfl (Nat.le_of_ble_eq_true rfl) rfl ?_
  refine tt_loop (fun j x => if s (34 + 10 * j + 2) = v then x + 1 else x) n (fun _ _ => True) (fun k x => [some (.ref b), some (.int v), some (.int (nI x)), some (.int (nI k))]) (fun _ _ => (zt h b s p pi)) 0 trivial (fun _ _ _ _ => trivial) (fun hx => ?_) (fun k x hk hI ih => ?_)
  · have hn10 := hw.1
    refine tt_iload_n dX4_skipsIn_4 rfl ?_
    refine tt_aload_n dX4_skipsIn_5 rfl ?_
    refine tt_tI dX4_skipsIn_6 fX4_48 rfl hS rfl ?_
    refine tt_eq hw.2.1 ?_
    refine tt_icmp_geN (tgt := 34) dX4_skipsIn_9 (by decide) (by omega) (by omega) (fun c_9 => ?_) (fun c_9 => ?_)
    · refine tt_iload_n dX4_skipsIn_34 rfl ?_
      exact tt_ireturn dX4_skipsIn_35 rfl rfl (Nat.zero_le _) (Nat.zero_le _) ⟨rfl, rfl⟩
    · exact absurd c_9 (by omega)
  · have hn10 := hw.1
    refine tt_iload_n dX4_skipsIn_4 rfl ?_
    refine tt_aload_n dX4_skipsIn_5 rfl ?_
    refine tt_tI dX4_skipsIn_6 fX4_48 rfl hS rfl ?_
    refine tt_eq hw.2.1 ?_
    refine tt_icmp_geN (tgt := 34) dX4_skipsIn_9 (by decide) (by omega) (by omega) (fun c_9 => ?_) (fun c_9 => ?_)
    · exact absurd c_9 (by omega)
    · refine tt_aload_n dX4_skipsIn_12 rfl ?_
      refine tt_tA (c := 6) dX4_skipsIn_13 fX4_37 rfl hS (by decide) rfl ?_
      refine tt_iload_n dX4_skipsIn_16 rfl ?_
      refine tt_tsk dX4_skipsIn_17 hS (by omega) ?_
      refine tt_sI dX4_skipsIn_18 fX4_216 rfl hS hp (by omega) (by decide) ?_
      refine tt_iload_n dX4_skipsIn_21 rfl ?_
      refine tt_icmp_ne (tgt := 28) dX4_skipsIn_22 (by decide) (fun c_22 => ?_) (fun c_22 => ?_)
      · refine tt_iincN dX4_skipsIn_28 rfl rfl (Nat.le_of_ble_eq_true rfl) rfl ?_
        refine tt_goto (tgt := 4) dX4_skipsIn_31 (by decide) ?_
        first | (rw [if_pos (by assumption)] at ih; exact ih) | (rw [if_neg (by assumption)] at ih; exact ih)
      · refine tt_iincN dX4_skipsIn_25 rfl rfl (Nat.le_of_ble_eq_true rfl) rfl ?_
        refine tt_iincN dX4_skipsIn_28 rfl rfl (Nat.le_of_ble_eq_true rfl) rfl ?_
        refine tt_goto (tgt := 4) dX4_skipsIn_31 (by decide) ?_
        first | (rw [if_pos (by assumption)] at ih; exact ih) | (rw [if_neg (by assumption)] at ih; exact ih)
set_option maxRecDepth 100000 in
set_option maxHeartbeats 4000000 in
theorem c_X4_skipsOf {h : zhp} {b : Nat} (hS : zTS h b) (s : Nat → Int32) {p pi : Nat → Nat} (hp : zPm p pi) (n : Nat) (hw : sWF s n) (v : Int32) : MM iX4_skipsOf [.ref b, .int v] (zt h b s p pi) (zfi (nI (kCc s n v)) (zt h b s p pi)) := by
  refine MM_of (by decide +kernel) (Nat.le_of_ble_eq_true rfl) ?_
  refine tt_iconst (nI 0) dX4_skipsOf_0 rfl ?_
  refine tt_istore_n dX4_skipsOf_1 rfl (Nat.le_of_ble_eq_true rfl) rfl ?_
  refine tt_iconst (nI 0) dX4_skipsOf_2 rfl ?_
  refine tt_istore_n dX4_skipsOf_3 rfl (Nat.le_of_ble_eq_true rfl) rfl ?_
  refine tt_loop (fun j x => if s (34 + 10 * j + 0) = v then x + 1 else x) n (fun _ _ => True) (fun k x => [some (.ref b), some (.int v), some (.int (nI x)), some (.int (nI k))]) (fun _ _ => (zt h b s p pi)) 0 trivial (fun _ _ _ _ => trivial) (fun hx => ?_) (fun k x hk hI ih => ?_)
  · have hn10 := hw.1
    refine tt_iload_n dX4_skipsOf_4 rfl ?_
    refine tt_aload_n dX4_skipsOf_5 rfl ?_
    refine tt_tI dX4_skipsOf_6 fX4_48 rfl hS rfl ?_
    refine tt_eq hw.2.1 ?_
    refine tt_icmp_geN (tgt := 34) dX4_skipsOf_9 (by decide) (by omega) (by omega) (fun c_9 => ?_) (fun c_9 => ?_)
    · refine tt_iload_n dX4_skipsOf_34 rfl ?_
      exact tt_ireturn dX4_skipsOf_35 rfl rfl (Nat.zero_le _) (Nat.zero_le _) ⟨rfl, rfl⟩
    · exact absurd c_9 (by omega)
  · have hn10 := hw.1
    refine tt_iload_n dX4_skipsOf_4 rfl ?_
    refine tt_aload_n dX4_skipsOf_5 rfl ?_
    refine tt_tI dX4_skipsOf_6 fX4_48 rfl hS rfl ?_
    refine tt_eq hw.2.1 ?_
    refine tt_icmp_geN (tgt := 34) dX4_skipsOf_9 (by decide) (by omega) (by omega) (fun c_9 => ?_) (fun c_9 => ?_)
    · exact absurd c_9 (by omega)
    · refine tt_aload_n dX4_skipsOf_12 rfl ?_
      refine tt_tA (c := 6) dX4_skipsOf_13 fX4_37 rfl hS (by decide) rfl ?_
      refine tt_iload_n dX4_skipsOf_16 rfl ?_
      refine tt_tsk dX4_skipsOf_17 hS (by omega) ?_
      refine tt_sI dX4_skipsOf_18 fX4_139 rfl hS hp (by omega) (by decide) ?_
      refine tt_iload_n dX4_skipsOf_21 rfl ?_
      refine tt_icmp_ne (tgt := 28) dX4_skipsOf_22 (by decide) (fun c_22 => ?_) (fun c_22 => ?_)
      · refine tt_iincN dX4_skipsOf_28 rfl rfl (Nat.le_of_ble_eq_true rfl) rfl ?_
        refine tt_goto (tgt := 4) dX4_skipsOf_31 (by decide) ?_
        first | (rw [if_pos (by assumption)] at ih; exact ih) | (rw [if_neg (by assumption)] at ih; exact ih)
      · refine tt_iincN dX4_skipsOf_25 rfl rfl (Nat.le_of_ble_eq_true rfl) rfl ?_
        refine tt_iincN dX4_skipsOf_28 rfl rfl (Nat.le_of_ble_eq_true rfl) rfl ?_
        refine tt_goto (tgt := 4) dX4_skipsOf_31 (by decide) ?_
        first | (rw [if_pos (by assumption)] at ih; exact ih) | (rw [if_neg (by assumption)] at ih; exact ih)
set_option maxRecDepth 100000 in
set_option maxHeartbeats 4000000 in
theorem c_X4_skipsWithoutPermitIn {h : zhp} {b : Nat} (hS : zTS h b) (s : Nat → Int32) {p pi : Nat → Nat} (hp : zPm p pi) (n : Nat) (hw : sWF s n) (v : Int32) : MM iX4_skipsWithoutPermitIn [.ref b, .int v] (zt h b s p pi) (zfi (nI (kCn s n v)) (zt h b s p pi)) := by
  refine MM_of (by decide +kernel) (Nat.le_of_ble_eq_true rfl) ?_
  refine tt_iconst (nI 0) dX4_skipsWithoutPermitIn_0 rfl ?_
  refine tt_istore_n dX4_skipsWithoutPermitIn_1 rfl (Nat.le_of_ble_eq_true rfl) rfl ?_
  refine tt_iconst (nI 0) dX4_skipsWithoutPermitIn_2 rfl ?_
  refine tt_istore_n dX4_skipsWithoutPermitIn_3 rfl (Nat.le_of_ble_eq_true rfl) rfl ?_
  refine tt_loop (fun j x => if s (34 + 10 * j + 2) = v ∧ ¬ s 8 ≤ s (34 + 10 * j + 6) then x + 1 else x) n (fun _ _ => True) (fun k x => [some (.ref b), some (.int v), some (.int (nI x)), some (.int (nI k))]) (fun _ _ => (zt h b s p pi)) 0 trivial (fun _ _ _ _ => trivial) (fun hx => ?_) (fun k x hk hI ih => ?_)
  · have hn10 := hw.1
    refine tt_iload_n dX4_skipsWithoutPermitIn_4 rfl ?_
    refine tt_aload_n dX4_skipsWithoutPermitIn_5 rfl ?_
    refine tt_tI dX4_skipsWithoutPermitIn_6 fX4_48 rfl hS rfl ?_
    refine tt_eq hw.2.1 ?_
    refine tt_icmp_geN (tgt := 50) dX4_skipsWithoutPermitIn_9 (by decide) (by omega) (by omega) (fun c_9 => ?_) (fun c_9 => ?_)
    · refine tt_iload_n dX4_skipsWithoutPermitIn_50 rfl ?_
      exact tt_ireturn dX4_skipsWithoutPermitIn_51 rfl rfl (Nat.zero_le _) (Nat.zero_le _) ⟨rfl, rfl⟩
    · exact absurd c_9 (by omega)
  · have hn10 := hw.1
    refine tt_iload_n dX4_skipsWithoutPermitIn_4 rfl ?_
    refine tt_aload_n dX4_skipsWithoutPermitIn_5 rfl ?_
    refine tt_tI dX4_skipsWithoutPermitIn_6 fX4_48 rfl hS rfl ?_
    refine tt_eq hw.2.1 ?_
    refine tt_icmp_geN (tgt := 50) dX4_skipsWithoutPermitIn_9 (by decide) (by omega) (by omega) (fun c_9 => ?_) (fun c_9 => ?_)
    · exact absurd c_9 (by omega)
    · refine tt_aload_n dX4_skipsWithoutPermitIn_12 rfl ?_
      refine tt_tA (c := 6) dX4_skipsWithoutPermitIn_13 fX4_37 rfl hS (by decide) rfl ?_
      refine tt_iload_n dX4_skipsWithoutPermitIn_16 rfl ?_
      refine tt_tsk dX4_skipsWithoutPermitIn_17 hS (by omega) ?_
      refine tt_sI dX4_skipsWithoutPermitIn_18 fX4_216 rfl hS hp (by omega) (by decide) ?_
      refine tt_iload_n dX4_skipsWithoutPermitIn_21 rfl ?_
      refine tt_icmp_ne (tgt := 44) dX4_skipsWithoutPermitIn_22 (by decide) (fun c_22 => ?_) (fun c_22 => ?_)
      · refine tt_iincN dX4_skipsWithoutPermitIn_44 rfl rfl (Nat.le_of_ble_eq_true rfl) rfl ?_
        refine tt_goto (tgt := 4) dX4_skipsWithoutPermitIn_47 (by decide) ?_
        first | (rw [if_pos ⟨by assumption, by assumption⟩] at ih; exact ih) | (rw [if_neg (fun q => absurd q.1 (by assumption))] at ih; exact ih) | (rw [if_neg (fun q => q.2 (by assumption))] at ih; exact ih)
      · refine tt_aload_n dX4_skipsWithoutPermitIn_25 rfl ?_
        refine tt_tA (c := 6) dX4_skipsWithoutPermitIn_26 fX4_37 rfl hS (by decide) rfl ?_
        refine tt_iload_n dX4_skipsWithoutPermitIn_29 rfl ?_
        refine tt_tsk dX4_skipsWithoutPermitIn_30 hS (by omega) ?_
        refine tt_aload_n dX4_skipsWithoutPermitIn_31 rfl ?_
        refine tt_tI dX4_skipsWithoutPermitIn_32 fX4_56 rfl hS rfl ?_
        refine tt_fVi (c_X3_hasPermitFor hS _ hp _ (by omega) _) dX4_skipsWithoutPermitIn_35 vX4_116 rfl rfl (zTS_sk hS hp (by omega)) (by decide) rfl (by decide) ⟨rfl, rfl⟩ (Nat.zero_le _) (Nat.zero_le _) (Nat.le_of_ble_eq_true rfl) ?_
        refine tt_if_neB (tgt := 44) dX4_skipsWithoutPermitIn_38 (by decide) (fun c_38 => ?_) (fun c_38 => ?_)
        · refine tt_iincN dX4_skipsWithoutPermitIn_44 rfl rfl (Nat.le_of_ble_eq_true rfl) rfl ?_
          refine tt_goto (tgt := 4) dX4_skipsWithoutPermitIn_47 (by decide) ?_
          first | (rw [if_pos ⟨by assumption, by assumption⟩] at ih; exact ih) | (rw [if_neg (fun q => absurd q.1 (by assumption))] at ih; exact ih) | (rw [if_neg (fun q => q.2 (by assumption))] at ih; exact ih)
        · refine tt_iincN dX4_skipsWithoutPermitIn_41 rfl rfl (Nat.le_of_ble_eq_true rfl) rfl ?_
          refine tt_iincN dX4_skipsWithoutPermitIn_44 rfl rfl (Nat.le_of_ble_eq_true rfl) rfl ?_
          refine tt_goto (tgt := 4) dX4_skipsWithoutPermitIn_47 (by decide) ?_
          first | (rw [if_pos ⟨by assumption, by assumption⟩] at ih; exact ih) | (rw [if_neg (fun q => absurd q.1 (by assumption))] at ih; exact ih) | (rw [if_neg (fun q => q.2 (by assumption))] at ih; exact ih)
set_option maxRecDepth 100000 in
set_option maxHeartbeats 4000000 in
theorem c_X4_fullSkips {h : zhp} {b : Nat} (hS : zTS h b) (s : Nat → Int32) {p pi : Nat → Nat} (hp : zPm p pi) (n : Nat) (hw : sWF s n) : MM iX4_fullSkips [.ref b] (zt h b s p pi) (zfi (nI (kCf s n)) (zt h b s p pi)) := by
  refine MM_of (by decide +kernel) (Nat.le_of_ble_eq_true rfl) ?_
  refine tt_iconst (nI 0) dX4_fullSkips_0 rfl ?_
  refine tt_istore_n dX4_fullSkips_1 rfl (Nat.le_of_ble_eq_true rfl) rfl ?_
  refine tt_iconst (nI 0) dX4_fullSkips_2 rfl ?_
  refine tt_istore_n dX4_fullSkips_3 rfl (Nat.le_of_ble_eq_true rfl) rfl ?_
  refine tt_loop (fun j x => if kHo s j ≤ s (34 + 10 * j + 3) then x + 1 else x) n (fun _ _ => True) (fun k x => [some (.ref b), some (.int (nI x)), some (.int (nI k))]) (fun _ _ => (zt h b s p pi)) 0 trivial (fun _ _ _ _ => trivial) (fun hx => ?_) (fun k x hk hI ih => ?_)
  · have hn10 := hw.1
    refine tt_iload_n dX4_fullSkips_4 rfl ?_
    refine tt_aload_n dX4_fullSkips_5 rfl ?_
    refine tt_tI dX4_fullSkips_6 fX4_48 rfl hS rfl ?_
    refine tt_eq hw.2.1 ?_
    refine tt_icmp_geN (tgt := 33) dX4_fullSkips_9 (by decide) (by omega) (by omega) (fun c_9 => ?_) (fun c_9 => ?_)
    · refine tt_iload_n dX4_fullSkips_33 rfl ?_
      exact tt_ireturn dX4_fullSkips_34 rfl rfl (Nat.zero_le _) (Nat.zero_le _) ⟨rfl, rfl⟩
    · exact absurd c_9 (by omega)
  · have hn10 := hw.1
    refine tt_iload_n dX4_fullSkips_4 rfl ?_
    refine tt_aload_n dX4_fullSkips_5 rfl ?_
    refine tt_tI dX4_fullSkips_6 fX4_48 rfl hS rfl ?_
    refine tt_eq hw.2.1 ?_
    refine tt_icmp_geN (tgt := 33) dX4_fullSkips_9 (by decide) (by omega) (by omega) (fun c_9 => ?_) (fun c_9 => ?_)
    · exact absurd c_9 (by omega)
    · refine tt_aload_n dX4_fullSkips_12 rfl ?_
      refine tt_tA (c := 6) dX4_fullSkips_13 fX4_37 rfl hS (by decide) rfl ?_
      refine tt_iload_n dX4_fullSkips_16 rfl ?_
      refine tt_tsk dX4_fullSkips_17 hS (by omega) ?_
      refine tt_fVi (c_X3_isFull hS _ hp _ (by omega)) dX4_fullSkips_18 vX4_217 rfl rfl (zTS_sk hS hp (by omega)) (by decide) rfl (by decide) ⟨rfl, rfl⟩ (Nat.zero_le _) (Nat.zero_le _) (Nat.le_of_ble_eq_true rfl) ?_
      refine tt_if_eqB (tgt := 27) dX4_fullSkips_21 (by decide) (fun c_21 => ?_) (fun c_21 => ?_)
      · refine tt_iincN dX4_fullSkips_27 rfl rfl (Nat.le_of_ble_eq_true rfl) rfl ?_
        refine tt_goto (tgt := 4) dX4_fullSkips_30 (by decide) ?_
        first | (rw [if_pos (by assumption)] at ih; exact ih) | (rw [if_neg (by assumption)] at ih; exact ih)
      · refine tt_iincN dX4_fullSkips_24 rfl rfl (Nat.le_of_ble_eq_true rfl) rfl ?_
        refine tt_iincN dX4_fullSkips_27 rfl rfl (Nat.le_of_ble_eq_true rfl) rfl ?_
        refine tt_goto (tgt := 4) dX4_fullSkips_30 (by decide) ?_
        first | (rw [if_pos (by assumption)] at ih; exact ih) | (rw [if_neg (by assumption)] at ih; exact ih)
set_option maxRecDepth 100000 in
set_option maxHeartbeats 4000000 in
theorem c_X4_sumOfLoads {h : zhp} {b : Nat} (hS : zTS h b) (s : Nat → Int32) {p pi : Nat → Nat} (hp : zPm p pi) (n : Nat) (hw : sWF s n) : MM iX4_sumOfLoads [.ref b] (zt h b s p pi) (zfi (kLo s n) (zt h b s p pi)) := by
  refine MM_of (by decide +kernel) (Nat.le_of_ble_eq_true rfl) ?_
  refine tt_iconst (nI 0) dX4_sumOfLoads_0 rfl ?_
  refine tt_istore_n dX4_sumOfLoads_1 rfl (Nat.le_of_ble_eq_true rfl) rfl ?_
  refine tt_iconst (nI 0) dX4_sumOfLoads_2 rfl ?_
  refine tt_istore_n dX4_sumOfLoads_3 rfl (Nat.le_of_ble_eq_true rfl) rfl ?_
  refine tt_loop (fun j x => x + s (34 + 10 * j + 3)) n (fun _ _ => True) (fun k x => [some (.ref b), some (.int x), some (.int (nI k))]) (fun _ _ => (zt h b s p pi)) (nI 0) trivial (fun _ _ _ _ => trivial) (fun hx => ?_) (fun k x hk hI ih => ?_)
  · have hn10 := hw.1
    refine tt_iload_n dX4_sumOfLoads_4 rfl ?_
    refine tt_aload_n dX4_sumOfLoads_5 rfl ?_
    refine tt_tI dX4_sumOfLoads_6 fX4_48 rfl hS rfl ?_
    refine tt_eq hw.2.1 ?_
    refine tt_icmp_geN (tgt := 30) dX4_sumOfLoads_9 (by decide) (by omega) (by omega) (fun c_9 => ?_) (fun c_9 => ?_)
    · refine tt_iload_n dX4_sumOfLoads_30 rfl ?_
      exact tt_ireturn dX4_sumOfLoads_31 rfl rfl (Nat.zero_le _) (Nat.zero_le _) ⟨rfl, rfl⟩
    · exact absurd c_9 (by omega)
  · have hn10 := hw.1
    refine tt_iload_n dX4_sumOfLoads_4 rfl ?_
    refine tt_aload_n dX4_sumOfLoads_5 rfl ?_
    refine tt_tI dX4_sumOfLoads_6 fX4_48 rfl hS rfl ?_
    refine tt_eq hw.2.1 ?_
    refine tt_icmp_geN (tgt := 30) dX4_sumOfLoads_9 (by decide) (by omega) (by omega) (fun c_9 => ?_) (fun c_9 => ?_)
    · exact absurd c_9 (by omega)
    · refine tt_iload_n dX4_sumOfLoads_12 rfl ?_
      refine tt_aload_n dX4_sumOfLoads_13 rfl ?_
      refine tt_tA (c := 6) dX4_sumOfLoads_14 fX4_37 rfl hS (by decide) rfl ?_
      refine tt_iload_n dX4_sumOfLoads_17 rfl ?_
      refine tt_tsk dX4_sumOfLoads_18 hS (by omega) ?_
      refine tt_sI dX4_sumOfLoads_19 fX4_163 rfl hS hp (by omega) (by decide) ?_
      refine tt_iadd dX4_sumOfLoads_22 ?_
      refine tt_istore_n dX4_sumOfLoads_23 rfl (Nat.le_of_ble_eq_true rfl) rfl ?_
      refine tt_iincN dX4_sumOfLoads_24 rfl rfl (Nat.le_of_ble_eq_true rfl) rfl ?_
      refine tt_goto (tgt := 4) dX4_sumOfLoads_27 (by decide) ?_
      exact ih
set_option maxRecDepth 100000 in
set_option maxHeartbeats 4000000 in
theorem c_X5_sumOf3 {h : zhp} {b : Nat} (hS : zTS h b) (s : Nat → Int32) {p pi : Nat → Nat} (hp : zPm p pi) : MM iX5_sumOf [.ref (b + 3)] (zt h b s p pi) (zfi (sSum s 0) (zt h b s p pi)) := by
  have hl : zL (zt h b s p pi) (b + 3) = 6 := (hS.2.2.2.1 3 (by omega) (by omega)).2
  refine MM_of (by decide +kernel) (Nat.le_of_ble_eq_true rfl) ?_
  refine tt_iconst (nI 0) dX5_sumOf_0 rfl ?_
  refine tt_istore_n dX5_sumOf_1 rfl (Nat.le_of_ble_eq_true rfl) rfl ?_
  refine tt_aload_n dX5_sumOf_2 rfl ?_
  refine tt_astore_n dX5_sumOf_3 rfl (Nat.le_of_ble_eq_true rfl) rfl ?_
  refine tt_aload_n dX5_sumOf_4 rfl ?_
  refine tt_alen dX5_sumOf_5 (hS.2.2.2.1 3 (by omega) (by omega)).1 ?_
  refine tt_eq (show _ = nI 6 by rw [hl]; rfl) ?_
  refine tt_istore_n dX5_sumOf_6 rfl (Nat.le_of_ble_eq_true rfl) rfl ?_
  refine tt_iconst (nI 0) dX5_sumOf_7 rfl ?_
  refine tt_istore dX5_sumOf_8 rfl (Nat.le_of_ble_eq_true rfl) rfl ?_
  refine tt_loop (fun k (x : Int32 × Option Value) => (x.1 + s (15 + 3 * k + 0), some (.int (s (15 + 3 * k + 0))))) 6 (fun _ _ => True) (fun k x => [some (.ref (b + 3)), some (.int x.1), some (.ref (b + 3)), some (.int (nI 6)), some (.int (nI k)), x.2]) (fun _ _ => (zt h b s p pi)) (nI 0, none) trivial (fun _ _ _ _ => trivial) (fun hx => ?_) (fun k x hk hI ih => ?_)
  · refine tt_iload dX5_sumOf_10 rfl ?_
    refine tt_iload_n dX5_sumOf_12 rfl ?_
    refine tt_icmp_geN (tgt := 33) dX5_sumOf_13 (by decide) (by omega) (by omega) (fun c_13 => ?_) (fun c_13 => ?_)
    · refine tt_iload_n dX5_sumOf_33 rfl ?_
      exact tt_ireturn dX5_sumOf_34 rfl rfl (Nat.zero_le _) (Nat.zero_le _) ⟨congrArg (fun z => some (Value.int z)) (zlp_fst (fun k x => x + s (15 + 3 * k + 0)) (fun k => some (Value.int (s (15 + 3 * k + 0)))) 6 0 (nI 0, none)), rfl⟩
    · exact absurd c_13 (by omega)
  · refine tt_iload dX5_sumOf_10 rfl ?_
    refine tt_iload_n dX5_sumOf_12 rfl ?_
    refine tt_icmp_geN (tgt := 33) dX5_sumOf_13 (by decide) (by omega) (by omega) (fun c_13 => ?_) (fun c_13 => ?_)
    · exact absurd c_13 (by omega)
    · refine tt_aload_n dX5_sumOf_16 rfl ?_
      refine tt_iload dX5_sumOf_17 rfl ?_
      refine tt_tl3 dX5_sumOf_19 hS (by omega) ?_
      refine tt_istore dX5_sumOf_20 rfl (Nat.le_of_ble_eq_true rfl) rfl ?_
      refine tt_iload_n dX5_sumOf_22 rfl ?_
      refine tt_iload dX5_sumOf_23 rfl ?_
      refine tt_iadd dX5_sumOf_25 ?_
      refine tt_istore_n dX5_sumOf_26 rfl (Nat.le_of_ble_eq_true rfl) rfl ?_
      refine tt_iincN dX5_sumOf_27 rfl rfl (Nat.le_of_ble_eq_true rfl) rfl ?_
      refine tt_goto (tgt := 10) dX5_sumOf_30 (by decide) ?_
      exact ih
set_option maxRecDepth 100000 in
set_option maxHeartbeats 4000000 in
theorem c_X5_sumOf4 {h : zhp} {b : Nat} (hS : zTS h b) (s : Nat → Int32) {p pi : Nat → Nat} (hp : zPm p pi) : MM iX5_sumOf [.ref (b + 4)] (zt h b s p pi) (zfi (sSum s 1) (zt h b s p pi)) := by
  have hl : zL (zt h b s p pi) (b + 4) = 6 := (hS.2.2.2.1 4 (by omega) (by omega)).2
  refine MM_of (by decide +kernel) (Nat.le_of_ble_eq_true rfl) ?_
  refine tt_iconst (nI 0) dX5_sumOf_0 rfl ?_
  refine tt_istore_n dX5_sumOf_1 rfl (Nat.le_of_ble_eq_true rfl) rfl ?_
  refine tt_aload_n dX5_sumOf_2 rfl ?_
  refine tt_astore_n dX5_sumOf_3 rfl (Nat.le_of_ble_eq_true rfl) rfl ?_
  refine tt_aload_n dX5_sumOf_4 rfl ?_
  refine tt_alen dX5_sumOf_5 (hS.2.2.2.1 4 (by omega) (by omega)).1 ?_
  refine tt_eq (show _ = nI 6 by rw [hl]; rfl) ?_
  refine tt_istore_n dX5_sumOf_6 rfl (Nat.le_of_ble_eq_true rfl) rfl ?_
  refine tt_iconst (nI 0) dX5_sumOf_7 rfl ?_
  refine tt_istore dX5_sumOf_8 rfl (Nat.le_of_ble_eq_true rfl) rfl ?_
  refine tt_loop (fun k (x : Int32 × Option Value) => (x.1 + s (15 + 3 * k + 1), some (.int (s (15 + 3 * k + 1))))) 6 (fun _ _ => True) (fun k x => [some (.ref (b + 4)), some (.int x.1), some (.ref (b + 4)), some (.int (nI 6)), some (.int (nI k)), x.2]) (fun _ _ => (zt h b s p pi)) (nI 0, none) trivial (fun _ _ _ _ => trivial) (fun hx => ?_) (fun k x hk hI ih => ?_)
  · refine tt_iload dX5_sumOf_10 rfl ?_
    refine tt_iload_n dX5_sumOf_12 rfl ?_
    refine tt_icmp_geN (tgt := 33) dX5_sumOf_13 (by decide) (by omega) (by omega) (fun c_13 => ?_) (fun c_13 => ?_)
    · refine tt_iload_n dX5_sumOf_33 rfl ?_
      exact tt_ireturn dX5_sumOf_34 rfl rfl (Nat.zero_le _) (Nat.zero_le _) ⟨congrArg (fun z => some (Value.int z)) (zlp_fst (fun k x => x + s (15 + 3 * k + 1)) (fun k => some (Value.int (s (15 + 3 * k + 1)))) 6 0 (nI 0, none)), rfl⟩
    · exact absurd c_13 (by omega)
  · refine tt_iload dX5_sumOf_10 rfl ?_
    refine tt_iload_n dX5_sumOf_12 rfl ?_
    refine tt_icmp_geN (tgt := 33) dX5_sumOf_13 (by decide) (by omega) (by omega) (fun c_13 => ?_) (fun c_13 => ?_)
    · exact absurd c_13 (by omega)
    · refine tt_aload_n dX5_sumOf_16 rfl ?_
      refine tt_iload dX5_sumOf_17 rfl ?_
      refine tt_tl4 dX5_sumOf_19 hS (by omega) ?_
      refine tt_istore dX5_sumOf_20 rfl (Nat.le_of_ble_eq_true rfl) rfl ?_
      refine tt_iload_n dX5_sumOf_22 rfl ?_
      refine tt_iload dX5_sumOf_23 rfl ?_
      refine tt_iadd dX5_sumOf_25 ?_
      refine tt_istore_n dX5_sumOf_26 rfl (Nat.le_of_ble_eq_true rfl) rfl ?_
      refine tt_iincN dX5_sumOf_27 rfl rfl (Nat.le_of_ble_eq_true rfl) rfl ?_
      refine tt_goto (tgt := 10) dX5_sumOf_30 (by decide) ?_
      exact ih
set_option maxRecDepth 100000 in
set_option maxHeartbeats 4000000 in
theorem c_X5_sumOf5 {h : zhp} {b : Nat} (hS : zTS h b) (s : Nat → Int32) {p pi : Nat → Nat} (hp : zPm p pi) : MM iX5_sumOf [.ref (b + 5)] (zt h b s p pi) (zfi (sSum s 2) (zt h b s p pi)) := by
  have hl : zL (zt h b s p pi) (b + 5) = 6 := (hS.2.2.2.1 5 (by omega) (by omega)).2
  refine MM_of (by decide +kernel) (Nat.le_of_ble_eq_true rfl) ?_
  refine tt_iconst (nI 0) dX5_sumOf_0 rfl ?_
  refine tt_istore_n dX5_sumOf_1 rfl (Nat.le_of_ble_eq_true rfl) rfl ?_
  refine tt_aload_n dX5_sumOf_2 rfl ?_
  refine tt_astore_n dX5_sumOf_3 rfl (Nat.le_of_ble_eq_true rfl) rfl ?_
  refine tt_aload_n dX5_sumOf_4 rfl ?_
  refine tt_alen dX5_sumOf_5 (hS.2.2.2.1 5 (by omega) (by omega)).1 ?_
  refine tt_eq (show _ = nI 6 by rw [hl]; rfl) ?_
  refine tt_istore_n dX5_sumOf_6 rfl (Nat.le_of_ble_eq_true rfl) rfl ?_
  refine tt_iconst (nI 0) dX5_sumOf_7 rfl ?_
  refine tt_istore dX5_sumOf_8 rfl (Nat.le_of_ble_eq_true rfl) rfl ?_
  refine tt_loop (fun k (x : Int32 × Option Value) => (x.1 + s (15 + 3 * k + 2), some (.int (s (15 + 3 * k + 2))))) 6 (fun _ _ => True) (fun k x => [some (.ref (b + 5)), some (.int x.1), some (.ref (b + 5)), some (.int (nI 6)), some (.int (nI k)), x.2]) (fun _ _ => (zt h b s p pi)) (nI 0, none) trivial (fun _ _ _ _ => trivial) (fun hx => ?_) (fun k x hk hI ih => ?_)
  · refine tt_iload dX5_sumOf_10 rfl ?_
    refine tt_iload_n dX5_sumOf_12 rfl ?_
    refine tt_icmp_geN (tgt := 33) dX5_sumOf_13 (by decide) (by omega) (by omega) (fun c_13 => ?_) (fun c_13 => ?_)
    · refine tt_iload_n dX5_sumOf_33 rfl ?_
      exact tt_ireturn dX5_sumOf_34 rfl rfl (Nat.zero_le _) (Nat.zero_le _) ⟨congrArg (fun z => some (Value.int z)) (zlp_fst (fun k x => x + s (15 + 3 * k + 2)) (fun k => some (Value.int (s (15 + 3 * k + 2)))) 6 0 (nI 0, none)), rfl⟩
    · exact absurd c_13 (by omega)
  · refine tt_iload dX5_sumOf_10 rfl ?_
    refine tt_iload_n dX5_sumOf_12 rfl ?_
    refine tt_icmp_geN (tgt := 33) dX5_sumOf_13 (by decide) (by omega) (by omega) (fun c_13 => ?_) (fun c_13 => ?_)
    · exact absurd c_13 (by omega)
    · refine tt_aload_n dX5_sumOf_16 rfl ?_
      refine tt_iload dX5_sumOf_17 rfl ?_
      refine tt_tl5 dX5_sumOf_19 hS (by omega) ?_
      refine tt_istore dX5_sumOf_20 rfl (Nat.le_of_ble_eq_true rfl) rfl ?_
      refine tt_iload_n dX5_sumOf_22 rfl ?_
      refine tt_iload dX5_sumOf_23 rfl ?_
      refine tt_iadd dX5_sumOf_25 ?_
      refine tt_istore_n dX5_sumOf_26 rfl (Nat.le_of_ble_eq_true rfl) rfl ?_
      refine tt_iincN dX5_sumOf_27 rfl rfl (Nat.le_of_ble_eq_true rfl) rfl ?_
      refine tt_goto (tgt := 10) dX5_sumOf_30 (by decide) ?_
      exact ih
set_option maxRecDepth 100000 in
set_option maxHeartbeats 4000000 in
theorem c_X4_costOfDays {h : zhp} {b : Nat} (hS : zTS h b) (s : Nat → Int32) {p pi : Nat → Nat} (hp : zPm p pi) (n : Nat) (hw : sWF s n) (v d : Int32) : MM iX4_costOfDays [.ref b, .int v, .int d] (zt h b s p pi) (zfi (if nI 0 ≤ v ∧ v ≤ nI 5 then (if nI 0 ≤ d ∧ d ≤ nI 200 then kCo s n v d else -2) else -1) (zt h b s p pi)) := by
  refine MM_of (by decide +kernel) (Nat.le_of_ble_eq_true rfl) ?_
  refine tt_iload_n dX4_costOfDays_0 rfl ?_
  refine tt_iconst (nI 0) dX4_costOfDays_1 rfl ?_
  refine tt_iconst (nI 5) dX4_costOfDays_2 rfl ?_
  refine tt_fSNi (c_X5_isWithin _ _ _ _) dX4_costOfDays_3 sX4_65 rfl rfl (by decide) ⟨rfl, rfl⟩ (Nat.zero_le _) (Nat.zero_le _) (Nat.le_of_ble_eq_true rfl) ?_
  refine tt_if_neB (tgt := 11) dX4_costOfDays_6 (by decide) (fun c_6 => ?_) (fun c_6 => ?_)
  · refine tt_iload_n dX4_costOfDays_11 rfl ?_
    refine tt_iconst (nI 0) dX4_costOfDays_12 rfl ?_
    refine tt_sipush (nI 200) dX4_costOfDays_13 rfl ?_
    refine tt_fSNi (c_X5_isWithin _ _ _ _) dX4_costOfDays_16 sX4_65 rfl rfl (by decide) ⟨rfl, rfl⟩ (Nat.zero_le _) (Nat.zero_le _) (Nat.le_of_ble_eq_true rfl) ?_
    refine tt_if_neB (tgt := 25) dX4_costOfDays_19 (by decide) (fun c_19 => ?_) (fun c_19 => ?_)
    · refine tt_iconst (nI 0) dX4_costOfDays_25 rfl ?_
      refine tt_istore_n dX4_costOfDays_26 rfl (Nat.le_of_ble_eq_true rfl) rfl ?_
      refine tt_iconst (nI 0) dX4_costOfDays_27 rfl ?_
      refine tt_istore dX4_costOfDays_28 rfl (Nat.le_of_ble_eq_true rfl) rfl ?_
      refine tt_loop (fun j (x : Int32 × Option Value) => (if s (34 + 10 * j + 0) = v then x.1 + (kHi s j d + kFi s j d) else x.1, some (.ref (b + (7 + p j))))) n (fun _ _ => True) (fun k x => [some (.ref b), some (.int v), some (.int d), some (.int x.1), some (.int (nI k)), x.2]) (fun _ _ => (zt h b s p pi)) (nI 0, none) trivial (fun _ _ _ _ => trivial) (fun hx => ?_) (fun k x hk hI ih => ?_)
      · have hn10 := hw.1
        refine tt_iload dX4_costOfDays_30 rfl ?_
        refine tt_aload_n dX4_costOfDays_32 rfl ?_
        refine tt_tI dX4_costOfDays_33 fX4_48 rfl hS rfl ?_
        refine tt_eq hw.2.1 ?_
        refine tt_icmp_geN (tgt := 81) dX4_costOfDays_36 (by decide) (by omega) (by omega) (fun c_36 => ?_) (fun c_36 => ?_)
        · refine tt_iload_n dX4_costOfDays_81 rfl ?_
          exact tt_ireturn dX4_costOfDays_82 rfl rfl (Nat.zero_le _) (Nat.zero_le _) ⟨by rw [if_pos c_6, if_pos c_19]; exact congrArg (fun z => some (Value.int z)) (zlp_fst (fun j x => if s (34 + 10 * j + 0) = v then x + (kHi s j d + kFi s j d) else x) (fun j => some (Value.ref (b + (7 + p j)))) n 0 (nI 0, none)), rfl⟩
        · exact absurd c_36 (by omega)
      · have hn10 := hw.1
        refine tt_iload dX4_costOfDays_30 rfl ?_
        refine tt_aload_n dX4_costOfDays_32 rfl ?_
        refine tt_tI dX4_costOfDays_33 fX4_48 rfl hS rfl ?_
        refine tt_eq hw.2.1 ?_
        refine tt_icmp_geN (tgt := 81) dX4_costOfDays_36 (by decide) (by omega) (by omega) (fun c_36 => ?_) (fun c_36 => ?_)
        · exact absurd c_36 (by omega)
        · refine tt_aload_n dX4_costOfDays_39 rfl ?_
          refine tt_tA (c := 6) dX4_costOfDays_40 fX4_37 rfl hS (by decide) rfl ?_
          refine tt_iload dX4_costOfDays_43 rfl ?_
          refine tt_tsk dX4_costOfDays_45 hS (by omega) ?_
          refine tt_astore dX4_costOfDays_46 rfl (Nat.le_of_ble_eq_true rfl) rfl ?_
          refine tt_aload dX4_costOfDays_48 rfl ?_
          refine tt_sI dX4_costOfDays_50 fX4_139 rfl hS hp (by omega) (by decide) ?_
          refine tt_iload_n dX4_costOfDays_53 rfl ?_
          refine tt_icmp_ne (tgt := 75) dX4_costOfDays_54 (by decide) (fun c_54 => ?_) (fun c_54 => ?_)
          · refine tt_iincN dX4_costOfDays_75 rfl rfl (Nat.le_of_ble_eq_true rfl) rfl ?_
            refine tt_goto (tgt := 30) dX4_costOfDays_78 (by decide) ?_
            first | (rw [if_pos c_54] at ih; exact ih) | (rw [if_neg c_54] at ih; exact ih)
          · refine tt_iload_n dX4_costOfDays_57 rfl ?_
            refine tt_aload_n dX4_costOfDays_58 rfl ?_
            refine tt_aload dX4_costOfDays_59 rfl ?_
            refine tt_iload_n dX4_costOfDays_61 rfl ?_
            refine tt_fVi (c_X4_hireIn hS _ hp _ (by omega) _) dX4_costOfDays_62 vX4_136 rfl rfl (zTS_tw hS) (by decide) rfl (by decide) ⟨rfl, rfl⟩ (Nat.zero_le _) (Nat.zero_le _) (Nat.le_of_ble_eq_true rfl) ?_
            refine tt_aload_n dX4_costOfDays_65 rfl ?_
            refine tt_aload dX4_costOfDays_66 rfl ?_
            refine tt_iload_n dX4_costOfDays_68 rfl ?_
            refine tt_fVi (c_X4_finesIn hS _ hp _ (by omega) _) dX4_costOfDays_69 vX4_133 rfl rfl (zTS_tw hS) (by decide) rfl (by decide) ⟨rfl, rfl⟩ (Nat.zero_le _) (Nat.zero_le _) (Nat.le_of_ble_eq_true rfl) ?_
            refine tt_iadd dX4_costOfDays_72 ?_
            refine tt_iadd dX4_costOfDays_73 ?_
            refine tt_istore_n dX4_costOfDays_74 rfl (Nat.le_of_ble_eq_true rfl) rfl ?_
            refine tt_iincN dX4_costOfDays_75 rfl rfl (Nat.le_of_ble_eq_true rfl) rfl ?_
            refine tt_goto (tgt := 30) dX4_costOfDays_78 (by decide) ?_
            first | (rw [if_pos c_54] at ih; exact ih) | (rw [if_neg c_54] at ih; exact ih)
    · refine tt_bipush (-2) dX4_costOfDays_22 rfl ?_
      exact tt_ireturn dX4_costOfDays_24 rfl rfl (Nat.zero_le _) (Nat.zero_le _) ⟨by rw [if_pos c_6, if_neg c_19], rfl⟩
  · refine tt_iconst (-1) dX4_costOfDays_9 rfl ?_
    exact tt_ireturn dX4_costOfDays_10 rfl rfl (Nat.zero_le _) (Nat.zero_le _) ⟨by rw [if_neg c_6], rfl⟩
set_option maxRecDepth 100000 in
set_option maxHeartbeats 4000000 in
theorem c_X4_dearestSkip {h : zhp} {b : Nat} (hS : zTS h b) (s : Nat → Int32) {p pi : Nat → Nat} (hp : zPm p pi) (n : Nat) (hw : sWF s n) : MM iX4_dearestSkip [.ref b] (zt h b s p pi) (zfi (if s 33 = 0 then -6 else nI (kDe s n)) (zt h b s p pi)) := by
  refine MM_of (by decide +kernel) (Nat.le_of_ble_eq_true rfl) ?_
  refine tt_aload_n dX4_dearestSkip_0 rfl ?_
  refine tt_tI dX4_dearestSkip_1 fX4_48 rfl hS rfl ?_
  refine tt_if_ne (tgt := 10) dX4_dearestSkip_4 (by decide) (fun c_4 => ?_) (fun c_4 => ?_)
  · have hn0 : n ≠ 0 := fun q => c_4 (by rw [hw.2.1, q]; rfl)
    have hn10 := hw.1
    refine tt_iconst (nI 0) dX4_dearestSkip_10 rfl ?_
    refine tt_istore_n dX4_dearestSkip_11 rfl (Nat.le_of_ble_eq_true rfl) rfl ?_
    refine tt_iconst (nI 1) dX4_dearestSkip_12 rfl ?_
    refine tt_istore_n dX4_dearestSkip_13 rfl (Nat.le_of_ble_eq_true rfl) rfl ?_
    refine tt_loop (fun k x => if s (34 + 10 * x + 9) < s (34 + 10 * (k + 1) + 9) then k + 1 else x) (n - 1) (fun k x => x ≤ k) (fun k x => [some (.ref b), some (.int (nI x)), some (.int (nI (k + 1)))]) (fun _ _ => (zt h b s p pi)) 0 (Nat.le_refl _) (fun k x _ q => by have q2 : x ≤ k := q; split <;> omega) (fun hx => ?_) (fun k x hk hI ih => ?_)
    · refine tt_iload_n dX4_dearestSkip_14 rfl ?_
      refine tt_aload_n dX4_dearestSkip_15 rfl ?_
      refine tt_tI dX4_dearestSkip_16 fX4_48 rfl hS rfl ?_
      refine tt_eq hw.2.1 ?_
      refine tt_icmp_geN (tgt := 51) dX4_dearestSkip_19 (by decide) (by omega) (by omega) (fun c_19 => ?_) (fun c_19 => ?_)
      · refine tt_iload_n dX4_dearestSkip_51 rfl ?_
        exact tt_ireturn dX4_dearestSkip_52 rfl rfl (Nat.zero_le _) (Nat.zero_le _) ⟨by rw [if_neg c_4]; rfl, rfl⟩
      · exact absurd c_19 (by omega)
    · refine tt_iload_n dX4_dearestSkip_14 rfl ?_
      refine tt_aload_n dX4_dearestSkip_15 rfl ?_
      refine tt_tI dX4_dearestSkip_16 fX4_48 rfl hS rfl ?_
      refine tt_eq hw.2.1 ?_
      refine tt_icmp_geN (tgt := 51) dX4_dearestSkip_19 (by decide) (by omega) (by omega) (fun c_19 => ?_) (fun c_19 => ?_)
      · exact absurd c_19 (by omega)
      · refine tt_aload_n dX4_dearestSkip_22 rfl ?_
        refine tt_tA (c := 6) dX4_dearestSkip_23 fX4_37 rfl hS (by decide) rfl ?_
        refine tt_iload_n dX4_dearestSkip_26 rfl ?_
        refine tt_tsk dX4_dearestSkip_27 hS (by omega) ?_
        refine tt_sI dX4_dearestSkip_28 fX4_166 rfl hS hp (by omega) (by decide) ?_
        refine tt_aload_n dX4_dearestSkip_31 rfl ?_
        refine tt_tA (c := 6) dX4_dearestSkip_32 fX4_37 rfl hS (by decide) rfl ?_
        refine tt_iload_n dX4_dearestSkip_35 rfl ?_
        refine tt_tsk dX4_dearestSkip_36 hS (by omega) ?_
        refine tt_sI dX4_dearestSkip_37 fX4_166 rfl hS hp (by omega) (by decide) ?_
        refine tt_icmp_le (tgt := 45) dX4_dearestSkip_40 (by decide) (fun c_40 => ?_) (fun c_40 => ?_)
        · refine tt_iincN dX4_dearestSkip_45 rfl rfl (Nat.le_of_ble_eq_true rfl) rfl ?_
          refine tt_goto (tgt := 14) dX4_dearestSkip_48 (by decide) ?_
          first | (rw [if_neg (Int32.not_lt.mpr c_40)] at ih; exact ih) | (rw [if_pos (Int32.not_le.mp c_40)] at ih; exact ih)
        · refine tt_iload_n dX4_dearestSkip_43 rfl ?_
          refine tt_istore_n dX4_dearestSkip_44 rfl (Nat.le_of_ble_eq_true rfl) rfl ?_
          refine tt_iincN dX4_dearestSkip_45 rfl rfl (Nat.le_of_ble_eq_true rfl) rfl ?_
          refine tt_goto (tgt := 14) dX4_dearestSkip_48 (by decide) ?_
          first | (rw [if_neg (Int32.not_lt.mpr c_40)] at ih; exact ih) | (rw [if_pos (Int32.not_le.mp c_40)] at ih; exact ih)
  · refine tt_bipush (-6) dX4_dearestSkip_7 rfl ?_
    exact tt_ireturn dX4_dearestSkip_9 rfl rfl (Nat.zero_le _) (Nat.zero_le _) ⟨by rw [if_pos c_4], rfl⟩

